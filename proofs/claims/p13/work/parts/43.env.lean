/-! what the start gives: the formats and the tables -/
set_option maxHeartbeats 4000000 in
set_option maxRecDepth 100000 in
theorem lw_env {args : Array Value} {s : State} (hgv : (Jvm.Cond.and given_1 narrow_1).before args s = true) (hts : ∀ w ∈ lw_tbl, w.before args s = true) : ∃ ad tb : Nat → Nat, FW ad (fun q => s.heap.size ≤ q) s s.heap ∧ TW tb (fun q => s.heap.size ≤ q) s s.heap := by
  have hs := flat_of_before _ hgv
  have hA : ∀ a : Nat, a < s.heap.size → ¬ (fun q : Nat => s.heap.size ≤ q) a := fun a h => Nat.not_le.mpr h
  have h2 : ∀ i, i < 2 → i = 0 ∨ i = 1 := fun i h => by omega
  have hl0 : (Cond.laysStatic "NumberProbe$Format" "SINGLE" "LNumberProbe$Format;").before args s = true := (hts _ (List.mem_of_getElem? (i := 60) (by decide +kernel)))
  have hl1 : (Cond.laysStatic "NumberProbe$Format" "DOUBLE" "LNumberProbe$Format;").before args s = true := (hts _ (List.mem_of_getElem? (i := 62) (by decide +kernel)))
  have hini : (Cond.initialized "NumberProbe$Format").before args s = true := (hts _ (List.mem_of_getElem? (i := 27) (by decide +kernel)))
  have hinN : (Cond.initialized "NumberProbe").before args s = true := (hts _ (List.mem_of_getElem? (i := 24) (by decide +kernel)))
  have hne : (Cond.not (.eq (.static "NumberProbe$Format" "SINGLE" "LNumberProbe$Format;") (.static "NumberProbe$Format" "DOUBLE" "LNumberProbe$Format;"))).before args s = true := hs _ (by decide +kernel)
  obtain ⟨ad, hEn, hev⟩ := va_Enof2 (E := "NumberProbe$Format") (d := "LNumberProbe$Format;") (nm := ["SINGLE", "DOUBLE"]) (F := []) (A := fun q => s.heap.size ≤ q) (args := args) (s := s) (fun i hi => by rcases h2 i hi with rfl | rfl; exact hl0; exact hl1) hini (fun i hi => by rcases h2 i hi with rfl | rfl <;> exact hs _ (by decide +kernel)) (fun q h => by cases h) (fun i j hi hj hij => by
    rcases h2 i hi with rfl | rfl <;> rcases h2 j hj with rfl | rfl
    · exact absurd rfl hij
    · exact Or.inl hne
    · exact Or.inr hne
    · exact absurd rfl hij) hA
  have e_fractionBits : va_Ef 2 "NumberProbe$Format" "fractionBits" "I" (fun k => .int (kf_b k)) ad (fun q => s.heap.size ≤ q) s s.heap := va_Efof (tm := fun k => .int (kf_b k)) hev (fun i hi => by rcases h2 i hi with rfl | rfl <;> exact hs _ (by decide +kernel)) (fun i hi => rfl) hA
  have e_exponentOfSpecials : va_Ef 2 "NumberProbe$Format" "exponentOfSpecials" "I" (fun k => .int (kf_s k)) ad (fun q => s.heap.size ≤ q) s s.heap := va_Efof (tm := fun k => .int (kf_s k)) hev (fun i hi => by rcases h2 i hi with rfl | rfl <;> exact hs _ (by decide +kernel)) (fun i hi => rfl) hA
  have e_leastExponent : va_Ef 2 "NumberProbe$Format" "leastExponent" "I" (fun k => .int (kf_l k)) ad (fun q => s.heap.size ≤ q) s s.heap := va_Efof (tm := fun k => .int (kf_l k)) hev (fun i hi => by rcases h2 i hi with rfl | rfl <;> exact hs _ (by decide +kernel)) (fun i hi => rfl) hA
  have e_magnitudeMask : va_Ef 2 "NumberProbe$Format" "magnitudeMask" "J" (fun k => .long (kf_m k)) ad (fun q => s.heap.size ≤ q) s s.heap := va_Efof (tm := fun k => .long (kf_m k)) hev (fun i hi => by rcases h2 i hi with rfl | rfl <;> exact hs _ (by decide +kernel)) (fun i hi => rfl) hA
  have e_infinity : va_Ef 2 "NumberProbe$Format" "infinity" "J" (fun k => .long (kf_i k)) ad (fun q => s.heap.size ≤ q) s s.heap := va_Efof (tm := fun k => .long (kf_i k)) hev (fun i hi => by rcases h2 i hi with rfl | rfl <;> exact hs _ (by decide +kernel)) (fun i hi => rfl) hA
  have e_nan : va_Ef 2 "NumberProbe$Format" "nan" "J" (fun k => .long (kf_n k)) ad (fun q => s.heap.size ≤ q) s s.heap := va_Efof (tm := fun k => .long (kf_n k)) hev (fun i hi => by rcases h2 i hi with rfl | rfl <;> exact hs _ (by decide +kernel)) (fun i hi => rfl) hA
  have l0 : (Cond.laysStatic "NumberProbe" "SINGLE_BOUNDARIES" "[J").before args s = true := (hts _ (List.mem_of_getElem? (i := 92) (by decide +kernel)))
  obtain ⟨t0, v0, T0⟩ := va_Tof (args := args) (s := s) (tm := .static "NumberProbe" "SINGLE_BOUNDARIES" "[J") (ty := .long) (N := 21) (f := fun j => .long (([0, -2147483648, 1065353216, -1082130432, 1, 8388607, 8388608, 2139095039, 2139095040, -8388608, 2143289344, 1065353217, 1065353215, 1266679808, 1509949440, 1325400064, -822083584, 1593835520, -553648128, 1325400064, 1593835520] : List Int64).getD j 0)) (A := fun q => s.heap.size ≤ q) (by decide) (hs _ (by decide +kernel)) (va_eqt (hs _ (by decide +kernel))) (fun j hj => by
    rcases (show j = 0 ∨ j = 1 ∨ j = 2 ∨ j = 3 ∨ j = 4 ∨ j = 5 ∨ j = 6 ∨ j = 7 ∨ j = 8 ∨ j = 9 ∨ j = 10 ∨ j = 11 ∨ j = 12 ∨ j = 13 ∨ j = 14 ∨ j = 15 ∨ j = 16 ∨ j = 17 ∨ j = 18 ∨ j = 19 ∨ j = 20 by omega) with rfl | rfl | rfl | rfl | rfl | rfl | rfl | rfl | rfl | rfl | rfl | rfl | rfl | rfl | rfl | rfl | rfl | rfl | rfl | rfl | rfl
    · exact va_eqtl (hs _ (by decide +kernel))
    · exact va_eqtl (hs _ (by decide +kernel))
    · exact va_eqtl (hs _ (by decide +kernel))
    · exact va_eqtl (hs _ (by decide +kernel))
    · exact va_eqtl (hs _ (by decide +kernel))
    · exact va_eqtl (hs _ (by decide +kernel))
    · exact va_eqtl (hs _ (by decide +kernel))
    · exact va_eqtl (hs _ (by decide +kernel))
    · exact va_eqtl (hs _ (by decide +kernel))
    · exact va_eqtl (hs _ (by decide +kernel))
    · exact va_eqtl (hs _ (by decide +kernel))
    · exact va_eqtl (hs _ (by decide +kernel))
    · exact va_eqtl (hs _ (by decide +kernel))
    · exact va_eqtl (hs _ (by decide +kernel))
    · exact va_eqtl (hs _ (by decide +kernel))
    · exact va_eqtl (hs _ (by decide +kernel))
    · exact va_eqtl (hs _ (by decide +kernel))
    · exact va_eqtl (hs _ (by decide +kernel))
    · exact va_eqtl (hs _ (by decide +kernel))
    · exact va_eqtl (hs _ (by decide +kernel))
    · exact va_eqtl (hs _ (by decide +kernel))) hA
  have l1 : (Cond.laysStatic "NumberProbe" "DOUBLE_BOUNDARIES" "[J").before args s = true := (hts _ (List.mem_of_getElem? (i := 94) (by decide +kernel)))
  obtain ⟨t1, v1, T1⟩ := va_Tof (args := args) (s := s) (tm := .static "NumberProbe" "DOUBLE_BOUNDARIES" "[J") (ty := .long) (N := 21) (f := fun j => .long (([0, -9223372036854775808, 4607182418800017408, -4616189618054758400, 1, 4503599627370495, 4503599627370496, 9218868437227405311, 9218868437227405312, -4503599627370496, 9221120237041090560, 4607182418800017409, 4607182418800017407, 4715268810125344768, 4845873199050653696, 4746794007248502784, -4476578029606273024, 4890909195324358656, -4332462841530417152, 4746794007244308480, 4890909195324358656] : List Int64).getD j 0)) (A := fun q => s.heap.size ≤ q) (by decide) (hs _ (by decide +kernel)) (va_eqt (hs _ (by decide +kernel))) (fun j hj => by
    rcases (show j = 0 ∨ j = 1 ∨ j = 2 ∨ j = 3 ∨ j = 4 ∨ j = 5 ∨ j = 6 ∨ j = 7 ∨ j = 8 ∨ j = 9 ∨ j = 10 ∨ j = 11 ∨ j = 12 ∨ j = 13 ∨ j = 14 ∨ j = 15 ∨ j = 16 ∨ j = 17 ∨ j = 18 ∨ j = 19 ∨ j = 20 by omega) with rfl | rfl | rfl | rfl | rfl | rfl | rfl | rfl | rfl | rfl | rfl | rfl | rfl | rfl | rfl | rfl | rfl | rfl | rfl | rfl | rfl
    · exact va_eqtl (hs _ (by decide +kernel))
    · exact va_eqtl (hs _ (by decide +kernel))
    · exact va_eqtl (hs _ (by decide +kernel))
    · exact va_eqtl (hs _ (by decide +kernel))
    · exact va_eqtl (hs _ (by decide +kernel))
    · exact va_eqtl (hs _ (by decide +kernel))
    · exact va_eqtl (hs _ (by decide +kernel))
    · exact va_eqtl (hs _ (by decide +kernel))
    · exact va_eqtl (hs _ (by decide +kernel))
    · exact va_eqtl (hs _ (by decide +kernel))
    · exact va_eqtl (hs _ (by decide +kernel))
    · exact va_eqtl (hs _ (by decide +kernel))
    · exact va_eqtl (hs _ (by decide +kernel))
    · exact va_eqtl (hs _ (by decide +kernel))
    · exact va_eqtl (hs _ (by decide +kernel))
    · exact va_eqtl (hs _ (by decide +kernel))
    · exact va_eqtl (hs _ (by decide +kernel))
    · exact va_eqtl (hs _ (by decide +kernel))
    · exact va_eqtl (hs _ (by decide +kernel))
    · exact va_eqtl (hs _ (by decide +kernel))
    · exact va_eqtl (hs _ (by decide +kernel))) hA
  have l2 : (Cond.laysStatic "NumberProbe" "INT_BOUNDARIES" "[J").before args s = true := (hts _ (List.mem_of_getElem? (i := 96) (by decide +kernel)))
  obtain ⟨t2, v2, T2⟩ := va_Tof (args := args) (s := s) (tm := .static "NumberProbe" "INT_BOUNDARIES" "[J") (ty := .long) (N := 15) (f := fun j => .long (([0, -1, 1, -2147483648, 2147483647, 127, 128, -129, 255, 32767, 32768, -32769, 65535, 65536, 16777217] : List Int64).getD j 0)) (A := fun q => s.heap.size ≤ q) (by decide) (hs _ (by decide +kernel)) (va_eqt (hs _ (by decide +kernel))) (fun j hj => by
    rcases (show j = 0 ∨ j = 1 ∨ j = 2 ∨ j = 3 ∨ j = 4 ∨ j = 5 ∨ j = 6 ∨ j = 7 ∨ j = 8 ∨ j = 9 ∨ j = 10 ∨ j = 11 ∨ j = 12 ∨ j = 13 ∨ j = 14 by omega) with rfl | rfl | rfl | rfl | rfl | rfl | rfl | rfl | rfl | rfl | rfl | rfl | rfl | rfl | rfl
    · exact va_eqtl (hs _ (by decide +kernel))
    · exact va_eqtl (hs _ (by decide +kernel))
    · exact va_eqtl (hs _ (by decide +kernel))
    · exact va_eqtl (hs _ (by decide +kernel))
    · exact va_eqtl (hs _ (by decide +kernel))
    · exact va_eqtl (hs _ (by decide +kernel))
    · exact va_eqtl (hs _ (by decide +kernel))
    · exact va_eqtl (hs _ (by decide +kernel))
    · exact va_eqtl (hs _ (by decide +kernel))
    · exact va_eqtl (hs _ (by decide +kernel))
    · exact va_eqtl (hs _ (by decide +kernel))
    · exact va_eqtl (hs _ (by decide +kernel))
    · exact va_eqtl (hs _ (by decide +kernel))
    · exact va_eqtl (hs _ (by decide +kernel))
    · exact va_eqtl (hs _ (by decide +kernel))) hA
  have l3 : (Cond.laysStatic "NumberProbe" "LONG_BOUNDARIES" "[J").before args s = true := (hts _ (List.mem_of_getElem? (i := 98) (by decide +kernel)))
  obtain ⟨t3, v3, T3⟩ := va_Tof (args := args) (s := s) (tm := .static "NumberProbe" "LONG_BOUNDARIES" "[J") (ty := .long) (N := 21) (f := fun j => .long (([0, -1, 1, -9223372036854775808, 9223372036854775807, 127, 128, -129, 255, 32767, 32768, -32769, 65535, 65536, 16777217, 2147483648, -2147483649, 4294967296, 9007199254740993, 9007199254740991, 4611686018427388417] : List Int64).getD j 0)) (A := fun q => s.heap.size ≤ q) (by decide) (hs _ (by decide +kernel)) (va_eqt (hs _ (by decide +kernel))) (fun j hj => by
    rcases (show j = 0 ∨ j = 1 ∨ j = 2 ∨ j = 3 ∨ j = 4 ∨ j = 5 ∨ j = 6 ∨ j = 7 ∨ j = 8 ∨ j = 9 ∨ j = 10 ∨ j = 11 ∨ j = 12 ∨ j = 13 ∨ j = 14 ∨ j = 15 ∨ j = 16 ∨ j = 17 ∨ j = 18 ∨ j = 19 ∨ j = 20 by omega) with rfl | rfl | rfl | rfl | rfl | rfl | rfl | rfl | rfl | rfl | rfl | rfl | rfl | rfl | rfl | rfl | rfl | rfl | rfl | rfl | rfl
    · exact va_eqtl (hs _ (by decide +kernel))
    · exact va_eqtl (hs _ (by decide +kernel))
    · exact va_eqtl (hs _ (by decide +kernel))
    · exact va_eqtl (hs _ (by decide +kernel))
    · exact va_eqtl (hs _ (by decide +kernel))
    · exact va_eqtl (hs _ (by decide +kernel))
    · exact va_eqtl (hs _ (by decide +kernel))
    · exact va_eqtl (hs _ (by decide +kernel))
    · exact va_eqtl (hs _ (by decide +kernel))
    · exact va_eqtl (hs _ (by decide +kernel))
    · exact va_eqtl (hs _ (by decide +kernel))
    · exact va_eqtl (hs _ (by decide +kernel))
    · exact va_eqtl (hs _ (by decide +kernel))
    · exact va_eqtl (hs _ (by decide +kernel))
    · exact va_eqtl (hs _ (by decide +kernel))
    · exact va_eqtl (hs _ (by decide +kernel))
    · exact va_eqtl (hs _ (by decide +kernel))
    · exact va_eqtl (hs _ (by decide +kernel))
    · exact va_eqtl (hs _ (by decide +kernel))
    · exact va_eqtl (hs _ (by decide +kernel))
    · exact va_eqtl (hs _ (by decide +kernel))) hA
  refine ⟨ad, fun i => match i with | 0 => t0 | 1 => t1 | 2 => t2 | _ => t3, ⟨fun k hk => (hEn.1 k hk).2.1, e_fractionBits, e_exponentOfSpecials, e_leastExponent, e_magnitudeMask, e_infinity, e_nan, (hEn.1 0 (by decide)).1, (hEn.1 1 (by decide)).1⟩, fun i hi => ?_⟩
  rcases (show i = 0 ∨ i = 1 ∨ i = 2 ∨ i = 3 by omega) with rfl | rfl | rfl | rfl
  · exact ⟨va_Zref l0 hinN v0 hA, _, T0⟩
  · exact ⟨va_Zref l1 hinN v1 hA, _, T1⟩
  · exact ⟨va_Zref l2 hinN v2 hA, _, T2⟩
  · exact ⟨va_Zref l3 hinN v3 hA, _, T3⟩
