/-! the class's object: four rows of six longs -/
abbrev nWs (h0 q0 : Nat) (g : Nat → Nat) (cL cO : ClassId) (u : Nat → Nat → Int64) : va_W := [(h0, .inr (0, [.ref q0])), (q0, .inl (cO, 4, .inr (.inr (.inr (.inr (fun i => if i < 4 then some (g i) else none)))))), (g 0, .inl (cL, 6, .inr (.inl (u 0)))), (g 1, .inl (cL, 6, .inr (.inl (u 1)))), (g 2, .inl (cL, 6, .inr (.inl (u 2)))), (g 3, .inl (cL, 6, .inr (.inl (u 3))))]
def NWd (D : va_G) (cL cO : ClassId) (h0 q0 : Nat) (g : Nat → Nat) (A : Nat → Prop) (u : Nat → Nat → Int64) (H : Heap) : Prop := va_P D cls9 (nWs h0 q0 g cL cO u) H ∧ va_D A (nWs h0 q0 g cL cO u)
abbrev NK (cL cO : ClassId) : List (ClassId × FieldType) := [(cL, .long), (cO, .array .long)]
abbrev NA (h0 q0 : Nat) (g : Nat → Nat) (cL cO : ClassId) (u : Nat → Nat → Int64) (sz : Nat) : Nat → Prop := va_A (nWs h0 q0 g cL cO u) sz
abbrev NPc (D : va_G) (cL cO : ClassId) (h0 q0 : Nat) (g ad tb : Nat → Nat) (sz : Nat) (u : Nat → Nat → Int64) (av : List Value) : Array Value → State → Prop := va_Pc (.ref h0 :: av) (fun U => U.heap.size = sz ∧ va_P D cls9 (nWs h0 q0 g cL cO u) U.heap ∧ va_K D cls9 (NK cL cO) U ∧ va_D (fun _ => True) (nWs h0 q0 g cL cO u) ∧ FW ad (NA h0 q0 g cL cO u sz) U U.heap ∧ TW tb (NA h0 q0 g cL cO u sz) U U.heap)
abbrev NQi (D : va_G) (cL cO : ClassId) (h0 q0 : Nat) (g : Nat → Nat) (A : Nat → Prop) (post : Int32 → (Nat → Nat → Int64) → Prop) : Array Value → State → Outcome → State → Prop := va_Qi post (fun (u : Nat → Nat → Int64) t => NWd D cL cO h0 q0 g A u t.heap) A
abbrev NQl (D : va_G) (cL cO : ClassId) (h0 q0 : Nat) (g : Nat → Nat) (A : Nat → Prop) (post : Int64 → (Nat → Nat → Int64) → Prop) : Array Value → State → Outcome → State → Prop := va_Ql post (fun (u : Nat → Nat → Int64) t => NWd D cL cO h0 q0 g A u t.heap) A
theorem nfb {D : va_G} {cL cO : ClassId} {h0 q0 : Nat} {g ad tb : Nat → Nat} {sz : Nat} {u : Nat → Nat → Int64} {av : List Value} : FrameBlind (NPc D cL cO h0 q0 g ad tb sz u av) := fun a U gg mk q => by
  obtain ⟨q0, q1, qP, qK, qD, qE, qT⟩ := q
  exact ⟨q0, q1, qP, va_K.moved (u := U) (U := U.calling gg mk a) (Vm.Alike.refl U.vm) qK, qD, FW.moved (u := U) (U := U.calling gg mk a) (Vm.Alike.refl U.vm) qE, TW.moved (u := U) (U := U.calling gg mk a) (Vm.Alike.refl U.vm) qT⟩
theorem n_pos {h0 q0 : Nat} {g : Nat → Nat} {cL cO : ClassId} {u : Nat → Nat → Int64} : ∀ {k : Nat}, k < 4 → (nWs h0 q0 g cL cO u)[2 + k]? = some (g k, .inl (cL, 6, .inr (.inl (u k))))
  | 0, _ => rfl
  | 1, _ => rfl
  | 2, _ => rfl
  | 3, _ => rfl
  | k + 4, h => absurd h (by omega)
theorem n_set {h0 q0 : Nat} {g : Nat → Nat} {cL cO : ClassId} {u : Nat → Nat → Int64} {f : Nat → Int64} : ∀ {k : Nat}, k < 4 → (nWs h0 q0 g cL cO u).set (2 + k) (g k, .inl (cL, 6, .inr (.inl f))) = nWs h0 q0 g cL cO (va_up u k f)
  | 0, _ => rfl
  | 1, _ => rfl
  | 2, _ => rfl
  | 3, _ => rfl
  | k + 4, h => absurd h (by omega)
theorem vp_lt {i : Int32} {n : Nat} (h : vp_in i n) : i.toNatClampNeg < n := Nat.not_le.mp fun q => h (Or.inr q)
section NROWS
variable {p : Program} {l : Launch} {e : Env} {R : Room} {s : State} {m : MethodId} {args : Array Value} {below : List Frame} {meth : Method} {c : Code} {H : Heap} {locs : List Loc} {cells slots : Nat} {Q : State → Prop} {pc : Nat} {ls : Array Slot} {rest : List Value} {A0 : Nat → Prop} {D : va_G} {cL cO : ClassId} {h0 q0 : Nat} {g : Nat → Nat} {u : Nat → Nat → Int64} {cc : ByteArray}
theorem n_ald (hexec : p.tables.exec = Jvm.exec) (hb : c.code = cc) (hK : va_K D cls9 (NK cL cO) s) (hM : NWd D cL cO h0 q0 g A0 u H) {i : Int32} (hin : vp_in i 4) (hdg : decode cc pc = .ok (.aaload, 1))
    (kk : W p l e R s m args below meth c H locs cells slots Q (F0 m (pc + 1) ls (.ref (g i.toNatClampNeg) :: rest))) : W p l e R s m args below meth c H locs cells slots Q (F0 m pc ls (.int i :: .ref q0 :: rest)) := by
  have hlt : i.toNatClampNeg < 4 := vp_lt hin
  refine W.aald (v := .ref (g i.toNatClampNeg)) (ty := .array .long) hexec hb (hM.1 1 _ rfl) ((hK.2 1 _ rfl).1 4 (fun j => va_rf (if j < 4 then some (g j) else none))) rfl (fun q => by cases q) (by show ¬ (i < 0 ∨ (arrV _ _ _).slots.size ≤ _); rw [arrV_size]; exact hin) (by show (arrV _ _ _).slots[_]? = _; rw [arrV_read _ _ hlt]; simp only [if_pos hlt]; rfl) rfl rfl hdg kk
theorem n_lald (hexec : p.tables.exec = Jvm.exec) (hb : c.code = cc) (hK : va_K D cls9 (NK cL cO) s) (hM : NWd D cL cO h0 q0 g A0 u H) {k : Nat} (hk : k < 4) {i : Int32} (hin : vp_in i 6) (hdg : decode cc pc = .ok (.laload, 1))
    (kk : W p l e R s m args below meth c H locs cells slots Q (F0 m (pc + 1) ls (.long (u k i.toNatClampNeg) :: rest))) : W p l e R s m args below meth c H locs cells slots Q (F0 m pc ls (.int i :: .ref (g k) :: rest)) :=
  va_lald hexec hb hK hM.1 (2 + k) 0 (n_pos hk) rfl hin hdg kk
theorem n_last (hexec : p.tables.exec = Jvm.exec) (hb : c.code = cc) (hK : va_K D cls9 (NK cL cO) s) (hM : NWd D cL cO h0 q0 g A0 u H) (hS : va_S A0 s.heap H locs) {k : Nat} (hk : k < 4) {i : Int32} {x : Int64} (hin : vp_in i 6) (hdg : decode cc pc = .ok (.lastore, 1))
    (kk : ∀ (u1 : Nat → Nat → Int64) (H1 : Heap) (locs1 : List Loc), NWd D cL cO h0 q0 g A0 u1 H1 → va_S A0 s.heap H1 locs1 → W p l e R s m args below meth c H1 locs1 cells slots Q (F0 m (pc + 1) ls rest)) : W p l e R s m args below meth c H locs cells slots Q (F0 m pc ls (.long x :: .int i :: .ref (g k) :: rest)) := by
  refine va_last hexec hb hK hM.1 hM.2 hS (2 + k) 0 (n_pos hk) rfl hin hdg (fun H1 locs1 hP hD hS1 => ?_)
  rw [n_set hk] at hP hD
  exact kk _ H1 locs1 ⟨hP, hD⟩ hS1
end NROWS
theorem cn_rn (k i : Int32) : cn_num k i = (rn_in k 4 && rn_in i 6) := by
  unfold cn_num rn_in
  rw [Bool.eq_iff_iff]
  simp only [decide_eq_true_eq, Bool.and_eq_true]
  constructor
  · intro ⟨a, b, c, d⟩; exact ⟨⟨a, b⟩, c, d⟩
  · intro ⟨⟨a, b⟩, c, d⟩; exact ⟨a, b, c, d⟩
theorem cn_i4 {k i : Int32} (h : cn_num k i = true) : vp_in k 4 := by
  obtain ⟨a, b, -, -⟩ := of_decide_eq_true h
  rw [Int32.not_lt] at a
  rw [Int32.not_le] at b
  have a := Int32.le_iff_toInt_le.mp a
  have b := Int32.lt_iff_toInt_lt.mp b
  rw [Int32.toInt_zero] at a
  have e4 : (4 : Int32).toInt = 4 := rfl
  rw [e4] at b
  rw [vp_in_iff]
  omega
theorem cn_i6 {k i : Int32} (h : cn_num k i = true) : vp_in i 6 := by
  obtain ⟨-, -, a, b⟩ := of_decide_eq_true h
  rw [Int32.not_lt] at a
  rw [Int32.not_le] at b
  have a := Int32.le_iff_toInt_le.mp a
  have b := Int32.lt_iff_toInt_lt.mp b
  rw [Int32.toInt_zero] at a
  have e6 : (6 : Int32).toInt = 6 := rfl
  rw [e6] at b
  rw [vp_in_iff]
  omega
theorem tl_in {w : Int32} {n : Nat} (hn : n < 2147483648) (h0 : ¬ w < 0) (h1 : ¬ nI n ≤ w) : vp_in w n := by
  rw [Int32.not_lt] at h0
  rw [Int32.not_le] at h1
  have a := Int32.le_iff_toInt_le.mp h0
  have b := Int32.lt_iff_toInt_lt.mp h1
  rw [Int32.toInt_zero] at a
  rw [nI_toInt hn] at b
  rw [vp_in_iff]
  omega
theorem tw_lb (i : Nat) : tw_l i < 2147483648 := by
  unfold tw_l; split <;> decide
theorem tw_le {r : Nat} {k : Int32} (h : r = 2 ↔ k = 2) : nI (tw_l r) = if k = 2 then 15 else 21 := by
  by_cases q : r = 2
  · rw [if_pos (h.mp q), q]; rfl
  · rw [if_neg (fun z => q (h.mpr z))]
    unfold tw_l
    split
    · exact absurd rfl q
    · rfl
theorem mq_put_cn (k i : Int32) : mq_put k i = if cn_num k i = true then 0 else -1 := by
  unfold mq_put; rw [cn_rn]; simp only [Bool.and_eq_true]
theorem mq_bou_cn (k i w : Int32) : mq_bou k i w = if cn_num k i = true then (if w < 0 then -1 else if (if k = 2 then (15 : Int32) else 21) ≤ w then -1 else 0) else -1 := by
  unfold mq_bou; rw [cn_rn]; simp only [Bool.and_eq_true]
  generalize (if k = 2 then (15 : Int32) else 21) = z
  by_cases h1 : rn_in k 4 = true ∧ rn_in i 6 = true
  · rw [if_pos h1]
    by_cases h2 : w < 0
    · rw [if_pos h2, if_neg (by intro q; exact (of_decide_eq_true q.2.2).1 h2)]
    · rw [if_neg h2]
      by_cases h3 : z ≤ w
      · rw [if_pos h3, if_neg (by intro q; exact (of_decide_eq_true q.2.2).2 h3)]
      · rw [if_neg h3, if_pos ⟨h1.1, h1.2, decide_eq_true ⟨h2, h3⟩⟩]
  · rw [if_neg h1, if_neg (by intro q; exact h1 ⟨q.1, q.2.1⟩)]
theorem mq_cnv_cn (k i o t : Int32) : mq_cnv k i o t = if cn_num k i = true then (if cn_num o t = true then 0 else -1) else -1 := by
  unfold mq_cnv; rw [cn_rn, cn_rn]; simp only [Bool.and_eq_true]
  by_cases h1 : rn_in k 4 = true ∧ rn_in i 6 = true
  · rw [if_pos h1]
    by_cases h2 : rn_in o 4 = true ∧ rn_in t 6 = true
    · rw [if_pos h2, if_pos ⟨h1.1, h1.2, h2.1, h2.2⟩]
    · rw [if_neg h2, if_neg (by intro q; exact h2 ⟨q.2.2.1, q.2.2.2⟩)]
  · rw [if_neg h1, if_neg (by intro q; exact h1 ⟨q.1, q.2.1⟩)]
theorem rn_k0 : rn_in 0 4 = true := by decide
theorem rn_k1 : rn_in 1 4 = true := by decide
theorem mq_pol_cn (x t : Int32) : mq_pol x t = if cn_num 0 x = true then (if cn_num 0 t = true then 0 else -1) else -1 := by
  unfold mq_pol; rw [cn_rn, cn_rn, rn_k0]; simp only [Bool.true_and]
  by_cases h1 : rn_in x 6 = true
  · rw [if_pos h1]
    by_cases h2 : rn_in t 6 = true
    · rw [if_pos h2, if_pos ⟨h1, h2⟩]
    · rw [if_neg h2, if_neg (by intro q; exact h2 q.2)]
  · rw [if_neg h1, if_neg (by intro q; exact h1 q.1)]
theorem rn_41 (n : Int32) : rn_in n 41 = decide (¬ n < 0 ∧ n ≤ 40) := by
  unfold rn_in
  apply decide_eq_decide.mpr
  have e1 : (41 : Int32).toInt = 41 := rfl
  have e0 : (40 : Int32).toInt = 40 := rfl
  rw [Int32.not_le, Int32.lt_iff_toInt_lt (x := n) (y := 41), Int32.le_iff_toInt_le (x := n) (y := 40), e1, e0]
  constructor
  · intro ⟨a, b⟩; exact ⟨a, by omega⟩
  · intro ⟨a, b⟩; exact ⟨a, by omega⟩
theorem mq_ser_cn (a b n t : Int32) : mq_ser a b n t = if cn_num 1 a = true then (if cn_num 1 b = true then (if cn_num 1 t = true then (if n < 0 then -1 else if n ≤ 40 then 0 else -1) else -1) else -1) else -1 := by
  unfold mq_ser; rw [cn_rn, cn_rn, cn_rn, rn_k1, rn_41]; simp only [Bool.true_and, decide_eq_true_eq]
  by_cases h1 : rn_in a 6 = true
  · by_cases h2 : rn_in b 6 = true
    · by_cases h3 : rn_in t 6 = true
      · by_cases h4 : n < 0
        · simp [h1, h2, h3, h4]
        · by_cases h5 : n ≤ 40
          · simp [h1, h2, h3, h4, h5]
          · simp [h1, h2, h3, h4, h5]
      · simp [h1, h2, h3]
    · simp [h1, h2]
  · simp [h1]
