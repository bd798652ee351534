section
-- ===== PART A: goes FIRST, ahead of the names: the tables' words, and 'selects' of the private methods out of them =====
/-- a private method of a class that the tables say can be made, by its rows of tables_1 -/
def lw_okq (q : MethodName × Nat) : Prop := (q.1.cls ≠ "java/lang/invoke/MethodHandle" ∧ q.1.cls ≠ "java/lang/invoke/VarHandle") ∧ Cond.instantiable q.1.cls q.2 ∈ tables_1 ∧ Cond.privateMethod q.1 ∈ tables_1 ∧ Cond.instanceMethod q.1 ∈ tables_1
theorem lw_p0 : lw_okq (⟨"NumberProbe$Format", "signed", "(ZJ)J"⟩, 9) := ⟨⟨by decide +kernel, by decide +kernel⟩, List.mem_of_getElem? (i := 55) (by decide +kernel), List.mem_of_getElem? (i := 53) (by decide +kernel), List.mem_of_getElem? (i := 54) (by decide +kernel)⟩
theorem lw_p1 : lw_okq (⟨"NumberProbe$Format", "isInfinite", "(J)Z"⟩, 9) := ⟨⟨by decide +kernel, by decide +kernel⟩, List.mem_of_getElem? (i := 55) (by decide +kernel), List.mem_of_getElem? (i := 101) (by decide +kernel), List.mem_of_getElem? (i := 102) (by decide +kernel)⟩
theorem lw_p2 : lw_okq (⟨"NumberProbe$Format", "finiteSum", "(JJ)J"⟩, 9) := ⟨⟨by decide +kernel, by decide +kernel⟩, List.mem_of_getElem? (i := 55) (by decide +kernel), List.mem_of_getElem? (i := 105) (by decide +kernel), List.mem_of_getElem? (i := 106) (by decide +kernel)⟩
theorem lw_p3 : lw_okq (⟨"NumberProbe$Format", "exponentOf", "(J)I"⟩, 9) := ⟨⟨by decide +kernel, by decide +kernel⟩, List.mem_of_getElem? (i := 55) (by decide +kernel), List.mem_of_getElem? (i := 109) (by decide +kernel), List.mem_of_getElem? (i := 110) (by decide +kernel)⟩
theorem lw_p4 : lw_okq (⟨"NumberProbe$Format", "exponentField", "(J)I"⟩, 9) := ⟨⟨by decide +kernel, by decide +kernel⟩, List.mem_of_getElem? (i := 55) (by decide +kernel), List.mem_of_getElem? (i := 113) (by decide +kernel), List.mem_of_getElem? (i := 114) (by decide +kernel)⟩
theorem lw_p5 : lw_okq (⟨"NumberProbe$Format", "significandOf", "(J)J"⟩, 9) := ⟨⟨by decide +kernel, by decide +kernel⟩, List.mem_of_getElem? (i := 55) (by decide +kernel), List.mem_of_getElem? (i := 120) (by decide +kernel), List.mem_of_getElem? (i := 121) (by decide +kernel)⟩
theorem lw_p6 : lw_okq (⟨"NumberProbe$Format", "rounded", "(ZJI)J"⟩, 9) := ⟨⟨by decide +kernel, by decide +kernel⟩, List.mem_of_getElem? (i := 55) (by decide +kernel), List.mem_of_getElem? (i := 130) (by decide +kernel), List.mem_of_getElem? (i := 131) (by decide +kernel)⟩
theorem lw_p7 : lw_okq (⟨"NumberProbe$Format", "isZero", "(J)Z"⟩, 9) := ⟨⟨by decide +kernel, by decide +kernel⟩, List.mem_of_getElem? (i := 55) (by decide +kernel), List.mem_of_getElem? (i := 152) (by decide +kernel), List.mem_of_getElem? (i := 153) (by decide +kernel)⟩
theorem lw_p8 : lw_okq (⟨"NumberProbe$Format", "finiteProduct", "(ZJJ)J"⟩, 9) := ⟨⟨by decide +kernel, by decide +kernel⟩, List.mem_of_getElem? (i := 55) (by decide +kernel), List.mem_of_getElem? (i := 156) (by decide +kernel), List.mem_of_getElem? (i := 157) (by decide +kernel)⟩
theorem lw_p9 : lw_okq (⟨"NumberProbe$Format", "finiteQuotient", "(ZJJ)J"⟩, 9) := ⟨⟨by decide +kernel, by decide +kernel⟩, List.mem_of_getElem? (i := 55) (by decide +kernel), List.mem_of_getElem? (i := 171) (by decide +kernel), List.mem_of_getElem? (i := 172) (by decide +kernel)⟩
theorem lw_p10 : lw_okq (⟨"NumberProbe$Format", "isWhole", "(J)Z"⟩, 9) := ⟨⟨by decide +kernel, by decide +kernel⟩, List.mem_of_getElem? (i := 55) (by decide +kernel), List.mem_of_getElem? (i := 266) (by decide +kernel), List.mem_of_getElem? (i := 267) (by decide +kernel)⟩
theorem lw_p11 : lw_okq (⟨"NumberProbeModel", "operateReal", "(IIJJ)J"⟩, 12) := ⟨⟨by decide +kernel, by decide +kernel⟩, List.mem_of_getElem? (i := 290) (by decide +kernel), List.mem_of_getElem? (i := 421) (by decide +kernel), List.mem_of_getElem? (i := 422) (by decide +kernel)⟩
theorem lw_p12 : lw_okq (⟨"NumberProbeModel", "add", "(IJJ)J"⟩, 12) := ⟨⟨by decide +kernel, by decide +kernel⟩, List.mem_of_getElem? (i := 290) (by decide +kernel), List.mem_of_getElem? (i := 425) (by decide +kernel), List.mem_of_getElem? (i := 426) (by decide +kernel)⟩
theorem lw_p13 : lw_okq (⟨"NumberProbeModel", "takeX", "(IJ)V"⟩, 12) := ⟨⟨by decide +kernel, by decide +kernel⟩, List.mem_of_getElem? (i := 290) (by decide +kernel), List.mem_of_getElem? (i := 429) (by decide +kernel), List.mem_of_getElem? (i := 430) (by decide +kernel)⟩
theorem lw_p14 : lw_okq (⟨"NumberProbeModel", "takeY", "(IJ)V"⟩, 12) := ⟨⟨by decide +kernel, by decide +kernel⟩, List.mem_of_getElem? (i := 290) (by decide +kernel), List.mem_of_getElem? (i := 442) (by decide +kernel), List.mem_of_getElem? (i := 443) (by decide +kernel)⟩
theorem lw_p15 : lw_okq (⟨"NumberProbeModel", "flipped", "(IJ)J"⟩, 12) := ⟨⟨by decide +kernel, by decide +kernel⟩, List.mem_of_getElem? (i := 290) (by decide +kernel), List.mem_of_getElem? (i := 449) (by decide +kernel), List.mem_of_getElem? (i := 450) (by decide +kernel)⟩
def lw_privs_1 : List (MethodName × Nat) := [(⟨"NumberProbe$Format", "signed", "(ZJ)J"⟩, 9), (⟨"NumberProbe$Format", "isInfinite", "(J)Z"⟩, 9), (⟨"NumberProbe$Format", "finiteSum", "(JJ)J"⟩, 9), (⟨"NumberProbe$Format", "exponentOf", "(J)I"⟩, 9), (⟨"NumberProbe$Format", "exponentField", "(J)I"⟩, 9), (⟨"NumberProbe$Format", "significandOf", "(J)J"⟩, 9), (⟨"NumberProbe$Format", "rounded", "(ZJI)J"⟩, 9), (⟨"NumberProbe$Format", "isZero", "(J)Z"⟩, 9), (⟨"NumberProbe$Format", "finiteProduct", "(ZJJ)J"⟩, 9), (⟨"NumberProbe$Format", "finiteQuotient", "(ZJJ)J"⟩, 9), (⟨"NumberProbe$Format", "isWhole", "(J)Z"⟩, 9), (⟨"NumberProbeModel", "operateReal", "(IIJJ)J"⟩, 12), (⟨"NumberProbeModel", "add", "(IJJ)J"⟩, 12), (⟨"NumberProbeModel", "takeX", "(IJ)V"⟩, 12), (⟨"NumberProbeModel", "takeY", "(IJ)V"⟩, 12), (⟨"NumberProbeModel", "flipped", "(IJ)J"⟩, 12)]
theorem lw_r1 : ∀ q ∈ lw_privs_1, lw_okq q := List.forall_mem_cons.mpr ⟨lw_p0, List.forall_mem_cons.mpr ⟨lw_p1, List.forall_mem_cons.mpr ⟨lw_p2, List.forall_mem_cons.mpr ⟨lw_p3, List.forall_mem_cons.mpr ⟨lw_p4, List.forall_mem_cons.mpr ⟨lw_p5, List.forall_mem_cons.mpr ⟨lw_p6, List.forall_mem_cons.mpr ⟨lw_p7, List.forall_mem_cons.mpr ⟨lw_p8, List.forall_mem_cons.mpr ⟨lw_p9, List.forall_mem_cons.mpr ⟨lw_p10, List.forall_mem_cons.mpr ⟨lw_p11, List.forall_mem_cons.mpr ⟨lw_p12, List.forall_mem_cons.mpr ⟨lw_p13, List.forall_mem_cons.mpr ⟨lw_p14, List.forall_mem_cons.mpr ⟨lw_p15, fun _ h => absurd h List.not_mem_nil⟩⟩⟩⟩⟩⟩⟩⟩⟩⟩⟩⟩⟩⟩⟩⟩
theorem lw_p16 : lw_okq (⟨"NumberProbeModel", "multiply", "(IJJ)J"⟩, 12) := ⟨⟨by decide +kernel, by decide +kernel⟩, List.mem_of_getElem? (i := 290) (by decide +kernel), List.mem_of_getElem? (i := 453) (by decide +kernel), List.mem_of_getElem? (i := 454) (by decide +kernel)⟩
theorem lw_p17 : lw_okq (⟨"NumberProbeModel", "product", "(JJ)J"⟩, 12) := ⟨⟨by decide +kernel, by decide +kernel⟩, List.mem_of_getElem? (i := 290) (by decide +kernel), List.mem_of_getElem? (i := 457) (by decide +kernel), List.mem_of_getElem? (i := 458) (by decide +kernel)⟩
theorem lw_p18 : lw_okq (⟨"NumberProbeModel", "divide", "(IJJ)J"⟩, 12) := ⟨⟨by decide +kernel, by decide +kernel⟩, List.mem_of_getElem? (i := 290) (by decide +kernel), List.mem_of_getElem? (i := 461) (by decide +kernel), List.mem_of_getElem? (i := 462) (by decide +kernel)⟩
theorem lw_p19 : lw_okq (⟨"NumberProbeModel", "remainder", "(IJJ)J"⟩, 12) := ⟨⟨by decide +kernel, by decide +kernel⟩, List.mem_of_getElem? (i := 290) (by decide +kernel), List.mem_of_getElem? (i := 465) (by decide +kernel), List.mem_of_getElem? (i := 466) (by decide +kernel)⟩
theorem lw_p20 : lw_okq (⟨"NumberProbeModel", "converted", "(IJI)J"⟩, 12) := ⟨⟨by decide +kernel, by decide +kernel⟩, List.mem_of_getElem? (i := 290) (by decide +kernel), List.mem_of_getElem? (i := 482) (by decide +kernel), List.mem_of_getElem? (i := 483) (by decide +kernel)⟩
theorem lw_p21 : lw_okq (⟨"NumberProbeModel", "toWhole", "(IJ)J"⟩, 12) := ⟨⟨by decide +kernel, by decide +kernel⟩, List.mem_of_getElem? (i := 290) (by decide +kernel), List.mem_of_getElem? (i := 486) (by decide +kernel), List.mem_of_getElem? (i := 487) (by decide +kernel)⟩
theorem lw_p22 : lw_okq (⟨"NumberProbeModel", "placeOf", "(II)J"⟩, 12) := ⟨⟨by decide +kernel, by decide +kernel⟩, List.mem_of_getElem? (i := 290) (by decide +kernel), List.mem_of_getElem? (i := 505) (by decide +kernel), List.mem_of_getElem? (i := 506) (by decide +kernel)⟩
def lw_privs_2 : List (MethodName × Nat) := [(⟨"NumberProbeModel", "multiply", "(IJJ)J"⟩, 12), (⟨"NumberProbeModel", "product", "(JJ)J"⟩, 12), (⟨"NumberProbeModel", "divide", "(IJJ)J"⟩, 12), (⟨"NumberProbeModel", "remainder", "(IJJ)J"⟩, 12), (⟨"NumberProbeModel", "converted", "(IJI)J"⟩, 12), (⟨"NumberProbeModel", "toWhole", "(IJ)J"⟩, 12), (⟨"NumberProbeModel", "placeOf", "(II)J"⟩, 12)]
theorem lw_r2 : ∀ q ∈ lw_privs_2, lw_okq q := List.forall_mem_cons.mpr ⟨lw_p16, List.forall_mem_cons.mpr ⟨lw_p17, List.forall_mem_cons.mpr ⟨lw_p18, List.forall_mem_cons.mpr ⟨lw_p19, List.forall_mem_cons.mpr ⟨lw_p20, List.forall_mem_cons.mpr ⟨lw_p21, List.forall_mem_cons.mpr ⟨lw_p22, fun _ h => absurd h List.not_mem_nil⟩⟩⟩⟩⟩⟩⟩
def lw_privs : List (MethodName × Nat) := lw_privs_1 ++ (lw_privs_2)
def lw_tbl : List Cond := k2_sels lw_privs ++ tables_1
theorem lw_privs_ok : ∀ q ∈ lw_privs, lw_okq q := by
  show ∀ q ∈ lw_privs_1 ++ (lw_privs_2), lw_okq q
  exact List.forall_mem_append.mpr ⟨lw_r1, lw_r2⟩
-- ===== end of PART A =====
def gw_tbl : List Cond := lw_tbl.filter goodWord
theorem gw_mem (n : Nat) {w : Cond} (h : lw_tbl[n]? = some w) (g : goodWord w = true) : w ∈ gw_tbl := List.mem_filter.mpr ⟨List.mem_of_getElem? h, g⟩
theorem gw_good {w : Cond} (h : w ∈ gw_tbl) : goodWord w = true := (List.mem_filter.mp h).2
theorem gd_c {c c2 : Cond} (hc : c2 ∈ gw_tbl) : GoodIn (c :: gw_tbl) (c2 :: gw_tbl) := fun w h => by
  have h2 : w ∈ gw_tbl := (List.mem_cons.mp h).elim (fun e => e ▸ hc) id
  exact ⟨List.mem_cons_of_mem _ h2, good_of_word (gw_good h2)⟩
theorem gd_l {c : Cond} {a b : List Cond} (ha : ∀ w ∈ a, w ∈ gw_tbl) (hb : GoodIn (c :: gw_tbl) b) : GoodIn (c :: gw_tbl) (a ++ b) := fun w h => (List.mem_append.mp h).elim (fun q => ⟨List.mem_cons_of_mem _ (ha w q), good_of_word (gw_good (ha w q))⟩) (hb w)
theorem gd_S {c c2 : Cond} {own : String} {idx : Nat} {y : MethodName} (h1 : Cond.methodLink own idx y ∈ gw_tbl) (h2 : Cond.static y ∈ gw_tbl) (h3 : Cond.initialized y.cls ∈ gw_tbl) (hc : c2 ∈ gw_tbl) : GoodIn (c :: gw_tbl) (va_wsS own idx y (c2 :: gw_tbl)) :=
  gd_l (fun w h => by
    rcases List.mem_cons.mp h with rfl | h
    · exact h1
    · rcases List.mem_cons.mp h with rfl | h
      · exact h2
      · rw [List.mem_singleton.mp h]; exact h3) (gd_c hc)
theorem gd_V {c c2 : Cond} {own C : String} {idx : Nat} {y : MethodName} (h1 : Cond.methodLink own idx y ∈ gw_tbl) (h2 : Cond.instanceMethod y ∈ gw_tbl) (h3 : Cond.selects C y y ∈ gw_tbl) (h4 : Cond.initialized C ∈ gw_tbl) (hc : c2 ∈ gw_tbl) : GoodIn (c :: gw_tbl) (wsV own idx C y (c2 :: gw_tbl)) :=
  gd_l (fun w h => by
    rcases List.mem_cons.mp h with rfl | h
    · exact h1
    · rcases List.mem_cons.mp h with rfl | h
      · exact h2
      · rcases List.mem_cons.mp h with rfl | h
        · exact h3
        · rw [List.mem_singleton.mp h]; exact h4) (gd_c hc)
theorem tm_0 : Cond.selects "NumberProbe$Format" ⟨"NumberProbe$Format", "signed", "(ZJ)J"⟩ ⟨"NumberProbe$Format", "signed", "(ZJ)J"⟩ ∈ gw_tbl := gw_mem 0 (by decide +kernel) (by decide +kernel)
theorem tm_1 : Cond.selects "NumberProbe$Format" ⟨"NumberProbe$Format", "isInfinite", "(J)Z"⟩ ⟨"NumberProbe$Format", "isInfinite", "(J)Z"⟩ ∈ gw_tbl := gw_mem 1 (by decide +kernel) (by decide +kernel)
theorem tm_2 : Cond.selects "NumberProbe$Format" ⟨"NumberProbe$Format", "finiteSum", "(JJ)J"⟩ ⟨"NumberProbe$Format", "finiteSum", "(JJ)J"⟩ ∈ gw_tbl := gw_mem 2 (by decide +kernel) (by decide +kernel)
theorem tm_3 : Cond.selects "NumberProbe$Format" ⟨"NumberProbe$Format", "exponentOf", "(J)I"⟩ ⟨"NumberProbe$Format", "exponentOf", "(J)I"⟩ ∈ gw_tbl := gw_mem 3 (by decide +kernel) (by decide +kernel)
theorem tm_4 : Cond.selects "NumberProbe$Format" ⟨"NumberProbe$Format", "exponentField", "(J)I"⟩ ⟨"NumberProbe$Format", "exponentField", "(J)I"⟩ ∈ gw_tbl := gw_mem 4 (by decide +kernel) (by decide +kernel)
theorem tm_5 : Cond.selects "NumberProbe$Format" ⟨"NumberProbe$Format", "significandOf", "(J)J"⟩ ⟨"NumberProbe$Format", "significandOf", "(J)J"⟩ ∈ gw_tbl := gw_mem 5 (by decide +kernel) (by decide +kernel)
theorem tm_6 : Cond.selects "NumberProbe$Format" ⟨"NumberProbe$Format", "rounded", "(ZJI)J"⟩ ⟨"NumberProbe$Format", "rounded", "(ZJI)J"⟩ ∈ gw_tbl := gw_mem 6 (by decide +kernel) (by decide +kernel)
theorem tm_7 : Cond.selects "NumberProbe$Format" ⟨"NumberProbe$Format", "isZero", "(J)Z"⟩ ⟨"NumberProbe$Format", "isZero", "(J)Z"⟩ ∈ gw_tbl := gw_mem 7 (by decide +kernel) (by decide +kernel)
theorem tm_8 : Cond.selects "NumberProbe$Format" ⟨"NumberProbe$Format", "finiteProduct", "(ZJJ)J"⟩ ⟨"NumberProbe$Format", "finiteProduct", "(ZJJ)J"⟩ ∈ gw_tbl := gw_mem 8 (by decide +kernel) (by decide +kernel)
theorem tm_9 : Cond.selects "NumberProbe$Format" ⟨"NumberProbe$Format", "finiteQuotient", "(ZJJ)J"⟩ ⟨"NumberProbe$Format", "finiteQuotient", "(ZJJ)J"⟩ ∈ gw_tbl := gw_mem 9 (by decide +kernel) (by decide +kernel)
theorem tm_10 : Cond.selects "NumberProbe$Format" ⟨"NumberProbe$Format", "isWhole", "(J)Z"⟩ ⟨"NumberProbe$Format", "isWhole", "(J)Z"⟩ ∈ gw_tbl := gw_mem 10 (by decide +kernel) (by decide +kernel)
theorem tm_11 : Cond.selects "NumberProbeModel" ⟨"NumberProbeModel", "operateReal", "(IIJJ)J"⟩ ⟨"NumberProbeModel", "operateReal", "(IIJJ)J"⟩ ∈ gw_tbl := gw_mem 11 (by decide +kernel) (by decide +kernel)
theorem tm_12 : Cond.selects "NumberProbeModel" ⟨"NumberProbeModel", "add", "(IJJ)J"⟩ ⟨"NumberProbeModel", "add", "(IJJ)J"⟩ ∈ gw_tbl := gw_mem 12 (by decide +kernel) (by decide +kernel)
theorem tm_13 : Cond.selects "NumberProbeModel" ⟨"NumberProbeModel", "takeX", "(IJ)V"⟩ ⟨"NumberProbeModel", "takeX", "(IJ)V"⟩ ∈ gw_tbl := gw_mem 13 (by decide +kernel) (by decide +kernel)
theorem tm_14 : Cond.selects "NumberProbeModel" ⟨"NumberProbeModel", "takeY", "(IJ)V"⟩ ⟨"NumberProbeModel", "takeY", "(IJ)V"⟩ ∈ gw_tbl := gw_mem 14 (by decide +kernel) (by decide +kernel)
theorem tm_15 : Cond.selects "NumberProbeModel" ⟨"NumberProbeModel", "flipped", "(IJ)J"⟩ ⟨"NumberProbeModel", "flipped", "(IJ)J"⟩ ∈ gw_tbl := gw_mem 15 (by decide +kernel) (by decide +kernel)
theorem tm_16 : Cond.selects "NumberProbeModel" ⟨"NumberProbeModel", "multiply", "(IJJ)J"⟩ ⟨"NumberProbeModel", "multiply", "(IJJ)J"⟩ ∈ gw_tbl := gw_mem 16 (by decide +kernel) (by decide +kernel)
theorem tm_17 : Cond.selects "NumberProbeModel" ⟨"NumberProbeModel", "product", "(JJ)J"⟩ ⟨"NumberProbeModel", "product", "(JJ)J"⟩ ∈ gw_tbl := gw_mem 17 (by decide +kernel) (by decide +kernel)
theorem tm_18 : Cond.selects "NumberProbeModel" ⟨"NumberProbeModel", "divide", "(IJJ)J"⟩ ⟨"NumberProbeModel", "divide", "(IJJ)J"⟩ ∈ gw_tbl := gw_mem 18 (by decide +kernel) (by decide +kernel)
theorem tm_19 : Cond.selects "NumberProbeModel" ⟨"NumberProbeModel", "remainder", "(IJJ)J"⟩ ⟨"NumberProbeModel", "remainder", "(IJJ)J"⟩ ∈ gw_tbl := gw_mem 19 (by decide +kernel) (by decide +kernel)
theorem tm_20 : Cond.selects "NumberProbeModel" ⟨"NumberProbeModel", "converted", "(IJI)J"⟩ ⟨"NumberProbeModel", "converted", "(IJI)J"⟩ ∈ gw_tbl := gw_mem 20 (by decide +kernel) (by decide +kernel)
theorem tm_21 : Cond.selects "NumberProbeModel" ⟨"NumberProbeModel", "toWhole", "(IJ)J"⟩ ⟨"NumberProbeModel", "toWhole", "(IJ)J"⟩ ∈ gw_tbl := gw_mem 21 (by decide +kernel) (by decide +kernel)
theorem tm_22 : Cond.selects "NumberProbeModel" ⟨"NumberProbeModel", "placeOf", "(II)J"⟩ ⟨"NumberProbeModel", "placeOf", "(II)J"⟩ ∈ gw_tbl := gw_mem 22 (by decide +kernel) (by decide +kernel)
theorem tm_23 : Cond.initialized "NumberProbeLaw" ∈ gw_tbl := gw_mem 23 (by decide +kernel) (by decide +kernel)
theorem tm_24 : Cond.initialized "NumberProbe" ∈ gw_tbl := gw_mem 24 (by decide +kernel) (by decide +kernel)
theorem tm_25 : Cond.initialized "NumberProbeModel" ∈ gw_tbl := gw_mem 25 (by decide +kernel) (by decide +kernel)
theorem tm_26 : Cond.initialized "java/lang/Enum" ∈ gw_tbl := gw_mem 26 (by decide +kernel) (by decide +kernel)
theorem tm_27 : Cond.initialized "NumberProbe$Format" ∈ gw_tbl := gw_mem 27 (by decide +kernel) (by decide +kernel)
theorem tm_28 : Cond.initialized "java/lang/Math" ∈ gw_tbl := gw_mem 28 (by decide +kernel) (by decide +kernel)
theorem tm_29 : Cond.initialized "java/lang/Long" ∈ gw_tbl := gw_mem 29 (by decide +kernel) (by decide +kernel)
theorem tm_30 : Cond.initialized "java/lang/Integer" ∈ gw_tbl := gw_mem 30 (by decide +kernel) (by decide +kernel)
theorem tm_31 : Cond.classLink "NumberProbeLaw" 7 "NumberProbe" ∈ gw_tbl := gw_mem 31 (by decide +kernel) (by decide +kernel)
theorem tm_33 : Cond.methodLink "NumberProbeLaw" 9 ⟨"NumberProbe", "<init>", "()V"⟩ ∈ gw_tbl := gw_mem 33 (by decide +kernel) (by decide +kernel)
theorem tm_34 : Cond.instanceMethod ⟨"NumberProbe", "<init>", "()V"⟩ ∈ gw_tbl := gw_mem 34 (by decide +kernel) (by decide +kernel)
theorem tm_35 : Cond.code ⟨"NumberProbe", "<init>", "()V"⟩ prog_1_method_1_code 1 (none : Option Jvm.ClassFile.FieldType) ∈ gw_tbl := gw_mem 35 (by decide +kernel) (by decide +kernel)
theorem tm_36 : Cond.methodLink "NumberProbe" 1 ⟨"java/lang/Object", "<init>", "()V"⟩ ∈ gw_tbl := gw_mem 36 (by decide +kernel) (by decide +kernel)
theorem tm_37 : Cond.instanceMethod ⟨"java/lang/Object", "<init>", "()V"⟩ ∈ gw_tbl := gw_mem 37 (by decide +kernel) (by decide +kernel)
theorem tm_38 : Cond.code ⟨"java/lang/Object", "<init>", "()V"⟩ object_method_1_code 1 (none : Option Jvm.ClassFile.FieldType) ∈ gw_tbl := gw_mem 38 (by decide +kernel) (by decide +kernel)
theorem tm_39 : Cond.classLink "NumberProbe" 9 "[[J" ∈ gw_tbl := gw_mem 39 (by decide +kernel) (by decide +kernel)
theorem tm_41 : Cond.fieldLink "NumberProbe" 11 "NumberProbe" "numbers" "[[J" ∈ gw_tbl := gw_mem 41 (by decide +kernel) (by decide +kernel)
theorem tm_45 : Cond.arrayClass .long ∈ gw_tbl := gw_mem 45 (by decide +kernel) (by decide +kernel)
theorem tm_46 : Cond.methodLink "NumberProbeLaw" 15 ⟨"NumberProbe", "put", "(IIJ)I"⟩ ∈ gw_tbl := gw_mem 46 (by decide +kernel) (by decide +kernel)
theorem tm_47 : Cond.instanceMethod ⟨"NumberProbe", "put", "(IIJ)I"⟩ ∈ gw_tbl := gw_mem 47 (by decide +kernel) (by decide +kernel)
theorem tm_48 : Cond.selects "NumberProbe" ⟨"NumberProbe", "put", "(IIJ)I"⟩ ⟨"NumberProbe", "put", "(IIJ)I"⟩ ∈ gw_tbl := gw_mem 48 (by decide +kernel) (by decide +kernel)
theorem tm_49 : Cond.code ⟨"NumberProbe", "put", "(IIJ)I"⟩ prog_1_method_2_code 5 (some .int) ∈ gw_tbl := gw_mem 49 (by decide +kernel) (by decide +kernel)
theorem tm_50 : Cond.methodLink "NumberProbe" 14 ⟨"NumberProbe", "isNumber", "(II)Z"⟩ ∈ gw_tbl := gw_mem 50 (by decide +kernel) (by decide +kernel)
theorem tm_51 : Cond.static ⟨"NumberProbe", "isNumber", "(II)Z"⟩ ∈ gw_tbl := gw_mem 51 (by decide +kernel) (by decide +kernel)
theorem tm_52 : Cond.code ⟨"NumberProbe", "isNumber", "(II)Z"⟩ prog_1_method_14_code 2 (some .boolean) ∈ gw_tbl := gw_mem 52 (by decide +kernel) (by decide +kernel)
theorem tm_53 : Cond.methodLink "NumberProbe" 18 ⟨"NumberProbe", "isFloating", "(I)Z"⟩ ∈ gw_tbl := gw_mem 53 (by decide +kernel) (by decide +kernel)
theorem tm_54 : Cond.static ⟨"NumberProbe", "isFloating", "(I)Z"⟩ ∈ gw_tbl := gw_mem 54 (by decide +kernel) (by decide +kernel)
theorem tm_55 : Cond.code ⟨"NumberProbe", "isFloating", "(I)Z"⟩ prog_1_method_16_code 1 (some .boolean) ∈ gw_tbl := gw_mem 55 (by decide +kernel) (by decide +kernel)
theorem tm_56 : Cond.methodLink "NumberProbe" 22 ⟨"NumberProbe", "formatOf", "(I)LNumberProbe$Format;"⟩ ∈ gw_tbl := gw_mem 56 (by decide +kernel) (by decide +kernel)
theorem tm_57 : Cond.static ⟨"NumberProbe", "formatOf", "(I)LNumberProbe$Format;"⟩ ∈ gw_tbl := gw_mem 57 (by decide +kernel) (by decide +kernel)
theorem tm_58 : Cond.code ⟨"NumberProbe", "formatOf", "(I)LNumberProbe$Format;"⟩ prog_1_method_17_code 1 (some (.object "NumberProbe$Format")) ∈ gw_tbl := gw_mem 58 (by decide +kernel) (by decide +kernel)
theorem tm_59 : Cond.fieldLink "NumberProbe" 87 "NumberProbe$Format" "SINGLE" "LNumberProbe$Format;" ∈ gw_tbl := gw_mem 59 (by decide +kernel) (by decide +kernel)
theorem tm_61 : Cond.fieldLink "NumberProbe" 79 "NumberProbe$Format" "DOUBLE" "LNumberProbe$Format;" ∈ gw_tbl := gw_mem 61 (by decide +kernel) (by decide +kernel)
theorem tm_63 : Cond.methodLink "NumberProbe" 26 ⟨"NumberProbe$Format", "numberOf", "(J)J"⟩ ∈ gw_tbl := gw_mem 63 (by decide +kernel) (by decide +kernel)
theorem tm_64 : Cond.instanceMethod ⟨"NumberProbe$Format", "numberOf", "(J)J"⟩ ∈ gw_tbl := gw_mem 64 (by decide +kernel) (by decide +kernel)
theorem tm_65 : Cond.selects "NumberProbe$Format" ⟨"NumberProbe$Format", "numberOf", "(J)J"⟩ ⟨"NumberProbe$Format", "numberOf", "(J)J"⟩ ∈ gw_tbl := gw_mem 65 (by decide +kernel) (by decide +kernel)
theorem tm_66 : Cond.code ⟨"NumberProbe$Format", "numberOf", "(J)J"⟩ prog_2_method_4_code 4 (some .long) ∈ gw_tbl := gw_mem 66 (by decide +kernel) (by decide +kernel)
theorem tm_67 : Cond.methodLink "NumberProbe$Format" 49 ⟨"NumberProbe$Format", "isNaN", "(J)Z"⟩ ∈ gw_tbl := gw_mem 67 (by decide +kernel) (by decide +kernel)
theorem tm_68 : Cond.instanceMethod ⟨"NumberProbe$Format", "isNaN", "(J)Z"⟩ ∈ gw_tbl := gw_mem 68 (by decide +kernel) (by decide +kernel)
theorem tm_69 : Cond.selects "NumberProbe$Format" ⟨"NumberProbe$Format", "isNaN", "(J)Z"⟩ ⟨"NumberProbe$Format", "isNaN", "(J)Z"⟩ ∈ gw_tbl := gw_mem 69 (by decide +kernel) (by decide +kernel)
theorem tm_70 : Cond.code ⟨"NumberProbe$Format", "isNaN", "(J)Z"⟩ prog_2_method_5_code 3 (some .boolean) ∈ gw_tbl := gw_mem 70 (by decide +kernel) (by decide +kernel)
theorem tm_71 : Cond.methodLink "NumberProbe$Format" 53 ⟨"NumberProbe$Format", "magnitude", "(J)J"⟩ ∈ gw_tbl := gw_mem 71 (by decide +kernel) (by decide +kernel)
theorem tm_72 : Cond.instanceMethod ⟨"NumberProbe$Format", "magnitude", "(J)J"⟩ ∈ gw_tbl := gw_mem 72 (by decide +kernel) (by decide +kernel)
theorem tm_73 : Cond.selects "NumberProbe$Format" ⟨"NumberProbe$Format", "magnitude", "(J)J"⟩ ⟨"NumberProbe$Format", "magnitude", "(J)J"⟩ ∈ gw_tbl := gw_mem 73 (by decide +kernel) (by decide +kernel)
theorem tm_74 : Cond.code ⟨"NumberProbe$Format", "magnitude", "(J)J"⟩ prog_2_method_8_code 3 (some .long) ∈ gw_tbl := gw_mem 74 (by decide +kernel) (by decide +kernel)
theorem tm_75 : Cond.methodLink "NumberProbe$Format" 57 ⟨"NumberProbe$Format", "signed", "(ZJ)J"⟩ ∈ gw_tbl := gw_mem 75 (by decide +kernel) (by decide +kernel)
theorem tm_77 : Cond.instanceMethod ⟨"NumberProbe$Format", "signed", "(ZJ)J"⟩ ∈ gw_tbl := gw_mem 77 (by decide +kernel) (by decide +kernel)
theorem tm_79 : Cond.code ⟨"NumberProbe$Format", "signed", "(ZJ)J"⟩ prog_2_method_10_code 4 (some .long) ∈ gw_tbl := gw_mem 79 (by decide +kernel) (by decide +kernel)
theorem tm_80 : Cond.constantLong "NumberProbe$Format" 61 (-1) ∈ gw_tbl := gw_mem 80 (by decide +kernel) (by decide +kernel)
theorem tm_81 : Cond.methodLink "NumberProbe" 32 ⟨"NumberProbe", "fitted", "(IJ)J"⟩ ∈ gw_tbl := gw_mem 81 (by decide +kernel) (by decide +kernel)
theorem tm_82 : Cond.static ⟨"NumberProbe", "fitted", "(IJ)J"⟩ ∈ gw_tbl := gw_mem 82 (by decide +kernel) (by decide +kernel)
theorem tm_83 : Cond.code ⟨"NumberProbe", "fitted", "(IJ)J"⟩ prog_1_method_20_code 3 (some .long) ∈ gw_tbl := gw_mem 83 (by decide +kernel) (by decide +kernel)
theorem tm_84 : Cond.methodLink "NumberProbeLaw" 20 ⟨"NumberProbe", "boundary", "(III)I"⟩ ∈ gw_tbl := gw_mem 84 (by decide +kernel) (by decide +kernel)
theorem tm_85 : Cond.instanceMethod ⟨"NumberProbe", "boundary", "(III)I"⟩ ∈ gw_tbl := gw_mem 85 (by decide +kernel) (by decide +kernel)
theorem tm_86 : Cond.selects "NumberProbe" ⟨"NumberProbe", "boundary", "(III)I"⟩ ⟨"NumberProbe", "boundary", "(III)I"⟩ ∈ gw_tbl := gw_mem 86 (by decide +kernel) (by decide +kernel)
theorem tm_87 : Cond.code ⟨"NumberProbe", "boundary", "(III)I"⟩ prog_1_method_3_code 5 (some .int) ∈ gw_tbl := gw_mem 87 (by decide +kernel) (by decide +kernel)
theorem tm_88 : Cond.methodLink "NumberProbe" 36 ⟨"NumberProbe", "boundariesOf", "(I)[J"⟩ ∈ gw_tbl := gw_mem 88 (by decide +kernel) (by decide +kernel)
theorem tm_89 : Cond.static ⟨"NumberProbe", "boundariesOf", "(I)[J"⟩ ∈ gw_tbl := gw_mem 89 (by decide +kernel) (by decide +kernel)
theorem tm_90 : Cond.code ⟨"NumberProbe", "boundariesOf", "(I)[J"⟩ prog_1_method_19_code 1 (some (.array .long)) ∈ gw_tbl := gw_mem 90 (by decide +kernel) (by decide +kernel)
theorem tm_91 : Cond.fieldLink "NumberProbe" 93 "NumberProbe" "SINGLE_BOUNDARIES" "[J" ∈ gw_tbl := gw_mem 91 (by decide +kernel) (by decide +kernel)
theorem tm_93 : Cond.fieldLink "NumberProbe" 97 "NumberProbe" "DOUBLE_BOUNDARIES" "[J" ∈ gw_tbl := gw_mem 93 (by decide +kernel) (by decide +kernel)
theorem tm_95 : Cond.fieldLink "NumberProbe" 100 "NumberProbe" "INT_BOUNDARIES" "[J" ∈ gw_tbl := gw_mem 95 (by decide +kernel) (by decide +kernel)
theorem tm_97 : Cond.fieldLink "NumberProbe" 103 "NumberProbe" "LONG_BOUNDARIES" "[J" ∈ gw_tbl := gw_mem 97 (by decide +kernel) (by decide +kernel)
theorem tm_99 : Cond.methodLink "NumberProbeLaw" 25 ⟨"NumberProbe", "bits", "(II)J"⟩ ∈ gw_tbl := gw_mem 99 (by decide +kernel) (by decide +kernel)
theorem tm_100 : Cond.instanceMethod ⟨"NumberProbe", "bits", "(II)J"⟩ ∈ gw_tbl := gw_mem 100 (by decide +kernel) (by decide +kernel)
theorem tm_101 : Cond.selects "NumberProbe" ⟨"NumberProbe", "bits", "(II)J"⟩ ⟨"NumberProbe", "bits", "(II)J"⟩ ∈ gw_tbl := gw_mem 101 (by decide +kernel) (by decide +kernel)
theorem tm_102 : Cond.code ⟨"NumberProbe", "bits", "(II)J"⟩ prog_1_method_4_code 3 (some .long) ∈ gw_tbl := gw_mem 102 (by decide +kernel) (by decide +kernel)
theorem tm_103 : Cond.methodLink "NumberProbeLaw" 30 ⟨"NumberProbe", "operate", "(IIIII)I"⟩ ∈ gw_tbl := gw_mem 103 (by decide +kernel) (by decide +kernel)
theorem tm_104 : Cond.instanceMethod ⟨"NumberProbe", "operate", "(IIIII)I"⟩ ∈ gw_tbl := gw_mem 104 (by decide +kernel) (by decide +kernel)
theorem tm_105 : Cond.selects "NumberProbe" ⟨"NumberProbe", "operate", "(IIIII)I"⟩ ⟨"NumberProbe", "operate", "(IIIII)I"⟩ ∈ gw_tbl := gw_mem 105 (by decide +kernel) (by decide +kernel)
theorem tm_106 : Cond.code ⟨"NumberProbe", "operate", "(IIIII)I"⟩ prog_1_method_5_code 8 (some .int) ∈ gw_tbl := gw_mem 106 (by decide +kernel) (by decide +kernel)
theorem tm_107 : Cond.methodLink "NumberProbe" 40 ⟨"NumberProbe", "isOperation", "(II)Z"⟩ ∈ gw_tbl := gw_mem 107 (by decide +kernel) (by decide +kernel)
theorem tm_108 : Cond.static ⟨"NumberProbe", "isOperation", "(II)Z"⟩ ∈ gw_tbl := gw_mem 108 (by decide +kernel) (by decide +kernel)
theorem tm_109 : Cond.code ⟨"NumberProbe", "isOperation", "(II)Z"⟩ prog_1_method_15_code 2 (some .boolean) ∈ gw_tbl := gw_mem 109 (by decide +kernel) (by decide +kernel)
theorem tm_110 : Cond.methodLink "NumberProbe" 43 ⟨"NumberProbe", "dividesByZero", "(IIJ)Z"⟩ ∈ gw_tbl := gw_mem 110 (by decide +kernel) (by decide +kernel)
theorem tm_111 : Cond.static ⟨"NumberProbe", "dividesByZero", "(IIJ)Z"⟩ ∈ gw_tbl := gw_mem 111 (by decide +kernel) (by decide +kernel)
theorem tm_112 : Cond.code ⟨"NumberProbe", "dividesByZero", "(IIJ)Z"⟩ prog_1_method_22_code 4 (some .boolean) ∈ gw_tbl := gw_mem 112 (by decide +kernel) (by decide +kernel)
theorem tm_113 : Cond.methodLink "NumberProbe" 47 ⟨"NumberProbe", "result", "(IIJJ)J"⟩ ∈ gw_tbl := gw_mem 113 (by decide +kernel) (by decide +kernel)
theorem tm_114 : Cond.static ⟨"NumberProbe", "result", "(IIJJ)J"⟩ ∈ gw_tbl := gw_mem 114 (by decide +kernel) (by decide +kernel)
theorem tm_115 : Cond.code ⟨"NumberProbe", "result", "(IIJJ)J"⟩ prog_1_method_23_code 6 (some .long) ∈ gw_tbl := gw_mem 115 (by decide +kernel) (by decide +kernel)
theorem tm_116 : Cond.methodLink "NumberProbe" 130 ⟨"NumberProbe", "floatingResult", "(LNumberProbe$Format;IJJ)J"⟩ ∈ gw_tbl := gw_mem 116 (by decide +kernel) (by decide +kernel)
theorem tm_117 : Cond.static ⟨"NumberProbe", "floatingResult", "(LNumberProbe$Format;IJJ)J"⟩ ∈ gw_tbl := gw_mem 117 (by decide +kernel) (by decide +kernel)
theorem tm_118 : Cond.code ⟨"NumberProbe", "floatingResult", "(LNumberProbe$Format;IJJ)J"⟩ prog_1_method_24_code 6 (some .long) ∈ gw_tbl := gw_mem 118 (by decide +kernel) (by decide +kernel)
theorem tm_119 : Cond.methodLink "NumberProbe" 83 ⟨"NumberProbe$Format", "sum", "(JJ)J"⟩ ∈ gw_tbl := gw_mem 119 (by decide +kernel) (by decide +kernel)
theorem tm_120 : Cond.instanceMethod ⟨"NumberProbe$Format", "sum", "(JJ)J"⟩ ∈ gw_tbl := gw_mem 120 (by decide +kernel) (by decide +kernel)
theorem tm_121 : Cond.selects "NumberProbe$Format" ⟨"NumberProbe$Format", "sum", "(JJ)J"⟩ ⟨"NumberProbe$Format", "sum", "(JJ)J"⟩ ∈ gw_tbl := gw_mem 121 (by decide +kernel) (by decide +kernel)
theorem tm_122 : Cond.code ⟨"NumberProbe$Format", "sum", "(JJ)J"⟩ prog_2_method_20_code 5 (some .long) ∈ gw_tbl := gw_mem 122 (by decide +kernel) (by decide +kernel)
theorem tm_123 : Cond.methodLink "NumberProbe$Format" 86 ⟨"NumberProbe$Format", "isInfinite", "(J)Z"⟩ ∈ gw_tbl := gw_mem 123 (by decide +kernel) (by decide +kernel)
theorem tm_125 : Cond.instanceMethod ⟨"NumberProbe$Format", "isInfinite", "(J)Z"⟩ ∈ gw_tbl := gw_mem 125 (by decide +kernel) (by decide +kernel)
theorem tm_126 : Cond.code ⟨"NumberProbe$Format", "isInfinite", "(J)Z"⟩ prog_2_method_6_code 3 (some .boolean) ∈ gw_tbl := gw_mem 126 (by decide +kernel) (by decide +kernel)
theorem tm_127 : Cond.methodLink "NumberProbe$Format" 89 ⟨"NumberProbe$Format", "finiteSum", "(JJ)J"⟩ ∈ gw_tbl := gw_mem 127 (by decide +kernel) (by decide +kernel)
theorem tm_129 : Cond.instanceMethod ⟨"NumberProbe$Format", "finiteSum", "(JJ)J"⟩ ∈ gw_tbl := gw_mem 129 (by decide +kernel) (by decide +kernel)
theorem tm_130 : Cond.code ⟨"NumberProbe$Format", "finiteSum", "(JJ)J"⟩ prog_2_method_21_code 14 (some .long) ∈ gw_tbl := gw_mem 130 (by decide +kernel) (by decide +kernel)
theorem tm_131 : Cond.methodLink "NumberProbe$Format" 93 ⟨"NumberProbe$Format", "exponentOf", "(J)I"⟩ ∈ gw_tbl := gw_mem 131 (by decide +kernel) (by decide +kernel)
theorem tm_133 : Cond.instanceMethod ⟨"NumberProbe$Format", "exponentOf", "(J)I"⟩ ∈ gw_tbl := gw_mem 133 (by decide +kernel) (by decide +kernel)
theorem tm_134 : Cond.code ⟨"NumberProbe$Format", "exponentOf", "(J)I"⟩ prog_2_method_12_code 3 (some .int) ∈ gw_tbl := gw_mem 134 (by decide +kernel) (by decide +kernel)
theorem tm_135 : Cond.methodLink "NumberProbe$Format" 63 ⟨"NumberProbe$Format", "exponentField", "(J)I"⟩ ∈ gw_tbl := gw_mem 135 (by decide +kernel) (by decide +kernel)
theorem tm_137 : Cond.instanceMethod ⟨"NumberProbe$Format", "exponentField", "(J)I"⟩ ∈ gw_tbl := gw_mem 137 (by decide +kernel) (by decide +kernel)
theorem tm_138 : Cond.code ⟨"NumberProbe$Format", "exponentField", "(J)I"⟩ prog_2_method_13_code 3 (some .int) ∈ gw_tbl := gw_mem 138 (by decide +kernel) (by decide +kernel)
theorem tm_139 : Cond.methodLink "NumberProbe$Format" 67 ⟨"java/lang/Math", "max", "(II)I"⟩ ∈ gw_tbl := gw_mem 139 (by decide +kernel) (by decide +kernel)
theorem tm_140 : Cond.static ⟨"java/lang/Math", "max", "(II)I"⟩ ∈ gw_tbl := gw_mem 140 (by decide +kernel) (by decide +kernel)
theorem tm_141 : Cond.code ⟨"java/lang/Math", "max", "(II)I"⟩ prog_8_method_65_code 2 (some .int) ∈ gw_tbl := gw_mem 141 (by decide +kernel) (by decide +kernel)
theorem tm_142 : Cond.methodLink "NumberProbe$Format" 96 ⟨"NumberProbe$Format", "significandOf", "(J)J"⟩ ∈ gw_tbl := gw_mem 142 (by decide +kernel) (by decide +kernel)
theorem tm_144 : Cond.instanceMethod ⟨"NumberProbe$Format", "significandOf", "(J)J"⟩ ∈ gw_tbl := gw_mem 144 (by decide +kernel) (by decide +kernel)
theorem tm_145 : Cond.code ⟨"NumberProbe$Format", "significandOf", "(J)J"⟩ prog_2_method_11_code 5 (some .long) ∈ gw_tbl := gw_mem 145 (by decide +kernel) (by decide +kernel)
theorem tm_146 : Cond.methodLink "NumberProbe$Format" 99 ⟨"NumberProbe$Format", "shiftedRight", "(JI)J"⟩ ∈ gw_tbl := gw_mem 146 (by decide +kernel) (by decide +kernel)
theorem tm_147 : Cond.static ⟨"NumberProbe$Format", "shiftedRight", "(JI)J"⟩ ∈ gw_tbl := gw_mem 147 (by decide +kernel) (by decide +kernel)
theorem tm_148 : Cond.code ⟨"NumberProbe$Format", "shiftedRight", "(JI)J"⟩ prog_2_method_34_code 5 (some .long) ∈ gw_tbl := gw_mem 148 (by decide +kernel) (by decide +kernel)
theorem tm_149 : Cond.methodLink "NumberProbe$Format" 117 ⟨"NumberProbe$Format", "withRest", "(JJ)J"⟩ ∈ gw_tbl := gw_mem 149 (by decide +kernel) (by decide +kernel)
theorem tm_150 : Cond.static ⟨"NumberProbe$Format", "withRest", "(JJ)J"⟩ ∈ gw_tbl := gw_mem 150 (by decide +kernel) (by decide +kernel)
theorem tm_151 : Cond.code ⟨"NumberProbe$Format", "withRest", "(JJ)J"⟩ prog_2_method_35_code 4 (some .long) ∈ gw_tbl := gw_mem 151 (by decide +kernel) (by decide +kernel)
theorem tm_152 : Cond.methodLink "NumberProbe$Format" 103 ⟨"NumberProbe$Format", "rounded", "(ZJI)J"⟩ ∈ gw_tbl := gw_mem 152 (by decide +kernel) (by decide +kernel)
theorem tm_154 : Cond.instanceMethod ⟨"NumberProbe$Format", "rounded", "(ZJI)J"⟩ ∈ gw_tbl := gw_mem 154 (by decide +kernel) (by decide +kernel)
theorem tm_155 : Cond.code ⟨"NumberProbe$Format", "rounded", "(ZJI)J"⟩ prog_2_method_32_code 11 (some .long) ∈ gw_tbl := gw_mem 155 (by decide +kernel) (by decide +kernel)
theorem tm_156 : Cond.methodLink "NumberProbe$Format" 73 ⟨"java/lang/Long", "numberOfLeadingZeros", "(J)I"⟩ ∈ gw_tbl := gw_mem 156 (by decide +kernel) (by decide +kernel)
theorem tm_157 : Cond.static ⟨"java/lang/Long", "numberOfLeadingZeros", "(J)I"⟩ ∈ gw_tbl := gw_mem 157 (by decide +kernel) (by decide +kernel)
theorem tm_158 : Cond.code ⟨"java/lang/Long", "numberOfLeadingZeros", "(J)I"⟩ prog_7_method_48_code 3 (some .int) ∈ gw_tbl := gw_mem 158 (by decide +kernel) (by decide +kernel)
theorem tm_159 : Cond.methodLink "java/lang/Long" 308 ⟨"java/lang/Integer", "numberOfLeadingZeros", "(I)I"⟩ ∈ gw_tbl := gw_mem 159 (by decide +kernel) (by decide +kernel)
theorem tm_160 : Cond.static ⟨"java/lang/Integer", "numberOfLeadingZeros", "(I)I"⟩ ∈ gw_tbl := gw_mem 160 (by decide +kernel) (by decide +kernel)
theorem tm_161 : Cond.code ⟨"java/lang/Integer", "numberOfLeadingZeros", "(I)I"⟩ prog_6_method_47_code 2 (some .int) ∈ gw_tbl := gw_mem 161 (by decide +kernel) (by decide +kernel)
theorem tm_162 : Cond.constant "java/lang/Integer" 264 65536 ∈ gw_tbl := gw_mem 162 (by decide +kernel) (by decide +kernel)
theorem tm_163 : Cond.methodLink "NumberProbe$Format" 139 ⟨"NumberProbe$Format", "cutToEven", "(JI)J"⟩ ∈ gw_tbl := gw_mem 163 (by decide +kernel) (by decide +kernel)
theorem tm_164 : Cond.static ⟨"NumberProbe$Format", "cutToEven", "(JI)J"⟩ ∈ gw_tbl := gw_mem 164 (by decide +kernel) (by decide +kernel)
theorem tm_165 : Cond.code ⟨"NumberProbe$Format", "cutToEven", "(JI)J"⟩ prog_2_method_33_code 10 (some .long) ∈ gw_tbl := gw_mem 165 (by decide +kernel) (by decide +kernel)
theorem tm_166 : Cond.methodLink "NumberProbe" 141 ⟨"NumberProbe$Format", "negated", "(J)J"⟩ ∈ gw_tbl := gw_mem 166 (by decide +kernel) (by decide +kernel)
theorem tm_167 : Cond.instanceMethod ⟨"NumberProbe$Format", "negated", "(J)J"⟩ ∈ gw_tbl := gw_mem 167 (by decide +kernel) (by decide +kernel)
theorem tm_168 : Cond.selects "NumberProbe$Format" ⟨"NumberProbe$Format", "negated", "(J)J"⟩ ⟨"NumberProbe$Format", "negated", "(J)J"⟩ ∈ gw_tbl := gw_mem 168 (by decide +kernel) (by decide +kernel)
theorem tm_169 : Cond.code ⟨"NumberProbe$Format", "negated", "(J)J"⟩ prog_2_method_9_code 3 (some .long) ∈ gw_tbl := gw_mem 169 (by decide +kernel) (by decide +kernel)
theorem tm_170 : Cond.methodLink "NumberProbe" 90 ⟨"NumberProbe$Format", "product", "(JJ)J"⟩ ∈ gw_tbl := gw_mem 170 (by decide +kernel) (by decide +kernel)
theorem tm_171 : Cond.instanceMethod ⟨"NumberProbe$Format", "product", "(JJ)J"⟩ ∈ gw_tbl := gw_mem 171 (by decide +kernel) (by decide +kernel)
theorem tm_172 : Cond.selects "NumberProbe$Format" ⟨"NumberProbe$Format", "product", "(JJ)J"⟩ ⟨"NumberProbe$Format", "product", "(JJ)J"⟩ ∈ gw_tbl := gw_mem 172 (by decide +kernel) (by decide +kernel)
theorem tm_173 : Cond.code ⟨"NumberProbe$Format", "product", "(JJ)J"⟩ prog_2_method_22_code 6 (some .long) ∈ gw_tbl := gw_mem 173 (by decide +kernel) (by decide +kernel)
theorem tm_174 : Cond.methodLink "NumberProbe$Format" 80 ⟨"NumberProbe$Format", "isZero", "(J)Z"⟩ ∈ gw_tbl := gw_mem 174 (by decide +kernel) (by decide +kernel)
theorem tm_176 : Cond.instanceMethod ⟨"NumberProbe$Format", "isZero", "(J)Z"⟩ ∈ gw_tbl := gw_mem 176 (by decide +kernel) (by decide +kernel)
theorem tm_177 : Cond.code ⟨"NumberProbe$Format", "isZero", "(J)Z"⟩ prog_2_method_7_code 3 (some .boolean) ∈ gw_tbl := gw_mem 177 (by decide +kernel) (by decide +kernel)
theorem tm_178 : Cond.methodLink "NumberProbe$Format" 107 ⟨"NumberProbe$Format", "finiteProduct", "(ZJJ)J"⟩ ∈ gw_tbl := gw_mem 178 (by decide +kernel) (by decide +kernel)
theorem tm_180 : Cond.instanceMethod ⟨"NumberProbe$Format", "finiteProduct", "(ZJJ)J"⟩ ∈ gw_tbl := gw_mem 180 (by decide +kernel) (by decide +kernel)
theorem tm_181 : Cond.code ⟨"NumberProbe$Format", "finiteProduct", "(ZJJ)J"⟩ prog_2_method_23_code 17 (some .long) ∈ gw_tbl := gw_mem 181 (by decide +kernel) (by decide +kernel)
theorem tm_182 : Cond.methodLink "NumberProbe$Format" 111 ⟨"NumberProbe$Format", "widening", "(J)I"⟩ ∈ gw_tbl := gw_mem 182 (by decide +kernel) (by decide +kernel)
theorem tm_183 : Cond.static ⟨"NumberProbe$Format", "widening", "(J)I"⟩ ∈ gw_tbl := gw_mem 183 (by decide +kernel) (by decide +kernel)
theorem tm_184 : Cond.code ⟨"NumberProbe$Format", "widening", "(J)I"⟩ prog_2_method_14_code 2 (some .int) ∈ gw_tbl := gw_mem 184 (by decide +kernel) (by decide +kernel)
theorem tm_185 : Cond.methodLink "NumberProbe$Format" 114 ⟨"NumberProbe$Format", "digitOf", "(JI)J"⟩ ∈ gw_tbl := gw_mem 185 (by decide +kernel) (by decide +kernel)
theorem tm_186 : Cond.static ⟨"NumberProbe$Format", "digitOf", "(JI)J"⟩ ∈ gw_tbl := gw_mem 186 (by decide +kernel) (by decide +kernel)
theorem tm_187 : Cond.code ⟨"NumberProbe$Format", "digitOf", "(JI)J"⟩ prog_2_method_15_code 3 (some .long) ∈ gw_tbl := gw_mem 187 (by decide +kernel) (by decide +kernel)
theorem tm_188 : Cond.constantLong "NumberProbe$Format" 78 1023 ∈ gw_tbl := gw_mem 188 (by decide +kernel) (by decide +kernel)
theorem tm_189 : Cond.methodLink "NumberProbe" 144 ⟨"NumberProbe$Format", "quotient", "(JJ)J"⟩ ∈ gw_tbl := gw_mem 189 (by decide +kernel) (by decide +kernel)
theorem tm_190 : Cond.instanceMethod ⟨"NumberProbe$Format", "quotient", "(JJ)J"⟩ ∈ gw_tbl := gw_mem 190 (by decide +kernel) (by decide +kernel)
theorem tm_191 : Cond.selects "NumberProbe$Format" ⟨"NumberProbe$Format", "quotient", "(JJ)J"⟩ ⟨"NumberProbe$Format", "quotient", "(JJ)J"⟩ ∈ gw_tbl := gw_mem 191 (by decide +kernel) (by decide +kernel)
theorem tm_192 : Cond.code ⟨"NumberProbe$Format", "quotient", "(JJ)J"⟩ prog_2_method_24_code 6 (some .long) ∈ gw_tbl := gw_mem 192 (by decide +kernel) (by decide +kernel)
theorem tm_193 : Cond.methodLink "NumberProbe$Format" 120 ⟨"NumberProbe$Format", "finiteQuotient", "(ZJJ)J"⟩ ∈ gw_tbl := gw_mem 193 (by decide +kernel) (by decide +kernel)
theorem tm_195 : Cond.instanceMethod ⟨"NumberProbe$Format", "finiteQuotient", "(ZJJ)J"⟩ ∈ gw_tbl := gw_mem 195 (by decide +kernel) (by decide +kernel)
theorem tm_196 : Cond.code ⟨"NumberProbe$Format", "finiteQuotient", "(ZJJ)J"⟩ prog_2_method_25_code 17 (some .long) ∈ gw_tbl := gw_mem 196 (by decide +kernel) (by decide +kernel)
theorem tm_197 : Cond.methodLink "NumberProbe" 147 ⟨"NumberProbe$Format", "remainder", "(JJ)J"⟩ ∈ gw_tbl := gw_mem 197 (by decide +kernel) (by decide +kernel)
theorem tm_198 : Cond.instanceMethod ⟨"NumberProbe$Format", "remainder", "(JJ)J"⟩ ∈ gw_tbl := gw_mem 198 (by decide +kernel) (by decide +kernel)
theorem tm_199 : Cond.selects "NumberProbe$Format" ⟨"NumberProbe$Format", "remainder", "(JJ)J"⟩ ⟨"NumberProbe$Format", "remainder", "(JJ)J"⟩ ∈ gw_tbl := gw_mem 199 (by decide +kernel) (by decide +kernel)
theorem tm_200 : Cond.code ⟨"NumberProbe$Format", "remainder", "(JJ)J"⟩ prog_2_method_26_code 10 (some .long) ∈ gw_tbl := gw_mem 200 (by decide +kernel) (by decide +kernel)
theorem tm_201 : Cond.methodLink "NumberProbe$Format" 123 ⟨"java/lang/Math", "min", "(II)I"⟩ ∈ gw_tbl := gw_mem 201 (by decide +kernel) (by decide +kernel)
theorem tm_202 : Cond.static ⟨"java/lang/Math", "min", "(II)I"⟩ ∈ gw_tbl := gw_mem 202 (by decide +kernel) (by decide +kernel)
theorem tm_203 : Cond.code ⟨"java/lang/Math", "min", "(II)I"⟩ prog_8_method_69_code 2 (some .int) ∈ gw_tbl := gw_mem 203 (by decide +kernel) (by decide +kernel)
theorem tm_204 : Cond.methodLink "NumberProbe" 150 ⟨"NumberProbe$Format", "lesser", "(JJ)J"⟩ ∈ gw_tbl := gw_mem 204 (by decide +kernel) (by decide +kernel)
theorem tm_205 : Cond.instanceMethod ⟨"NumberProbe$Format", "lesser", "(JJ)J"⟩ ∈ gw_tbl := gw_mem 205 (by decide +kernel) (by decide +kernel)
theorem tm_206 : Cond.selects "NumberProbe$Format" ⟨"NumberProbe$Format", "lesser", "(JJ)J"⟩ ⟨"NumberProbe$Format", "lesser", "(JJ)J"⟩ ∈ gw_tbl := gw_mem 206 (by decide +kernel) (by decide +kernel)
theorem tm_207 : Cond.code ⟨"NumberProbe$Format", "lesser", "(JJ)J"⟩ prog_2_method_18_code 5 (some .long) ∈ gw_tbl := gw_mem 207 (by decide +kernel) (by decide +kernel)
theorem tm_208 : Cond.methodLink "NumberProbe$Format" 83 ⟨"NumberProbe$Format", "rankInSorting", "(J)J"⟩ ∈ gw_tbl := gw_mem 208 (by decide +kernel) (by decide +kernel)
theorem tm_209 : Cond.instanceMethod ⟨"NumberProbe$Format", "rankInSorting", "(J)J"⟩ ∈ gw_tbl := gw_mem 209 (by decide +kernel) (by decide +kernel)
theorem tm_210 : Cond.selects "NumberProbe$Format" ⟨"NumberProbe$Format", "rankInSorting", "(J)J"⟩ ⟨"NumberProbe$Format", "rankInSorting", "(J)J"⟩ ∈ gw_tbl := gw_mem 210 (by decide +kernel) (by decide +kernel)
theorem tm_211 : Cond.code ⟨"NumberProbe$Format", "rankInSorting", "(J)J"⟩ prog_2_method_16_code 3 (some .long) ∈ gw_tbl := gw_mem 211 (by decide +kernel) (by decide +kernel)
theorem tm_212 : Cond.methodLink "NumberProbe" 153 ⟨"NumberProbe$Format", "greater", "(JJ)J"⟩ ∈ gw_tbl := gw_mem 212 (by decide +kernel) (by decide +kernel)
theorem tm_213 : Cond.instanceMethod ⟨"NumberProbe$Format", "greater", "(JJ)J"⟩ ∈ gw_tbl := gw_mem 213 (by decide +kernel) (by decide +kernel)
theorem tm_214 : Cond.selects "NumberProbe$Format" ⟨"NumberProbe$Format", "greater", "(JJ)J"⟩ ⟨"NumberProbe$Format", "greater", "(JJ)J"⟩ ∈ gw_tbl := gw_mem 214 (by decide +kernel) (by decide +kernel)
theorem tm_215 : Cond.code ⟨"NumberProbe$Format", "greater", "(JJ)J"⟩ prog_2_method_19_code 5 (some .long) ∈ gw_tbl := gw_mem 215 (by decide +kernel) (by decide +kernel)
theorem tm_216 : Cond.methodLink "NumberProbe" 156 ⟨"NumberProbe$Format", "magnitude", "(J)J"⟩ ∈ gw_tbl := gw_mem 216 (by decide +kernel) (by decide +kernel)
theorem tm_217 : Cond.methodLink "NumberProbe" 134 ⟨"NumberProbe", "shifted", "(IIJJ)J"⟩ ∈ gw_tbl := gw_mem 217 (by decide +kernel) (by decide +kernel)
theorem tm_218 : Cond.static ⟨"NumberProbe", "shifted", "(IIJJ)J"⟩ ∈ gw_tbl := gw_mem 218 (by decide +kernel) (by decide +kernel)
theorem tm_219 : Cond.code ⟨"NumberProbe", "shifted", "(IIJJ)J"⟩ prog_1_method_26_code 8 (some .long) ∈ gw_tbl := gw_mem 219 (by decide +kernel) (by decide +kernel)
theorem tm_220 : Cond.methodLink "NumberProbe" 137 ⟨"NumberProbe", "wholeResult", "(IJJ)J"⟩ ∈ gw_tbl := gw_mem 220 (by decide +kernel) (by decide +kernel)
theorem tm_221 : Cond.static ⟨"NumberProbe", "wholeResult", "(IJJ)J"⟩ ∈ gw_tbl := gw_mem 221 (by decide +kernel) (by decide +kernel)
theorem tm_222 : Cond.code ⟨"NumberProbe", "wholeResult", "(IJJ)J"⟩ prog_1_method_25_code 5 (some .long) ∈ gw_tbl := gw_mem 222 (by decide +kernel) (by decide +kernel)
theorem tm_223 : Cond.methodLink "NumberProbe" 122 ⟨"java/lang/Math", "min", "(JJ)J"⟩ ∈ gw_tbl := gw_mem 223 (by decide +kernel) (by decide +kernel)
theorem tm_224 : Cond.static ⟨"java/lang/Math", "min", "(JJ)J"⟩ ∈ gw_tbl := gw_mem 224 (by decide +kernel) (by decide +kernel)
theorem tm_225 : Cond.code ⟨"java/lang/Math", "min", "(JJ)J"⟩ prog_8_method_70_code 4 (some .long) ∈ gw_tbl := gw_mem 225 (by decide +kernel) (by decide +kernel)
theorem tm_226 : Cond.methodLink "NumberProbe" 127 ⟨"java/lang/Math", "max", "(JJ)J"⟩ ∈ gw_tbl := gw_mem 226 (by decide +kernel) (by decide +kernel)
theorem tm_227 : Cond.static ⟨"java/lang/Math", "max", "(JJ)J"⟩ ∈ gw_tbl := gw_mem 227 (by decide +kernel) (by decide +kernel)
theorem tm_228 : Cond.code ⟨"java/lang/Math", "max", "(JJ)J"⟩ prog_8_method_66_code 4 (some .long) ∈ gw_tbl := gw_mem 228 (by decide +kernel) (by decide +kernel)
theorem tm_229 : Cond.methodLink "NumberProbeLaw" 35 ⟨"NumberProbe", "assign", "(IIIII)I"⟩ ∈ gw_tbl := gw_mem 229 (by decide +kernel) (by decide +kernel)
theorem tm_230 : Cond.instanceMethod ⟨"NumberProbe", "assign", "(IIIII)I"⟩ ∈ gw_tbl := gw_mem 230 (by decide +kernel) (by decide +kernel)
theorem tm_231 : Cond.selects "NumberProbe" ⟨"NumberProbe", "assign", "(IIIII)I"⟩ ⟨"NumberProbe", "assign", "(IIIII)I"⟩ ∈ gw_tbl := gw_mem 231 (by decide +kernel) (by decide +kernel)
theorem tm_232 : Cond.code ⟨"NumberProbe", "assign", "(IIIII)I"⟩ prog_1_method_6_code 11 (some .int) ∈ gw_tbl := gw_mem 232 (by decide +kernel) (by decide +kernel)
theorem tm_233 : Cond.methodLink "NumberProbe" 51 ⟨"NumberProbe", "widthOf", "(I)I"⟩ ∈ gw_tbl := gw_mem 233 (by decide +kernel) (by decide +kernel)
theorem tm_234 : Cond.static ⟨"NumberProbe", "widthOf", "(I)I"⟩ ∈ gw_tbl := gw_mem 234 (by decide +kernel) (by decide +kernel)
theorem tm_235 : Cond.code ⟨"NumberProbe", "widthOf", "(I)I"⟩ prog_1_method_18_code 1 (some .int) ∈ gw_tbl := gw_mem 235 (by decide +kernel) (by decide +kernel)
theorem tm_236 : Cond.methodLink "NumberProbe" 55 ⟨"NumberProbe", "converted", "(IJI)J"⟩ ∈ gw_tbl := gw_mem 236 (by decide +kernel) (by decide +kernel)
theorem tm_237 : Cond.static ⟨"NumberProbe", "converted", "(IJI)J"⟩ ∈ gw_tbl := gw_mem 237 (by decide +kernel) (by decide +kernel)
theorem tm_238 : Cond.code ⟨"NumberProbe", "converted", "(IJI)J"⟩ prog_1_method_21_code 6 (some .long) ∈ gw_tbl := gw_mem 238 (by decide +kernel) (by decide +kernel)
theorem tm_239 : Cond.methodLink "NumberProbe" 106 ⟨"NumberProbe$Format", "nearestTo", "(LNumberProbe$Format;J)J"⟩ ∈ gw_tbl := gw_mem 239 (by decide +kernel) (by decide +kernel)
theorem tm_240 : Cond.instanceMethod ⟨"NumberProbe$Format", "nearestTo", "(LNumberProbe$Format;J)J"⟩ ∈ gw_tbl := gw_mem 240 (by decide +kernel) (by decide +kernel)
theorem tm_241 : Cond.selects "NumberProbe$Format" ⟨"NumberProbe$Format", "nearestTo", "(LNumberProbe$Format;J)J"⟩ ⟨"NumberProbe$Format", "nearestTo", "(LNumberProbe$Format;J)J"⟩ ∈ gw_tbl := gw_mem 241 (by decide +kernel) (by decide +kernel)
theorem tm_242 : Cond.code ⟨"NumberProbe$Format", "nearestTo", "(LNumberProbe$Format;J)J"⟩ prog_2_method_27_code 4 (some .long) ∈ gw_tbl := gw_mem 242 (by decide +kernel) (by decide +kernel)
theorem tm_243 : Cond.methodLink "NumberProbe" 110 ⟨"NumberProbe$Format", "nearestToWhole", "(J)J"⟩ ∈ gw_tbl := gw_mem 243 (by decide +kernel) (by decide +kernel)
theorem tm_244 : Cond.instanceMethod ⟨"NumberProbe$Format", "nearestToWhole", "(J)J"⟩ ∈ gw_tbl := gw_mem 244 (by decide +kernel) (by decide +kernel)
theorem tm_245 : Cond.selects "NumberProbe$Format" ⟨"NumberProbe$Format", "nearestToWhole", "(J)J"⟩ ⟨"NumberProbe$Format", "nearestToWhole", "(J)J"⟩ ∈ gw_tbl := gw_mem 245 (by decide +kernel) (by decide +kernel)
theorem tm_246 : Cond.code ⟨"NumberProbe$Format", "nearestToWhole", "(J)J"⟩ prog_2_method_28_code 5 (some .long) ∈ gw_tbl := gw_mem 246 (by decide +kernel) (by decide +kernel)
theorem tm_247 : Cond.methodLink "NumberProbe" 113 ⟨"NumberProbe$Format", "towardsZero", "(J)J"⟩ ∈ gw_tbl := gw_mem 247 (by decide +kernel) (by decide +kernel)
theorem tm_248 : Cond.instanceMethod ⟨"NumberProbe$Format", "towardsZero", "(J)J"⟩ ∈ gw_tbl := gw_mem 248 (by decide +kernel) (by decide +kernel)
theorem tm_249 : Cond.selects "NumberProbe$Format" ⟨"NumberProbe$Format", "towardsZero", "(J)J"⟩ ⟨"NumberProbe$Format", "towardsZero", "(J)J"⟩ ∈ gw_tbl := gw_mem 249 (by decide +kernel) (by decide +kernel)
theorem tm_250 : Cond.code ⟨"NumberProbe$Format", "towardsZero", "(J)J"⟩ prog_2_method_29_code 8 (some .long) ∈ gw_tbl := gw_mem 250 (by decide +kernel) (by decide +kernel)
theorem tm_251 : Cond.constantLong "NumberProbe$Format" 126 (-9223372036854775808) ∈ gw_tbl := gw_mem 251 (by decide +kernel) (by decide +kernel)
theorem tm_252 : Cond.constantLong "NumberProbe$Format" 128 9223372036854775807 ∈ gw_tbl := gw_mem 252 (by decide +kernel) (by decide +kernel)
theorem tm_253 : Cond.constantLong "NumberProbe" 118 (-2147483648) ∈ gw_tbl := gw_mem 253 (by decide +kernel) (by decide +kernel)
theorem tm_254 : Cond.constantLong "NumberProbe" 120 2147483647 ∈ gw_tbl := gw_mem 254 (by decide +kernel) (by decide +kernel)
theorem tm_255 : Cond.methodLink "NumberProbeLaw" 39 ⟨"NumberProbe", "convert", "(IIII)I"⟩ ∈ gw_tbl := gw_mem 255 (by decide +kernel) (by decide +kernel)
theorem tm_256 : Cond.instanceMethod ⟨"NumberProbe", "convert", "(IIII)I"⟩ ∈ gw_tbl := gw_mem 256 (by decide +kernel) (by decide +kernel)
theorem tm_257 : Cond.selects "NumberProbe" ⟨"NumberProbe", "convert", "(IIII)I"⟩ ⟨"NumberProbe", "convert", "(IIII)I"⟩ ∈ gw_tbl := gw_mem 257 (by decide +kernel) (by decide +kernel)
theorem tm_258 : Cond.code ⟨"NumberProbe", "convert", "(IIII)I"⟩ prog_1_method_7_code 5 (some .int) ∈ gw_tbl := gw_mem 258 (by decide +kernel) (by decide +kernel)
theorem tm_259 : Cond.methodLink "NumberProbeLaw" 44 ⟨"NumberProbe", "narrow", "(III)I"⟩ ∈ gw_tbl := gw_mem 259 (by decide +kernel) (by decide +kernel)
theorem tm_260 : Cond.instanceMethod ⟨"NumberProbe", "narrow", "(III)I"⟩ ∈ gw_tbl := gw_mem 260 (by decide +kernel) (by decide +kernel)
theorem tm_261 : Cond.selects "NumberProbe" ⟨"NumberProbe", "narrow", "(III)I"⟩ ⟨"NumberProbe", "narrow", "(III)I"⟩ ∈ gw_tbl := gw_mem 261 (by decide +kernel) (by decide +kernel)
theorem tm_262 : Cond.code ⟨"NumberProbe", "narrow", "(III)I"⟩ prog_1_method_8_code 5 (some .int) ∈ gw_tbl := gw_mem 262 (by decide +kernel) (by decide +kernel)
theorem tm_263 : Cond.methodLink "NumberProbeLaw" 48 ⟨"NumberProbe", "compare", "(III)I"⟩ ∈ gw_tbl := gw_mem 263 (by decide +kernel) (by decide +kernel)
theorem tm_264 : Cond.instanceMethod ⟨"NumberProbe", "compare", "(III)I"⟩ ∈ gw_tbl := gw_mem 264 (by decide +kernel) (by decide +kernel)
theorem tm_265 : Cond.selects "NumberProbe" ⟨"NumberProbe", "compare", "(III)I"⟩ ⟨"NumberProbe", "compare", "(III)I"⟩ ∈ gw_tbl := gw_mem 265 (by decide +kernel) (by decide +kernel)
theorem tm_266 : Cond.code ⟨"NumberProbe", "compare", "(III)I"⟩ prog_1_method_9_code 9 (some .int) ∈ gw_tbl := gw_mem 266 (by decide +kernel) (by decide +kernel)
theorem tm_267 : Cond.methodLink "NumberProbe" 59 ⟨"NumberProbe$Format", "isNaN", "(J)Z"⟩ ∈ gw_tbl := gw_mem 267 (by decide +kernel) (by decide +kernel)
theorem tm_268 : Cond.methodLink "NumberProbe" 63 ⟨"NumberProbe$Format", "rankByValue", "(J)J"⟩ ∈ gw_tbl := gw_mem 268 (by decide +kernel) (by decide +kernel)
theorem tm_269 : Cond.instanceMethod ⟨"NumberProbe$Format", "rankByValue", "(J)J"⟩ ∈ gw_tbl := gw_mem 269 (by decide +kernel) (by decide +kernel)
theorem tm_270 : Cond.selects "NumberProbe$Format" ⟨"NumberProbe$Format", "rankByValue", "(J)J"⟩ ⟨"NumberProbe$Format", "rankByValue", "(J)J"⟩ ∈ gw_tbl := gw_mem 270 (by decide +kernel) (by decide +kernel)
theorem tm_271 : Cond.code ⟨"NumberProbe$Format", "rankByValue", "(J)J"⟩ prog_2_method_17_code 3 (some .long) ∈ gw_tbl := gw_mem 271 (by decide +kernel) (by decide +kernel)
theorem tm_272 : Cond.methodLink "NumberProbeLaw" 52 ⟨"NumberProbe", "order", "(III)I"⟩ ∈ gw_tbl := gw_mem 272 (by decide +kernel) (by decide +kernel)
theorem tm_273 : Cond.instanceMethod ⟨"NumberProbe", "order", "(III)I"⟩ ∈ gw_tbl := gw_mem 273 (by decide +kernel) (by decide +kernel)
theorem tm_274 : Cond.selects "NumberProbe" ⟨"NumberProbe", "order", "(III)I"⟩ ⟨"NumberProbe", "order", "(III)I"⟩ ∈ gw_tbl := gw_mem 274 (by decide +kernel) (by decide +kernel)
theorem tm_275 : Cond.code ⟨"NumberProbe", "order", "(III)I"⟩ prog_1_method_10_code 9 (some .int) ∈ gw_tbl := gw_mem 275 (by decide +kernel) (by decide +kernel)
theorem tm_276 : Cond.methodLink "NumberProbe" 66 ⟨"NumberProbe$Format", "rankInSorting", "(J)J"⟩ ∈ gw_tbl := gw_mem 276 (by decide +kernel) (by decide +kernel)
theorem tm_277 : Cond.methodLink "NumberProbe" 69 ⟨"java/lang/Long", "compare", "(JJ)I"⟩ ∈ gw_tbl := gw_mem 277 (by decide +kernel) (by decide +kernel)
theorem tm_278 : Cond.static ⟨"java/lang/Long", "compare", "(JJ)I"⟩ ∈ gw_tbl := gw_mem 278 (by decide +kernel) (by decide +kernel)
theorem tm_279 : Cond.code ⟨"java/lang/Long", "compare", "(JJ)I"⟩ prog_7_method_42_code 4 (some .int) ∈ gw_tbl := gw_mem 279 (by decide +kernel) (by decide +kernel)
theorem tm_280 : Cond.methodLink "NumberProbeLaw" 56 ⟨"NumberProbe", "sort", "(II)I"⟩ ∈ gw_tbl := gw_mem 280 (by decide +kernel) (by decide +kernel)
theorem tm_281 : Cond.instanceMethod ⟨"NumberProbe", "sort", "(II)I"⟩ ∈ gw_tbl := gw_mem 281 (by decide +kernel) (by decide +kernel)
theorem tm_282 : Cond.selects "NumberProbe" ⟨"NumberProbe", "sort", "(II)I"⟩ ⟨"NumberProbe", "sort", "(II)I"⟩ ∈ gw_tbl := gw_mem 282 (by decide +kernel) (by decide +kernel)
theorem tm_283 : Cond.code ⟨"NumberProbe", "sort", "(II)I"⟩ prog_1_method_11_code 3 (some .int) ∈ gw_tbl := gw_mem 283 (by decide +kernel) (by decide +kernel)
theorem tm_284 : Cond.methodLink "NumberProbe" 75 ⟨"NumberProbe$Format", "traits", "(J)I"⟩ ∈ gw_tbl := gw_mem 284 (by decide +kernel) (by decide +kernel)
theorem tm_285 : Cond.instanceMethod ⟨"NumberProbe$Format", "traits", "(J)I"⟩ ∈ gw_tbl := gw_mem 285 (by decide +kernel) (by decide +kernel)
theorem tm_286 : Cond.selects "NumberProbe$Format" ⟨"NumberProbe$Format", "traits", "(J)I"⟩ ⟨"NumberProbe$Format", "traits", "(J)I"⟩ ∈ gw_tbl := gw_mem 286 (by decide +kernel) (by decide +kernel)
theorem tm_287 : Cond.code ⟨"NumberProbe$Format", "traits", "(J)I"⟩ prog_2_method_30_code 4 (some .int) ∈ gw_tbl := gw_mem 287 (by decide +kernel) (by decide +kernel)
theorem tm_288 : Cond.methodLink "NumberProbe$Format" 130 ⟨"NumberProbe$Format", "isWhole", "(J)Z"⟩ ∈ gw_tbl := gw_mem 288 (by decide +kernel) (by decide +kernel)
theorem tm_290 : Cond.instanceMethod ⟨"NumberProbe$Format", "isWhole", "(J)Z"⟩ ∈ gw_tbl := gw_mem 290 (by decide +kernel) (by decide +kernel)
theorem tm_291 : Cond.code ⟨"NumberProbe$Format", "isWhole", "(J)Z"⟩ prog_2_method_31_code 3 (some .boolean) ∈ gw_tbl := gw_mem 291 (by decide +kernel) (by decide +kernel)
theorem tm_292 : Cond.methodLink "NumberProbe$Format" 136 ⟨"java/lang/Long", "numberOfTrailingZeros", "(J)I"⟩ ∈ gw_tbl := gw_mem 292 (by decide +kernel) (by decide +kernel)
theorem tm_293 : Cond.static ⟨"java/lang/Long", "numberOfTrailingZeros", "(J)I"⟩ ∈ gw_tbl := gw_mem 293 (by decide +kernel) (by decide +kernel)
theorem tm_294 : Cond.code ⟨"java/lang/Long", "numberOfTrailingZeros", "(J)I"⟩ prog_7_method_49_code 3 (some .int) ∈ gw_tbl := gw_mem 294 (by decide +kernel) (by decide +kernel)
theorem tm_295 : Cond.methodLink "java/lang/Long" 311 ⟨"java/lang/Integer", "numberOfTrailingZeros", "(I)I"⟩ ∈ gw_tbl := gw_mem 295 (by decide +kernel) (by decide +kernel)
theorem tm_296 : Cond.static ⟨"java/lang/Integer", "numberOfTrailingZeros", "(I)I"⟩ ∈ gw_tbl := gw_mem 296 (by decide +kernel) (by decide +kernel)
theorem tm_297 : Cond.code ⟨"java/lang/Integer", "numberOfTrailingZeros", "(I)I"⟩ prog_6_method_48_code 2 (some .int) ∈ gw_tbl := gw_mem 297 (by decide +kernel) (by decide +kernel)
theorem tm_298 : Cond.methodLink "NumberProbe$Format" 133 ⟨"java/lang/Long", "bitCount", "(J)I"⟩ ∈ gw_tbl := gw_mem 298 (by decide +kernel) (by decide +kernel)
theorem tm_299 : Cond.static ⟨"java/lang/Long", "bitCount", "(J)I"⟩ ∈ gw_tbl := gw_mem 299 (by decide +kernel) (by decide +kernel)
theorem tm_300 : Cond.code ⟨"java/lang/Long", "bitCount", "(J)I"⟩ prog_7_method_50_code 2 (some .int) ∈ gw_tbl := gw_mem 300 (by decide +kernel) (by decide +kernel)
theorem tm_301 : Cond.constantLong "java/lang/Long" 314 6148914691236517205 ∈ gw_tbl := gw_mem 301 (by decide +kernel) (by decide +kernel)
theorem tm_302 : Cond.constantLong "java/lang/Long" 316 3689348814741910323 ∈ gw_tbl := gw_mem 302 (by decide +kernel) (by decide +kernel)
theorem tm_303 : Cond.constantLong "java/lang/Long" 318 1085102592571150095 ∈ gw_tbl := gw_mem 303 (by decide +kernel) (by decide +kernel)
theorem tm_304 : Cond.methodLink "NumberProbeLaw" 61 ⟨"NumberProbe", "series", "(IIII)I"⟩ ∈ gw_tbl := gw_mem 304 (by decide +kernel) (by decide +kernel)
theorem tm_305 : Cond.instanceMethod ⟨"NumberProbe", "series", "(IIII)I"⟩ ∈ gw_tbl := gw_mem 305 (by decide +kernel) (by decide +kernel)
theorem tm_306 : Cond.selects "NumberProbe" ⟨"NumberProbe", "series", "(IIII)I"⟩ ⟨"NumberProbe", "series", "(IIII)I"⟩ ∈ gw_tbl := gw_mem 306 (by decide +kernel) (by decide +kernel)
theorem tm_307 : Cond.code ⟨"NumberProbe", "series", "(IIII)I"⟩ prog_1_method_12_code 12 (some .int) ∈ gw_tbl := gw_mem 307 (by decide +kernel) (by decide +kernel)
theorem tm_308 : Cond.methodLink "NumberProbeLaw" 65 ⟨"NumberProbe", "polynomial", "(II)I"⟩ ∈ gw_tbl := gw_mem 308 (by decide +kernel) (by decide +kernel)
theorem tm_309 : Cond.instanceMethod ⟨"NumberProbe", "polynomial", "(II)I"⟩ ∈ gw_tbl := gw_mem 309 (by decide +kernel) (by decide +kernel)
theorem tm_310 : Cond.selects "NumberProbe" ⟨"NumberProbe", "polynomial", "(II)I"⟩ ⟨"NumberProbe", "polynomial", "(II)I"⟩ ∈ gw_tbl := gw_mem 310 (by decide +kernel) (by decide +kernel)
theorem tm_311 : Cond.code ⟨"NumberProbe", "polynomial", "(II)I"⟩ prog_1_method_13_code 7 (some .int) ∈ gw_tbl := gw_mem 311 (by decide +kernel) (by decide +kernel)
theorem tm_312 : Cond.classLink "NumberProbeLaw" 10 "NumberProbeModel" ∈ gw_tbl := gw_mem 312 (by decide +kernel) (by decide +kernel)
theorem tm_314 : Cond.methodLink "NumberProbeLaw" 12 ⟨"NumberProbeModel", "<init>", "()V"⟩ ∈ gw_tbl := gw_mem 314 (by decide +kernel) (by decide +kernel)
theorem tm_315 : Cond.instanceMethod ⟨"NumberProbeModel", "<init>", "()V"⟩ ∈ gw_tbl := gw_mem 315 (by decide +kernel) (by decide +kernel)
theorem tm_316 : Cond.code ⟨"NumberProbeModel", "<init>", "()V"⟩ prog_4_method_1_code 1 (none : Option Jvm.ClassFile.FieldType) ∈ gw_tbl := gw_mem 316 (by decide +kernel) (by decide +kernel)
theorem tm_317 : Cond.methodLink "NumberProbeModel" 1 ⟨"java/lang/Object", "<init>", "()V"⟩ ∈ gw_tbl := gw_mem 317 (by decide +kernel) (by decide +kernel)
theorem tm_318 : Cond.fieldLink "NumberProbeModel" 7 "NumberProbeModel" "cell" "[J" ∈ gw_tbl := gw_mem 318 (by decide +kernel) (by decide +kernel)
theorem tm_319 : Cond.fieldLink "NumberProbeModel" 47 "NumberProbeModel" "xSign" "Z" ∈ gw_tbl := gw_mem 319 (by decide +kernel) (by decide +kernel)
theorem tm_320 : Cond.fieldLink "NumberProbeModel" 75 "NumberProbeModel" "ySign" "Z" ∈ gw_tbl := gw_mem 320 (by decide +kernel) (by decide +kernel)
theorem tm_321 : Cond.fieldLink "NumberProbeModel" 54 "NumberProbeModel" "xNan" "Z" ∈ gw_tbl := gw_mem 321 (by decide +kernel) (by decide +kernel)
theorem tm_322 : Cond.fieldLink "NumberProbeModel" 78 "NumberProbeModel" "yNan" "Z" ∈ gw_tbl := gw_mem 322 (by decide +kernel) (by decide +kernel)
theorem tm_323 : Cond.fieldLink "NumberProbeModel" 57 "NumberProbeModel" "xInfinite" "Z" ∈ gw_tbl := gw_mem 323 (by decide +kernel) (by decide +kernel)
theorem tm_324 : Cond.fieldLink "NumberProbeModel" 81 "NumberProbeModel" "yInfinite" "Z" ∈ gw_tbl := gw_mem 324 (by decide +kernel) (by decide +kernel)
theorem tm_325 : Cond.fieldLink "NumberProbeModel" 63 "NumberProbeModel" "xMantissa" "J" ∈ gw_tbl := gw_mem 325 (by decide +kernel) (by decide +kernel)
theorem tm_326 : Cond.fieldLink "NumberProbeModel" 84 "NumberProbeModel" "yMantissa" "J" ∈ gw_tbl := gw_mem 326 (by decide +kernel) (by decide +kernel)
theorem tm_327 : Cond.fieldLink "NumberProbeModel" 71 "NumberProbeModel" "xPower" "I" ∈ gw_tbl := gw_mem 327 (by decide +kernel) (by decide +kernel)
theorem tm_328 : Cond.fieldLink "NumberProbeModel" 87 "NumberProbeModel" "yPower" "I" ∈ gw_tbl := gw_mem 328 (by decide +kernel) (by decide +kernel)
theorem tm_329 : Cond.fieldLink "NumberProbeModel" 118 "NumberProbeModel" "high" "J" ∈ gw_tbl := gw_mem 329 (by decide +kernel) (by decide +kernel)
theorem tm_355 : Cond.methodLink "NumberProbeLaw" 19 ⟨"NumberProbeModel", "put", "(IIJ)I"⟩ ∈ gw_tbl := gw_mem 355 (by decide +kernel) (by decide +kernel)
theorem tm_356 : Cond.instanceMethod ⟨"NumberProbeModel", "put", "(IIJ)I"⟩ ∈ gw_tbl := gw_mem 356 (by decide +kernel) (by decide +kernel)
theorem tm_357 : Cond.selects "NumberProbeModel" ⟨"NumberProbeModel", "put", "(IIJ)I"⟩ ⟨"NumberProbeModel", "put", "(IIJ)I"⟩ ∈ gw_tbl := gw_mem 357 (by decide +kernel) (by decide +kernel)
theorem tm_358 : Cond.code ⟨"NumberProbeModel", "put", "(IIJ)I"⟩ prog_4_method_33_code 5 (some .int) ∈ gw_tbl := gw_mem 358 (by decide +kernel) (by decide +kernel)
theorem tm_359 : Cond.methodLink "NumberProbeModel" 167 ⟨"NumberProbeModel", "in", "(II)Z"⟩ ∈ gw_tbl := gw_mem 359 (by decide +kernel) (by decide +kernel)
theorem tm_360 : Cond.static ⟨"NumberProbeModel", "in", "(II)Z"⟩ ∈ gw_tbl := gw_mem 360 (by decide +kernel) (by decide +kernel)
theorem tm_361 : Cond.code ⟨"NumberProbeModel", "in", "(II)Z"⟩ prog_4_method_2_code 2 (some .boolean) ∈ gw_tbl := gw_mem 361 (by decide +kernel) (by decide +kernel)
theorem tm_362 : Cond.methodLink "NumberProbeModel" 154 ⟨"NumberProbeModel", "normal", "(IJ)J"⟩ ∈ gw_tbl := gw_mem 362 (by decide +kernel) (by decide +kernel)
theorem tm_363 : Cond.static ⟨"NumberProbeModel", "normal", "(IJ)J"⟩ ∈ gw_tbl := gw_mem 363 (by decide +kernel) (by decide +kernel)
theorem tm_364 : Cond.code ⟨"NumberProbeModel", "normal", "(IJ)J"⟩ prog_4_method_28_code 5 (some .long) ∈ gw_tbl := gw_mem 364 (by decide +kernel) (by decide +kernel)
theorem tm_365 : Cond.constantLong "NumberProbeModel" 116 4294967295 ∈ gw_tbl := gw_mem 365 (by decide +kernel) (by decide +kernel)
theorem tm_366 : Cond.methodLink "NumberProbeModel" 51 ⟨"NumberProbeModel", "isNan", "(IJ)Z"⟩ ∈ gw_tbl := gw_mem 366 (by decide +kernel) (by decide +kernel)
theorem tm_367 : Cond.static ⟨"NumberProbeModel", "isNan", "(IJ)Z"⟩ ∈ gw_tbl := gw_mem 367 (by decide +kernel) (by decide +kernel)
theorem tm_368 : Cond.code ⟨"NumberProbeModel", "isNan", "(IJ)Z"⟩ prog_4_method_10_code 3 (some .boolean) ∈ gw_tbl := gw_mem 368 (by decide +kernel) (by decide +kernel)
theorem tm_369 : Cond.methodLink "NumberProbeModel" 29 ⟨"NumberProbeModel", "size", "(IJ)J"⟩ ∈ gw_tbl := gw_mem 369 (by decide +kernel) (by decide +kernel)
theorem tm_370 : Cond.static ⟨"NumberProbeModel", "size", "(IJ)J"⟩ ∈ gw_tbl := gw_mem 370 (by decide +kernel) (by decide +kernel)
theorem tm_371 : Cond.code ⟨"NumberProbeModel", "size", "(IJ)J"⟩ prog_4_method_9_code 3 (some .long) ∈ gw_tbl := gw_mem 371 (by decide +kernel) (by decide +kernel)
theorem tm_372 : Cond.methodLink "NumberProbeModel" 25 ⟨"NumberProbeModel", "signBit", "(I)J"⟩ ∈ gw_tbl := gw_mem 372 (by decide +kernel) (by decide +kernel)
theorem tm_373 : Cond.static ⟨"NumberProbeModel", "signBit", "(I)J"⟩ ∈ gw_tbl := gw_mem 373 (by decide +kernel) (by decide +kernel)
theorem tm_374 : Cond.code ⟨"NumberProbeModel", "signBit", "(I)J"⟩ prog_4_method_5_code 1 (some .long) ∈ gw_tbl := gw_mem 374 (by decide +kernel) (by decide +kernel)
theorem tm_375 : Cond.constantLong "NumberProbeModel" 13 2147483648 ∈ gw_tbl := gw_mem 375 (by decide +kernel) (by decide +kernel)
theorem tm_376 : Cond.constantLong "NumberProbeModel" 15 (-9223372036854775808) ∈ gw_tbl := gw_mem 376 (by decide +kernel) (by decide +kernel)
theorem tm_377 : Cond.methodLink "NumberProbeModel" 33 ⟨"NumberProbeModel", "infinity", "(I)J"⟩ ∈ gw_tbl := gw_mem 377 (by decide +kernel) (by decide +kernel)
theorem tm_378 : Cond.static ⟨"NumberProbeModel", "infinity", "(I)J"⟩ ∈ gw_tbl := gw_mem 378 (by decide +kernel) (by decide +kernel)
theorem tm_379 : Cond.code ⟨"NumberProbeModel", "infinity", "(I)J"⟩ prog_4_method_6_code 1 (some .long) ∈ gw_tbl := gw_mem 379 (by decide +kernel) (by decide +kernel)
theorem tm_380 : Cond.constantLong "NumberProbeModel" 17 2139095040 ∈ gw_tbl := gw_mem 380 (by decide +kernel) (by decide +kernel)
theorem tm_381 : Cond.constantLong "NumberProbeModel" 19 9218868437227405312 ∈ gw_tbl := gw_mem 381 (by decide +kernel) (by decide +kernel)
theorem tm_382 : Cond.methodLink "NumberProbeModel" 105 ⟨"NumberProbeModel", "nan", "(I)J"⟩ ∈ gw_tbl := gw_mem 382 (by decide +kernel) (by decide +kernel)
theorem tm_383 : Cond.static ⟨"NumberProbeModel", "nan", "(I)J"⟩ ∈ gw_tbl := gw_mem 383 (by decide +kernel) (by decide +kernel)
theorem tm_384 : Cond.code ⟨"NumberProbeModel", "nan", "(I)J"⟩ prog_4_method_7_code 1 (some .long) ∈ gw_tbl := gw_mem 384 (by decide +kernel) (by decide +kernel)
theorem tm_385 : Cond.constantLong "NumberProbeModel" 21 2143289344 ∈ gw_tbl := gw_mem 385 (by decide +kernel) (by decide +kernel)
theorem tm_386 : Cond.constantLong "NumberProbeModel" 23 9221120237041090560 ∈ gw_tbl := gw_mem 386 (by decide +kernel) (by decide +kernel)
theorem tm_387 : Cond.methodLink "NumberProbeLaw" 24 ⟨"NumberProbeModel", "boundary", "(III)I"⟩ ∈ gw_tbl := gw_mem 387 (by decide +kernel) (by decide +kernel)
theorem tm_388 : Cond.instanceMethod ⟨"NumberProbeModel", "boundary", "(III)I"⟩ ∈ gw_tbl := gw_mem 388 (by decide +kernel) (by decide +kernel)
theorem tm_389 : Cond.selects "NumberProbeModel" ⟨"NumberProbeModel", "boundary", "(III)I"⟩ ⟨"NumberProbeModel", "boundary", "(III)I"⟩ ∈ gw_tbl := gw_mem 389 (by decide +kernel) (by decide +kernel)
theorem tm_390 : Cond.code ⟨"NumberProbeModel", "boundary", "(III)I"⟩ prog_4_method_36_code 4 (some .int) ∈ gw_tbl := gw_mem 390 (by decide +kernel) (by decide +kernel)
theorem tm_391 : Cond.methodLink "NumberProbeModel" 201 ⟨"NumberProbeModel", "realBoundary", "(II)J"⟩ ∈ gw_tbl := gw_mem 391 (by decide +kernel) (by decide +kernel)
theorem tm_392 : Cond.static ⟨"NumberProbeModel", "realBoundary", "(II)J"⟩ ∈ gw_tbl := gw_mem 392 (by decide +kernel) (by decide +kernel)
theorem tm_393 : Cond.code ⟨"NumberProbeModel", "realBoundary", "(II)J"⟩ prog_4_method_34_code 4 (some .long) ∈ gw_tbl := gw_mem 393 (by decide +kernel) (by decide +kernel)
theorem tm_394 : Cond.methodLink "NumberProbeModel" 157 ⟨"NumberProbeModel", "ofWhole", "(IJ)J"⟩ ∈ gw_tbl := gw_mem 394 (by decide +kernel) (by decide +kernel)
theorem tm_395 : Cond.static ⟨"NumberProbeModel", "ofWhole", "(IJ)J"⟩ ∈ gw_tbl := gw_mem 395 (by decide +kernel) (by decide +kernel)
theorem tm_396 : Cond.code ⟨"NumberProbeModel", "ofWhole", "(IJ)J"⟩ prog_4_method_29_code 3 (some .long) ∈ gw_tbl := gw_mem 396 (by decide +kernel) (by decide +kernel)
theorem tm_397 : Cond.constantLong "NumberProbeModel" 146 4611686018427387904 ∈ gw_tbl := gw_mem 397 (by decide +kernel) (by decide +kernel)
theorem tm_398 : Cond.methodLink "NumberProbeModel" 112 ⟨"NumberProbeModel", "round", "(IZJI)J"⟩ ∈ gw_tbl := gw_mem 398 (by decide +kernel) (by decide +kernel)
theorem tm_399 : Cond.static ⟨"NumberProbeModel", "round", "(IZJI)J"⟩ ∈ gw_tbl := gw_mem 399 (by decide +kernel) (by decide +kernel)
theorem tm_400 : Cond.code ⟨"NumberProbeModel", "round", "(IZJI)J"⟩ prog_4_method_17_code 13 (some .long) ∈ gw_tbl := gw_mem 400 (by decide +kernel) (by decide +kernel)
theorem tm_401 : Cond.methodLink "NumberProbeModel" 90 ⟨"NumberProbeModel", "signed", "(IZJ)J"⟩ ∈ gw_tbl := gw_mem 401 (by decide +kernel) (by decide +kernel)
theorem tm_402 : Cond.static ⟨"NumberProbeModel", "signed", "(IZJ)J"⟩ ∈ gw_tbl := gw_mem 402 (by decide +kernel) (by decide +kernel)
theorem tm_403 : Cond.code ⟨"NumberProbeModel", "signed", "(IZJ)J"⟩ prog_4_method_12_code 4 (some .long) ∈ gw_tbl := gw_mem 403 (by decide +kernel) (by decide +kernel)
theorem tm_404 : Cond.methodLink "NumberProbeModel" 94 ⟨"NumberProbeModel", "length", "(J)I"⟩ ∈ gw_tbl := gw_mem 404 (by decide +kernel) (by decide +kernel)
theorem tm_405 : Cond.static ⟨"NumberProbeModel", "length", "(J)I"⟩ ∈ gw_tbl := gw_mem 405 (by decide +kernel) (by decide +kernel)
theorem tm_406 : Cond.code ⟨"NumberProbeModel", "length", "(J)I"⟩ prog_4_method_11_code 4 (some .int) ∈ gw_tbl := gw_mem 406 (by decide +kernel) (by decide +kernel)
theorem tm_407 : Cond.methodLink "NumberProbeModel" 36 ⟨"NumberProbeModel", "fraction", "(I)I"⟩ ∈ gw_tbl := gw_mem 407 (by decide +kernel) (by decide +kernel)
theorem tm_408 : Cond.static ⟨"NumberProbeModel", "fraction", "(I)I"⟩ ∈ gw_tbl := gw_mem 408 (by decide +kernel) (by decide +kernel)
theorem tm_409 : Cond.code ⟨"NumberProbeModel", "fraction", "(I)I"⟩ prog_4_method_3_code 1 (some .int) ∈ gw_tbl := gw_mem 409 (by decide +kernel) (by decide +kernel)
theorem tm_410 : Cond.methodLink "NumberProbeModel" 40 ⟨"NumberProbeModel", "least", "(I)I"⟩ ∈ gw_tbl := gw_mem 410 (by decide +kernel) (by decide +kernel)
theorem tm_411 : Cond.static ⟨"NumberProbeModel", "least", "(I)I"⟩ ∈ gw_tbl := gw_mem 411 (by decide +kernel) (by decide +kernel)
theorem tm_412 : Cond.code ⟨"NumberProbeModel", "least", "(I)I"⟩ prog_4_method_4_code 1 (some .int) ∈ gw_tbl := gw_mem 412 (by decide +kernel) (by decide +kernel)
theorem tm_413 : Cond.constantLong "NumberProbeModel" 171 16777217 ∈ gw_tbl := gw_mem 413 (by decide +kernel) (by decide +kernel)
theorem tm_414 : Cond.constantLong "NumberProbeModel" 173 9007199254740993 ∈ gw_tbl := gw_mem 414 (by decide +kernel) (by decide +kernel)
theorem tm_415 : Cond.constantLong "NumberProbeModel" 152 (-2147483648) ∈ gw_tbl := gw_mem 415 (by decide +kernel) (by decide +kernel)
theorem tm_416 : Cond.constantLong "NumberProbeModel" 150 2147483647 ∈ gw_tbl := gw_mem 416 (by decide +kernel) (by decide +kernel)
theorem tm_417 : Cond.constantLong "NumberProbeModel" 148 9223372036854775807 ∈ gw_tbl := gw_mem 417 (by decide +kernel) (by decide +kernel)
theorem tm_418 : Cond.methodLink "NumberProbeModel" 205 ⟨"NumberProbeModel", "wholeBoundary", "(II)J"⟩ ∈ gw_tbl := gw_mem 418 (by decide +kernel) (by decide +kernel)
theorem tm_419 : Cond.static ⟨"NumberProbeModel", "wholeBoundary", "(II)J"⟩ ∈ gw_tbl := gw_mem 419 (by decide +kernel) (by decide +kernel)
theorem tm_420 : Cond.code ⟨"NumberProbeModel", "wholeBoundary", "(II)J"⟩ prog_4_method_35_code 2 (some .long) ∈ gw_tbl := gw_mem 420 (by decide +kernel) (by decide +kernel)
theorem tm_421 : Cond.constantLong "NumberProbeModel" 125 (-1) ∈ gw_tbl := gw_mem 421 (by decide +kernel) (by decide +kernel)
theorem tm_422 : Cond.constantLong "NumberProbeModel" 175 127 ∈ gw_tbl := gw_mem 422 (by decide +kernel) (by decide +kernel)
theorem tm_423 : Cond.constantLong "NumberProbeModel" 177 128 ∈ gw_tbl := gw_mem 423 (by decide +kernel) (by decide +kernel)
theorem tm_424 : Cond.constantLong "NumberProbeModel" 179 (-129) ∈ gw_tbl := gw_mem 424 (by decide +kernel) (by decide +kernel)
theorem tm_425 : Cond.constantLong "NumberProbeModel" 181 255 ∈ gw_tbl := gw_mem 425 (by decide +kernel) (by decide +kernel)
theorem tm_426 : Cond.constantLong "NumberProbeModel" 183 32767 ∈ gw_tbl := gw_mem 426 (by decide +kernel) (by decide +kernel)
theorem tm_427 : Cond.constantLong "NumberProbeModel" 185 32768 ∈ gw_tbl := gw_mem 427 (by decide +kernel) (by decide +kernel)
theorem tm_428 : Cond.constantLong "NumberProbeModel" 187 (-32769) ∈ gw_tbl := gw_mem 428 (by decide +kernel) (by decide +kernel)
theorem tm_429 : Cond.constantLong "NumberProbeModel" 189 65535 ∈ gw_tbl := gw_mem 429 (by decide +kernel) (by decide +kernel)
theorem tm_430 : Cond.constantLong "NumberProbeModel" 191 65536 ∈ gw_tbl := gw_mem 430 (by decide +kernel) (by decide +kernel)
theorem tm_431 : Cond.constantLong "NumberProbeModel" 193 (-2147483649) ∈ gw_tbl := gw_mem 431 (by decide +kernel) (by decide +kernel)
theorem tm_432 : Cond.constantLong "NumberProbeModel" 195 4294967296 ∈ gw_tbl := gw_mem 432 (by decide +kernel) (by decide +kernel)
theorem tm_433 : Cond.constantLong "NumberProbeModel" 197 9007199254740991 ∈ gw_tbl := gw_mem 433 (by decide +kernel) (by decide +kernel)
theorem tm_434 : Cond.constantLong "NumberProbeModel" 199 4611686018427388417 ∈ gw_tbl := gw_mem 434 (by decide +kernel) (by decide +kernel)
theorem tm_435 : Cond.methodLink "NumberProbeLaw" 29 ⟨"NumberProbeModel", "bits", "(II)J"⟩ ∈ gw_tbl := gw_mem 435 (by decide +kernel) (by decide +kernel)
theorem tm_436 : Cond.instanceMethod ⟨"NumberProbeModel", "bits", "(II)J"⟩ ∈ gw_tbl := gw_mem 436 (by decide +kernel) (by decide +kernel)
theorem tm_437 : Cond.selects "NumberProbeModel" ⟨"NumberProbeModel", "bits", "(II)J"⟩ ⟨"NumberProbeModel", "bits", "(II)J"⟩ ∈ gw_tbl := gw_mem 437 (by decide +kernel) (by decide +kernel)
theorem tm_438 : Cond.code ⟨"NumberProbeModel", "bits", "(II)J"⟩ prog_4_method_37_code 3 (some .long) ∈ gw_tbl := gw_mem 438 (by decide +kernel) (by decide +kernel)
theorem tm_439 : Cond.methodLink "NumberProbeLaw" 34 ⟨"NumberProbeModel", "operate", "(IIIII)I"⟩ ∈ gw_tbl := gw_mem 439 (by decide +kernel) (by decide +kernel)
theorem tm_440 : Cond.instanceMethod ⟨"NumberProbeModel", "operate", "(IIIII)I"⟩ ∈ gw_tbl := gw_mem 440 (by decide +kernel) (by decide +kernel)
theorem tm_441 : Cond.selects "NumberProbeModel" ⟨"NumberProbeModel", "operate", "(IIIII)I"⟩ ⟨"NumberProbeModel", "operate", "(IIIII)I"⟩ ∈ gw_tbl := gw_mem 441 (by decide +kernel) (by decide +kernel)
theorem tm_442 : Cond.code ⟨"NumberProbeModel", "operate", "(IIIII)I"⟩ prog_4_method_38_code 10 (some .int) ∈ gw_tbl := gw_mem 442 (by decide +kernel) (by decide +kernel)
theorem tm_443 : Cond.methodLink "NumberProbeModel" 208 ⟨"NumberProbeModel", "operateReal", "(IIJJ)J"⟩ ∈ gw_tbl := gw_mem 443 (by decide +kernel) (by decide +kernel)
theorem tm_445 : Cond.instanceMethod ⟨"NumberProbeModel", "operateReal", "(IIJJ)J"⟩ ∈ gw_tbl := gw_mem 445 (by decide +kernel) (by decide +kernel)
theorem tm_446 : Cond.code ⟨"NumberProbeModel", "operateReal", "(IIJJ)J"⟩ prog_4_method_26_code 8 (some .long) ∈ gw_tbl := gw_mem 446 (by decide +kernel) (by decide +kernel)
theorem tm_447 : Cond.methodLink "NumberProbeModel" 127 ⟨"NumberProbeModel", "add", "(IJJ)J"⟩ ∈ gw_tbl := gw_mem 447 (by decide +kernel) (by decide +kernel)
theorem tm_449 : Cond.instanceMethod ⟨"NumberProbeModel", "add", "(IJJ)J"⟩ ∈ gw_tbl := gw_mem 449 (by decide +kernel) (by decide +kernel)
theorem tm_450 : Cond.code ⟨"NumberProbeModel", "add", "(IJJ)J"⟩ prog_4_method_19_code 13 (some .long) ∈ gw_tbl := gw_mem 450 (by decide +kernel) (by decide +kernel)
theorem tm_451 : Cond.methodLink "NumberProbeModel" 98 ⟨"NumberProbeModel", "takeX", "(IJ)V"⟩ ∈ gw_tbl := gw_mem 451 (by decide +kernel) (by decide +kernel)
theorem tm_453 : Cond.instanceMethod ⟨"NumberProbeModel", "takeX", "(IJ)V"⟩ ∈ gw_tbl := gw_mem 453 (by decide +kernel) (by decide +kernel)
theorem tm_454 : Cond.code ⟨"NumberProbeModel", "takeX", "(IJ)V"⟩ prog_4_method_15_code 4 (none : Option Jvm.ClassFile.FieldType) ∈ gw_tbl := gw_mem 454 (by decide +kernel) (by decide +kernel)
theorem tm_455 : Cond.methodLink "NumberProbeModel" 43 ⟨"NumberProbeModel", "isSign", "(IJ)Z"⟩ ∈ gw_tbl := gw_mem 455 (by decide +kernel) (by decide +kernel)
theorem tm_456 : Cond.static ⟨"NumberProbeModel", "isSign", "(IJ)Z"⟩ ∈ gw_tbl := gw_mem 456 (by decide +kernel) (by decide +kernel)
theorem tm_457 : Cond.code ⟨"NumberProbeModel", "isSign", "(IJ)Z"⟩ prog_4_method_8_code 3 (some .boolean) ∈ gw_tbl := gw_mem 457 (by decide +kernel) (by decide +kernel)
theorem tm_458 : Cond.methodLink "NumberProbeModel" 60 ⟨"NumberProbeModel", "mantissa", "(IJ)J"⟩ ∈ gw_tbl := gw_mem 458 (by decide +kernel) (by decide +kernel)
theorem tm_459 : Cond.static ⟨"NumberProbeModel", "mantissa", "(IJ)J"⟩ ∈ gw_tbl := gw_mem 459 (by decide +kernel) (by decide +kernel)
theorem tm_460 : Cond.code ⟨"NumberProbeModel", "mantissa", "(IJ)J"⟩ prog_4_method_13_code 7 (some .long) ∈ gw_tbl := gw_mem 460 (by decide +kernel) (by decide +kernel)
theorem tm_461 : Cond.methodLink "NumberProbeModel" 67 ⟨"NumberProbeModel", "power", "(IJ)I"⟩ ∈ gw_tbl := gw_mem 461 (by decide +kernel) (by decide +kernel)
theorem tm_462 : Cond.static ⟨"NumberProbeModel", "power", "(IJ)I"⟩ ∈ gw_tbl := gw_mem 462 (by decide +kernel) (by decide +kernel)
theorem tm_463 : Cond.code ⟨"NumberProbeModel", "power", "(IJ)I"⟩ prog_4_method_14_code 4 (some .int) ∈ gw_tbl := gw_mem 463 (by decide +kernel) (by decide +kernel)
theorem tm_464 : Cond.methodLink "NumberProbeModel" 102 ⟨"NumberProbeModel", "takeY", "(IJ)V"⟩ ∈ gw_tbl := gw_mem 464 (by decide +kernel) (by decide +kernel)
theorem tm_466 : Cond.instanceMethod ⟨"NumberProbeModel", "takeY", "(IJ)V"⟩ ∈ gw_tbl := gw_mem 466 (by decide +kernel) (by decide +kernel)
theorem tm_467 : Cond.code ⟨"NumberProbeModel", "takeY", "(IJ)V"⟩ prog_4_method_16_code 4 (none : Option Jvm.ClassFile.FieldType) ∈ gw_tbl := gw_mem 467 (by decide +kernel) (by decide +kernel)
theorem tm_468 : Cond.methodLink "NumberProbeModel" 108 ⟨"NumberProbeModel", "shiftedDown", "(JI)J"⟩ ∈ gw_tbl := gw_mem 468 (by decide +kernel) (by decide +kernel)
theorem tm_469 : Cond.static ⟨"NumberProbeModel", "shiftedDown", "(JI)J"⟩ ∈ gw_tbl := gw_mem 469 (by decide +kernel) (by decide +kernel)
theorem tm_470 : Cond.code ⟨"NumberProbeModel", "shiftedDown", "(JI)J"⟩ prog_4_method_18_code 5 (some .long) ∈ gw_tbl := gw_mem 470 (by decide +kernel) (by decide +kernel)
theorem tm_471 : Cond.methodLink "NumberProbeModel" 131 ⟨"NumberProbeModel", "flipped", "(IJ)J"⟩ ∈ gw_tbl := gw_mem 471 (by decide +kernel) (by decide +kernel)
theorem tm_473 : Cond.instanceMethod ⟨"NumberProbeModel", "flipped", "(IJ)J"⟩ ∈ gw_tbl := gw_mem 473 (by decide +kernel) (by decide +kernel)
theorem tm_474 : Cond.code ⟨"NumberProbeModel", "flipped", "(IJ)J"⟩ prog_4_method_20_code 4 (some .long) ∈ gw_tbl := gw_mem 474 (by decide +kernel) (by decide +kernel)
theorem tm_475 : Cond.methodLink "NumberProbeModel" 134 ⟨"NumberProbeModel", "multiply", "(IJJ)J"⟩ ∈ gw_tbl := gw_mem 475 (by decide +kernel) (by decide +kernel)
theorem tm_477 : Cond.instanceMethod ⟨"NumberProbeModel", "multiply", "(IJJ)J"⟩ ∈ gw_tbl := gw_mem 477 (by decide +kernel) (by decide +kernel)
theorem tm_478 : Cond.code ⟨"NumberProbeModel", "multiply", "(IJJ)J"⟩ prog_4_method_22_code 12 (some .long) ∈ gw_tbl := gw_mem 478 (by decide +kernel) (by decide +kernel)
theorem tm_479 : Cond.methodLink "NumberProbeModel" 121 ⟨"NumberProbeModel", "product", "(JJ)J"⟩ ∈ gw_tbl := gw_mem 479 (by decide +kernel) (by decide +kernel)
theorem tm_481 : Cond.instanceMethod ⟨"NumberProbeModel", "product", "(JJ)J"⟩ ∈ gw_tbl := gw_mem 481 (by decide +kernel) (by decide +kernel)
theorem tm_482 : Cond.code ⟨"NumberProbeModel", "product", "(JJ)J"⟩ prog_4_method_21_code 19 (some .long) ∈ gw_tbl := gw_mem 482 (by decide +kernel) (by decide +kernel)
theorem tm_483 : Cond.methodLink "NumberProbeModel" 137 ⟨"NumberProbeModel", "divide", "(IJJ)J"⟩ ∈ gw_tbl := gw_mem 483 (by decide +kernel) (by decide +kernel)
theorem tm_485 : Cond.instanceMethod ⟨"NumberProbeModel", "divide", "(IJJ)J"⟩ ∈ gw_tbl := gw_mem 485 (by decide +kernel) (by decide +kernel)
theorem tm_486 : Cond.code ⟨"NumberProbeModel", "divide", "(IJJ)J"⟩ prog_4_method_23_code 17 (some .long) ∈ gw_tbl := gw_mem 486 (by decide +kernel) (by decide +kernel)
theorem tm_487 : Cond.methodLink "NumberProbeModel" 140 ⟨"NumberProbeModel", "remainder", "(IJJ)J"⟩ ∈ gw_tbl := gw_mem 487 (by decide +kernel) (by decide +kernel)
theorem tm_489 : Cond.instanceMethod ⟨"NumberProbeModel", "remainder", "(IJJ)J"⟩ ∈ gw_tbl := gw_mem 489 (by decide +kernel) (by decide +kernel)
theorem tm_490 : Cond.code ⟨"NumberProbeModel", "remainder", "(IJJ)J"⟩ prog_4_method_24_code 10 (some .long) ∈ gw_tbl := gw_mem 490 (by decide +kernel) (by decide +kernel)
theorem tm_491 : Cond.methodLink "NumberProbeModel" 143 ⟨"NumberProbeModel", "place", "(IJ)J"⟩ ∈ gw_tbl := gw_mem 491 (by decide +kernel) (by decide +kernel)
theorem tm_492 : Cond.static ⟨"NumberProbeModel", "place", "(IJ)J"⟩ ∈ gw_tbl := gw_mem 492 (by decide +kernel) (by decide +kernel)
theorem tm_493 : Cond.code ⟨"NumberProbeModel", "place", "(IJ)J"⟩ prog_4_method_25_code 3 (some .long) ∈ gw_tbl := gw_mem 493 (by decide +kernel) (by decide +kernel)
theorem tm_494 : Cond.methodLink "NumberProbeModel" 212 ⟨"NumberProbeModel", "operateWhole", "(IIJJ)J"⟩ ∈ gw_tbl := gw_mem 494 (by decide +kernel) (by decide +kernel)
theorem tm_495 : Cond.static ⟨"NumberProbeModel", "operateWhole", "(IIJJ)J"⟩ ∈ gw_tbl := gw_mem 495 (by decide +kernel) (by decide +kernel)
theorem tm_496 : Cond.code ⟨"NumberProbeModel", "operateWhole", "(IIJJ)J"⟩ prog_4_method_27_code 8 (some .long) ∈ gw_tbl := gw_mem 496 (by decide +kernel) (by decide +kernel)
theorem tm_497 : Cond.methodLink "NumberProbeLaw" 38 ⟨"NumberProbeModel", "assign", "(IIIII)I"⟩ ∈ gw_tbl := gw_mem 497 (by decide +kernel) (by decide +kernel)
theorem tm_498 : Cond.instanceMethod ⟨"NumberProbeModel", "assign", "(IIIII)I"⟩ ∈ gw_tbl := gw_mem 498 (by decide +kernel) (by decide +kernel)
theorem tm_499 : Cond.selects "NumberProbeModel" ⟨"NumberProbeModel", "assign", "(IIIII)I"⟩ ⟨"NumberProbeModel", "assign", "(IIIII)I"⟩ ∈ gw_tbl := gw_mem 499 (by decide +kernel) (by decide +kernel)
theorem tm_500 : Cond.code ⟨"NumberProbeModel", "assign", "(IIIII)I"⟩ prog_4_method_40_code 13 (some .int) ∈ gw_tbl := gw_mem 500 (by decide +kernel) (by decide +kernel)
theorem tm_501 : Cond.methodLink "NumberProbeModel" 215 ⟨"NumberProbeModel", "rank", "(I)I"⟩ ∈ gw_tbl := gw_mem 501 (by decide +kernel) (by decide +kernel)
theorem tm_502 : Cond.static ⟨"NumberProbeModel", "rank", "(I)I"⟩ ∈ gw_tbl := gw_mem 502 (by decide +kernel) (by decide +kernel)
theorem tm_503 : Cond.code ⟨"NumberProbeModel", "rank", "(I)I"⟩ prog_4_method_39_code 1 (some .int) ∈ gw_tbl := gw_mem 503 (by decide +kernel) (by decide +kernel)
theorem tm_504 : Cond.methodLink "NumberProbeModel" 218 ⟨"NumberProbeModel", "converted", "(IJI)J"⟩ ∈ gw_tbl := gw_mem 504 (by decide +kernel) (by decide +kernel)
theorem tm_506 : Cond.instanceMethod ⟨"NumberProbeModel", "converted", "(IJI)J"⟩ ∈ gw_tbl := gw_mem 506 (by decide +kernel) (by decide +kernel)
theorem tm_507 : Cond.code ⟨"NumberProbeModel", "converted", "(IJI)J"⟩ prog_4_method_32_code 5 (some .long) ∈ gw_tbl := gw_mem 507 (by decide +kernel) (by decide +kernel)
theorem tm_508 : Cond.methodLink "NumberProbeModel" 160 ⟨"NumberProbeModel", "toWhole", "(IJ)J"⟩ ∈ gw_tbl := gw_mem 508 (by decide +kernel) (by decide +kernel)
theorem tm_510 : Cond.instanceMethod ⟨"NumberProbeModel", "toWhole", "(IJ)J"⟩ ∈ gw_tbl := gw_mem 510 (by decide +kernel) (by decide +kernel)
theorem tm_511 : Cond.code ⟨"NumberProbeModel", "toWhole", "(IJ)J"⟩ prog_4_method_30_code 6 (some .long) ∈ gw_tbl := gw_mem 511 (by decide +kernel) (by decide +kernel)
theorem tm_512 : Cond.methodLink "NumberProbeModel" 163 ⟨"NumberProbeModel", "bounded", "(J)J"⟩ ∈ gw_tbl := gw_mem 512 (by decide +kernel) (by decide +kernel)
theorem tm_513 : Cond.static ⟨"NumberProbeModel", "bounded", "(J)J"⟩ ∈ gw_tbl := gw_mem 513 (by decide +kernel) (by decide +kernel)
theorem tm_514 : Cond.code ⟨"NumberProbeModel", "bounded", "(J)J"⟩ prog_4_method_31_code 2 (some .long) ∈ gw_tbl := gw_mem 514 (by decide +kernel) (by decide +kernel)
theorem tm_515 : Cond.methodLink "NumberProbeLaw" 43 ⟨"NumberProbeModel", "convert", "(IIII)I"⟩ ∈ gw_tbl := gw_mem 515 (by decide +kernel) (by decide +kernel)
theorem tm_516 : Cond.instanceMethod ⟨"NumberProbeModel", "convert", "(IIII)I"⟩ ∈ gw_tbl := gw_mem 516 (by decide +kernel) (by decide +kernel)
theorem tm_517 : Cond.selects "NumberProbeModel" ⟨"NumberProbeModel", "convert", "(IIII)I"⟩ ⟨"NumberProbeModel", "convert", "(IIII)I"⟩ ∈ gw_tbl := gw_mem 517 (by decide +kernel) (by decide +kernel)
theorem tm_518 : Cond.code ⟨"NumberProbeModel", "convert", "(IIII)I"⟩ prog_4_method_41_code 5 (some .int) ∈ gw_tbl := gw_mem 518 (by decide +kernel) (by decide +kernel)
theorem tm_519 : Cond.methodLink "NumberProbeLaw" 47 ⟨"NumberProbeModel", "narrow", "(III)I"⟩ ∈ gw_tbl := gw_mem 519 (by decide +kernel) (by decide +kernel)
theorem tm_520 : Cond.instanceMethod ⟨"NumberProbeModel", "narrow", "(III)I"⟩ ∈ gw_tbl := gw_mem 520 (by decide +kernel) (by decide +kernel)
theorem tm_521 : Cond.selects "NumberProbeModel" ⟨"NumberProbeModel", "narrow", "(III)I"⟩ ⟨"NumberProbeModel", "narrow", "(III)I"⟩ ∈ gw_tbl := gw_mem 521 (by decide +kernel) (by decide +kernel)
theorem tm_522 : Cond.code ⟨"NumberProbeModel", "narrow", "(III)I"⟩ prog_4_method_42_code 5 (some .int) ∈ gw_tbl := gw_mem 522 (by decide +kernel) (by decide +kernel)
theorem tm_523 : Cond.methodLink "NumberProbeLaw" 51 ⟨"NumberProbeModel", "compare", "(III)I"⟩ ∈ gw_tbl := gw_mem 523 (by decide +kernel) (by decide +kernel)
theorem tm_524 : Cond.instanceMethod ⟨"NumberProbeModel", "compare", "(III)I"⟩ ∈ gw_tbl := gw_mem 524 (by decide +kernel) (by decide +kernel)
theorem tm_525 : Cond.selects "NumberProbeModel" ⟨"NumberProbeModel", "compare", "(III)I"⟩ ⟨"NumberProbeModel", "compare", "(III)I"⟩ ∈ gw_tbl := gw_mem 525 (by decide +kernel) (by decide +kernel)
theorem tm_526 : Cond.code ⟨"NumberProbeModel", "compare", "(III)I"⟩ prog_4_method_44_code 8 (some .int) ∈ gw_tbl := gw_mem 526 (by decide +kernel) (by decide +kernel)
theorem tm_527 : Cond.methodLink "NumberProbeModel" 222 ⟨"NumberProbeModel", "placeOf", "(II)J"⟩ ∈ gw_tbl := gw_mem 527 (by decide +kernel) (by decide +kernel)
theorem tm_529 : Cond.instanceMethod ⟨"NumberProbeModel", "placeOf", "(II)J"⟩ ∈ gw_tbl := gw_mem 529 (by decide +kernel) (by decide +kernel)
theorem tm_530 : Cond.code ⟨"NumberProbeModel", "placeOf", "(II)J"⟩ prog_4_method_43_code 3 (some .long) ∈ gw_tbl := gw_mem 530 (by decide +kernel) (by decide +kernel)
theorem tm_531 : Cond.methodLink "NumberProbeLaw" 55 ⟨"NumberProbeModel", "order", "(III)I"⟩ ∈ gw_tbl := gw_mem 531 (by decide +kernel) (by decide +kernel)
theorem tm_532 : Cond.instanceMethod ⟨"NumberProbeModel", "order", "(III)I"⟩ ∈ gw_tbl := gw_mem 532 (by decide +kernel) (by decide +kernel)
theorem tm_533 : Cond.selects "NumberProbeModel" ⟨"NumberProbeModel", "order", "(III)I"⟩ ⟨"NumberProbeModel", "order", "(III)I"⟩ ∈ gw_tbl := gw_mem 533 (by decide +kernel) (by decide +kernel)
theorem tm_534 : Cond.code ⟨"NumberProbeModel", "order", "(III)I"⟩ prog_4_method_45_code 8 (some .int) ∈ gw_tbl := gw_mem 534 (by decide +kernel) (by decide +kernel)
theorem tm_535 : Cond.methodLink "NumberProbeLaw" 60 ⟨"NumberProbeModel", "sort", "(II)I"⟩ ∈ gw_tbl := gw_mem 535 (by decide +kernel) (by decide +kernel)
theorem tm_536 : Cond.instanceMethod ⟨"NumberProbeModel", "sort", "(II)I"⟩ ∈ gw_tbl := gw_mem 536 (by decide +kernel) (by decide +kernel)
theorem tm_537 : Cond.selects "NumberProbeModel" ⟨"NumberProbeModel", "sort", "(II)I"⟩ ⟨"NumberProbeModel", "sort", "(II)I"⟩ ∈ gw_tbl := gw_mem 537 (by decide +kernel) (by decide +kernel)
theorem tm_538 : Cond.code ⟨"NumberProbeModel", "sort", "(II)I"⟩ prog_4_method_46_code 5 (some .int) ∈ gw_tbl := gw_mem 538 (by decide +kernel) (by decide +kernel)
theorem tm_539 : Cond.methodLink "NumberProbeLaw" 64 ⟨"NumberProbeModel", "series", "(IIII)I"⟩ ∈ gw_tbl := gw_mem 539 (by decide +kernel) (by decide +kernel)
theorem tm_540 : Cond.instanceMethod ⟨"NumberProbeModel", "series", "(IIII)I"⟩ ∈ gw_tbl := gw_mem 540 (by decide +kernel) (by decide +kernel)
theorem tm_541 : Cond.selects "NumberProbeModel" ⟨"NumberProbeModel", "series", "(IIII)I"⟩ ⟨"NumberProbeModel", "series", "(IIII)I"⟩ ∈ gw_tbl := gw_mem 541 (by decide +kernel) (by decide +kernel)
theorem tm_542 : Cond.code ⟨"NumberProbeModel", "series", "(IIII)I"⟩ prog_4_method_47_code 10 (some .int) ∈ gw_tbl := gw_mem 542 (by decide +kernel) (by decide +kernel)
theorem tm_543 : Cond.methodLink "NumberProbeLaw" 68 ⟨"NumberProbeModel", "polynomial", "(II)I"⟩ ∈ gw_tbl := gw_mem 543 (by decide +kernel) (by decide +kernel)
theorem tm_544 : Cond.instanceMethod ⟨"NumberProbeModel", "polynomial", "(II)I"⟩ ∈ gw_tbl := gw_mem 544 (by decide +kernel) (by decide +kernel)
theorem tm_545 : Cond.selects "NumberProbeModel" ⟨"NumberProbeModel", "polynomial", "(II)I"⟩ ⟨"NumberProbeModel", "polynomial", "(II)I"⟩ ∈ gw_tbl := gw_mem 545 (by decide +kernel) (by decide +kernel)
theorem tm_546 : Cond.code ⟨"NumberProbeModel", "polynomial", "(II)I"⟩ prog_4_method_48_code 8 (some .int) ∈ gw_tbl := gw_mem 546 (by decide +kernel) (by decide +kernel)
theorem tm_547 : Cond.constantLong "NumberProbeLaw" 13 4294967295 ∈ gw_tbl := gw_mem 547 (by decide +kernel) (by decide +kernel)
theorem tm_548 : Cond.fieldLink "NumberProbe$Format" 39 "NumberProbe$Format" "magnitudeMask" "J" ∈ gw_tbl := gw_mem 548 (by decide +kernel) (by decide +kernel)
theorem tm_549 : Cond.fieldLink "NumberProbe$Format" 43 "NumberProbe$Format" "infinity" "J" ∈ gw_tbl := gw_mem 549 (by decide +kernel) (by decide +kernel)
theorem tm_550 : Cond.fieldLink "NumberProbe$Format" 46 "NumberProbe$Format" "nan" "J" ∈ gw_tbl := gw_mem 550 (by decide +kernel) (by decide +kernel)
theorem tm_551 : Cond.fieldLink "NumberProbe$Format" 36 "NumberProbe$Format" "leastExponent" "I" ∈ gw_tbl := gw_mem 551 (by decide +kernel) (by decide +kernel)
theorem tm_552 : Cond.fieldLink "NumberProbe$Format" 29 "NumberProbe$Format" "fractionBits" "I" ∈ gw_tbl := gw_mem 552 (by decide +kernel) (by decide +kernel)
theorem tm_553 : Cond.fieldLink "NumberProbe$Format" 33 "NumberProbe$Format" "exponentOfSpecials" "I" ∈ gw_tbl := gw_mem 553 (by decide +kernel) (by decide +kernel)
end
section
abbrev mc_F_numberOf : ByteArray := prog_2_method_4_code
def my_F_numberOf : MethodName := ⟨"NumberProbe$Format", "numberOf", "(J)J"⟩
abbrev mw_F_numberOf : List Cond := Cond.code my_F_numberOf mc_F_numberOf 4 (some .long) :: gw_tbl
theorem md_F_numberOf_0 : decode mc_F_numberOf 0 = .ok (.lload_n 1, 1) := by decide +kernel
theorem md_F_numberOf_1 : decode mc_F_numberOf 1 = .ok (.aload_n 0, 1) := by decide +kernel
theorem md_F_numberOf_2 : decode mc_F_numberOf 2 = .ok (.getfield 39, 3) := by decide +kernel
theorem md_F_numberOf_5 : decode mc_F_numberOf 5 = .ok (.lconst 1, 1) := by decide +kernel
theorem md_F_numberOf_6 : decode mc_F_numberOf 6 = .ok (.ladd, 1) := by decide +kernel
theorem md_F_numberOf_7 : decode mc_F_numberOf 7 = .ok (.land, 1) := by decide +kernel
theorem md_F_numberOf_8 : decode mc_F_numberOf 8 = .ok (.lconst 0, 1) := by decide +kernel
theorem md_F_numberOf_9 : decode mc_F_numberOf 9 = .ok (.lcmp, 1) := by decide +kernel
theorem md_F_numberOf_10 : decode mc_F_numberOf 10 = .ok (.ifCond .eq 7, 3) := by decide +kernel
theorem md_F_numberOf_13 : decode mc_F_numberOf 13 = .ok (.iconst 1, 1) := by decide +kernel
theorem md_F_numberOf_14 : decode mc_F_numberOf 14 = .ok (.goto 4, 3) := by decide +kernel
theorem md_F_numberOf_17 : decode mc_F_numberOf 17 = .ok (.iconst 0, 1) := by decide +kernel
theorem md_F_numberOf_18 : decode mc_F_numberOf 18 = .ok (.istore_n 3, 1) := by decide +kernel
theorem md_F_numberOf_19 : decode mc_F_numberOf 19 = .ok (.aload_n 0, 1) := by decide +kernel
theorem md_F_numberOf_20 : decode mc_F_numberOf 20 = .ok (.lload_n 1, 1) := by decide +kernel
theorem md_F_numberOf_21 : decode mc_F_numberOf 21 = .ok (.invokevirtual 49, 3) := by decide +kernel
theorem md_F_numberOf_24 : decode mc_F_numberOf 24 = .ok (.ifCond .eq 10, 3) := by decide +kernel
theorem md_F_numberOf_27 : decode mc_F_numberOf 27 = .ok (.aload_n 0, 1) := by decide +kernel
theorem md_F_numberOf_28 : decode mc_F_numberOf 28 = .ok (.getfield 46, 3) := by decide +kernel
theorem md_F_numberOf_31 : decode mc_F_numberOf 31 = .ok (.goto 13, 3) := by decide +kernel
theorem md_F_numberOf_34 : decode mc_F_numberOf 34 = .ok (.aload_n 0, 1) := by decide +kernel
theorem md_F_numberOf_35 : decode mc_F_numberOf 35 = .ok (.iload_n 3, 1) := by decide +kernel
theorem md_F_numberOf_36 : decode mc_F_numberOf 36 = .ok (.aload_n 0, 1) := by decide +kernel
theorem md_F_numberOf_37 : decode mc_F_numberOf 37 = .ok (.lload_n 1, 1) := by decide +kernel
theorem md_F_numberOf_38 : decode mc_F_numberOf 38 = .ok (.invokevirtual 53, 3) := by decide +kernel
theorem md_F_numberOf_41 : decode mc_F_numberOf 41 = .ok (.invokevirtual 57, 3) := by decide +kernel
theorem md_F_numberOf_44 : decode mc_F_numberOf 44 = .ok (.lreturn, 1) := by decide +kernel
abbrev mc_F_isNaN : ByteArray := prog_2_method_5_code
def my_F_isNaN : MethodName := ⟨"NumberProbe$Format", "isNaN", "(J)Z"⟩
abbrev mw_F_isNaN : List Cond := Cond.code my_F_isNaN mc_F_isNaN 3 (some .boolean) :: gw_tbl
theorem md_F_isNaN_0 : decode mc_F_isNaN 0 = .ok (.aload_n 0, 1) := by decide +kernel
theorem md_F_isNaN_1 : decode mc_F_isNaN 1 = .ok (.lload_n 1, 1) := by decide +kernel
theorem md_F_isNaN_2 : decode mc_F_isNaN 2 = .ok (.invokevirtual 53, 3) := by decide +kernel
theorem md_F_isNaN_5 : decode mc_F_isNaN 5 = .ok (.aload_n 0, 1) := by decide +kernel
theorem md_F_isNaN_6 : decode mc_F_isNaN 6 = .ok (.getfield 43, 3) := by decide +kernel
theorem md_F_isNaN_9 : decode mc_F_isNaN 9 = .ok (.lcmp, 1) := by decide +kernel
theorem md_F_isNaN_10 : decode mc_F_isNaN 10 = .ok (.ifCond .le 7, 3) := by decide +kernel
theorem md_F_isNaN_13 : decode mc_F_isNaN 13 = .ok (.iconst 1, 1) := by decide +kernel
theorem md_F_isNaN_14 : decode mc_F_isNaN 14 = .ok (.goto 4, 3) := by decide +kernel
theorem md_F_isNaN_17 : decode mc_F_isNaN 17 = .ok (.iconst 0, 1) := by decide +kernel
theorem md_F_isNaN_18 : decode mc_F_isNaN 18 = .ok (.ireturn, 1) := by decide +kernel
abbrev mc_F_isInfinite : ByteArray := prog_2_method_6_code
def my_F_isInfinite : MethodName := ⟨"NumberProbe$Format", "isInfinite", "(J)Z"⟩
abbrev mw_F_isInfinite : List Cond := Cond.code my_F_isInfinite mc_F_isInfinite 3 (some .boolean) :: gw_tbl
theorem md_F_isInfinite_0 : decode mc_F_isInfinite 0 = .ok (.aload_n 0, 1) := by decide +kernel
theorem md_F_isInfinite_1 : decode mc_F_isInfinite 1 = .ok (.lload_n 1, 1) := by decide +kernel
theorem md_F_isInfinite_2 : decode mc_F_isInfinite 2 = .ok (.invokevirtual 53, 3) := by decide +kernel
theorem md_F_isInfinite_5 : decode mc_F_isInfinite 5 = .ok (.aload_n 0, 1) := by decide +kernel
theorem md_F_isInfinite_6 : decode mc_F_isInfinite 6 = .ok (.getfield 43, 3) := by decide +kernel
theorem md_F_isInfinite_9 : decode mc_F_isInfinite 9 = .ok (.lcmp, 1) := by decide +kernel
theorem md_F_isInfinite_10 : decode mc_F_isInfinite 10 = .ok (.ifCond .ne 7, 3) := by decide +kernel
theorem md_F_isInfinite_13 : decode mc_F_isInfinite 13 = .ok (.iconst 1, 1) := by decide +kernel
theorem md_F_isInfinite_14 : decode mc_F_isInfinite 14 = .ok (.goto 4, 3) := by decide +kernel
theorem md_F_isInfinite_17 : decode mc_F_isInfinite 17 = .ok (.iconst 0, 1) := by decide +kernel
theorem md_F_isInfinite_18 : decode mc_F_isInfinite 18 = .ok (.ireturn, 1) := by decide +kernel
abbrev mc_F_isZero : ByteArray := prog_2_method_7_code
def my_F_isZero : MethodName := ⟨"NumberProbe$Format", "isZero", "(J)Z"⟩
abbrev mw_F_isZero : List Cond := Cond.code my_F_isZero mc_F_isZero 3 (some .boolean) :: gw_tbl
theorem md_F_isZero_0 : decode mc_F_isZero 0 = .ok (.aload_n 0, 1) := by decide +kernel
theorem md_F_isZero_1 : decode mc_F_isZero 1 = .ok (.lload_n 1, 1) := by decide +kernel
theorem md_F_isZero_2 : decode mc_F_isZero 2 = .ok (.invokevirtual 53, 3) := by decide +kernel
theorem md_F_isZero_5 : decode mc_F_isZero 5 = .ok (.lconst 0, 1) := by decide +kernel
theorem md_F_isZero_6 : decode mc_F_isZero 6 = .ok (.lcmp, 1) := by decide +kernel
theorem md_F_isZero_7 : decode mc_F_isZero 7 = .ok (.ifCond .ne 7, 3) := by decide +kernel
theorem md_F_isZero_10 : decode mc_F_isZero 10 = .ok (.iconst 1, 1) := by decide +kernel
theorem md_F_isZero_11 : decode mc_F_isZero 11 = .ok (.goto 4, 3) := by decide +kernel
theorem md_F_isZero_14 : decode mc_F_isZero 14 = .ok (.iconst 0, 1) := by decide +kernel
theorem md_F_isZero_15 : decode mc_F_isZero 15 = .ok (.ireturn, 1) := by decide +kernel
abbrev mc_F_magnitude : ByteArray := prog_2_method_8_code
def my_F_magnitude : MethodName := ⟨"NumberProbe$Format", "magnitude", "(J)J"⟩
abbrev mw_F_magnitude : List Cond := Cond.code my_F_magnitude mc_F_magnitude 3 (some .long) :: gw_tbl
theorem md_F_magnitude_0 : decode mc_F_magnitude 0 = .ok (.lload_n 1, 1) := by decide +kernel
theorem md_F_magnitude_1 : decode mc_F_magnitude 1 = .ok (.aload_n 0, 1) := by decide +kernel
theorem md_F_magnitude_2 : decode mc_F_magnitude 2 = .ok (.getfield 39, 3) := by decide +kernel
theorem md_F_magnitude_5 : decode mc_F_magnitude 5 = .ok (.land, 1) := by decide +kernel
theorem md_F_magnitude_6 : decode mc_F_magnitude 6 = .ok (.lreturn, 1) := by decide +kernel
abbrev mc_F_negated : ByteArray := prog_2_method_9_code
def my_F_negated : MethodName := ⟨"NumberProbe$Format", "negated", "(J)J"⟩
abbrev mw_F_negated : List Cond := Cond.code my_F_negated mc_F_negated 3 (some .long) :: gw_tbl
theorem md_F_negated_0 : decode mc_F_negated 0 = .ok (.aload_n 0, 1) := by decide +kernel
theorem md_F_negated_1 : decode mc_F_negated 1 = .ok (.lload_n 1, 1) := by decide +kernel
theorem md_F_negated_2 : decode mc_F_negated 2 = .ok (.invokevirtual 49, 3) := by decide +kernel
theorem md_F_negated_5 : decode mc_F_negated 5 = .ok (.ifCond .eq 7, 3) := by decide +kernel
theorem md_F_negated_8 : decode mc_F_negated 8 = .ok (.lload_n 1, 1) := by decide +kernel
theorem md_F_negated_9 : decode mc_F_negated 9 = .ok (.goto 13, 3) := by decide +kernel
theorem md_F_negated_12 : decode mc_F_negated 12 = .ok (.lload_n 1, 1) := by decide +kernel
theorem md_F_negated_13 : decode mc_F_negated 13 = .ok (.aload_n 0, 1) := by decide +kernel
theorem md_F_negated_14 : decode mc_F_negated 14 = .ok (.getfield 39, 3) := by decide +kernel
theorem md_F_negated_17 : decode mc_F_negated 17 = .ok (.ldc2_w 61, 3) := by decide +kernel
theorem md_F_negated_20 : decode mc_F_negated 20 = .ok (.lxor, 1) := by decide +kernel
theorem md_F_negated_21 : decode mc_F_negated 21 = .ok (.lxor, 1) := by decide +kernel
theorem md_F_negated_22 : decode mc_F_negated 22 = .ok (.lreturn, 1) := by decide +kernel
abbrev mc_F_signed : ByteArray := prog_2_method_10_code
def my_F_signed : MethodName := ⟨"NumberProbe$Format", "signed", "(ZJ)J"⟩
abbrev mw_F_signed : List Cond := Cond.code my_F_signed mc_F_signed 4 (some .long) :: gw_tbl
theorem md_F_signed_0 : decode mc_F_signed 0 = .ok (.iload_n 1, 1) := by decide +kernel
theorem md_F_signed_1 : decode mc_F_signed 1 = .ok (.ifCond .eq 16, 3) := by decide +kernel
theorem md_F_signed_4 : decode mc_F_signed 4 = .ok (.lload_n 2, 1) := by decide +kernel
theorem md_F_signed_5 : decode mc_F_signed 5 = .ok (.aload_n 0, 1) := by decide +kernel
theorem md_F_signed_6 : decode mc_F_signed 6 = .ok (.getfield 39, 3) := by decide +kernel
theorem md_F_signed_9 : decode mc_F_signed 9 = .ok (.ldc2_w 61, 3) := by decide +kernel
theorem md_F_signed_12 : decode mc_F_signed 12 = .ok (.lxor, 1) := by decide +kernel
theorem md_F_signed_13 : decode mc_F_signed 13 = .ok (.lor, 1) := by decide +kernel
theorem md_F_signed_14 : decode mc_F_signed 14 = .ok (.goto 4, 3) := by decide +kernel
theorem md_F_signed_17 : decode mc_F_signed 17 = .ok (.lload_n 2, 1) := by decide +kernel
theorem md_F_signed_18 : decode mc_F_signed 18 = .ok (.lreturn, 1) := by decide +kernel
abbrev mc_F_significandOf : ByteArray := prog_2_method_11_code
def my_F_significandOf : MethodName := ⟨"NumberProbe$Format", "significandOf", "(J)J"⟩
abbrev mw_F_significandOf : List Cond := Cond.code my_F_significandOf mc_F_significandOf 5 (some .long) :: gw_tbl
theorem md_F_significandOf_0 : decode mc_F_significandOf 0 = .ok (.lload_n 1, 1) := by decide +kernel
theorem md_F_significandOf_1 : decode mc_F_significandOf 1 = .ok (.lconst 1, 1) := by decide +kernel
theorem md_F_significandOf_2 : decode mc_F_significandOf 2 = .ok (.aload_n 0, 1) := by decide +kernel
theorem md_F_significandOf_3 : decode mc_F_significandOf 3 = .ok (.getfield 29, 3) := by decide +kernel
theorem md_F_significandOf_6 : decode mc_F_significandOf 6 = .ok (.lshl, 1) := by decide +kernel
theorem md_F_significandOf_7 : decode mc_F_significandOf 7 = .ok (.lconst 1, 1) := by decide +kernel
theorem md_F_significandOf_8 : decode mc_F_significandOf 8 = .ok (.lsub, 1) := by decide +kernel
theorem md_F_significandOf_9 : decode mc_F_significandOf 9 = .ok (.land, 1) := by decide +kernel
theorem md_F_significandOf_10 : decode mc_F_significandOf 10 = .ok (.lstore_n 3, 1) := by decide +kernel
theorem md_F_significandOf_11 : decode mc_F_significandOf 11 = .ok (.aload_n 0, 1) := by decide +kernel
theorem md_F_significandOf_12 : decode mc_F_significandOf 12 = .ok (.lload_n 1, 1) := by decide +kernel
theorem md_F_significandOf_13 : decode mc_F_significandOf 13 = .ok (.invokevirtual 63, 3) := by decide +kernel
theorem md_F_significandOf_16 : decode mc_F_significandOf 16 = .ok (.ifCond .ne 7, 3) := by decide +kernel
theorem md_F_significandOf_19 : decode mc_F_significandOf 19 = .ok (.lload_n 3, 1) := by decide +kernel
theorem md_F_significandOf_20 : decode mc_F_significandOf 20 = .ok (.goto 11, 3) := by decide +kernel
theorem md_F_significandOf_23 : decode mc_F_significandOf 23 = .ok (.lload_n 3, 1) := by decide +kernel
theorem md_F_significandOf_24 : decode mc_F_significandOf 24 = .ok (.lconst 1, 1) := by decide +kernel
theorem md_F_significandOf_25 : decode mc_F_significandOf 25 = .ok (.aload_n 0, 1) := by decide +kernel
theorem md_F_significandOf_26 : decode mc_F_significandOf 26 = .ok (.getfield 29, 3) := by decide +kernel
theorem md_F_significandOf_29 : decode mc_F_significandOf 29 = .ok (.lshl, 1) := by decide +kernel
theorem md_F_significandOf_30 : decode mc_F_significandOf 30 = .ok (.lor, 1) := by decide +kernel
theorem md_F_significandOf_31 : decode mc_F_significandOf 31 = .ok (.lreturn, 1) := by decide +kernel
abbrev mc_F_exponentOf : ByteArray := prog_2_method_12_code
def my_F_exponentOf : MethodName := ⟨"NumberProbe$Format", "exponentOf", "(J)I"⟩
abbrev mw_F_exponentOf : List Cond := Cond.code my_F_exponentOf mc_F_exponentOf 3 (some .int) :: gw_tbl
theorem md_F_exponentOf_0 : decode mc_F_exponentOf 0 = .ok (.aload_n 0, 1) := by decide +kernel
theorem md_F_exponentOf_1 : decode mc_F_exponentOf 1 = .ok (.getfield 36, 3) := by decide +kernel
theorem md_F_exponentOf_4 : decode mc_F_exponentOf 4 = .ok (.aload_n 0, 1) := by decide +kernel
theorem md_F_exponentOf_5 : decode mc_F_exponentOf 5 = .ok (.lload_n 1, 1) := by decide +kernel
theorem md_F_exponentOf_6 : decode mc_F_exponentOf 6 = .ok (.invokevirtual 63, 3) := by decide +kernel
theorem md_F_exponentOf_9 : decode mc_F_exponentOf 9 = .ok (.iconst 1, 1) := by decide +kernel
theorem md_F_exponentOf_10 : decode mc_F_exponentOf 10 = .ok (.invokestatic 67, 3) := by decide +kernel
theorem md_F_exponentOf_13 : decode mc_F_exponentOf 13 = .ok (.iadd, 1) := by decide +kernel
theorem md_F_exponentOf_14 : decode mc_F_exponentOf 14 = .ok (.iconst 1, 1) := by decide +kernel
theorem md_F_exponentOf_15 : decode mc_F_exponentOf 15 = .ok (.isub, 1) := by decide +kernel
theorem md_F_exponentOf_16 : decode mc_F_exponentOf 16 = .ok (.ireturn, 1) := by decide +kernel
abbrev mc_F_exponentField : ByteArray := prog_2_method_13_code
def my_F_exponentField : MethodName := ⟨"NumberProbe$Format", "exponentField", "(J)I"⟩
abbrev mw_F_exponentField : List Cond := Cond.code my_F_exponentField mc_F_exponentField 3 (some .int) :: gw_tbl
theorem md_F_exponentField_0 : decode mc_F_exponentField 0 = .ok (.lload_n 1, 1) := by decide +kernel
theorem md_F_exponentField_1 : decode mc_F_exponentField 1 = .ok (.aload_n 0, 1) := by decide +kernel
theorem md_F_exponentField_2 : decode mc_F_exponentField 2 = .ok (.getfield 29, 3) := by decide +kernel
theorem md_F_exponentField_5 : decode mc_F_exponentField 5 = .ok (.lushr, 1) := by decide +kernel
theorem md_F_exponentField_6 : decode mc_F_exponentField 6 = .ok (.l2i, 1) := by decide +kernel
theorem md_F_exponentField_7 : decode mc_F_exponentField 7 = .ok (.aload_n 0, 1) := by decide +kernel
theorem md_F_exponentField_8 : decode mc_F_exponentField 8 = .ok (.getfield 33, 3) := by decide +kernel
theorem md_F_exponentField_11 : decode mc_F_exponentField 11 = .ok (.iand, 1) := by decide +kernel
theorem md_F_exponentField_12 : decode mc_F_exponentField 12 = .ok (.ireturn, 1) := by decide +kernel
abbrev mc_F_widening : ByteArray := prog_2_method_14_code
def my_F_widening : MethodName := ⟨"NumberProbe$Format", "widening", "(J)I"⟩
abbrev mw_F_widening : List Cond := Cond.code my_F_widening mc_F_widening 2 (some .int) :: gw_tbl
theorem md_F_widening_0 : decode mc_F_widening 0 = .ok (.lload_n 0, 1) := by decide +kernel
theorem md_F_widening_1 : decode mc_F_widening 1 = .ok (.invokestatic 73, 3) := by decide +kernel
theorem md_F_widening_4 : decode mc_F_widening 4 = .ok (.bipush 11, 2) := by decide +kernel
theorem md_F_widening_6 : decode mc_F_widening 6 = .ok (.isub, 1) := by decide +kernel
theorem md_F_widening_7 : decode mc_F_widening 7 = .ok (.ireturn, 1) := by decide +kernel
abbrev mc_F_digitOf : ByteArray := prog_2_method_15_code
def my_F_digitOf : MethodName := ⟨"NumberProbe$Format", "digitOf", "(JI)J"⟩
abbrev mw_F_digitOf : List Cond := Cond.code my_F_digitOf mc_F_digitOf 3 (some .long) :: gw_tbl
theorem md_F_digitOf_0 : decode mc_F_digitOf 0 = .ok (.lload_n 0, 1) := by decide +kernel
theorem md_F_digitOf_1 : decode mc_F_digitOf 1 = .ok (.iload_n 2, 1) := by decide +kernel
theorem md_F_digitOf_2 : decode mc_F_digitOf 2 = .ok (.bipush 10, 2) := by decide +kernel
theorem md_F_digitOf_4 : decode mc_F_digitOf 4 = .ok (.imul, 1) := by decide +kernel
theorem md_F_digitOf_5 : decode mc_F_digitOf 5 = .ok (.lushr, 1) := by decide +kernel
theorem md_F_digitOf_6 : decode mc_F_digitOf 6 = .ok (.ldc2_w 78, 3) := by decide +kernel
theorem md_F_digitOf_9 : decode mc_F_digitOf 9 = .ok (.land, 1) := by decide +kernel
theorem md_F_digitOf_10 : decode mc_F_digitOf 10 = .ok (.lreturn, 1) := by decide +kernel
abbrev mc_F_rankInSorting : ByteArray := prog_2_method_16_code
def my_F_rankInSorting : MethodName := ⟨"NumberProbe$Format", "rankInSorting", "(J)J"⟩
abbrev mw_F_rankInSorting : List Cond := Cond.code my_F_rankInSorting mc_F_rankInSorting 3 (some .long) :: gw_tbl
theorem md_F_rankInSorting_0 : decode mc_F_rankInSorting 0 = .ok (.lload_n 1, 1) := by decide +kernel
theorem md_F_rankInSorting_1 : decode mc_F_rankInSorting 1 = .ok (.lconst 0, 1) := by decide +kernel
theorem md_F_rankInSorting_2 : decode mc_F_rankInSorting 2 = .ok (.lcmp, 1) := by decide +kernel
theorem md_F_rankInSorting_3 : decode mc_F_rankInSorting 3 = .ok (.ifCond .ge 12, 3) := by decide +kernel
theorem md_F_rankInSorting_6 : decode mc_F_rankInSorting 6 = .ok (.lload_n 1, 1) := by decide +kernel
theorem md_F_rankInSorting_7 : decode mc_F_rankInSorting 7 = .ok (.aload_n 0, 1) := by decide +kernel
theorem md_F_rankInSorting_8 : decode mc_F_rankInSorting 8 = .ok (.getfield 39, 3) := by decide +kernel
theorem md_F_rankInSorting_11 : decode mc_F_rankInSorting 11 = .ok (.lxor, 1) := by decide +kernel
theorem md_F_rankInSorting_12 : decode mc_F_rankInSorting 12 = .ok (.goto 4, 3) := by decide +kernel
theorem md_F_rankInSorting_15 : decode mc_F_rankInSorting 15 = .ok (.lload_n 1, 1) := by decide +kernel
theorem md_F_rankInSorting_16 : decode mc_F_rankInSorting 16 = .ok (.lreturn, 1) := by decide +kernel
abbrev mc_F_rankByValue : ByteArray := prog_2_method_17_code
def my_F_rankByValue : MethodName := ⟨"NumberProbe$Format", "rankByValue", "(J)J"⟩
abbrev mw_F_rankByValue : List Cond := Cond.code my_F_rankByValue mc_F_rankByValue 3 (some .long) :: gw_tbl
theorem md_F_rankByValue_0 : decode mc_F_rankByValue 0 = .ok (.aload_n 0, 1) := by decide +kernel
theorem md_F_rankByValue_1 : decode mc_F_rankByValue 1 = .ok (.lload_n 1, 1) := by decide +kernel
theorem md_F_rankByValue_2 : decode mc_F_rankByValue 2 = .ok (.invokevirtual 80, 3) := by decide +kernel
theorem md_F_rankByValue_5 : decode mc_F_rankByValue 5 = .ok (.ifCond .eq 7, 3) := by decide +kernel
theorem md_F_rankByValue_8 : decode mc_F_rankByValue 8 = .ok (.lconst 0, 1) := by decide +kernel
theorem md_F_rankByValue_9 : decode mc_F_rankByValue 9 = .ok (.goto 8, 3) := by decide +kernel
theorem md_F_rankByValue_12 : decode mc_F_rankByValue 12 = .ok (.aload_n 0, 1) := by decide +kernel
theorem md_F_rankByValue_13 : decode mc_F_rankByValue 13 = .ok (.lload_n 1, 1) := by decide +kernel
theorem md_F_rankByValue_14 : decode mc_F_rankByValue 14 = .ok (.invokevirtual 83, 3) := by decide +kernel
theorem md_F_rankByValue_17 : decode mc_F_rankByValue 17 = .ok (.lreturn, 1) := by decide +kernel
abbrev mc_F_lesser : ByteArray := prog_2_method_18_code
def my_F_lesser : MethodName := ⟨"NumberProbe$Format", "lesser", "(JJ)J"⟩
abbrev mw_F_lesser : List Cond := Cond.code my_F_lesser mc_F_lesser 5 (some .long) :: gw_tbl
theorem md_F_lesser_0 : decode mc_F_lesser 0 = .ok (.aload_n 0, 1) := by decide +kernel
theorem md_F_lesser_1 : decode mc_F_lesser 1 = .ok (.lload_n 1, 1) := by decide +kernel
theorem md_F_lesser_2 : decode mc_F_lesser 2 = .ok (.invokevirtual 49, 3) := by decide +kernel
theorem md_F_lesser_5 : decode mc_F_lesser 5 = .ok (.ifCond .ne 11, 3) := by decide +kernel
theorem md_F_lesser_8 : decode mc_F_lesser 8 = .ok (.aload_n 0, 1) := by decide +kernel
theorem md_F_lesser_9 : decode mc_F_lesser 9 = .ok (.lload_n 3, 1) := by decide +kernel
theorem md_F_lesser_10 : decode mc_F_lesser 10 = .ok (.invokevirtual 49, 3) := by decide +kernel
theorem md_F_lesser_13 : decode mc_F_lesser 13 = .ok (.ifCond .eq 8, 3) := by decide +kernel
theorem md_F_lesser_16 : decode mc_F_lesser 16 = .ok (.aload_n 0, 1) := by decide +kernel
theorem md_F_lesser_17 : decode mc_F_lesser 17 = .ok (.getfield 46, 3) := by decide +kernel
theorem md_F_lesser_20 : decode mc_F_lesser 20 = .ok (.lreturn, 1) := by decide +kernel
theorem md_F_lesser_21 : decode mc_F_lesser 21 = .ok (.aload_n 0, 1) := by decide +kernel
theorem md_F_lesser_22 : decode mc_F_lesser 22 = .ok (.lload_n 1, 1) := by decide +kernel
theorem md_F_lesser_23 : decode mc_F_lesser 23 = .ok (.invokevirtual 83, 3) := by decide +kernel
theorem md_F_lesser_26 : decode mc_F_lesser 26 = .ok (.aload_n 0, 1) := by decide +kernel
theorem md_F_lesser_27 : decode mc_F_lesser 27 = .ok (.lload_n 3, 1) := by decide +kernel
theorem md_F_lesser_28 : decode mc_F_lesser 28 = .ok (.invokevirtual 83, 3) := by decide +kernel
theorem md_F_lesser_31 : decode mc_F_lesser 31 = .ok (.lcmp, 1) := by decide +kernel
theorem md_F_lesser_32 : decode mc_F_lesser 32 = .ok (.ifCond .gt 7, 3) := by decide +kernel
theorem md_F_lesser_35 : decode mc_F_lesser 35 = .ok (.lload_n 1, 1) := by decide +kernel
theorem md_F_lesser_36 : decode mc_F_lesser 36 = .ok (.goto 4, 3) := by decide +kernel
theorem md_F_lesser_39 : decode mc_F_lesser 39 = .ok (.lload_n 3, 1) := by decide +kernel
theorem md_F_lesser_40 : decode mc_F_lesser 40 = .ok (.lreturn, 1) := by decide +kernel
abbrev mc_F_greater : ByteArray := prog_2_method_19_code
def my_F_greater : MethodName := ⟨"NumberProbe$Format", "greater", "(JJ)J"⟩
abbrev mw_F_greater : List Cond := Cond.code my_F_greater mc_F_greater 5 (some .long) :: gw_tbl
theorem md_F_greater_0 : decode mc_F_greater 0 = .ok (.aload_n 0, 1) := by decide +kernel
theorem md_F_greater_1 : decode mc_F_greater 1 = .ok (.lload_n 1, 1) := by decide +kernel
theorem md_F_greater_2 : decode mc_F_greater 2 = .ok (.invokevirtual 49, 3) := by decide +kernel
theorem md_F_greater_5 : decode mc_F_greater 5 = .ok (.ifCond .ne 11, 3) := by decide +kernel
theorem md_F_greater_8 : decode mc_F_greater 8 = .ok (.aload_n 0, 1) := by decide +kernel
theorem md_F_greater_9 : decode mc_F_greater 9 = .ok (.lload_n 3, 1) := by decide +kernel
theorem md_F_greater_10 : decode mc_F_greater 10 = .ok (.invokevirtual 49, 3) := by decide +kernel
theorem md_F_greater_13 : decode mc_F_greater 13 = .ok (.ifCond .eq 8, 3) := by decide +kernel
theorem md_F_greater_16 : decode mc_F_greater 16 = .ok (.aload_n 0, 1) := by decide +kernel
theorem md_F_greater_17 : decode mc_F_greater 17 = .ok (.getfield 46, 3) := by decide +kernel
theorem md_F_greater_20 : decode mc_F_greater 20 = .ok (.lreturn, 1) := by decide +kernel
theorem md_F_greater_21 : decode mc_F_greater 21 = .ok (.aload_n 0, 1) := by decide +kernel
theorem md_F_greater_22 : decode mc_F_greater 22 = .ok (.lload_n 1, 1) := by decide +kernel
theorem md_F_greater_23 : decode mc_F_greater 23 = .ok (.invokevirtual 83, 3) := by decide +kernel
theorem md_F_greater_26 : decode mc_F_greater 26 = .ok (.aload_n 0, 1) := by decide +kernel
theorem md_F_greater_27 : decode mc_F_greater 27 = .ok (.lload_n 3, 1) := by decide +kernel
theorem md_F_greater_28 : decode mc_F_greater 28 = .ok (.invokevirtual 83, 3) := by decide +kernel
theorem md_F_greater_31 : decode mc_F_greater 31 = .ok (.lcmp, 1) := by decide +kernel
theorem md_F_greater_32 : decode mc_F_greater 32 = .ok (.ifCond .lt 7, 3) := by decide +kernel
theorem md_F_greater_35 : decode mc_F_greater 35 = .ok (.lload_n 1, 1) := by decide +kernel
theorem md_F_greater_36 : decode mc_F_greater 36 = .ok (.goto 4, 3) := by decide +kernel
theorem md_F_greater_39 : decode mc_F_greater 39 = .ok (.lload_n 3, 1) := by decide +kernel
theorem md_F_greater_40 : decode mc_F_greater 40 = .ok (.lreturn, 1) := by decide +kernel
abbrev mc_F_sum : ByteArray := prog_2_method_20_code
def my_F_sum : MethodName := ⟨"NumberProbe$Format", "sum", "(JJ)J"⟩
abbrev mw_F_sum : List Cond := Cond.code my_F_sum mc_F_sum 5 (some .long) :: gw_tbl
theorem md_F_sum_0 : decode mc_F_sum 0 = .ok (.aload_n 0, 1) := by decide +kernel
theorem md_F_sum_1 : decode mc_F_sum 1 = .ok (.lload_n 1, 1) := by decide +kernel
theorem md_F_sum_2 : decode mc_F_sum 2 = .ok (.invokevirtual 49, 3) := by decide +kernel
theorem md_F_sum_5 : decode mc_F_sum 5 = .ok (.ifCond .ne 11, 3) := by decide +kernel
theorem md_F_sum_8 : decode mc_F_sum 8 = .ok (.aload_n 0, 1) := by decide +kernel
theorem md_F_sum_9 : decode mc_F_sum 9 = .ok (.lload_n 3, 1) := by decide +kernel
theorem md_F_sum_10 : decode mc_F_sum 10 = .ok (.invokevirtual 49, 3) := by decide +kernel
theorem md_F_sum_13 : decode mc_F_sum 13 = .ok (.ifCond .eq 8, 3) := by decide +kernel
theorem md_F_sum_16 : decode mc_F_sum 16 = .ok (.aload_n 0, 1) := by decide +kernel
theorem md_F_sum_17 : decode mc_F_sum 17 = .ok (.getfield 46, 3) := by decide +kernel
theorem md_F_sum_20 : decode mc_F_sum 20 = .ok (.lreturn, 1) := by decide +kernel
theorem md_F_sum_21 : decode mc_F_sum 21 = .ok (.aload_n 0, 1) := by decide +kernel
theorem md_F_sum_22 : decode mc_F_sum 22 = .ok (.lload_n 1, 1) := by decide +kernel
theorem md_F_sum_23 : decode mc_F_sum 23 = .ok (.invokevirtual 86, 3) := by decide +kernel
theorem md_F_sum_26 : decode mc_F_sum 26 = .ok (.ifCond .eq 26, 3) := by decide +kernel
theorem md_F_sum_29 : decode mc_F_sum 29 = .ok (.aload_n 0, 1) := by decide +kernel
theorem md_F_sum_30 : decode mc_F_sum 30 = .ok (.lload_n 3, 1) := by decide +kernel
theorem md_F_sum_31 : decode mc_F_sum 31 = .ok (.invokevirtual 86, 3) := by decide +kernel
theorem md_F_sum_34 : decode mc_F_sum 34 = .ok (.ifCond .eq 16, 3) := by decide +kernel
theorem md_F_sum_37 : decode mc_F_sum 37 = .ok (.lload_n 1, 1) := by decide +kernel
theorem md_F_sum_38 : decode mc_F_sum 38 = .ok (.lload_n 3, 1) := by decide +kernel
theorem md_F_sum_39 : decode mc_F_sum 39 = .ok (.lcmp, 1) := by decide +kernel
theorem md_F_sum_40 : decode mc_F_sum 40 = .ok (.ifCond .eq 10, 3) := by decide +kernel
theorem md_F_sum_43 : decode mc_F_sum 43 = .ok (.aload_n 0, 1) := by decide +kernel
theorem md_F_sum_44 : decode mc_F_sum 44 = .ok (.getfield 46, 3) := by decide +kernel
theorem md_F_sum_47 : decode mc_F_sum 47 = .ok (.goto 4, 3) := by decide +kernel
theorem md_F_sum_50 : decode mc_F_sum 50 = .ok (.lload_n 1, 1) := by decide +kernel
theorem md_F_sum_51 : decode mc_F_sum 51 = .ok (.lreturn, 1) := by decide +kernel
theorem md_F_sum_52 : decode mc_F_sum 52 = .ok (.aload_n 0, 1) := by decide +kernel
theorem md_F_sum_53 : decode mc_F_sum 53 = .ok (.lload_n 3, 1) := by decide +kernel
theorem md_F_sum_54 : decode mc_F_sum 54 = .ok (.invokevirtual 86, 3) := by decide +kernel
theorem md_F_sum_57 : decode mc_F_sum 57 = .ok (.ifCond .eq 5, 3) := by decide +kernel
theorem md_F_sum_60 : decode mc_F_sum 60 = .ok (.lload_n 3, 1) := by decide +kernel
theorem md_F_sum_61 : decode mc_F_sum 61 = .ok (.lreturn, 1) := by decide +kernel
theorem md_F_sum_62 : decode mc_F_sum 62 = .ok (.aload_n 0, 1) := by decide +kernel
theorem md_F_sum_63 : decode mc_F_sum 63 = .ok (.lload_n 1, 1) := by decide +kernel
theorem md_F_sum_64 : decode mc_F_sum 64 = .ok (.invokevirtual 53, 3) := by decide +kernel
theorem md_F_sum_67 : decode mc_F_sum 67 = .ok (.aload_n 0, 1) := by decide +kernel
theorem md_F_sum_68 : decode mc_F_sum 68 = .ok (.lload_n 3, 1) := by decide +kernel
theorem md_F_sum_69 : decode mc_F_sum 69 = .ok (.invokevirtual 53, 3) := by decide +kernel
theorem md_F_sum_72 : decode mc_F_sum 72 = .ok (.lcmp, 1) := by decide +kernel
theorem md_F_sum_73 : decode mc_F_sum 73 = .ok (.ifCond .lt 12, 3) := by decide +kernel
theorem md_F_sum_76 : decode mc_F_sum 76 = .ok (.aload_n 0, 1) := by decide +kernel
theorem md_F_sum_77 : decode mc_F_sum 77 = .ok (.lload_n 1, 1) := by decide +kernel
theorem md_F_sum_78 : decode mc_F_sum 78 = .ok (.lload_n 3, 1) := by decide +kernel
theorem md_F_sum_79 : decode mc_F_sum 79 = .ok (.invokevirtual 89, 3) := by decide +kernel
theorem md_F_sum_82 : decode mc_F_sum 82 = .ok (.goto 9, 3) := by decide +kernel
theorem md_F_sum_85 : decode mc_F_sum 85 = .ok (.aload_n 0, 1) := by decide +kernel
theorem md_F_sum_86 : decode mc_F_sum 86 = .ok (.lload_n 3, 1) := by decide +kernel
theorem md_F_sum_87 : decode mc_F_sum 87 = .ok (.lload_n 1, 1) := by decide +kernel
theorem md_F_sum_88 : decode mc_F_sum 88 = .ok (.invokevirtual 89, 3) := by decide +kernel
theorem md_F_sum_91 : decode mc_F_sum 91 = .ok (.lreturn, 1) := by decide +kernel
abbrev mc_F_finiteSum : ByteArray := prog_2_method_21_code
def my_F_finiteSum : MethodName := ⟨"NumberProbe$Format", "finiteSum", "(JJ)J"⟩
abbrev mw_F_finiteSum : List Cond := Cond.code my_F_finiteSum mc_F_finiteSum 14 (some .long) :: gw_tbl
theorem md_F_finiteSum_0 : decode mc_F_finiteSum 0 = .ok (.aload_n 0, 1) := by decide +kernel
theorem md_F_finiteSum_1 : decode mc_F_finiteSum 1 = .ok (.lload_n 1, 1) := by decide +kernel
theorem md_F_finiteSum_2 : decode mc_F_finiteSum 2 = .ok (.invokevirtual 93, 3) := by decide +kernel
theorem md_F_finiteSum_5 : decode mc_F_finiteSum 5 = .ok (.istore 5, 2) := by decide +kernel
theorem md_F_finiteSum_7 : decode mc_F_finiteSum 7 = .ok (.aload_n 0, 1) := by decide +kernel
theorem md_F_finiteSum_8 : decode mc_F_finiteSum 8 = .ok (.lload_n 1, 1) := by decide +kernel
theorem md_F_finiteSum_9 : decode mc_F_finiteSum 9 = .ok (.invokevirtual 96, 3) := by decide +kernel
theorem md_F_finiteSum_12 : decode mc_F_finiteSum 12 = .ok (.bipush 9, 2) := by decide +kernel
theorem md_F_finiteSum_14 : decode mc_F_finiteSum 14 = .ok (.lshl, 1) := by decide +kernel
theorem md_F_finiteSum_15 : decode mc_F_finiteSum 15 = .ok (.lstore 6, 2) := by decide +kernel
theorem md_F_finiteSum_17 : decode mc_F_finiteSum 17 = .ok (.aload_n 0, 1) := by decide +kernel
theorem md_F_finiteSum_18 : decode mc_F_finiteSum 18 = .ok (.lload_n 3, 1) := by decide +kernel
theorem md_F_finiteSum_19 : decode mc_F_finiteSum 19 = .ok (.invokevirtual 96, 3) := by decide +kernel
theorem md_F_finiteSum_22 : decode mc_F_finiteSum 22 = .ok (.bipush 9, 2) := by decide +kernel
theorem md_F_finiteSum_24 : decode mc_F_finiteSum 24 = .ok (.lshl, 1) := by decide +kernel
theorem md_F_finiteSum_25 : decode mc_F_finiteSum 25 = .ok (.iload 5, 2) := by decide +kernel
theorem md_F_finiteSum_27 : decode mc_F_finiteSum 27 = .ok (.aload_n 0, 1) := by decide +kernel
theorem md_F_finiteSum_28 : decode mc_F_finiteSum 28 = .ok (.lload_n 3, 1) := by decide +kernel
theorem md_F_finiteSum_29 : decode mc_F_finiteSum 29 = .ok (.invokevirtual 93, 3) := by decide +kernel
theorem md_F_finiteSum_32 : decode mc_F_finiteSum 32 = .ok (.isub, 1) := by decide +kernel
theorem md_F_finiteSum_33 : decode mc_F_finiteSum 33 = .ok (.invokestatic 99, 3) := by decide +kernel
theorem md_F_finiteSum_36 : decode mc_F_finiteSum 36 = .ok (.lstore 8, 2) := by decide +kernel
theorem md_F_finiteSum_38 : decode mc_F_finiteSum 38 = .ok (.lload_n 1, 1) := by decide +kernel
theorem md_F_finiteSum_39 : decode mc_F_finiteSum 39 = .ok (.lconst 0, 1) := by decide +kernel
theorem md_F_finiteSum_40 : decode mc_F_finiteSum 40 = .ok (.lcmp, 1) := by decide +kernel
theorem md_F_finiteSum_41 : decode mc_F_finiteSum 41 = .ok (.ifCond .ge 7, 3) := by decide +kernel
theorem md_F_finiteSum_44 : decode mc_F_finiteSum 44 = .ok (.iconst 1, 1) := by decide +kernel
theorem md_F_finiteSum_45 : decode mc_F_finiteSum 45 = .ok (.goto 4, 3) := by decide +kernel
theorem md_F_finiteSum_48 : decode mc_F_finiteSum 48 = .ok (.iconst 0, 1) := by decide +kernel
theorem md_F_finiteSum_49 : decode mc_F_finiteSum 49 = .ok (.lload_n 3, 1) := by decide +kernel
theorem md_F_finiteSum_50 : decode mc_F_finiteSum 50 = .ok (.lconst 0, 1) := by decide +kernel
theorem md_F_finiteSum_51 : decode mc_F_finiteSum 51 = .ok (.lcmp, 1) := by decide +kernel
theorem md_F_finiteSum_52 : decode mc_F_finiteSum 52 = .ok (.ifCond .ge 7, 3) := by decide +kernel
theorem md_F_finiteSum_55 : decode mc_F_finiteSum 55 = .ok (.iconst 1, 1) := by decide +kernel
theorem md_F_finiteSum_56 : decode mc_F_finiteSum 56 = .ok (.goto 4, 3) := by decide +kernel
theorem md_F_finiteSum_59 : decode mc_F_finiteSum 59 = .ok (.iconst 0, 1) := by decide +kernel
theorem md_F_finiteSum_60 : decode mc_F_finiteSum 60 = .ok (.if_icmp .ne 7, 3) := by decide +kernel
theorem md_F_finiteSum_63 : decode mc_F_finiteSum 63 = .ok (.iconst 1, 1) := by decide +kernel
theorem md_F_finiteSum_64 : decode mc_F_finiteSum 64 = .ok (.goto 4, 3) := by decide +kernel
theorem md_F_finiteSum_67 : decode mc_F_finiteSum 67 = .ok (.iconst 0, 1) := by decide +kernel
theorem md_F_finiteSum_68 : decode mc_F_finiteSum 68 = .ok (.istore 10, 2) := by decide +kernel
theorem md_F_finiteSum_70 : decode mc_F_finiteSum 70 = .ok (.iload 10, 2) := by decide +kernel
theorem md_F_finiteSum_72 : decode mc_F_finiteSum 72 = .ok (.ifCond .eq 11, 3) := by decide +kernel
theorem md_F_finiteSum_75 : decode mc_F_finiteSum 75 = .ok (.lload 6, 2) := by decide +kernel
theorem md_F_finiteSum_77 : decode mc_F_finiteSum 77 = .ok (.lload 8, 2) := by decide +kernel
theorem md_F_finiteSum_79 : decode mc_F_finiteSum 79 = .ok (.ladd, 1) := by decide +kernel
theorem md_F_finiteSum_80 : decode mc_F_finiteSum 80 = .ok (.goto 8, 3) := by decide +kernel
theorem md_F_finiteSum_83 : decode mc_F_finiteSum 83 = .ok (.lload 6, 2) := by decide +kernel
theorem md_F_finiteSum_85 : decode mc_F_finiteSum 85 = .ok (.lload 8, 2) := by decide +kernel
theorem md_F_finiteSum_87 : decode mc_F_finiteSum 87 = .ok (.lsub, 1) := by decide +kernel
theorem md_F_finiteSum_88 : decode mc_F_finiteSum 88 = .ok (.lstore 11, 2) := by decide +kernel
theorem md_F_finiteSum_90 : decode mc_F_finiteSum 90 = .ok (.lload_n 1, 1) := by decide +kernel
theorem md_F_finiteSum_91 : decode mc_F_finiteSum 91 = .ok (.lconst 0, 1) := by decide +kernel
theorem md_F_finiteSum_92 : decode mc_F_finiteSum 92 = .ok (.lcmp, 1) := by decide +kernel
theorem md_F_finiteSum_93 : decode mc_F_finiteSum 93 = .ok (.ifCond .ge 19, 3) := by decide +kernel
theorem md_F_finiteSum_96 : decode mc_F_finiteSum 96 = .ok (.iload 10, 2) := by decide +kernel
theorem md_F_finiteSum_98 : decode mc_F_finiteSum 98 = .ok (.ifCond .ne 10, 3) := by decide +kernel
theorem md_F_finiteSum_101 : decode mc_F_finiteSum 101 = .ok (.lload 11, 2) := by decide +kernel
theorem md_F_finiteSum_103 : decode mc_F_finiteSum 103 = .ok (.lconst 0, 1) := by decide +kernel
theorem md_F_finiteSum_104 : decode mc_F_finiteSum 104 = .ok (.lcmp, 1) := by decide +kernel
theorem md_F_finiteSum_105 : decode mc_F_finiteSum 105 = .ok (.ifCond .eq 7, 3) := by decide +kernel
theorem md_F_finiteSum_108 : decode mc_F_finiteSum 108 = .ok (.iconst 1, 1) := by decide +kernel
theorem md_F_finiteSum_109 : decode mc_F_finiteSum 109 = .ok (.goto 4, 3) := by decide +kernel
theorem md_F_finiteSum_112 : decode mc_F_finiteSum 112 = .ok (.iconst 0, 1) := by decide +kernel
theorem md_F_finiteSum_113 : decode mc_F_finiteSum 113 = .ok (.istore 13, 2) := by decide +kernel
theorem md_F_finiteSum_115 : decode mc_F_finiteSum 115 = .ok (.aload_n 0, 1) := by decide +kernel
theorem md_F_finiteSum_116 : decode mc_F_finiteSum 116 = .ok (.iload 13, 2) := by decide +kernel
theorem md_F_finiteSum_118 : decode mc_F_finiteSum 118 = .ok (.lload 11, 2) := by decide +kernel
theorem md_F_finiteSum_120 : decode mc_F_finiteSum 120 = .ok (.iload 5, 2) := by decide +kernel
theorem md_F_finiteSum_122 : decode mc_F_finiteSum 122 = .ok (.bipush 9, 2) := by decide +kernel
theorem md_F_finiteSum_124 : decode mc_F_finiteSum 124 = .ok (.isub, 1) := by decide +kernel
theorem md_F_finiteSum_125 : decode mc_F_finiteSum 125 = .ok (.invokevirtual 103, 3) := by decide +kernel
theorem md_F_finiteSum_128 : decode mc_F_finiteSum 128 = .ok (.lreturn, 1) := by decide +kernel
abbrev mc_F_product : ByteArray := prog_2_method_22_code
def my_F_product : MethodName := ⟨"NumberProbe$Format", "product", "(JJ)J"⟩
abbrev mw_F_product : List Cond := Cond.code my_F_product mc_F_product 6 (some .long) :: gw_tbl
theorem md_F_product_0 : decode mc_F_product 0 = .ok (.lload_n 1, 1) := by decide +kernel
theorem md_F_product_1 : decode mc_F_product 1 = .ok (.lconst 0, 1) := by decide +kernel
theorem md_F_product_2 : decode mc_F_product 2 = .ok (.lcmp, 1) := by decide +kernel
theorem md_F_product_3 : decode mc_F_product 3 = .ok (.ifCond .ge 7, 3) := by decide +kernel
theorem md_F_product_6 : decode mc_F_product 6 = .ok (.iconst 1, 1) := by decide +kernel
theorem md_F_product_7 : decode mc_F_product 7 = .ok (.goto 4, 3) := by decide +kernel
theorem md_F_product_10 : decode mc_F_product 10 = .ok (.iconst 0, 1) := by decide +kernel
theorem md_F_product_11 : decode mc_F_product 11 = .ok (.lload_n 3, 1) := by decide +kernel
theorem md_F_product_12 : decode mc_F_product 12 = .ok (.lconst 0, 1) := by decide +kernel
theorem md_F_product_13 : decode mc_F_product 13 = .ok (.lcmp, 1) := by decide +kernel
theorem md_F_product_14 : decode mc_F_product 14 = .ok (.ifCond .ge 7, 3) := by decide +kernel
theorem md_F_product_17 : decode mc_F_product 17 = .ok (.iconst 1, 1) := by decide +kernel
theorem md_F_product_18 : decode mc_F_product 18 = .ok (.goto 4, 3) := by decide +kernel
theorem md_F_product_21 : decode mc_F_product 21 = .ok (.iconst 0, 1) := by decide +kernel
theorem md_F_product_22 : decode mc_F_product 22 = .ok (.if_icmp .eq 7, 3) := by decide +kernel
theorem md_F_product_25 : decode mc_F_product 25 = .ok (.iconst 1, 1) := by decide +kernel
theorem md_F_product_26 : decode mc_F_product 26 = .ok (.goto 4, 3) := by decide +kernel
theorem md_F_product_29 : decode mc_F_product 29 = .ok (.iconst 0, 1) := by decide +kernel
theorem md_F_product_30 : decode mc_F_product 30 = .ok (.istore 5, 2) := by decide +kernel
theorem md_F_product_32 : decode mc_F_product 32 = .ok (.aload_n 0, 1) := by decide +kernel
theorem md_F_product_33 : decode mc_F_product 33 = .ok (.lload_n 1, 1) := by decide +kernel
theorem md_F_product_34 : decode mc_F_product 34 = .ok (.invokevirtual 49, 3) := by decide +kernel
theorem md_F_product_37 : decode mc_F_product 37 = .ok (.ifCond .ne 11, 3) := by decide +kernel
theorem md_F_product_40 : decode mc_F_product 40 = .ok (.aload_n 0, 1) := by decide +kernel
theorem md_F_product_41 : decode mc_F_product 41 = .ok (.lload_n 3, 1) := by decide +kernel
theorem md_F_product_42 : decode mc_F_product 42 = .ok (.invokevirtual 49, 3) := by decide +kernel
theorem md_F_product_45 : decode mc_F_product 45 = .ok (.ifCond .eq 8, 3) := by decide +kernel
theorem md_F_product_48 : decode mc_F_product 48 = .ok (.aload_n 0, 1) := by decide +kernel
theorem md_F_product_49 : decode mc_F_product 49 = .ok (.getfield 46, 3) := by decide +kernel
theorem md_F_product_52 : decode mc_F_product 52 = .ok (.lreturn, 1) := by decide +kernel
theorem md_F_product_53 : decode mc_F_product 53 = .ok (.aload_n 0, 1) := by decide +kernel
theorem md_F_product_54 : decode mc_F_product 54 = .ok (.lload_n 1, 1) := by decide +kernel
theorem md_F_product_55 : decode mc_F_product 55 = .ok (.invokevirtual 86, 3) := by decide +kernel
theorem md_F_product_58 : decode mc_F_product 58 = .ok (.ifCond .ne 11, 3) := by decide +kernel
theorem md_F_product_61 : decode mc_F_product 61 = .ok (.aload_n 0, 1) := by decide +kernel
theorem md_F_product_62 : decode mc_F_product 62 = .ok (.lload_n 3, 1) := by decide +kernel
theorem md_F_product_63 : decode mc_F_product 63 = .ok (.invokevirtual 86, 3) := by decide +kernel
theorem md_F_product_66 : decode mc_F_product 66 = .ok (.ifCond .eq 37, 3) := by decide +kernel
theorem md_F_product_69 : decode mc_F_product 69 = .ok (.aload_n 0, 1) := by decide +kernel
theorem md_F_product_70 : decode mc_F_product 70 = .ok (.lload_n 1, 1) := by decide +kernel
theorem md_F_product_71 : decode mc_F_product 71 = .ok (.invokevirtual 80, 3) := by decide +kernel
theorem md_F_product_74 : decode mc_F_product 74 = .ok (.ifCond .ne 11, 3) := by decide +kernel
theorem md_F_product_77 : decode mc_F_product 77 = .ok (.aload_n 0, 1) := by decide +kernel
theorem md_F_product_78 : decode mc_F_product 78 = .ok (.lload_n 3, 1) := by decide +kernel
theorem md_F_product_79 : decode mc_F_product 79 = .ok (.invokevirtual 80, 3) := by decide +kernel
theorem md_F_product_82 : decode mc_F_product 82 = .ok (.ifCond .eq 10, 3) := by decide +kernel
theorem md_F_product_85 : decode mc_F_product 85 = .ok (.aload_n 0, 1) := by decide +kernel
theorem md_F_product_86 : decode mc_F_product 86 = .ok (.getfield 46, 3) := by decide +kernel
theorem md_F_product_89 : decode mc_F_product 89 = .ok (.goto 13, 3) := by decide +kernel
theorem md_F_product_92 : decode mc_F_product 92 = .ok (.aload_n 0, 1) := by decide +kernel
theorem md_F_product_93 : decode mc_F_product 93 = .ok (.iload 5, 2) := by decide +kernel
theorem md_F_product_95 : decode mc_F_product 95 = .ok (.aload_n 0, 1) := by decide +kernel
theorem md_F_product_96 : decode mc_F_product 96 = .ok (.getfield 43, 3) := by decide +kernel
theorem md_F_product_99 : decode mc_F_product 99 = .ok (.invokevirtual 57, 3) := by decide +kernel
theorem md_F_product_102 : decode mc_F_product 102 = .ok (.lreturn, 1) := by decide +kernel
theorem md_F_product_103 : decode mc_F_product 103 = .ok (.aload_n 0, 1) := by decide +kernel
theorem md_F_product_104 : decode mc_F_product 104 = .ok (.lload_n 1, 1) := by decide +kernel
theorem md_F_product_105 : decode mc_F_product 105 = .ok (.invokevirtual 80, 3) := by decide +kernel
theorem md_F_product_108 : decode mc_F_product 108 = .ok (.ifCond .ne 11, 3) := by decide +kernel
theorem md_F_product_111 : decode mc_F_product 111 = .ok (.aload_n 0, 1) := by decide +kernel
theorem md_F_product_112 : decode mc_F_product 112 = .ok (.lload_n 3, 1) := by decide +kernel
theorem md_F_product_113 : decode mc_F_product 113 = .ok (.invokevirtual 80, 3) := by decide +kernel
theorem md_F_product_116 : decode mc_F_product 116 = .ok (.ifCond .eq 11, 3) := by decide +kernel
theorem md_F_product_119 : decode mc_F_product 119 = .ok (.aload_n 0, 1) := by decide +kernel
theorem md_F_product_120 : decode mc_F_product 120 = .ok (.iload 5, 2) := by decide +kernel
theorem md_F_product_122 : decode mc_F_product 122 = .ok (.lconst 0, 1) := by decide +kernel
theorem md_F_product_123 : decode mc_F_product 123 = .ok (.invokevirtual 57, 3) := by decide +kernel
theorem md_F_product_126 : decode mc_F_product 126 = .ok (.lreturn, 1) := by decide +kernel
theorem md_F_product_127 : decode mc_F_product 127 = .ok (.aload_n 0, 1) := by decide +kernel
theorem md_F_product_128 : decode mc_F_product 128 = .ok (.iload 5, 2) := by decide +kernel
theorem md_F_product_130 : decode mc_F_product 130 = .ok (.lload_n 1, 1) := by decide +kernel
theorem md_F_product_131 : decode mc_F_product 131 = .ok (.lload_n 3, 1) := by decide +kernel
theorem md_F_product_132 : decode mc_F_product 132 = .ok (.invokevirtual 107, 3) := by decide +kernel
theorem md_F_product_135 : decode mc_F_product 135 = .ok (.lreturn, 1) := by decide +kernel
abbrev mc_F_finiteProduct : ByteArray := prog_2_method_23_code
def my_F_finiteProduct : MethodName := ⟨"NumberProbe$Format", "finiteProduct", "(ZJJ)J"⟩
abbrev mw_F_finiteProduct : List Cond := Cond.code my_F_finiteProduct mc_F_finiteProduct 17 (some .long) :: gw_tbl
theorem md_F_finiteProduct_0 : decode mc_F_finiteProduct 0 = .ok (.aload_n 0, 1) := by decide +kernel
theorem md_F_finiteProduct_1 : decode mc_F_finiteProduct 1 = .ok (.lload_n 2, 1) := by decide +kernel
theorem md_F_finiteProduct_2 : decode mc_F_finiteProduct 2 = .ok (.invokevirtual 96, 3) := by decide +kernel
theorem md_F_finiteProduct_5 : decode mc_F_finiteProduct 5 = .ok (.invokestatic 111, 3) := by decide +kernel
theorem md_F_finiteProduct_8 : decode mc_F_finiteProduct 8 = .ok (.istore 6, 2) := by decide +kernel
theorem md_F_finiteProduct_10 : decode mc_F_finiteProduct 10 = .ok (.aload_n 0, 1) := by decide +kernel
theorem md_F_finiteProduct_11 : decode mc_F_finiteProduct 11 = .ok (.lload 4, 2) := by decide +kernel
theorem md_F_finiteProduct_13 : decode mc_F_finiteProduct 13 = .ok (.invokevirtual 96, 3) := by decide +kernel
theorem md_F_finiteProduct_16 : decode mc_F_finiteProduct 16 = .ok (.invokestatic 111, 3) := by decide +kernel
theorem md_F_finiteProduct_19 : decode mc_F_finiteProduct 19 = .ok (.istore 7, 2) := by decide +kernel
theorem md_F_finiteProduct_21 : decode mc_F_finiteProduct 21 = .ok (.aload_n 0, 1) := by decide +kernel
theorem md_F_finiteProduct_22 : decode mc_F_finiteProduct 22 = .ok (.lload_n 2, 1) := by decide +kernel
theorem md_F_finiteProduct_23 : decode mc_F_finiteProduct 23 = .ok (.invokevirtual 96, 3) := by decide +kernel
theorem md_F_finiteProduct_26 : decode mc_F_finiteProduct 26 = .ok (.iload 6, 2) := by decide +kernel
theorem md_F_finiteProduct_28 : decode mc_F_finiteProduct 28 = .ok (.lshl, 1) := by decide +kernel
theorem md_F_finiteProduct_29 : decode mc_F_finiteProduct 29 = .ok (.lstore 8, 2) := by decide +kernel
theorem md_F_finiteProduct_31 : decode mc_F_finiteProduct 31 = .ok (.aload_n 0, 1) := by decide +kernel
theorem md_F_finiteProduct_32 : decode mc_F_finiteProduct 32 = .ok (.lload 4, 2) := by decide +kernel
theorem md_F_finiteProduct_34 : decode mc_F_finiteProduct 34 = .ok (.invokevirtual 96, 3) := by decide +kernel
theorem md_F_finiteProduct_37 : decode mc_F_finiteProduct 37 = .ok (.iload 7, 2) := by decide +kernel
theorem md_F_finiteProduct_39 : decode mc_F_finiteProduct 39 = .ok (.lshl, 1) := by decide +kernel
theorem md_F_finiteProduct_40 : decode mc_F_finiteProduct 40 = .ok (.lstore 10, 2) := by decide +kernel
theorem md_F_finiteProduct_42 : decode mc_F_finiteProduct 42 = .ok (.lconst 0, 1) := by decide +kernel
theorem md_F_finiteProduct_43 : decode mc_F_finiteProduct 43 = .ok (.lstore 12, 2) := by decide +kernel
theorem md_F_finiteProduct_45 : decode mc_F_finiteProduct 45 = .ok (.lconst 0, 1) := by decide +kernel
theorem md_F_finiteProduct_46 : decode mc_F_finiteProduct 46 = .ok (.lstore 14, 2) := by decide +kernel
theorem md_F_finiteProduct_48 : decode mc_F_finiteProduct 48 = .ok (.iconst 0, 1) := by decide +kernel
theorem md_F_finiteProduct_49 : decode mc_F_finiteProduct 49 = .ok (.istore 16, 2) := by decide +kernel
theorem md_F_finiteProduct_51 : decode mc_F_finiteProduct 51 = .ok (.iload 16, 2) := by decide +kernel
theorem md_F_finiteProduct_53 : decode mc_F_finiteProduct 53 = .ok (.bipush 6, 2) := by decide +kernel
theorem md_F_finiteProduct_55 : decode mc_F_finiteProduct 55 = .ok (.if_icmp .ge 38, 3) := by decide +kernel
theorem md_F_finiteProduct_58 : decode mc_F_finiteProduct 58 = .ok (.lload 14, 2) := by decide +kernel
theorem md_F_finiteProduct_60 : decode mc_F_finiteProduct 60 = .ok (.lload 12, 2) := by decide +kernel
theorem md_F_finiteProduct_62 : decode mc_F_finiteProduct 62 = .ok (.iconst 0, 1) := by decide +kernel
theorem md_F_finiteProduct_63 : decode mc_F_finiteProduct 63 = .ok (.invokestatic 114, 3) := by decide +kernel
theorem md_F_finiteProduct_66 : decode mc_F_finiteProduct 66 = .ok (.lor, 1) := by decide +kernel
theorem md_F_finiteProduct_67 : decode mc_F_finiteProduct 67 = .ok (.lstore 14, 2) := by decide +kernel
theorem md_F_finiteProduct_69 : decode mc_F_finiteProduct 69 = .ok (.lload 12, 2) := by decide +kernel
theorem md_F_finiteProduct_71 : decode mc_F_finiteProduct 71 = .ok (.bipush 10, 2) := by decide +kernel
theorem md_F_finiteProduct_73 : decode mc_F_finiteProduct 73 = .ok (.lushr, 1) := by decide +kernel
theorem md_F_finiteProduct_74 : decode mc_F_finiteProduct 74 = .ok (.lload 8, 2) := by decide +kernel
theorem md_F_finiteProduct_76 : decode mc_F_finiteProduct 76 = .ok (.lload 10, 2) := by decide +kernel
theorem md_F_finiteProduct_78 : decode mc_F_finiteProduct 78 = .ok (.iload 16, 2) := by decide +kernel
theorem md_F_finiteProduct_80 : decode mc_F_finiteProduct 80 = .ok (.invokestatic 114, 3) := by decide +kernel
theorem md_F_finiteProduct_83 : decode mc_F_finiteProduct 83 = .ok (.lmul, 1) := by decide +kernel
theorem md_F_finiteProduct_84 : decode mc_F_finiteProduct 84 = .ok (.ladd, 1) := by decide +kernel
theorem md_F_finiteProduct_85 : decode mc_F_finiteProduct 85 = .ok (.lstore 12, 2) := by decide +kernel
theorem md_F_finiteProduct_87 : decode mc_F_finiteProduct 87 = .ok (.iinc 16 1, 3) := by decide +kernel
theorem md_F_finiteProduct_90 : decode mc_F_finiteProduct 90 = .ok (.goto (-39), 3) := by decide +kernel
theorem md_F_finiteProduct_93 : decode mc_F_finiteProduct 93 = .ok (.aload_n 0, 1) := by decide +kernel
theorem md_F_finiteProduct_94 : decode mc_F_finiteProduct 94 = .ok (.lload_n 2, 1) := by decide +kernel
theorem md_F_finiteProduct_95 : decode mc_F_finiteProduct 95 = .ok (.invokevirtual 93, 3) := by decide +kernel
theorem md_F_finiteProduct_98 : decode mc_F_finiteProduct 98 = .ok (.iload 6, 2) := by decide +kernel
theorem md_F_finiteProduct_100 : decode mc_F_finiteProduct 100 = .ok (.isub, 1) := by decide +kernel
theorem md_F_finiteProduct_101 : decode mc_F_finiteProduct 101 = .ok (.aload_n 0, 1) := by decide +kernel
theorem md_F_finiteProduct_102 : decode mc_F_finiteProduct 102 = .ok (.lload 4, 2) := by decide +kernel
theorem md_F_finiteProduct_104 : decode mc_F_finiteProduct 104 = .ok (.invokevirtual 93, 3) := by decide +kernel
theorem md_F_finiteProduct_107 : decode mc_F_finiteProduct 107 = .ok (.iadd, 1) := by decide +kernel
theorem md_F_finiteProduct_108 : decode mc_F_finiteProduct 108 = .ok (.iload 7, 2) := by decide +kernel
theorem md_F_finiteProduct_110 : decode mc_F_finiteProduct 110 = .ok (.isub, 1) := by decide +kernel
theorem md_F_finiteProduct_111 : decode mc_F_finiteProduct 111 = .ok (.bipush 50, 2) := by decide +kernel
theorem md_F_finiteProduct_113 : decode mc_F_finiteProduct 113 = .ok (.iadd, 1) := by decide +kernel
theorem md_F_finiteProduct_114 : decode mc_F_finiteProduct 114 = .ok (.istore 16, 2) := by decide +kernel
theorem md_F_finiteProduct_116 : decode mc_F_finiteProduct 116 = .ok (.aload_n 0, 1) := by decide +kernel
theorem md_F_finiteProduct_117 : decode mc_F_finiteProduct 117 = .ok (.iload_n 1, 1) := by decide +kernel
theorem md_F_finiteProduct_118 : decode mc_F_finiteProduct 118 = .ok (.lload 12, 2) := by decide +kernel
theorem md_F_finiteProduct_120 : decode mc_F_finiteProduct 120 = .ok (.lload 14, 2) := by decide +kernel
theorem md_F_finiteProduct_122 : decode mc_F_finiteProduct 122 = .ok (.invokestatic 117, 3) := by decide +kernel
theorem md_F_finiteProduct_125 : decode mc_F_finiteProduct 125 = .ok (.iload 16, 2) := by decide +kernel
theorem md_F_finiteProduct_127 : decode mc_F_finiteProduct 127 = .ok (.invokevirtual 103, 3) := by decide +kernel
theorem md_F_finiteProduct_130 : decode mc_F_finiteProduct 130 = .ok (.lreturn, 1) := by decide +kernel
abbrev mc_F_quotient : ByteArray := prog_2_method_24_code
def my_F_quotient : MethodName := ⟨"NumberProbe$Format", "quotient", "(JJ)J"⟩
abbrev mw_F_quotient : List Cond := Cond.code my_F_quotient mc_F_quotient 6 (some .long) :: gw_tbl
theorem md_F_quotient_0 : decode mc_F_quotient 0 = .ok (.lload_n 1, 1) := by decide +kernel
theorem md_F_quotient_1 : decode mc_F_quotient 1 = .ok (.lconst 0, 1) := by decide +kernel
theorem md_F_quotient_2 : decode mc_F_quotient 2 = .ok (.lcmp, 1) := by decide +kernel
theorem md_F_quotient_3 : decode mc_F_quotient 3 = .ok (.ifCond .ge 7, 3) := by decide +kernel
theorem md_F_quotient_6 : decode mc_F_quotient 6 = .ok (.iconst 1, 1) := by decide +kernel
theorem md_F_quotient_7 : decode mc_F_quotient 7 = .ok (.goto 4, 3) := by decide +kernel
theorem md_F_quotient_10 : decode mc_F_quotient 10 = .ok (.iconst 0, 1) := by decide +kernel
theorem md_F_quotient_11 : decode mc_F_quotient 11 = .ok (.lload_n 3, 1) := by decide +kernel
theorem md_F_quotient_12 : decode mc_F_quotient 12 = .ok (.lconst 0, 1) := by decide +kernel
theorem md_F_quotient_13 : decode mc_F_quotient 13 = .ok (.lcmp, 1) := by decide +kernel
theorem md_F_quotient_14 : decode mc_F_quotient 14 = .ok (.ifCond .ge 7, 3) := by decide +kernel
theorem md_F_quotient_17 : decode mc_F_quotient 17 = .ok (.iconst 1, 1) := by decide +kernel
theorem md_F_quotient_18 : decode mc_F_quotient 18 = .ok (.goto 4, 3) := by decide +kernel
theorem md_F_quotient_21 : decode mc_F_quotient 21 = .ok (.iconst 0, 1) := by decide +kernel
theorem md_F_quotient_22 : decode mc_F_quotient 22 = .ok (.if_icmp .eq 7, 3) := by decide +kernel
theorem md_F_quotient_25 : decode mc_F_quotient 25 = .ok (.iconst 1, 1) := by decide +kernel
theorem md_F_quotient_26 : decode mc_F_quotient 26 = .ok (.goto 4, 3) := by decide +kernel
theorem md_F_quotient_29 : decode mc_F_quotient 29 = .ok (.iconst 0, 1) := by decide +kernel
theorem md_F_quotient_30 : decode mc_F_quotient 30 = .ok (.istore 5, 2) := by decide +kernel
theorem md_F_quotient_32 : decode mc_F_quotient 32 = .ok (.aload_n 0, 1) := by decide +kernel
theorem md_F_quotient_33 : decode mc_F_quotient 33 = .ok (.lload_n 1, 1) := by decide +kernel
theorem md_F_quotient_34 : decode mc_F_quotient 34 = .ok (.invokevirtual 49, 3) := by decide +kernel
theorem md_F_quotient_37 : decode mc_F_quotient 37 = .ok (.ifCond .ne 43, 3) := by decide +kernel
theorem md_F_quotient_40 : decode mc_F_quotient 40 = .ok (.aload_n 0, 1) := by decide +kernel
theorem md_F_quotient_41 : decode mc_F_quotient 41 = .ok (.lload_n 3, 1) := by decide +kernel
theorem md_F_quotient_42 : decode mc_F_quotient 42 = .ok (.invokevirtual 49, 3) := by decide +kernel
theorem md_F_quotient_45 : decode mc_F_quotient 45 = .ok (.ifCond .ne 35, 3) := by decide +kernel
theorem md_F_quotient_48 : decode mc_F_quotient 48 = .ok (.aload_n 0, 1) := by decide +kernel
theorem md_F_quotient_49 : decode mc_F_quotient 49 = .ok (.lload_n 1, 1) := by decide +kernel
theorem md_F_quotient_50 : decode mc_F_quotient 50 = .ok (.invokevirtual 86, 3) := by decide +kernel
theorem md_F_quotient_53 : decode mc_F_quotient 53 = .ok (.ifCond .eq 11, 3) := by decide +kernel
theorem md_F_quotient_56 : decode mc_F_quotient 56 = .ok (.aload_n 0, 1) := by decide +kernel
theorem md_F_quotient_57 : decode mc_F_quotient 57 = .ok (.lload_n 3, 1) := by decide +kernel
theorem md_F_quotient_58 : decode mc_F_quotient 58 = .ok (.invokevirtual 86, 3) := by decide +kernel
theorem md_F_quotient_61 : decode mc_F_quotient 61 = .ok (.ifCond .ne 19, 3) := by decide +kernel
theorem md_F_quotient_64 : decode mc_F_quotient 64 = .ok (.aload_n 0, 1) := by decide +kernel
theorem md_F_quotient_65 : decode mc_F_quotient 65 = .ok (.lload_n 1, 1) := by decide +kernel
theorem md_F_quotient_66 : decode mc_F_quotient 66 = .ok (.invokevirtual 80, 3) := by decide +kernel
theorem md_F_quotient_69 : decode mc_F_quotient 69 = .ok (.ifCond .eq 16, 3) := by decide +kernel
theorem md_F_quotient_72 : decode mc_F_quotient 72 = .ok (.aload_n 0, 1) := by decide +kernel
theorem md_F_quotient_73 : decode mc_F_quotient 73 = .ok (.lload_n 3, 1) := by decide +kernel
theorem md_F_quotient_74 : decode mc_F_quotient 74 = .ok (.invokevirtual 80, 3) := by decide +kernel
theorem md_F_quotient_77 : decode mc_F_quotient 77 = .ok (.ifCond .eq 8, 3) := by decide +kernel
theorem md_F_quotient_80 : decode mc_F_quotient 80 = .ok (.aload_n 0, 1) := by decide +kernel
theorem md_F_quotient_81 : decode mc_F_quotient 81 = .ok (.getfield 46, 3) := by decide +kernel
theorem md_F_quotient_84 : decode mc_F_quotient 84 = .ok (.lreturn, 1) := by decide +kernel
theorem md_F_quotient_85 : decode mc_F_quotient 85 = .ok (.aload_n 0, 1) := by decide +kernel
theorem md_F_quotient_86 : decode mc_F_quotient 86 = .ok (.lload_n 1, 1) := by decide +kernel
theorem md_F_quotient_87 : decode mc_F_quotient 87 = .ok (.invokevirtual 86, 3) := by decide +kernel
theorem md_F_quotient_90 : decode mc_F_quotient 90 = .ok (.ifCond .ne 11, 3) := by decide +kernel
theorem md_F_quotient_93 : decode mc_F_quotient 93 = .ok (.aload_n 0, 1) := by decide +kernel
theorem md_F_quotient_94 : decode mc_F_quotient 94 = .ok (.lload_n 3, 1) := by decide +kernel
theorem md_F_quotient_95 : decode mc_F_quotient 95 = .ok (.invokevirtual 80, 3) := by decide +kernel
theorem md_F_quotient_98 : decode mc_F_quotient 98 = .ok (.ifCond .eq 14, 3) := by decide +kernel
theorem md_F_quotient_101 : decode mc_F_quotient 101 = .ok (.aload_n 0, 1) := by decide +kernel
theorem md_F_quotient_102 : decode mc_F_quotient 102 = .ok (.iload 5, 2) := by decide +kernel
theorem md_F_quotient_104 : decode mc_F_quotient 104 = .ok (.aload_n 0, 1) := by decide +kernel
theorem md_F_quotient_105 : decode mc_F_quotient 105 = .ok (.getfield 43, 3) := by decide +kernel
theorem md_F_quotient_108 : decode mc_F_quotient 108 = .ok (.invokevirtual 57, 3) := by decide +kernel
theorem md_F_quotient_111 : decode mc_F_quotient 111 = .ok (.lreturn, 1) := by decide +kernel
theorem md_F_quotient_112 : decode mc_F_quotient 112 = .ok (.aload_n 0, 1) := by decide +kernel
theorem md_F_quotient_113 : decode mc_F_quotient 113 = .ok (.lload_n 1, 1) := by decide +kernel
theorem md_F_quotient_114 : decode mc_F_quotient 114 = .ok (.invokevirtual 80, 3) := by decide +kernel
theorem md_F_quotient_117 : decode mc_F_quotient 117 = .ok (.ifCond .ne 11, 3) := by decide +kernel
theorem md_F_quotient_120 : decode mc_F_quotient 120 = .ok (.aload_n 0, 1) := by decide +kernel
theorem md_F_quotient_121 : decode mc_F_quotient 121 = .ok (.lload_n 3, 1) := by decide +kernel
theorem md_F_quotient_122 : decode mc_F_quotient 122 = .ok (.invokevirtual 86, 3) := by decide +kernel
theorem md_F_quotient_125 : decode mc_F_quotient 125 = .ok (.ifCond .eq 11, 3) := by decide +kernel
theorem md_F_quotient_128 : decode mc_F_quotient 128 = .ok (.aload_n 0, 1) := by decide +kernel
theorem md_F_quotient_129 : decode mc_F_quotient 129 = .ok (.iload 5, 2) := by decide +kernel
theorem md_F_quotient_131 : decode mc_F_quotient 131 = .ok (.lconst 0, 1) := by decide +kernel
theorem md_F_quotient_132 : decode mc_F_quotient 132 = .ok (.invokevirtual 57, 3) := by decide +kernel
theorem md_F_quotient_135 : decode mc_F_quotient 135 = .ok (.lreturn, 1) := by decide +kernel
theorem md_F_quotient_136 : decode mc_F_quotient 136 = .ok (.aload_n 0, 1) := by decide +kernel
theorem md_F_quotient_137 : decode mc_F_quotient 137 = .ok (.iload 5, 2) := by decide +kernel
theorem md_F_quotient_139 : decode mc_F_quotient 139 = .ok (.lload_n 1, 1) := by decide +kernel
theorem md_F_quotient_140 : decode mc_F_quotient 140 = .ok (.lload_n 3, 1) := by decide +kernel
theorem md_F_quotient_141 : decode mc_F_quotient 141 = .ok (.invokevirtual 120, 3) := by decide +kernel
theorem md_F_quotient_144 : decode mc_F_quotient 144 = .ok (.lreturn, 1) := by decide +kernel
abbrev mc_F_finiteQuotient : ByteArray := prog_2_method_25_code
def my_F_finiteQuotient : MethodName := ⟨"NumberProbe$Format", "finiteQuotient", "(ZJJ)J"⟩
abbrev mw_F_finiteQuotient : List Cond := Cond.code my_F_finiteQuotient mc_F_finiteQuotient 17 (some .long) :: gw_tbl
theorem md_F_finiteQuotient_0 : decode mc_F_finiteQuotient 0 = .ok (.aload_n 0, 1) := by decide +kernel
theorem md_F_finiteQuotient_1 : decode mc_F_finiteQuotient 1 = .ok (.lload_n 2, 1) := by decide +kernel
theorem md_F_finiteQuotient_2 : decode mc_F_finiteQuotient 2 = .ok (.invokevirtual 96, 3) := by decide +kernel
theorem md_F_finiteQuotient_5 : decode mc_F_finiteQuotient 5 = .ok (.invokestatic 111, 3) := by decide +kernel
theorem md_F_finiteQuotient_8 : decode mc_F_finiteQuotient 8 = .ok (.istore 6, 2) := by decide +kernel
theorem md_F_finiteQuotient_10 : decode mc_F_finiteQuotient 10 = .ok (.aload_n 0, 1) := by decide +kernel
theorem md_F_finiteQuotient_11 : decode mc_F_finiteQuotient 11 = .ok (.lload 4, 2) := by decide +kernel
theorem md_F_finiteQuotient_13 : decode mc_F_finiteQuotient 13 = .ok (.invokevirtual 96, 3) := by decide +kernel
theorem md_F_finiteQuotient_16 : decode mc_F_finiteQuotient 16 = .ok (.invokestatic 111, 3) := by decide +kernel
theorem md_F_finiteQuotient_19 : decode mc_F_finiteQuotient 19 = .ok (.istore 7, 2) := by decide +kernel
theorem md_F_finiteQuotient_21 : decode mc_F_finiteQuotient 21 = .ok (.aload_n 0, 1) := by decide +kernel
theorem md_F_finiteQuotient_22 : decode mc_F_finiteQuotient 22 = .ok (.lload_n 2, 1) := by decide +kernel
theorem md_F_finiteQuotient_23 : decode mc_F_finiteQuotient 23 = .ok (.invokevirtual 96, 3) := by decide +kernel
theorem md_F_finiteQuotient_26 : decode mc_F_finiteQuotient 26 = .ok (.iload 6, 2) := by decide +kernel
theorem md_F_finiteQuotient_28 : decode mc_F_finiteQuotient 28 = .ok (.lshl, 1) := by decide +kernel
theorem md_F_finiteQuotient_29 : decode mc_F_finiteQuotient 29 = .ok (.lstore 8, 2) := by decide +kernel
theorem md_F_finiteQuotient_31 : decode mc_F_finiteQuotient 31 = .ok (.aload_n 0, 1) := by decide +kernel
theorem md_F_finiteQuotient_32 : decode mc_F_finiteQuotient 32 = .ok (.lload 4, 2) := by decide +kernel
theorem md_F_finiteQuotient_34 : decode mc_F_finiteQuotient 34 = .ok (.invokevirtual 96, 3) := by decide +kernel
theorem md_F_finiteQuotient_37 : decode mc_F_finiteQuotient 37 = .ok (.iload 7, 2) := by decide +kernel
theorem md_F_finiteQuotient_39 : decode mc_F_finiteQuotient 39 = .ok (.lshl, 1) := by decide +kernel
theorem md_F_finiteQuotient_40 : decode mc_F_finiteQuotient 40 = .ok (.lstore 10, 2) := by decide +kernel
theorem md_F_finiteQuotient_42 : decode mc_F_finiteQuotient 42 = .ok (.lload 8, 2) := by decide +kernel
theorem md_F_finiteQuotient_44 : decode mc_F_finiteQuotient 44 = .ok (.lload 10, 2) := by decide +kernel
theorem md_F_finiteQuotient_46 : decode mc_F_finiteQuotient 46 = .ok (.ldiv, 1) := by decide +kernel
theorem md_F_finiteQuotient_47 : decode mc_F_finiteQuotient 47 = .ok (.lstore 12, 2) := by decide +kernel
theorem md_F_finiteQuotient_49 : decode mc_F_finiteQuotient 49 = .ok (.lload 8, 2) := by decide +kernel
theorem md_F_finiteQuotient_51 : decode mc_F_finiteQuotient 51 = .ok (.lload 10, 2) := by decide +kernel
theorem md_F_finiteQuotient_53 : decode mc_F_finiteQuotient 53 = .ok (.lrem, 1) := by decide +kernel
theorem md_F_finiteQuotient_54 : decode mc_F_finiteQuotient 54 = .ok (.lstore 14, 2) := by decide +kernel
theorem md_F_finiteQuotient_56 : decode mc_F_finiteQuotient 56 = .ok (.iconst 0, 1) := by decide +kernel
theorem md_F_finiteQuotient_57 : decode mc_F_finiteQuotient 57 = .ok (.istore 16, 2) := by decide +kernel
theorem md_F_finiteQuotient_59 : decode mc_F_finiteQuotient 59 = .ok (.iload 16, 2) := by decide +kernel
theorem md_F_finiteQuotient_61 : decode mc_F_finiteQuotient 61 = .ok (.bipush 6, 2) := by decide +kernel
theorem md_F_finiteQuotient_63 : decode mc_F_finiteQuotient 63 = .ok (.if_icmp .ge 36, 3) := by decide +kernel
theorem md_F_finiteQuotient_66 : decode mc_F_finiteQuotient 66 = .ok (.lload 14, 2) := by decide +kernel
theorem md_F_finiteQuotient_68 : decode mc_F_finiteQuotient 68 = .ok (.bipush 10, 2) := by decide +kernel
theorem md_F_finiteQuotient_70 : decode mc_F_finiteQuotient 70 = .ok (.lshl, 1) := by decide +kernel
theorem md_F_finiteQuotient_71 : decode mc_F_finiteQuotient 71 = .ok (.lstore 14, 2) := by decide +kernel
theorem md_F_finiteQuotient_73 : decode mc_F_finiteQuotient 73 = .ok (.lload 12, 2) := by decide +kernel
theorem md_F_finiteQuotient_75 : decode mc_F_finiteQuotient 75 = .ok (.bipush 10, 2) := by decide +kernel
theorem md_F_finiteQuotient_77 : decode mc_F_finiteQuotient 77 = .ok (.lshl, 1) := by decide +kernel
theorem md_F_finiteQuotient_78 : decode mc_F_finiteQuotient 78 = .ok (.lload 14, 2) := by decide +kernel
theorem md_F_finiteQuotient_80 : decode mc_F_finiteQuotient 80 = .ok (.lload 10, 2) := by decide +kernel
theorem md_F_finiteQuotient_82 : decode mc_F_finiteQuotient 82 = .ok (.ldiv, 1) := by decide +kernel
theorem md_F_finiteQuotient_83 : decode mc_F_finiteQuotient 83 = .ok (.ladd, 1) := by decide +kernel
theorem md_F_finiteQuotient_84 : decode mc_F_finiteQuotient 84 = .ok (.lstore 12, 2) := by decide +kernel
theorem md_F_finiteQuotient_86 : decode mc_F_finiteQuotient 86 = .ok (.lload 14, 2) := by decide +kernel
theorem md_F_finiteQuotient_88 : decode mc_F_finiteQuotient 88 = .ok (.lload 10, 2) := by decide +kernel
theorem md_F_finiteQuotient_90 : decode mc_F_finiteQuotient 90 = .ok (.lrem, 1) := by decide +kernel
theorem md_F_finiteQuotient_91 : decode mc_F_finiteQuotient 91 = .ok (.lstore 14, 2) := by decide +kernel
theorem md_F_finiteQuotient_93 : decode mc_F_finiteQuotient 93 = .ok (.iinc 16 1, 3) := by decide +kernel
theorem md_F_finiteQuotient_96 : decode mc_F_finiteQuotient 96 = .ok (.goto (-37), 3) := by decide +kernel
theorem md_F_finiteQuotient_99 : decode mc_F_finiteQuotient 99 = .ok (.aload_n 0, 1) := by decide +kernel
theorem md_F_finiteQuotient_100 : decode mc_F_finiteQuotient 100 = .ok (.lload_n 2, 1) := by decide +kernel
theorem md_F_finiteQuotient_101 : decode mc_F_finiteQuotient 101 = .ok (.invokevirtual 93, 3) := by decide +kernel
theorem md_F_finiteQuotient_104 : decode mc_F_finiteQuotient 104 = .ok (.iload 6, 2) := by decide +kernel
theorem md_F_finiteQuotient_106 : decode mc_F_finiteQuotient 106 = .ok (.isub, 1) := by decide +kernel
theorem md_F_finiteQuotient_107 : decode mc_F_finiteQuotient 107 = .ok (.aload_n 0, 1) := by decide +kernel
theorem md_F_finiteQuotient_108 : decode mc_F_finiteQuotient 108 = .ok (.lload 4, 2) := by decide +kernel
theorem md_F_finiteQuotient_110 : decode mc_F_finiteQuotient 110 = .ok (.invokevirtual 93, 3) := by decide +kernel
theorem md_F_finiteQuotient_113 : decode mc_F_finiteQuotient 113 = .ok (.isub, 1) := by decide +kernel
theorem md_F_finiteQuotient_114 : decode mc_F_finiteQuotient 114 = .ok (.iload 7, 2) := by decide +kernel
theorem md_F_finiteQuotient_116 : decode mc_F_finiteQuotient 116 = .ok (.iadd, 1) := by decide +kernel
theorem md_F_finiteQuotient_117 : decode mc_F_finiteQuotient 117 = .ok (.bipush 60, 2) := by decide +kernel
theorem md_F_finiteQuotient_119 : decode mc_F_finiteQuotient 119 = .ok (.isub, 1) := by decide +kernel
theorem md_F_finiteQuotient_120 : decode mc_F_finiteQuotient 120 = .ok (.istore 16, 2) := by decide +kernel
theorem md_F_finiteQuotient_122 : decode mc_F_finiteQuotient 122 = .ok (.aload_n 0, 1) := by decide +kernel
theorem md_F_finiteQuotient_123 : decode mc_F_finiteQuotient 123 = .ok (.iload_n 1, 1) := by decide +kernel
theorem md_F_finiteQuotient_124 : decode mc_F_finiteQuotient 124 = .ok (.lload 12, 2) := by decide +kernel
theorem md_F_finiteQuotient_126 : decode mc_F_finiteQuotient 126 = .ok (.lload 14, 2) := by decide +kernel
theorem md_F_finiteQuotient_128 : decode mc_F_finiteQuotient 128 = .ok (.invokestatic 117, 3) := by decide +kernel
theorem md_F_finiteQuotient_131 : decode mc_F_finiteQuotient 131 = .ok (.iload 16, 2) := by decide +kernel
theorem md_F_finiteQuotient_133 : decode mc_F_finiteQuotient 133 = .ok (.invokevirtual 103, 3) := by decide +kernel
theorem md_F_finiteQuotient_136 : decode mc_F_finiteQuotient 136 = .ok (.lreturn, 1) := by decide +kernel
abbrev mc_F_remainder : ByteArray := prog_2_method_26_code
def my_F_remainder : MethodName := ⟨"NumberProbe$Format", "remainder", "(JJ)J"⟩
abbrev mw_F_remainder : List Cond := Cond.code my_F_remainder mc_F_remainder 10 (some .long) :: gw_tbl
theorem md_F_remainder_0 : decode mc_F_remainder 0 = .ok (.aload_n 0, 1) := by decide +kernel
theorem md_F_remainder_1 : decode mc_F_remainder 1 = .ok (.lload_n 1, 1) := by decide +kernel
theorem md_F_remainder_2 : decode mc_F_remainder 2 = .ok (.invokevirtual 49, 3) := by decide +kernel
theorem md_F_remainder_5 : decode mc_F_remainder 5 = .ok (.ifCond .ne 27, 3) := by decide +kernel
theorem md_F_remainder_8 : decode mc_F_remainder 8 = .ok (.aload_n 0, 1) := by decide +kernel
theorem md_F_remainder_9 : decode mc_F_remainder 9 = .ok (.lload_n 3, 1) := by decide +kernel
theorem md_F_remainder_10 : decode mc_F_remainder 10 = .ok (.invokevirtual 49, 3) := by decide +kernel
theorem md_F_remainder_13 : decode mc_F_remainder 13 = .ok (.ifCond .ne 19, 3) := by decide +kernel
theorem md_F_remainder_16 : decode mc_F_remainder 16 = .ok (.aload_n 0, 1) := by decide +kernel
theorem md_F_remainder_17 : decode mc_F_remainder 17 = .ok (.lload_n 1, 1) := by decide +kernel
theorem md_F_remainder_18 : decode mc_F_remainder 18 = .ok (.invokevirtual 86, 3) := by decide +kernel
theorem md_F_remainder_21 : decode mc_F_remainder 21 = .ok (.ifCond .ne 11, 3) := by decide +kernel
theorem md_F_remainder_24 : decode mc_F_remainder 24 = .ok (.aload_n 0, 1) := by decide +kernel
theorem md_F_remainder_25 : decode mc_F_remainder 25 = .ok (.lload_n 3, 1) := by decide +kernel
theorem md_F_remainder_26 : decode mc_F_remainder 26 = .ok (.invokevirtual 80, 3) := by decide +kernel
theorem md_F_remainder_29 : decode mc_F_remainder 29 = .ok (.ifCond .eq 8, 3) := by decide +kernel
theorem md_F_remainder_32 : decode mc_F_remainder 32 = .ok (.aload_n 0, 1) := by decide +kernel
theorem md_F_remainder_33 : decode mc_F_remainder 33 = .ok (.getfield 46, 3) := by decide +kernel
theorem md_F_remainder_36 : decode mc_F_remainder 36 = .ok (.lreturn, 1) := by decide +kernel
theorem md_F_remainder_37 : decode mc_F_remainder 37 = .ok (.aload_n 0, 1) := by decide +kernel
theorem md_F_remainder_38 : decode mc_F_remainder 38 = .ok (.lload_n 1, 1) := by decide +kernel
theorem md_F_remainder_39 : decode mc_F_remainder 39 = .ok (.invokevirtual 53, 3) := by decide +kernel
theorem md_F_remainder_42 : decode mc_F_remainder 42 = .ok (.aload_n 0, 1) := by decide +kernel
theorem md_F_remainder_43 : decode mc_F_remainder 43 = .ok (.lload_n 3, 1) := by decide +kernel
theorem md_F_remainder_44 : decode mc_F_remainder 44 = .ok (.invokevirtual 53, 3) := by decide +kernel
theorem md_F_remainder_47 : decode mc_F_remainder 47 = .ok (.lcmp, 1) := by decide +kernel
theorem md_F_remainder_48 : decode mc_F_remainder 48 = .ok (.ifCond .ge 5, 3) := by decide +kernel
theorem md_F_remainder_51 : decode mc_F_remainder 51 = .ok (.lload_n 1, 1) := by decide +kernel
theorem md_F_remainder_52 : decode mc_F_remainder 52 = .ok (.lreturn, 1) := by decide +kernel
theorem md_F_remainder_53 : decode mc_F_remainder 53 = .ok (.aload_n 0, 1) := by decide +kernel
theorem md_F_remainder_54 : decode mc_F_remainder 54 = .ok (.lload_n 3, 1) := by decide +kernel
theorem md_F_remainder_55 : decode mc_F_remainder 55 = .ok (.invokevirtual 96, 3) := by decide +kernel
theorem md_F_remainder_58 : decode mc_F_remainder 58 = .ok (.lstore 5, 2) := by decide +kernel
theorem md_F_remainder_60 : decode mc_F_remainder 60 = .ok (.aload_n 0, 1) := by decide +kernel
theorem md_F_remainder_61 : decode mc_F_remainder 61 = .ok (.lload_n 1, 1) := by decide +kernel
theorem md_F_remainder_62 : decode mc_F_remainder 62 = .ok (.invokevirtual 96, 3) := by decide +kernel
theorem md_F_remainder_65 : decode mc_F_remainder 65 = .ok (.lload 5, 2) := by decide +kernel
theorem md_F_remainder_67 : decode mc_F_remainder 67 = .ok (.lrem, 1) := by decide +kernel
theorem md_F_remainder_68 : decode mc_F_remainder 68 = .ok (.lstore 7, 2) := by decide +kernel
theorem md_F_remainder_70 : decode mc_F_remainder 70 = .ok (.aload_n 0, 1) := by decide +kernel
theorem md_F_remainder_71 : decode mc_F_remainder 71 = .ok (.lload_n 1, 1) := by decide +kernel
theorem md_F_remainder_72 : decode mc_F_remainder 72 = .ok (.invokevirtual 93, 3) := by decide +kernel
theorem md_F_remainder_75 : decode mc_F_remainder 75 = .ok (.aload_n 0, 1) := by decide +kernel
theorem md_F_remainder_76 : decode mc_F_remainder 76 = .ok (.lload_n 3, 1) := by decide +kernel
theorem md_F_remainder_77 : decode mc_F_remainder 77 = .ok (.invokevirtual 93, 3) := by decide +kernel
theorem md_F_remainder_80 : decode mc_F_remainder 80 = .ok (.isub, 1) := by decide +kernel
theorem md_F_remainder_81 : decode mc_F_remainder 81 = .ok (.istore 9, 2) := by decide +kernel
theorem md_F_remainder_83 : decode mc_F_remainder 83 = .ok (.iload 9, 2) := by decide +kernel
theorem md_F_remainder_85 : decode mc_F_remainder 85 = .ok (.ifCond .le 24, 3) := by decide +kernel
theorem md_F_remainder_88 : decode mc_F_remainder 88 = .ok (.lload 7, 2) := by decide +kernel
theorem md_F_remainder_90 : decode mc_F_remainder 90 = .ok (.iload 9, 2) := by decide +kernel
theorem md_F_remainder_92 : decode mc_F_remainder 92 = .ok (.bipush 10, 2) := by decide +kernel
theorem md_F_remainder_94 : decode mc_F_remainder 94 = .ok (.invokestatic 123, 3) := by decide +kernel
theorem md_F_remainder_97 : decode mc_F_remainder 97 = .ok (.lshl, 1) := by decide +kernel
theorem md_F_remainder_98 : decode mc_F_remainder 98 = .ok (.lload 5, 2) := by decide +kernel
theorem md_F_remainder_100 : decode mc_F_remainder 100 = .ok (.lrem, 1) := by decide +kernel
theorem md_F_remainder_101 : decode mc_F_remainder 101 = .ok (.lstore 7, 2) := by decide +kernel
theorem md_F_remainder_103 : decode mc_F_remainder 103 = .ok (.iinc 9 (-10), 3) := by decide +kernel
theorem md_F_remainder_106 : decode mc_F_remainder 106 = .ok (.goto (-23), 3) := by decide +kernel
theorem md_F_remainder_109 : decode mc_F_remainder 109 = .ok (.aload_n 0, 1) := by decide +kernel
theorem md_F_remainder_110 : decode mc_F_remainder 110 = .ok (.lload_n 1, 1) := by decide +kernel
theorem md_F_remainder_111 : decode mc_F_remainder 111 = .ok (.lconst 0, 1) := by decide +kernel
theorem md_F_remainder_112 : decode mc_F_remainder 112 = .ok (.lcmp, 1) := by decide +kernel
theorem md_F_remainder_113 : decode mc_F_remainder 113 = .ok (.ifCond .ge 7, 3) := by decide +kernel
theorem md_F_remainder_116 : decode mc_F_remainder 116 = .ok (.iconst 1, 1) := by decide +kernel
theorem md_F_remainder_117 : decode mc_F_remainder 117 = .ok (.goto 4, 3) := by decide +kernel
theorem md_F_remainder_120 : decode mc_F_remainder 120 = .ok (.iconst 0, 1) := by decide +kernel
theorem md_F_remainder_121 : decode mc_F_remainder 121 = .ok (.lload 7, 2) := by decide +kernel
theorem md_F_remainder_123 : decode mc_F_remainder 123 = .ok (.aload_n 0, 1) := by decide +kernel
theorem md_F_remainder_124 : decode mc_F_remainder 124 = .ok (.lload_n 3, 1) := by decide +kernel
theorem md_F_remainder_125 : decode mc_F_remainder 125 = .ok (.invokevirtual 93, 3) := by decide +kernel
theorem md_F_remainder_128 : decode mc_F_remainder 128 = .ok (.invokevirtual 103, 3) := by decide +kernel
theorem md_F_remainder_131 : decode mc_F_remainder 131 = .ok (.lreturn, 1) := by decide +kernel
abbrev mc_F_nearestTo : ByteArray := prog_2_method_27_code
def my_F_nearestTo : MethodName := ⟨"NumberProbe$Format", "nearestTo", "(LNumberProbe$Format;J)J"⟩
abbrev mw_F_nearestTo : List Cond := Cond.code my_F_nearestTo mc_F_nearestTo 4 (some .long) :: gw_tbl
theorem md_F_nearestTo_0 : decode mc_F_nearestTo 0 = .ok (.aload_n 1, 1) := by decide +kernel
theorem md_F_nearestTo_1 : decode mc_F_nearestTo 1 = .ok (.lload_n 2, 1) := by decide +kernel
theorem md_F_nearestTo_2 : decode mc_F_nearestTo 2 = .ok (.invokevirtual 49, 3) := by decide +kernel
theorem md_F_nearestTo_5 : decode mc_F_nearestTo 5 = .ok (.ifCond .eq 8, 3) := by decide +kernel
theorem md_F_nearestTo_8 : decode mc_F_nearestTo 8 = .ok (.aload_n 0, 1) := by decide +kernel
theorem md_F_nearestTo_9 : decode mc_F_nearestTo 9 = .ok (.getfield 46, 3) := by decide +kernel
theorem md_F_nearestTo_12 : decode mc_F_nearestTo 12 = .ok (.lreturn, 1) := by decide +kernel
theorem md_F_nearestTo_13 : decode mc_F_nearestTo 13 = .ok (.aload_n 1, 1) := by decide +kernel
theorem md_F_nearestTo_14 : decode mc_F_nearestTo 14 = .ok (.lload_n 2, 1) := by decide +kernel
theorem md_F_nearestTo_15 : decode mc_F_nearestTo 15 = .ok (.invokevirtual 86, 3) := by decide +kernel
theorem md_F_nearestTo_18 : decode mc_F_nearestTo 18 = .ok (.ifCond .eq 23, 3) := by decide +kernel
theorem md_F_nearestTo_21 : decode mc_F_nearestTo 21 = .ok (.aload_n 0, 1) := by decide +kernel
theorem md_F_nearestTo_22 : decode mc_F_nearestTo 22 = .ok (.lload_n 2, 1) := by decide +kernel
theorem md_F_nearestTo_23 : decode mc_F_nearestTo 23 = .ok (.lconst 0, 1) := by decide +kernel
theorem md_F_nearestTo_24 : decode mc_F_nearestTo 24 = .ok (.lcmp, 1) := by decide +kernel
theorem md_F_nearestTo_25 : decode mc_F_nearestTo 25 = .ok (.ifCond .ge 7, 3) := by decide +kernel
theorem md_F_nearestTo_28 : decode mc_F_nearestTo 28 = .ok (.iconst 1, 1) := by decide +kernel
theorem md_F_nearestTo_29 : decode mc_F_nearestTo 29 = .ok (.goto 4, 3) := by decide +kernel
theorem md_F_nearestTo_32 : decode mc_F_nearestTo 32 = .ok (.iconst 0, 1) := by decide +kernel
theorem md_F_nearestTo_33 : decode mc_F_nearestTo 33 = .ok (.aload_n 0, 1) := by decide +kernel
theorem md_F_nearestTo_34 : decode mc_F_nearestTo 34 = .ok (.getfield 43, 3) := by decide +kernel
theorem md_F_nearestTo_37 : decode mc_F_nearestTo 37 = .ok (.invokevirtual 57, 3) := by decide +kernel
theorem md_F_nearestTo_40 : decode mc_F_nearestTo 40 = .ok (.lreturn, 1) := by decide +kernel
theorem md_F_nearestTo_41 : decode mc_F_nearestTo 41 = .ok (.aload_n 0, 1) := by decide +kernel
theorem md_F_nearestTo_42 : decode mc_F_nearestTo 42 = .ok (.lload_n 2, 1) := by decide +kernel
theorem md_F_nearestTo_43 : decode mc_F_nearestTo 43 = .ok (.lconst 0, 1) := by decide +kernel
theorem md_F_nearestTo_44 : decode mc_F_nearestTo 44 = .ok (.lcmp, 1) := by decide +kernel
theorem md_F_nearestTo_45 : decode mc_F_nearestTo 45 = .ok (.ifCond .ge 7, 3) := by decide +kernel
theorem md_F_nearestTo_48 : decode mc_F_nearestTo 48 = .ok (.iconst 1, 1) := by decide +kernel
theorem md_F_nearestTo_49 : decode mc_F_nearestTo 49 = .ok (.goto 4, 3) := by decide +kernel
theorem md_F_nearestTo_52 : decode mc_F_nearestTo 52 = .ok (.iconst 0, 1) := by decide +kernel
theorem md_F_nearestTo_53 : decode mc_F_nearestTo 53 = .ok (.aload_n 1, 1) := by decide +kernel
theorem md_F_nearestTo_54 : decode mc_F_nearestTo 54 = .ok (.lload_n 2, 1) := by decide +kernel
theorem md_F_nearestTo_55 : decode mc_F_nearestTo 55 = .ok (.invokevirtual 96, 3) := by decide +kernel
theorem md_F_nearestTo_58 : decode mc_F_nearestTo 58 = .ok (.aload_n 1, 1) := by decide +kernel
theorem md_F_nearestTo_59 : decode mc_F_nearestTo 59 = .ok (.lload_n 2, 1) := by decide +kernel
theorem md_F_nearestTo_60 : decode mc_F_nearestTo 60 = .ok (.invokevirtual 93, 3) := by decide +kernel
theorem md_F_nearestTo_63 : decode mc_F_nearestTo 63 = .ok (.invokevirtual 103, 3) := by decide +kernel
theorem md_F_nearestTo_66 : decode mc_F_nearestTo 66 = .ok (.lreturn, 1) := by decide +kernel
abbrev mc_F_nearestToWhole : ByteArray := prog_2_method_28_code
def my_F_nearestToWhole : MethodName := ⟨"NumberProbe$Format", "nearestToWhole", "(J)J"⟩
abbrev mw_F_nearestToWhole : List Cond := Cond.code my_F_nearestToWhole mc_F_nearestToWhole 5 (some .long) :: gw_tbl
theorem md_F_nearestToWhole_0 : decode mc_F_nearestToWhole 0 = .ok (.lload_n 1, 1) := by decide +kernel
theorem md_F_nearestToWhole_1 : decode mc_F_nearestToWhole 1 = .ok (.lconst 0, 1) := by decide +kernel
theorem md_F_nearestToWhole_2 : decode mc_F_nearestToWhole 2 = .ok (.lcmp, 1) := by decide +kernel
theorem md_F_nearestToWhole_3 : decode mc_F_nearestToWhole 3 = .ok (.ifCond .ge 8, 3) := by decide +kernel
theorem md_F_nearestToWhole_6 : decode mc_F_nearestToWhole 6 = .ok (.lload_n 1, 1) := by decide +kernel
theorem md_F_nearestToWhole_7 : decode mc_F_nearestToWhole 7 = .ok (.lneg, 1) := by decide +kernel
theorem md_F_nearestToWhole_8 : decode mc_F_nearestToWhole 8 = .ok (.goto 4, 3) := by decide +kernel
theorem md_F_nearestToWhole_11 : decode mc_F_nearestToWhole 11 = .ok (.lload_n 1, 1) := by decide +kernel
theorem md_F_nearestToWhole_12 : decode mc_F_nearestToWhole 12 = .ok (.lstore_n 3, 1) := by decide +kernel
theorem md_F_nearestToWhole_13 : decode mc_F_nearestToWhole 13 = .ok (.lload_n 3, 1) := by decide +kernel
theorem md_F_nearestToWhole_14 : decode mc_F_nearestToWhole 14 = .ok (.lconst 0, 1) := by decide +kernel
theorem md_F_nearestToWhole_15 : decode mc_F_nearestToWhole 15 = .ok (.lcmp, 1) := by decide +kernel
theorem md_F_nearestToWhole_16 : decode mc_F_nearestToWhole 16 = .ok (.ifCond .ge 15, 3) := by decide +kernel
theorem md_F_nearestToWhole_19 : decode mc_F_nearestToWhole 19 = .ok (.aload_n 0, 1) := by decide +kernel
theorem md_F_nearestToWhole_20 : decode mc_F_nearestToWhole 20 = .ok (.iconst 1, 1) := by decide +kernel
theorem md_F_nearestToWhole_21 : decode mc_F_nearestToWhole 21 = .ok (.lload_n 3, 1) := by decide +kernel
theorem md_F_nearestToWhole_22 : decode mc_F_nearestToWhole 22 = .ok (.iconst 1, 1) := by decide +kernel
theorem md_F_nearestToWhole_23 : decode mc_F_nearestToWhole 23 = .ok (.lushr, 1) := by decide +kernel
theorem md_F_nearestToWhole_24 : decode mc_F_nearestToWhole 24 = .ok (.iconst 1, 1) := by decide +kernel
theorem md_F_nearestToWhole_25 : decode mc_F_nearestToWhole 25 = .ok (.invokevirtual 103, 3) := by decide +kernel
theorem md_F_nearestToWhole_28 : decode mc_F_nearestToWhole 28 = .ok (.goto 20, 3) := by decide +kernel
theorem md_F_nearestToWhole_31 : decode mc_F_nearestToWhole 31 = .ok (.aload_n 0, 1) := by decide +kernel
theorem md_F_nearestToWhole_32 : decode mc_F_nearestToWhole 32 = .ok (.lload_n 1, 1) := by decide +kernel
theorem md_F_nearestToWhole_33 : decode mc_F_nearestToWhole 33 = .ok (.lconst 0, 1) := by decide +kernel
theorem md_F_nearestToWhole_34 : decode mc_F_nearestToWhole 34 = .ok (.lcmp, 1) := by decide +kernel
theorem md_F_nearestToWhole_35 : decode mc_F_nearestToWhole 35 = .ok (.ifCond .ge 7, 3) := by decide +kernel
theorem md_F_nearestToWhole_38 : decode mc_F_nearestToWhole 38 = .ok (.iconst 1, 1) := by decide +kernel
theorem md_F_nearestToWhole_39 : decode mc_F_nearestToWhole 39 = .ok (.goto 4, 3) := by decide +kernel
theorem md_F_nearestToWhole_42 : decode mc_F_nearestToWhole 42 = .ok (.iconst 0, 1) := by decide +kernel
theorem md_F_nearestToWhole_43 : decode mc_F_nearestToWhole 43 = .ok (.lload_n 3, 1) := by decide +kernel
theorem md_F_nearestToWhole_44 : decode mc_F_nearestToWhole 44 = .ok (.iconst 0, 1) := by decide +kernel
theorem md_F_nearestToWhole_45 : decode mc_F_nearestToWhole 45 = .ok (.invokevirtual 103, 3) := by decide +kernel
theorem md_F_nearestToWhole_48 : decode mc_F_nearestToWhole 48 = .ok (.lreturn, 1) := by decide +kernel
abbrev mc_F_towardsZero : ByteArray := prog_2_method_29_code
def my_F_towardsZero : MethodName := ⟨"NumberProbe$Format", "towardsZero", "(J)J"⟩
abbrev mw_F_towardsZero : List Cond := Cond.code my_F_towardsZero mc_F_towardsZero 8 (some .long) :: gw_tbl
theorem md_F_towardsZero_0 : decode mc_F_towardsZero 0 = .ok (.aload_n 0, 1) := by decide +kernel
theorem md_F_towardsZero_1 : decode mc_F_towardsZero 1 = .ok (.lload_n 1, 1) := by decide +kernel
theorem md_F_towardsZero_2 : decode mc_F_towardsZero 2 = .ok (.invokevirtual 49, 3) := by decide +kernel
theorem md_F_towardsZero_5 : decode mc_F_towardsZero 5 = .ok (.ifCond .eq 5, 3) := by decide +kernel
theorem md_F_towardsZero_8 : decode mc_F_towardsZero 8 = .ok (.lconst 0, 1) := by decide +kernel
theorem md_F_towardsZero_9 : decode mc_F_towardsZero 9 = .ok (.lreturn, 1) := by decide +kernel
theorem md_F_towardsZero_10 : decode mc_F_towardsZero 10 = .ok (.aload_n 0, 1) := by decide +kernel
theorem md_F_towardsZero_11 : decode mc_F_towardsZero 11 = .ok (.lload_n 1, 1) := by decide +kernel
theorem md_F_towardsZero_12 : decode mc_F_towardsZero 12 = .ok (.invokevirtual 96, 3) := by decide +kernel
theorem md_F_towardsZero_15 : decode mc_F_towardsZero 15 = .ok (.lstore_n 3, 1) := by decide +kernel
theorem md_F_towardsZero_16 : decode mc_F_towardsZero 16 = .ok (.aload_n 0, 1) := by decide +kernel
theorem md_F_towardsZero_17 : decode mc_F_towardsZero 17 = .ok (.lload_n 1, 1) := by decide +kernel
theorem md_F_towardsZero_18 : decode mc_F_towardsZero 18 = .ok (.invokevirtual 93, 3) := by decide +kernel
theorem md_F_towardsZero_21 : decode mc_F_towardsZero 21 = .ok (.istore 5, 2) := by decide +kernel
theorem md_F_towardsZero_23 : decode mc_F_towardsZero 23 = .ok (.iload 5, 2) := by decide +kernel
theorem md_F_towardsZero_25 : decode mc_F_towardsZero 25 = .ok (.lload_n 3, 1) := by decide +kernel
theorem md_F_towardsZero_26 : decode mc_F_towardsZero 26 = .ok (.invokestatic 73, 3) := by decide +kernel
theorem md_F_towardsZero_29 : decode mc_F_towardsZero 29 = .ok (.if_icmp .lt 19, 3) := by decide +kernel
theorem md_F_towardsZero_32 : decode mc_F_towardsZero 32 = .ok (.lload_n 1, 1) := by decide +kernel
theorem md_F_towardsZero_33 : decode mc_F_towardsZero 33 = .ok (.lconst 0, 1) := by decide +kernel
theorem md_F_towardsZero_34 : decode mc_F_towardsZero 34 = .ok (.lcmp, 1) := by decide +kernel
theorem md_F_towardsZero_35 : decode mc_F_towardsZero 35 = .ok (.ifCond .ge 9, 3) := by decide +kernel
theorem md_F_towardsZero_38 : decode mc_F_towardsZero 38 = .ok (.ldc2_w 126, 3) := by decide +kernel
theorem md_F_towardsZero_41 : decode mc_F_towardsZero 41 = .ok (.goto 6, 3) := by decide +kernel
theorem md_F_towardsZero_44 : decode mc_F_towardsZero 44 = .ok (.ldc2_w 128, 3) := by decide +kernel
theorem md_F_towardsZero_47 : decode mc_F_towardsZero 47 = .ok (.lreturn, 1) := by decide +kernel
theorem md_F_towardsZero_48 : decode mc_F_towardsZero 48 = .ok (.iload 5, 2) := by decide +kernel
theorem md_F_towardsZero_50 : decode mc_F_towardsZero 50 = .ok (.ifCond .lt 12, 3) := by decide +kernel
theorem md_F_towardsZero_53 : decode mc_F_towardsZero 53 = .ok (.lload_n 3, 1) := by decide +kernel
theorem md_F_towardsZero_54 : decode mc_F_towardsZero 54 = .ok (.iload 5, 2) := by decide +kernel
theorem md_F_towardsZero_56 : decode mc_F_towardsZero 56 = .ok (.lshl, 1) := by decide +kernel
theorem md_F_towardsZero_57 : decode mc_F_towardsZero 57 = .ok (.lstore 6, 2) := by decide +kernel
theorem md_F_towardsZero_59 : decode mc_F_towardsZero 59 = .ok (.goto 21, 3) := by decide +kernel
theorem md_F_towardsZero_62 : decode mc_F_towardsZero 62 = .ok (.iload 5, 2) := by decide +kernel
theorem md_F_towardsZero_64 : decode mc_F_towardsZero 64 = .ok (.bipush (-64), 2) := by decide +kernel
theorem md_F_towardsZero_66 : decode mc_F_towardsZero 66 = .ok (.if_icmp .le 11, 3) := by decide +kernel
theorem md_F_towardsZero_69 : decode mc_F_towardsZero 69 = .ok (.lload_n 3, 1) := by decide +kernel
theorem md_F_towardsZero_70 : decode mc_F_towardsZero 70 = .ok (.iload 5, 2) := by decide +kernel
theorem md_F_towardsZero_72 : decode mc_F_towardsZero 72 = .ok (.ineg, 1) := by decide +kernel
theorem md_F_towardsZero_73 : decode mc_F_towardsZero 73 = .ok (.lushr, 1) := by decide +kernel
theorem md_F_towardsZero_74 : decode mc_F_towardsZero 74 = .ok (.goto 4, 3) := by decide +kernel
theorem md_F_towardsZero_77 : decode mc_F_towardsZero 77 = .ok (.lconst 0, 1) := by decide +kernel
theorem md_F_towardsZero_78 : decode mc_F_towardsZero 78 = .ok (.lstore 6, 2) := by decide +kernel
theorem md_F_towardsZero_80 : decode mc_F_towardsZero 80 = .ok (.lload_n 1, 1) := by decide +kernel
theorem md_F_towardsZero_81 : decode mc_F_towardsZero 81 = .ok (.lconst 0, 1) := by decide +kernel
theorem md_F_towardsZero_82 : decode mc_F_towardsZero 82 = .ok (.lcmp, 1) := by decide +kernel
theorem md_F_towardsZero_83 : decode mc_F_towardsZero 83 = .ok (.ifCond .ge 9, 3) := by decide +kernel
theorem md_F_towardsZero_86 : decode mc_F_towardsZero 86 = .ok (.lload 6, 2) := by decide +kernel
theorem md_F_towardsZero_88 : decode mc_F_towardsZero 88 = .ok (.lneg, 1) := by decide +kernel
theorem md_F_towardsZero_89 : decode mc_F_towardsZero 89 = .ok (.goto 5, 3) := by decide +kernel
theorem md_F_towardsZero_92 : decode mc_F_towardsZero 92 = .ok (.lload 6, 2) := by decide +kernel
theorem md_F_towardsZero_94 : decode mc_F_towardsZero 94 = .ok (.lreturn, 1) := by decide +kernel
abbrev mc_F_traits : ByteArray := prog_2_method_30_code
def my_F_traits : MethodName := ⟨"NumberProbe$Format", "traits", "(J)I"⟩
abbrev mw_F_traits : List Cond := Cond.code my_F_traits mc_F_traits 4 (some .int) :: gw_tbl
theorem md_F_traits_0 : decode mc_F_traits 0 = .ok (.aload_n 0, 1) := by decide +kernel
theorem md_F_traits_1 : decode mc_F_traits 1 = .ok (.lload_n 1, 1) := by decide +kernel
theorem md_F_traits_2 : decode mc_F_traits 2 = .ok (.invokevirtual 49, 3) := by decide +kernel
theorem md_F_traits_5 : decode mc_F_traits 5 = .ok (.ifCond .eq 5, 3) := by decide +kernel
theorem md_F_traits_8 : decode mc_F_traits 8 = .ok (.iconst 1, 1) := by decide +kernel
theorem md_F_traits_9 : decode mc_F_traits 9 = .ok (.ireturn, 1) := by decide +kernel
theorem md_F_traits_10 : decode mc_F_traits 10 = .ok (.lload_n 1, 1) := by decide +kernel
theorem md_F_traits_11 : decode mc_F_traits 11 = .ok (.lconst 0, 1) := by decide +kernel
theorem md_F_traits_12 : decode mc_F_traits 12 = .ok (.lcmp, 1) := by decide +kernel
theorem md_F_traits_13 : decode mc_F_traits 13 = .ok (.ifCond .ge 8, 3) := by decide +kernel
theorem md_F_traits_16 : decode mc_F_traits 16 = .ok (.bipush 32, 2) := by decide +kernel
theorem md_F_traits_18 : decode mc_F_traits 18 = .ok (.goto 4, 3) := by decide +kernel
theorem md_F_traits_21 : decode mc_F_traits 21 = .ok (.iconst 0, 1) := by decide +kernel
theorem md_F_traits_22 : decode mc_F_traits 22 = .ok (.istore_n 3, 1) := by decide +kernel
theorem md_F_traits_23 : decode mc_F_traits 23 = .ok (.aload_n 0, 1) := by decide +kernel
theorem md_F_traits_24 : decode mc_F_traits 24 = .ok (.lload_n 1, 1) := by decide +kernel
theorem md_F_traits_25 : decode mc_F_traits 25 = .ok (.invokevirtual 86, 3) := by decide +kernel
theorem md_F_traits_28 : decode mc_F_traits 28 = .ok (.ifCond .eq 7, 3) := by decide +kernel
theorem md_F_traits_31 : decode mc_F_traits 31 = .ok (.iload_n 3, 1) := by decide +kernel
theorem md_F_traits_32 : decode mc_F_traits 32 = .ok (.iconst 2, 1) := by decide +kernel
theorem md_F_traits_33 : decode mc_F_traits 33 = .ok (.ior, 1) := by decide +kernel
theorem md_F_traits_34 : decode mc_F_traits 34 = .ok (.ireturn, 1) := by decide +kernel
theorem md_F_traits_35 : decode mc_F_traits 35 = .ok (.aload_n 0, 1) := by decide +kernel
theorem md_F_traits_36 : decode mc_F_traits 36 = .ok (.lload_n 1, 1) := by decide +kernel
theorem md_F_traits_37 : decode mc_F_traits 37 = .ok (.invokevirtual 80, 3) := by decide +kernel
theorem md_F_traits_40 : decode mc_F_traits 40 = .ok (.ifCond .eq 13, 3) := by decide +kernel
theorem md_F_traits_43 : decode mc_F_traits 43 = .ok (.iload_n 3, 1) := by decide +kernel
theorem md_F_traits_44 : decode mc_F_traits 44 = .ok (.iconst 4, 1) := by decide +kernel
theorem md_F_traits_45 : decode mc_F_traits 45 = .ok (.ior, 1) := by decide +kernel
theorem md_F_traits_46 : decode mc_F_traits 46 = .ok (.bipush 8, 2) := by decide +kernel
theorem md_F_traits_48 : decode mc_F_traits 48 = .ok (.ior, 1) := by decide +kernel
theorem md_F_traits_49 : decode mc_F_traits 49 = .ok (.bipush 64, 2) := by decide +kernel
theorem md_F_traits_51 : decode mc_F_traits 51 = .ok (.ior, 1) := by decide +kernel
theorem md_F_traits_52 : decode mc_F_traits 52 = .ok (.ireturn, 1) := by decide +kernel
theorem md_F_traits_53 : decode mc_F_traits 53 = .ok (.iload_n 3, 1) := by decide +kernel
theorem md_F_traits_54 : decode mc_F_traits 54 = .ok (.iconst 4, 1) := by decide +kernel
theorem md_F_traits_55 : decode mc_F_traits 55 = .ok (.ior, 1) := by decide +kernel
theorem md_F_traits_56 : decode mc_F_traits 56 = .ok (.aload_n 0, 1) := by decide +kernel
theorem md_F_traits_57 : decode mc_F_traits 57 = .ok (.lload_n 1, 1) := by decide +kernel
theorem md_F_traits_58 : decode mc_F_traits 58 = .ok (.invokevirtual 63, 3) := by decide +kernel
theorem md_F_traits_61 : decode mc_F_traits 61 = .ok (.ifCond .ne 8, 3) := by decide +kernel
theorem md_F_traits_64 : decode mc_F_traits 64 = .ok (.bipush 16, 2) := by decide +kernel
theorem md_F_traits_66 : decode mc_F_traits 66 = .ok (.goto 4, 3) := by decide +kernel
theorem md_F_traits_69 : decode mc_F_traits 69 = .ok (.iconst 0, 1) := by decide +kernel
theorem md_F_traits_70 : decode mc_F_traits 70 = .ok (.ior, 1) := by decide +kernel
theorem md_F_traits_71 : decode mc_F_traits 71 = .ok (.aload_n 0, 1) := by decide +kernel
theorem md_F_traits_72 : decode mc_F_traits 72 = .ok (.lload_n 1, 1) := by decide +kernel
theorem md_F_traits_73 : decode mc_F_traits 73 = .ok (.invokevirtual 130, 3) := by decide +kernel
theorem md_F_traits_76 : decode mc_F_traits 76 = .ok (.ifCond .eq 8, 3) := by decide +kernel
theorem md_F_traits_79 : decode mc_F_traits 79 = .ok (.bipush 64, 2) := by decide +kernel
theorem md_F_traits_81 : decode mc_F_traits 81 = .ok (.goto 4, 3) := by decide +kernel
theorem md_F_traits_84 : decode mc_F_traits 84 = .ok (.iconst 0, 1) := by decide +kernel
theorem md_F_traits_85 : decode mc_F_traits 85 = .ok (.ior, 1) := by decide +kernel
theorem md_F_traits_86 : decode mc_F_traits 86 = .ok (.lload_n 1, 1) := by decide +kernel
theorem md_F_traits_87 : decode mc_F_traits 87 = .ok (.lconst 0, 1) := by decide +kernel
theorem md_F_traits_88 : decode mc_F_traits 88 = .ok (.lcmp, 1) := by decide +kernel
theorem md_F_traits_89 : decode mc_F_traits 89 = .ok (.ifCond .le 21, 3) := by decide +kernel
theorem md_F_traits_92 : decode mc_F_traits 92 = .ok (.aload_n 0, 1) := by decide +kernel
theorem md_F_traits_93 : decode mc_F_traits 93 = .ok (.lload_n 1, 1) := by decide +kernel
theorem md_F_traits_94 : decode mc_F_traits 94 = .ok (.invokevirtual 96, 3) := by decide +kernel
theorem md_F_traits_97 : decode mc_F_traits 97 = .ok (.invokestatic 133, 3) := by decide +kernel
theorem md_F_traits_100 : decode mc_F_traits 100 = .ok (.iconst 1, 1) := by decide +kernel
theorem md_F_traits_101 : decode mc_F_traits 101 = .ok (.if_icmp .ne 9, 3) := by decide +kernel
theorem md_F_traits_104 : decode mc_F_traits 104 = .ok (.sipush 128, 3) := by decide +kernel
theorem md_F_traits_107 : decode mc_F_traits 107 = .ok (.goto 4, 3) := by decide +kernel
theorem md_F_traits_110 : decode mc_F_traits 110 = .ok (.iconst 0, 1) := by decide +kernel
theorem md_F_traits_111 : decode mc_F_traits 111 = .ok (.ior, 1) := by decide +kernel
theorem md_F_traits_112 : decode mc_F_traits 112 = .ok (.ireturn, 1) := by decide +kernel
abbrev mc_F_isWhole : ByteArray := prog_2_method_31_code
def my_F_isWhole : MethodName := ⟨"NumberProbe$Format", "isWhole", "(J)Z"⟩
abbrev mw_F_isWhole : List Cond := Cond.code my_F_isWhole mc_F_isWhole 3 (some .boolean) :: gw_tbl
theorem md_F_isWhole_0 : decode mc_F_isWhole 0 = .ok (.aload_n 0, 1) := by decide +kernel
theorem md_F_isWhole_1 : decode mc_F_isWhole 1 = .ok (.lload_n 1, 1) := by decide +kernel
theorem md_F_isWhole_2 : decode mc_F_isWhole 2 = .ok (.invokevirtual 93, 3) := by decide +kernel
theorem md_F_isWhole_5 : decode mc_F_isWhole 5 = .ok (.aload_n 0, 1) := by decide +kernel
theorem md_F_isWhole_6 : decode mc_F_isWhole 6 = .ok (.lload_n 1, 1) := by decide +kernel
theorem md_F_isWhole_7 : decode mc_F_isWhole 7 = .ok (.invokevirtual 96, 3) := by decide +kernel
theorem md_F_isWhole_10 : decode mc_F_isWhole 10 = .ok (.invokestatic 136, 3) := by decide +kernel
theorem md_F_isWhole_13 : decode mc_F_isWhole 13 = .ok (.iadd, 1) := by decide +kernel
theorem md_F_isWhole_14 : decode mc_F_isWhole 14 = .ok (.ifCond .lt 7, 3) := by decide +kernel
theorem md_F_isWhole_17 : decode mc_F_isWhole 17 = .ok (.iconst 1, 1) := by decide +kernel
theorem md_F_isWhole_18 : decode mc_F_isWhole 18 = .ok (.goto 4, 3) := by decide +kernel
theorem md_F_isWhole_21 : decode mc_F_isWhole 21 = .ok (.iconst 0, 1) := by decide +kernel
theorem md_F_isWhole_22 : decode mc_F_isWhole 22 = .ok (.ireturn, 1) := by decide +kernel
abbrev mc_F_rounded : ByteArray := prog_2_method_32_code
def my_F_rounded : MethodName := ⟨"NumberProbe$Format", "rounded", "(ZJI)J"⟩
abbrev mw_F_rounded : List Cond := Cond.code my_F_rounded mc_F_rounded 11 (some .long) :: gw_tbl
theorem md_F_rounded_0 : decode mc_F_rounded 0 = .ok (.lload_n 2, 1) := by decide +kernel
theorem md_F_rounded_1 : decode mc_F_rounded 1 = .ok (.lconst 0, 1) := by decide +kernel
theorem md_F_rounded_2 : decode mc_F_rounded 2 = .ok (.lcmp, 1) := by decide +kernel
theorem md_F_rounded_3 : decode mc_F_rounded 3 = .ok (.ifCond .ne 10, 3) := by decide +kernel
theorem md_F_rounded_6 : decode mc_F_rounded 6 = .ok (.aload_n 0, 1) := by decide +kernel
theorem md_F_rounded_7 : decode mc_F_rounded 7 = .ok (.iload_n 1, 1) := by decide +kernel
theorem md_F_rounded_8 : decode mc_F_rounded 8 = .ok (.lconst 0, 1) := by decide +kernel
theorem md_F_rounded_9 : decode mc_F_rounded 9 = .ok (.invokevirtual 57, 3) := by decide +kernel
theorem md_F_rounded_12 : decode mc_F_rounded 12 = .ok (.lreturn, 1) := by decide +kernel
theorem md_F_rounded_13 : decode mc_F_rounded 13 = .ok (.lload_n 2, 1) := by decide +kernel
theorem md_F_rounded_14 : decode mc_F_rounded 14 = .ok (.invokestatic 73, 3) := by decide +kernel
theorem md_F_rounded_17 : decode mc_F_rounded 17 = .ok (.iconst 1, 1) := by decide +kernel
theorem md_F_rounded_18 : decode mc_F_rounded 18 = .ok (.isub, 1) := by decide +kernel
theorem md_F_rounded_19 : decode mc_F_rounded 19 = .ok (.istore 5, 2) := by decide +kernel
theorem md_F_rounded_21 : decode mc_F_rounded 21 = .ok (.bipush 62, 2) := by decide +kernel
theorem md_F_rounded_23 : decode mc_F_rounded 23 = .ok (.aload_n 0, 1) := by decide +kernel
theorem md_F_rounded_24 : decode mc_F_rounded 24 = .ok (.getfield 29, 3) := by decide +kernel
theorem md_F_rounded_27 : decode mc_F_rounded 27 = .ok (.isub, 1) := by decide +kernel
theorem md_F_rounded_28 : decode mc_F_rounded 28 = .ok (.istore 6, 2) := by decide +kernel
theorem md_F_rounded_30 : decode mc_F_rounded 30 = .ok (.iload 4, 2) := by decide +kernel
theorem md_F_rounded_32 : decode mc_F_rounded 32 = .ok (.iload 5, 2) := by decide +kernel
theorem md_F_rounded_34 : decode mc_F_rounded 34 = .ok (.isub, 1) := by decide +kernel
theorem md_F_rounded_35 : decode mc_F_rounded 35 = .ok (.iload 6, 2) := by decide +kernel
theorem md_F_rounded_37 : decode mc_F_rounded 37 = .ok (.iadd, 1) := by decide +kernel
theorem md_F_rounded_38 : decode mc_F_rounded 38 = .ok (.istore 7, 2) := by decide +kernel
theorem md_F_rounded_40 : decode mc_F_rounded 40 = .ok (.iload 7, 2) := by decide +kernel
theorem md_F_rounded_42 : decode mc_F_rounded 42 = .ok (.aload_n 0, 1) := by decide +kernel
theorem md_F_rounded_43 : decode mc_F_rounded 43 = .ok (.getfield 36, 3) := by decide +kernel
theorem md_F_rounded_46 : decode mc_F_rounded 46 = .ok (.if_icmp .ge 21, 3) := by decide +kernel
theorem md_F_rounded_49 : decode mc_F_rounded 49 = .ok (.iload 6, 2) := by decide +kernel
theorem md_F_rounded_51 : decode mc_F_rounded 51 = .ok (.aload_n 0, 1) := by decide +kernel
theorem md_F_rounded_52 : decode mc_F_rounded 52 = .ok (.getfield 36, 3) := by decide +kernel
theorem md_F_rounded_55 : decode mc_F_rounded 55 = .ok (.iload 7, 2) := by decide +kernel
theorem md_F_rounded_57 : decode mc_F_rounded 57 = .ok (.isub, 1) := by decide +kernel
theorem md_F_rounded_58 : decode mc_F_rounded 58 = .ok (.iadd, 1) := by decide +kernel
theorem md_F_rounded_59 : decode mc_F_rounded 59 = .ok (.istore 6, 2) := by decide +kernel
theorem md_F_rounded_61 : decode mc_F_rounded 61 = .ok (.aload_n 0, 1) := by decide +kernel
theorem md_F_rounded_62 : decode mc_F_rounded 62 = .ok (.getfield 36, 3) := by decide +kernel
theorem md_F_rounded_65 : decode mc_F_rounded 65 = .ok (.istore 7, 2) := by decide +kernel
theorem md_F_rounded_67 : decode mc_F_rounded 67 = .ok (.iload 7, 2) := by decide +kernel
theorem md_F_rounded_69 : decode mc_F_rounded 69 = .ok (.aload_n 0, 1) := by decide +kernel
theorem md_F_rounded_70 : decode mc_F_rounded 70 = .ok (.getfield 36, 3) := by decide +kernel
theorem md_F_rounded_73 : decode mc_F_rounded 73 = .ok (.isub, 1) := by decide +kernel
theorem md_F_rounded_74 : decode mc_F_rounded 74 = .ok (.istore 8, 2) := by decide +kernel
theorem md_F_rounded_76 : decode mc_F_rounded 76 = .ok (.iload 8, 2) := by decide +kernel
theorem md_F_rounded_78 : decode mc_F_rounded 78 = .ok (.aload_n 0, 1) := by decide +kernel
theorem md_F_rounded_79 : decode mc_F_rounded 79 = .ok (.getfield 33, 3) := by decide +kernel
theorem md_F_rounded_82 : decode mc_F_rounded 82 = .ok (.iconst 1, 1) := by decide +kernel
theorem md_F_rounded_83 : decode mc_F_rounded 83 = .ok (.isub, 1) := by decide +kernel
theorem md_F_rounded_84 : decode mc_F_rounded 84 = .ok (.if_icmp .lt 13, 3) := by decide +kernel
theorem md_F_rounded_87 : decode mc_F_rounded 87 = .ok (.aload_n 0, 1) := by decide +kernel
theorem md_F_rounded_88 : decode mc_F_rounded 88 = .ok (.iload_n 1, 1) := by decide +kernel
theorem md_F_rounded_89 : decode mc_F_rounded 89 = .ok (.aload_n 0, 1) := by decide +kernel
theorem md_F_rounded_90 : decode mc_F_rounded 90 = .ok (.getfield 43, 3) := by decide +kernel
theorem md_F_rounded_93 : decode mc_F_rounded 93 = .ok (.invokevirtual 57, 3) := by decide +kernel
theorem md_F_rounded_96 : decode mc_F_rounded 96 = .ok (.lreturn, 1) := by decide +kernel
theorem md_F_rounded_97 : decode mc_F_rounded 97 = .ok (.iload 8, 2) := by decide +kernel
theorem md_F_rounded_99 : decode mc_F_rounded 99 = .ok (.i2l, 1) := by decide +kernel
theorem md_F_rounded_100 : decode mc_F_rounded 100 = .ok (.aload_n 0, 1) := by decide +kernel
theorem md_F_rounded_101 : decode mc_F_rounded 101 = .ok (.getfield 29, 3) := by decide +kernel
theorem md_F_rounded_104 : decode mc_F_rounded 104 = .ok (.lshl, 1) := by decide +kernel
theorem md_F_rounded_105 : decode mc_F_rounded 105 = .ok (.lload_n 2, 1) := by decide +kernel
theorem md_F_rounded_106 : decode mc_F_rounded 106 = .ok (.iload 5, 2) := by decide +kernel
theorem md_F_rounded_108 : decode mc_F_rounded 108 = .ok (.lshl, 1) := by decide +kernel
theorem md_F_rounded_109 : decode mc_F_rounded 109 = .ok (.iload 6, 2) := by decide +kernel
theorem md_F_rounded_111 : decode mc_F_rounded 111 = .ok (.invokestatic 139, 3) := by decide +kernel
theorem md_F_rounded_114 : decode mc_F_rounded 114 = .ok (.ladd, 1) := by decide +kernel
theorem md_F_rounded_115 : decode mc_F_rounded 115 = .ok (.lstore 9, 2) := by decide +kernel
theorem md_F_rounded_117 : decode mc_F_rounded 117 = .ok (.aload_n 0, 1) := by decide +kernel
theorem md_F_rounded_118 : decode mc_F_rounded 118 = .ok (.iload_n 1, 1) := by decide +kernel
theorem md_F_rounded_119 : decode mc_F_rounded 119 = .ok (.lload 9, 2) := by decide +kernel
theorem md_F_rounded_121 : decode mc_F_rounded 121 = .ok (.invokevirtual 57, 3) := by decide +kernel
theorem md_F_rounded_124 : decode mc_F_rounded 124 = .ok (.lreturn, 1) := by decide +kernel
abbrev mc_F_cutToEven : ByteArray := prog_2_method_33_code
def my_F_cutToEven : MethodName := ⟨"NumberProbe$Format", "cutToEven", "(JI)J"⟩
abbrev mw_F_cutToEven : List Cond := Cond.code my_F_cutToEven mc_F_cutToEven 10 (some .long) :: gw_tbl
theorem md_F_cutToEven_0 : decode mc_F_cutToEven 0 = .ok (.iload_n 2, 1) := by decide +kernel
theorem md_F_cutToEven_1 : decode mc_F_cutToEven 1 = .ok (.bipush 64, 2) := by decide +kernel
theorem md_F_cutToEven_3 : decode mc_F_cutToEven 3 = .ok (.if_icmp .lt 5, 3) := by decide +kernel
theorem md_F_cutToEven_6 : decode mc_F_cutToEven 6 = .ok (.lconst 0, 1) := by decide +kernel
theorem md_F_cutToEven_7 : decode mc_F_cutToEven 7 = .ok (.lreturn, 1) := by decide +kernel
theorem md_F_cutToEven_8 : decode mc_F_cutToEven 8 = .ok (.lload_n 0, 1) := by decide +kernel
theorem md_F_cutToEven_9 : decode mc_F_cutToEven 9 = .ok (.iload_n 2, 1) := by decide +kernel
theorem md_F_cutToEven_10 : decode mc_F_cutToEven 10 = .ok (.lushr, 1) := by decide +kernel
theorem md_F_cutToEven_11 : decode mc_F_cutToEven 11 = .ok (.lstore_n 3, 1) := by decide +kernel
theorem md_F_cutToEven_12 : decode mc_F_cutToEven 12 = .ok (.lload_n 0, 1) := by decide +kernel
theorem md_F_cutToEven_13 : decode mc_F_cutToEven 13 = .ok (.lload_n 3, 1) := by decide +kernel
theorem md_F_cutToEven_14 : decode mc_F_cutToEven 14 = .ok (.iload_n 2, 1) := by decide +kernel
theorem md_F_cutToEven_15 : decode mc_F_cutToEven 15 = .ok (.lshl, 1) := by decide +kernel
theorem md_F_cutToEven_16 : decode mc_F_cutToEven 16 = .ok (.lsub, 1) := by decide +kernel
theorem md_F_cutToEven_17 : decode mc_F_cutToEven 17 = .ok (.lstore 5, 2) := by decide +kernel
theorem md_F_cutToEven_19 : decode mc_F_cutToEven 19 = .ok (.lconst 1, 1) := by decide +kernel
theorem md_F_cutToEven_20 : decode mc_F_cutToEven 20 = .ok (.iload_n 2, 1) := by decide +kernel
theorem md_F_cutToEven_21 : decode mc_F_cutToEven 21 = .ok (.iconst 1, 1) := by decide +kernel
theorem md_F_cutToEven_22 : decode mc_F_cutToEven 22 = .ok (.isub, 1) := by decide +kernel
theorem md_F_cutToEven_23 : decode mc_F_cutToEven 23 = .ok (.lshl, 1) := by decide +kernel
theorem md_F_cutToEven_24 : decode mc_F_cutToEven 24 = .ok (.lstore 7, 2) := by decide +kernel
theorem md_F_cutToEven_26 : decode mc_F_cutToEven 26 = .ok (.lload 5, 2) := by decide +kernel
theorem md_F_cutToEven_28 : decode mc_F_cutToEven 28 = .ok (.lload 7, 2) := by decide +kernel
theorem md_F_cutToEven_30 : decode mc_F_cutToEven 30 = .ok (.lcmp, 1) := by decide +kernel
theorem md_F_cutToEven_31 : decode mc_F_cutToEven 31 = .ok (.ifCond .gt 19, 3) := by decide +kernel
theorem md_F_cutToEven_34 : decode mc_F_cutToEven 34 = .ok (.lload 5, 2) := by decide +kernel
theorem md_F_cutToEven_36 : decode mc_F_cutToEven 36 = .ok (.lload 7, 2) := by decide +kernel
theorem md_F_cutToEven_38 : decode mc_F_cutToEven 38 = .ok (.lcmp, 1) := by decide +kernel
theorem md_F_cutToEven_39 : decode mc_F_cutToEven 39 = .ok (.ifCond .ne 15, 3) := by decide +kernel
theorem md_F_cutToEven_42 : decode mc_F_cutToEven 42 = .ok (.lload_n 3, 1) := by decide +kernel
theorem md_F_cutToEven_43 : decode mc_F_cutToEven 43 = .ok (.lconst 1, 1) := by decide +kernel
theorem md_F_cutToEven_44 : decode mc_F_cutToEven 44 = .ok (.land, 1) := by decide +kernel
theorem md_F_cutToEven_45 : decode mc_F_cutToEven 45 = .ok (.lconst 1, 1) := by decide +kernel
theorem md_F_cutToEven_46 : decode mc_F_cutToEven 46 = .ok (.lcmp, 1) := by decide +kernel
theorem md_F_cutToEven_47 : decode mc_F_cutToEven 47 = .ok (.ifCond .ne 7, 3) := by decide +kernel
theorem md_F_cutToEven_50 : decode mc_F_cutToEven 50 = .ok (.iconst 1, 1) := by decide +kernel
theorem md_F_cutToEven_51 : decode mc_F_cutToEven 51 = .ok (.goto 4, 3) := by decide +kernel
theorem md_F_cutToEven_54 : decode mc_F_cutToEven 54 = .ok (.iconst 0, 1) := by decide +kernel
theorem md_F_cutToEven_55 : decode mc_F_cutToEven 55 = .ok (.istore 9, 2) := by decide +kernel
theorem md_F_cutToEven_57 : decode mc_F_cutToEven 57 = .ok (.iload 9, 2) := by decide +kernel
theorem md_F_cutToEven_59 : decode mc_F_cutToEven 59 = .ok (.ifCond .eq 9, 3) := by decide +kernel
theorem md_F_cutToEven_62 : decode mc_F_cutToEven 62 = .ok (.lload_n 3, 1) := by decide +kernel
theorem md_F_cutToEven_63 : decode mc_F_cutToEven 63 = .ok (.lconst 1, 1) := by decide +kernel
theorem md_F_cutToEven_64 : decode mc_F_cutToEven 64 = .ok (.ladd, 1) := by decide +kernel
theorem md_F_cutToEven_65 : decode mc_F_cutToEven 65 = .ok (.goto 4, 3) := by decide +kernel
theorem md_F_cutToEven_68 : decode mc_F_cutToEven 68 = .ok (.lload_n 3, 1) := by decide +kernel
theorem md_F_cutToEven_69 : decode mc_F_cutToEven 69 = .ok (.lreturn, 1) := by decide +kernel
abbrev mc_F_shiftedRight : ByteArray := prog_2_method_34_code
def my_F_shiftedRight : MethodName := ⟨"NumberProbe$Format", "shiftedRight", "(JI)J"⟩
abbrev mw_F_shiftedRight : List Cond := Cond.code my_F_shiftedRight mc_F_shiftedRight 5 (some .long) :: gw_tbl
theorem md_F_shiftedRight_0 : decode mc_F_shiftedRight 0 = .ok (.iload_n 2, 1) := by decide +kernel
theorem md_F_shiftedRight_1 : decode mc_F_shiftedRight 1 = .ok (.bipush 64, 2) := by decide +kernel
theorem md_F_shiftedRight_3 : decode mc_F_shiftedRight 3 = .ok (.if_icmp .lt 9, 3) := by decide +kernel
theorem md_F_shiftedRight_6 : decode mc_F_shiftedRight 6 = .ok (.lconst 0, 1) := by decide +kernel
theorem md_F_shiftedRight_7 : decode mc_F_shiftedRight 7 = .ok (.lload_n 0, 1) := by decide +kernel
theorem md_F_shiftedRight_8 : decode mc_F_shiftedRight 8 = .ok (.invokestatic 117, 3) := by decide +kernel
theorem md_F_shiftedRight_11 : decode mc_F_shiftedRight 11 = .ok (.lreturn, 1) := by decide +kernel
theorem md_F_shiftedRight_12 : decode mc_F_shiftedRight 12 = .ok (.lload_n 0, 1) := by decide +kernel
theorem md_F_shiftedRight_13 : decode mc_F_shiftedRight 13 = .ok (.iload_n 2, 1) := by decide +kernel
theorem md_F_shiftedRight_14 : decode mc_F_shiftedRight 14 = .ok (.lushr, 1) := by decide +kernel
theorem md_F_shiftedRight_15 : decode mc_F_shiftedRight 15 = .ok (.lstore_n 3, 1) := by decide +kernel
theorem md_F_shiftedRight_16 : decode mc_F_shiftedRight 16 = .ok (.lload_n 3, 1) := by decide +kernel
theorem md_F_shiftedRight_17 : decode mc_F_shiftedRight 17 = .ok (.lload_n 0, 1) := by decide +kernel
theorem md_F_shiftedRight_18 : decode mc_F_shiftedRight 18 = .ok (.lload_n 3, 1) := by decide +kernel
theorem md_F_shiftedRight_19 : decode mc_F_shiftedRight 19 = .ok (.iload_n 2, 1) := by decide +kernel
theorem md_F_shiftedRight_20 : decode mc_F_shiftedRight 20 = .ok (.lshl, 1) := by decide +kernel
theorem md_F_shiftedRight_21 : decode mc_F_shiftedRight 21 = .ok (.lsub, 1) := by decide +kernel
theorem md_F_shiftedRight_22 : decode mc_F_shiftedRight 22 = .ok (.invokestatic 117, 3) := by decide +kernel
theorem md_F_shiftedRight_25 : decode mc_F_shiftedRight 25 = .ok (.lreturn, 1) := by decide +kernel
abbrev mc_F_withRest : ByteArray := prog_2_method_35_code
def my_F_withRest : MethodName := ⟨"NumberProbe$Format", "withRest", "(JJ)J"⟩
abbrev mw_F_withRest : List Cond := Cond.code my_F_withRest mc_F_withRest 4 (some .long) :: gw_tbl
theorem md_F_withRest_0 : decode mc_F_withRest 0 = .ok (.lload_n 2, 1) := by decide +kernel
theorem md_F_withRest_1 : decode mc_F_withRest 1 = .ok (.lconst 0, 1) := by decide +kernel
theorem md_F_withRest_2 : decode mc_F_withRest 2 = .ok (.lcmp, 1) := by decide +kernel
theorem md_F_withRest_3 : decode mc_F_withRest 3 = .ok (.ifCond .ne 7, 3) := by decide +kernel
theorem md_F_withRest_6 : decode mc_F_withRest 6 = .ok (.lload_n 0, 1) := by decide +kernel
theorem md_F_withRest_7 : decode mc_F_withRest 7 = .ok (.goto 6, 3) := by decide +kernel
theorem md_F_withRest_10 : decode mc_F_withRest 10 = .ok (.lload_n 0, 1) := by decide +kernel
theorem md_F_withRest_11 : decode mc_F_withRest 11 = .ok (.lconst 1, 1) := by decide +kernel
theorem md_F_withRest_12 : decode mc_F_withRest 12 = .ok (.lor, 1) := by decide +kernel
theorem md_F_withRest_13 : decode mc_F_withRest 13 = .ok (.lreturn, 1) := by decide +kernel
end
section
/-! ROUNDING, over natural numbers: no machine here. rn_len: the length in bits; rn_rt n d: n / d to the nearest, ties to even; rn_st M k: M shifted right by k, its last bit standing for what was lost; rn_of: the magnitude bits of m * 2 ^ (least + d). -/
def rn_len (m : Nat) : Nat := if m = 0 then 0 else m.log2 + 1
theorem rn_len_0 : rn_len 0 = 0 := rfl
theorem rn_len_pos {m : Nat} (h : m ≠ 0) : 0 < rn_len m := by
  unfold rn_len; rw [if_neg h]; omega
theorem rn_len_lt (m : Nat) : m < 2 ^ rn_len m := by
  unfold rn_len
  by_cases h : m = 0
  · subst h; simp
  · rw [if_neg h]; exact Nat.lt_log2_self
theorem rn_len_le {m : Nat} (h : m ≠ 0) : 2 ^ (rn_len m - 1) ≤ m := by
  unfold rn_len
  rw [if_neg h, Nat.add_sub_cancel]
  exact Nat.log2_self_le h
theorem rn_len_eq {m k : Nat} (h1 : 2 ^ k ≤ m) (h2 : m < 2 ^ (k + 1)) : rn_len m = k + 1 := by
  have h0 : m ≠ 0 := by
    have : 0 < 2 ^ k := Nat.two_pow_pos k
    omega
  unfold rn_len
  rw [if_neg h0, (Nat.log2_eq_iff h0).mpr ⟨h1, h2⟩]
theorem rn_len_up {m k : Nat} (h : m < 2 ^ k) : rn_len m ≤ k := by
  by_cases h0 : m = 0
  · subst h0; rw [rn_len_0]; omega
  · unfold rn_len
    rw [if_neg h0]
    have := (Nat.log2_lt (k := k) h0).mpr h
    omega
theorem rn_len_lo {m k : Nat} (h : 2 ^ k ≤ m) : k < rn_len m := by
  have h0 : m ≠ 0 := by
    have : 0 < 2 ^ k := Nat.two_pow_pos k
    omega
  unfold rn_len
  rw [if_neg h0]
  have := (Nat.le_log2 (k := k) h0).mpr h
  omega
theorem rn_len_mul {m : Nat} (h : m ≠ 0) (k : Nat) : rn_len (m * 2 ^ k) = rn_len m + k := by
  have hp := rn_len_pos h
  have h1 := rn_len_le h
  have h2 := rn_len_lt m
  obtain ⟨j, hj⟩ : ∃ j, rn_len m = j + 1 := ⟨rn_len m - 1, by omega⟩
  rw [hj] at h1 h2 ⊢
  rw [Nat.add_sub_cancel] at h1
  rw [show j + 1 + k = (j + k) + 1 by omega]
  apply rn_len_eq
  · rw [Nat.pow_add]; exact Nat.mul_le_mul_right _ h1
  · rw [show j + k + 1 = (j + 1) + k by omega, Nat.pow_add]; exact Nat.mul_lt_mul_of_pos_right h2 (Nat.two_pow_pos k)
theorem rn_len_div {m k : Nat} (h : m / 2 ^ k ≠ 0) : rn_len m = rn_len (m / 2 ^ k) + k := by
  have hp := rn_len_pos h
  have h1 := rn_len_le h
  have h2 := rn_len_lt (m / 2 ^ k)
  obtain ⟨j, hj⟩ : ∃ j, rn_len (m / 2 ^ k) = j + 1 := ⟨rn_len (m / 2 ^ k) - 1, by omega⟩
  rw [hj] at h1 h2 ⊢
  rw [Nat.add_sub_cancel] at h1
  rw [show j + 1 + k = (j + k) + 1 by omega]
  apply rn_len_eq
  · rw [Nat.pow_add]; exact (Nat.le_div_iff_mul_le (Nat.two_pow_pos k)).mp h1
  · rw [show j + k + 1 = (j + 1) + k by omega, Nat.pow_add]; exact (Nat.div_lt_iff_lt_mul (Nat.two_pow_pos k)).mp h2
/-! THE TWO CLASSES AS FUNCTIONS: each method of the class (cf_: Format, cn_: NumberProbe) and of the reference (rf_) as a function of its arguments, in the machine's own operations. k: the format's place (0 SINGLE, 1 DOUBLE). -/
def jl_shl (x : Int64) (y : Int32) : Int64 := x <<< (y.toInt64 &&& 63)
def jl_shr (x : Int64) (y : Int32) : Int64 := x >>> (y.toInt64 &&& 63)
def jl_ush (x : Int64) (y : Int32) : Int64 := (x.toUInt64 >>> (y.toInt64.toUInt64 &&& Int64.toUInt64 63)).toInt64
def ji_shl (x y : Int32) : Int32 := x <<< (y &&& 31)
def ji_shr (x y : Int32) : Int32 := x >>> (y &&& 31)
def ji_ush (x y : Int32) : Int32 := (x.toUInt32 >>> (y.toUInt32 &&& Int32.toUInt32 31)).toInt32
def jl_rem (x y : Int64) : Int64 := x - x / y * y
def jb (b : Bool) : Int32 := if b then 1 else 0
theorem jb_0 {b : Bool} : jb b = 0 ↔ b = false := by cases b <;> decide
theorem jb_n0 {b : Bool} : ¬ jb b = 0 ↔ b = true := by cases b <;> decide
theorem jb_eq {a b : Bool} : jb a = jb b ↔ a = b := by cases a <;> cases b <;> decide
-- the fields of the two formats
def kf_b (k : Nat) : Int32 := match k with | 0 => 23 | _ => 52
def kf_s (k : Nat) : Int32 := match k with | 0 => 255 | _ => 2047
def kf_l (k : Nat) : Int32 := match k with | 0 => -149 | _ => -1074
def kf_m (k : Nat) : Int64 := match k with | 0 => 0x7FFFFFFF | _ => 0x7FFFFFFFFFFFFFFF
def kf_i (k : Nat) : Int64 := match k with | 0 => 0x7F800000 | _ => 0x7FF0000000000000
def kf_n (k : Nat) : Int64 := match k with | 0 => 0x7FC00000 | _ => 0x7FF8000000000000
-- Integer, Long
def jd_inlz4 (n i : Int32) : Int32 := n - ji_ush i 1
def jd_inlz3 (n i : Int32) : Int32 := if 4 ≤ i then jd_inlz4 (n - 2) (ji_ush i 2) else jd_inlz4 n i
def jd_inlz2 (n i : Int32) : Int32 := if 16 ≤ i then jd_inlz3 (n - 4) (ji_ush i 4) else jd_inlz3 n i
def jd_inlz1 (n i : Int32) : Int32 := if 256 ≤ i then jd_inlz2 (n - 8) (ji_ush i 8) else jd_inlz2 n i
def jd_inlz (i : Int32) : Int32 := if i ≤ 0 then (if i = 0 then 32 else 0) else if 65536 ≤ i then jd_inlz1 (31 - 16) (ji_ush i 16) else jd_inlz1 31 i
def jd_nlz (x : Int64) : Int32 := if (jl_ush x 32).toInt32 = 0 then 32 + jd_inlz x.toInt32 else jd_inlz (jl_ush x 32).toInt32
-- Format
def cf_mag (k : Nat) (x : Int64) : Int64 := x &&& kf_m k
def cf_nan (k : Nat) (x : Int64) : Bool := decide (kf_i k < cf_mag k x)
def cf_inf (k : Nat) (x : Int64) : Bool := decide (cf_mag k x = kf_i k)
def cf_zer (k : Nat) (x : Int64) : Bool := decide (cf_mag k x = 0)
def cf_neg (k : Nat) (x : Int64) : Int64 := if cf_nan k x then x else x ^^^ (kf_m k ^^^ (-1))
def cf_sgn (k : Nat) (n : Bool) (m : Int64) : Int64 := if n then m ||| (kf_m k ^^^ (-1)) else m
def cf_num (k : Nat) (b : Int64) : Int64 := if cf_nan k b then kf_n k else cf_sgn k (decide (¬ (b &&& (kf_m k + 1)) = 0)) (cf_mag k b)
def cf_fld (k : Nat) (x : Int64) : Int32 := (jl_ush x (kf_b k)).toInt32 &&& kf_s k
def cf_sig (k : Nat) (x : Int64) : Int64 := if cf_fld k x = 0 then x &&& (jl_shl 1 (kf_b k) - 1) else (x &&& (jl_shl 1 (kf_b k) - 1)) ||| jl_shl 1 (kf_b k)
def cf_exp (k : Nat) (x : Int64) : Int32 := kf_l k + (if cf_fld k x < 1 then 1 else cf_fld k x) - 1
def cf_wid (s : Int64) : Int32 := jd_nlz s - 11
def cf_dig (v : Int64) (d : Int32) : Int64 := jl_ush v (d * 10) &&& 1023
def cf_ris (k : Nat) (x : Int64) : Int64 := if x < 0 then x ^^^ kf_m k else x
def cf_rbv (k : Nat) (x : Int64) : Int64 := if cf_zer k x then 0 else cf_ris k x
def cf_les (k : Nat) (x y : Int64) : Int64 := if cf_nan k x ∨ cf_nan k y then kf_n k else if cf_ris k x ≤ cf_ris k y then x else y
def cf_gre (k : Nat) (x y : Int64) : Int64 := if cf_nan k x ∨ cf_nan k y then kf_n k else if cf_ris k y ≤ cf_ris k x then x else y
def cf_wre (v r : Int64) : Int64 := if r = 0 then v else v ||| 1
def cf_shr (v : Int64) (b : Int32) : Int64 := if 64 ≤ b then cf_wre 0 v else cf_wre (jl_ush v b) (v - jl_shl (jl_ush v b) b)
def cf_cut (v : Int64) (c : Int32) : Int64 := if 64 ≤ c then 0 else
  if jl_shl 1 (c - 1) < v - jl_shl (jl_ush v c) c ∨ (v - jl_shl (jl_ush v c) c = jl_shl 1 (c - 1) ∧ (jl_ush v c &&& 1) = 1) then jl_ush v c + 1 else jl_ush v c
/-- the end of rounded: the value m, shifted to the top, cut at c, its last place l -/
def cf_rn2 (k : Nat) (n : Bool) (m : Int64) (c l : Int32) : Int64 := if kf_s k - 1 ≤ l - kf_l k then cf_sgn k n (kf_i k) else cf_sgn k n (jl_shl (l - kf_l k).toInt64 (kf_b k) + cf_cut m c)
def cf_rnd (k : Nat) (n : Bool) (m : Int64) (e : Int32) : Int64 := if m = 0 then cf_sgn k n 0 else
  if e - (jd_nlz m - 1) + (62 - kf_b k) < kf_l k then cf_rn2 k n (jl_shl m (jd_nlz m - 1)) ((62 - kf_b k) + (kf_l k - (e - (jd_nlz m - 1) + (62 - kf_b k)))) (kf_l k)
  else cf_rn2 k n (jl_shl m (jd_nlz m - 1)) (62 - kf_b k) (e - (jd_nlz m - 1) + (62 - kf_b k))
/-- finiteSum -/
def cf_fsm (k : Nat) (g s : Int64) : Int64 :=
  let a := jl_shl (cf_sig k g) 9
  let b := cf_shr (jl_shl (cf_sig k s) 9) (cf_exp k g - cf_exp k s)
  let same := decide (g < 0) == decide (s < 0)
  let total := if same then a + b else a - b
  cf_rnd k (decide (g < 0) && (same || decide (¬ total = 0))) total (cf_exp k g - 9)
def cf_sum (k : Nat) (x y : Int64) : Int64 := if cf_nan k x ∨ cf_nan k y then kf_n k else
  if cf_inf k x then (if cf_inf k y ∧ ¬ x = y then kf_n k else x) else
  if cf_inf k y then y else
  if cf_mag k y ≤ cf_mag k x then cf_fsm k x y else cf_fsm k y x
def cf_pstep (a b : Int64) (d : Int32) (q : Int64 × Int64) : Int64 × Int64 := (jl_ush q.1 10 + a * cf_dig b d, q.2 ||| cf_dig q.1 0)
def cf_ploop (a b : Int64) : Nat → Int64 × Int64 → Int64 × Int64
  | 0, q => q
  | n + 1, q => cf_ploop a b n (cf_pstep a b (nI (5 - n)) q)
def cf_fpr (k : Nat) (n : Bool) (x y : Int64) : Int64 :=
  let sx := cf_wid (cf_sig k x)
  let sy := cf_wid (cf_sig k y)
  let q := cf_ploop (jl_shl (cf_sig k x) sx) (jl_shl (cf_sig k y) sy) 6 (0, 0)
  cf_rnd k n (cf_wre q.1 q.2) (cf_exp k x - sx + cf_exp k y - sy + 50)
def cf_mul (k : Nat) (x y : Int64) : Int64 :=
  let n := !(decide (x < 0) == decide (y < 0))
  if cf_nan k x ∨ cf_nan k y then kf_n k else
  if cf_inf k x ∨ cf_inf k y then (if cf_zer k x ∨ cf_zer k y then kf_n k else cf_sgn k n (kf_i k)) else
  if cf_zer k x ∨ cf_zer k y then cf_sgn k n 0 else cf_fpr k n x y
def cf_qstep (d : Int64) (q : Int64 × Int64) : Int64 × Int64 := (jl_shl q.1 10 + jl_shl q.2 10 / d, jl_rem (jl_shl q.2 10) d)
def cf_qloop (d : Int64) : Nat → Int64 × Int64 → Int64 × Int64
  | 0, q => q
  | n + 1, q => cf_qloop d n (cf_qstep d q)
def cf_fqu (k : Nat) (n : Bool) (x y : Int64) : Int64 :=
  let sx := cf_wid (cf_sig k x)
  let sy := cf_wid (cf_sig k y)
  let a := jl_shl (cf_sig k x) sx
  let d := jl_shl (cf_sig k y) sy
  let q := cf_qloop d 6 (a / d, jl_rem a d)
  cf_rnd k n (cf_wre q.1 q.2) (cf_exp k x - sx - cf_exp k y + sy - 60)
def cf_div (k : Nat) (x y : Int64) : Int64 :=
  let n := !(decide (x < 0) == decide (y < 0))
  if cf_nan k x ∨ cf_nan k y ∨ (cf_inf k x ∧ cf_inf k y) ∨ (cf_zer k x ∧ cf_zer k y) then kf_n k else
  if cf_inf k x ∨ cf_zer k y then cf_sgn k n (kf_i k) else
  if cf_zer k x ∨ cf_inf k y then cf_sgn k n 0 else cf_fqu k n x y
def cf_rloop (d : Int64) : Nat → Int32 → Int64 → Int64
  | 0, _, r => r
  | n + 1, l, r => if 0 < l then cf_rloop d n (l - 10) (jl_rem (jl_shl r (if 10 < l then 10 else l)) d) else r
def cf_rem (k : Nat) (x y : Int64) : Int64 := if cf_nan k x ∨ cf_nan k y ∨ cf_inf k x ∨ cf_zer k y then kf_n k else
  if cf_mag k x < cf_mag k y then x else
  cf_rnd k (decide (x < 0)) (cf_rloop (cf_sig k y) 300 (cf_exp k x - cf_exp k y) (jl_rem (cf_sig k x) (cf_sig k y))) (cf_exp k y)
/-- nearestTo: of format j, in format k -/
def cf_nto (k j : Nat) (x : Int64) : Int64 := if cf_nan j x then kf_n k else if cf_inf j x then cf_sgn k (decide (x < 0)) (kf_i k) else cf_rnd k (decide (x < 0)) (cf_sig j x) (cf_exp j x)
def cf_ntw (k : Nat) (w : Int64) : Int64 :=
  let m := if w < 0 then -w else w
  if m < 0 then cf_rnd k true (jl_ush m 1) 1 else cf_rnd k (decide (w < 0)) m 0
def cf_twz (k : Nat) (x : Int64) : Int64 := if cf_nan k x then 0 else
  if jd_nlz (cf_sig k x) ≤ cf_exp k x then (if x < 0 then -0x8000000000000000 else 0x7FFFFFFFFFFFFFFF) else
  let w := if 0 ≤ cf_exp k x then jl_shl (cf_sig k x) (cf_exp k x) else if -64 < cf_exp k x then jl_ush (cf_sig k x) (-cf_exp k x) else 0
  if x < 0 then -w else w
-- the reference
def rf_fr (f : Int32) : Int32 := if f = 0 then 23 else 52
def rf_le (f : Int32) : Int32 := if f = 0 then -149 else -1074
def rf_sb (f : Int32) : Int64 := if f = 0 then 0x80000000 else -0x8000000000000000
def rf_if (f : Int32) : Int64 := if f = 0 then 0x7F800000 else 0x7FF0000000000000
def rf_na (f : Int32) : Int64 := if f = 0 then 0x7FC00000 else 0x7FF8000000000000
def rf_isS (f : Int32) (b : Int64) : Bool := decide (¬ (b &&& rf_sb f) = 0)
def rf_siz (f : Int32) (b : Int64) : Int64 := b &&& (rf_sb f - 1)
def rf_isN (f : Int32) (b : Int64) : Bool := decide (rf_if f < rf_siz f b)
def rf_lst (m : Int64) (n k : Int32) : Int32 := if jl_ush m (n + k) = 0 then n else n + k
def rf_lloop (m : Int64) : Nat → Int32 → Int32 → Int32
  | 0, n, _ => n
  | j + 1, n, k => if 0 < k then rf_lloop m j (rf_lst m n k) (k / 2) else n
def rf_len (m : Int64) : Int32 := if m = 0 then 0 else rf_lloop m 7 0 32 + 1
def rf_sgn (f : Int32) (s : Bool) (b : Int64) : Int64 := if s then b ||| rf_sb f else b
def rf_man (f : Int32) (b : Int64) : Int64 := if rf_siz f b < jl_shl 1 (rf_fr f) then rf_siz f b else (rf_siz f b &&& (jl_shl 1 (rf_fr f) - 1)) ||| jl_shl 1 (rf_fr f)
def rf_pow (f : Int32) (b : Int64) : Int32 := rf_le f + (if (jl_ush (rf_siz f b) (rf_fr f)).toInt32 = 0 then 0 else (jl_ush (rf_siz f b) (rf_fr f)).toInt32 - 1)
def rf_isI (f : Int32) (b : Int64) : Bool := decide (rf_siz f b = rf_if f)
/-- round, behind the shift -/
def rf_kep (m : Int64) (h : Int32) : Int64 := if h ≤ 0 then jl_shl m (-h) else
  if jl_shl 1 (h - 1) < m - jl_shl (jl_ush m h) h ∨ (m - jl_shl (jl_ush m h) h = jl_shl 1 (h - 1) ∧ ¬ (jl_ush m h &&& 1) = 0) then jl_ush m h + 1 else jl_ush m h
def rf_rn3 (f : Int32) (s : Bool) (q : Int64) (u : Int32) : Int64 := if 3000 < u then rf_sgn f s (rf_if f) else
  if jl_ush (rf_if f) (rf_fr f) ≤ u.toInt64 then rf_sgn f s (rf_if f) else
  rf_sgn f s (if rf_if f < jl_shl u.toInt64 (rf_fr f) + q then rf_if f else jl_shl u.toInt64 (rf_fr f) + q)
def rf_rn2 (f : Int32) (s : Bool) (m : Int64) (e h : Int32) : Int64 := if 63 < h then rf_sgn f s 0 else rf_rn3 f s (rf_kep m h) (e + h - rf_le f)
def rf_rnd (f : Int32) (s : Bool) (m : Int64) (e : Int32) : Int64 := if m = 0 then rf_sgn f s 0 else
  rf_rn2 f s m e (if rf_len m - rf_fr f - 1 < rf_le f - e then rf_le f - e else rf_len m - rf_fr f - 1)
def rf_shd (m : Int64) (n : Int32) : Int64 := if 62 < n then (if m = 0 then 0 else 1) else if jl_shl (jl_ush m n) n = m then jl_ush m n else jl_ush m n ||| 1
def rf_add (f : Int32) (x y : Int64) : Int64 :=
  if rf_isN f x ∨ rf_isN f y ∨ (rf_isI f x ∧ rf_isI f y ∧ ¬ rf_isS f x = rf_isS f y) then rf_na f else
  if rf_isI f x then x else if rf_isI f y then y else
  if rf_man f x = 0 ∧ rf_man f y = 0 then (if rf_isS f x ∧ rf_isS f y then x else 0) else
  let e := if rf_pow f y < rf_pow f x then rf_pow f x else rf_pow f y
  let a := rf_shd (jl_shl (rf_man f x) 8) (e - rf_pow f x)
  let b := rf_shd (jl_shl (rf_man f y) 8) (e - rf_pow f y)
  let s := (if rf_isS f x then -a else a) + (if rf_isS f y then -b else b)
  if s = 0 then 0 else rf_rnd f (decide (s < 0)) (if s < 0 then -s else s) (e - 8)
def rf_fli (f : Int32) (x : Int64) : Int64 := if rf_isN f x then x else x ^^^ rf_sb f
def rf_lo32 (x : Int64) : Int64 := x &&& 0xFFFFFFFF
/-- product: the low word, the high one -/
def rf_one (a b : Int64) : Int64 := jl_ush a 32 * rf_lo32 b + jl_ush (rf_lo32 a * rf_lo32 b) 32
def rf_two (a b : Int64) : Int64 := rf_lo32 a * jl_ush b 32 + rf_lo32 (rf_one a b)
def rf_plo (a b : Int64) : Int64 := jl_shl (rf_two a b) 32 ||| rf_lo32 (rf_lo32 a * rf_lo32 b)
def rf_phi (a b : Int64) : Int64 := jl_ush a 32 * jl_ush b 32 + jl_ush (rf_one a b) 32 + jl_ush (rf_two a b) 32
def rf_mu2 (f : Int32) (s : Bool) (lo hi : Int64) (e : Int32) : Int64 := if hi = 0 ∧ jl_ush lo 62 = 0 then rf_rnd f s lo e else
  let t := rf_len hi + 2
  let m := rf_shd (jl_ush lo 1) (t - 1) ||| jl_shl hi (64 - t)
  rf_rnd f s (if (lo &&& 1) = 0 then m else m ||| 1) (e + t)
def rf_mul (f : Int32) (x y : Int64) : Int64 :=
  let s := !(rf_isS f x == rf_isS f y)
  if rf_isN f x ∨ rf_isN f y ∨ (rf_isI f x ∧ rf_man f y = 0) ∨ (rf_isI f y ∧ rf_man f x = 0) then rf_na f else
  if rf_isI f x ∨ rf_isI f y then rf_sgn f s (rf_if f) else
  rf_mu2 f s (rf_plo (rf_man f x) (rf_man f y)) (rf_phi (rf_man f x) (rf_man f y)) (rf_pow f x + rf_pow f y)
def rf_dst (d : Int64) (q : Int64 × Int64) : Int64 × Int64 := if d ≤ q.2 then (jl_shl q.1 1 + 1, jl_shl (q.2 - d) 1) else (jl_shl q.1 1, jl_shl q.2 1)
def rf_dloop (d : Int64) : Nat → Int64 × Int64 → Int64 × Int64
  | 0, q => q
  | n + 1, q => rf_dloop d n (rf_dst d q)
def rf_div (f : Int32) (x y : Int64) : Int64 :=
  let s := !(rf_isS f x == rf_isS f y)
  let z := decide (rf_man f y = 0) && !rf_isI f y
  if rf_isN f x ∨ rf_isN f y ∨ (rf_isI f x ∧ rf_isI f y) ∨ (z ∧ rf_man f x = 0) then rf_na f else
  if rf_isI f x ∨ z then rf_sgn f s (rf_if f) else
  if rf_isI f y ∨ rf_man f x = 0 then rf_sgn f s 0 else
  let u := 53 - rf_len (rf_man f x)
  let d := 53 - rf_len (rf_man f y)
  let q := rf_dloop (jl_shl (rf_man f y) d) 58 (0, jl_shl (rf_man f x) u)
  rf_rnd f s (if q.2 = 0 then q.1 else q.1 ||| 1) (rf_pow f x - u - rf_pow f y + d - 57)
def rf_rloop (d : Int64) : Nat → Int64 → Int64
  | 0, r => r
  | n + 1, r => rf_rloop d n (jl_rem (jl_shl r 1) d)
def rf_rem (f : Int32) (x y : Int64) : Int64 := if rf_isN f x ∨ rf_isN f y ∨ rf_isI f x ∨ rf_man f y = 0 then rf_na f else
  if rf_isI f y ∨ rf_man f x = 0 then x else
  let d := rf_pow f y - rf_pow f x
  if 10 < d then x else
  if 0 ≤ d then rf_rnd f (rf_isS f x) (jl_rem (rf_man f x) (jl_shl (rf_man f y) d)) (rf_pow f x) else
  rf_rnd f (rf_isS f x) (rf_rloop (rf_man f y) (-d).toNatClampNeg (jl_rem (rf_man f x) (rf_man f y))) (rf_pow f y)
def rf_pla (f : Int32) (b : Int64) : Int64 := if rf_isN f b then rf_na 1 else if rf_isS f b then -1 - rf_siz f b else rf_siz f b
def rf_ope (f op : Int32) (x y : Int64) : Int64 :=
  if op = 0 then rf_add f x y else if op = 1 then rf_add f x (rf_fli f y) else if op = 2 then rf_mul f x y else if op = 3 then rf_div f x y else if op = 4 then rf_rem f x y else
  if op = 5 then (if rf_isN f x ∨ rf_isN f y then rf_na f else if rf_pla f x ≤ rf_pla f y then x else y) else
  if op = 6 then (if rf_isN f x ∨ rf_isN f y then rf_na f else if rf_pla f y ≤ rf_pla f x then x else y) else
  if op = 7 then rf_fli f x else if rf_isN f x then x else rf_siz f x
def rf_nor (kind : Int32) (v : Int64) : Int64 := if kind = 3 then v else if kind = 2 then v.toInt32.toInt64 else
  if kind = 0 then (if rf_isN kind (v &&& 0xFFFFFFFF) then rf_na kind else v &&& 0xFFFFFFFF) else if rf_isN kind v then rf_na kind else v
def rf_ofw (f : Int32) (v : Int64) : Int64 := if v = -0x8000000000000000 then rf_rnd f true (jl_shl 1 62) 1 else rf_rnd f (decide (v < 0)) (if v < 0 then -v else v) 0
def rf_tow (f : Int32) (b : Int64) : Int64 := if rf_isN f b then 0 else
  if rf_isI f b ∨ 63 < rf_pow f b + rf_len (rf_man f b) then (if rf_isS f b then -0x8000000000000000 else 0x7FFFFFFFFFFFFFFF) else
  let m := if 0 ≤ rf_pow f b then jl_shl (rf_man f b) (rf_pow f b) else if rf_pow f b < -62 then 0 else jl_ush (rf_man f b) (-rf_pow f b)
  if rf_isS f b then -m else m
def rf_bou (v : Int64) : Int64 := if 2147483647 < v then 2147483647 else if v < -2147483648 then -2147483648 else v
def rf_con (kind : Int32) (v : Int64) (to : Int32) : Int64 := if kind = to then v else
  if 1 < kind then (if 1 < to then rf_nor to v else rf_ofw to v) else
  if to = 3 then rf_tow kind v else if to = 2 then rf_bou (rf_tow kind v) else
  if rf_isN kind v then rf_na to else if rf_siz kind v = rf_if kind then rf_sgn to (rf_isS kind v) (rf_if to) else
  rf_rnd to (rf_isS kind v) (rf_man kind v) (rf_pow kind v)
def rf_whl (kind op : Int32) (x y : Int64) : Int64 :=
  let n : Int32 := y.toInt32 &&& (if kind = 3 then 63 else 31)
  if op = 0 then x + y else if op = 1 then x - y else if op = 2 then x * y else if op = 3 then x / y else if op = 4 then jl_rem x y else
  if op = 5 then (if x < y then x else y) else if op = 6 then (if y < x then x else y) else if op = 7 then -x else if op = 8 then (if x < 0 then -x else x) else
  if op = 9 then jl_shl x n else if op = 10 then jl_shr x n else if op = 11 then (if kind = 3 then jl_ush x n else jl_ush (x &&& 0xFFFFFFFF) n) else
  if op = 12 then x &&& y else if op = 13 then x ||| y else x ^^^ y
/-! longs and ints as the integers behind them: zL, zI -/
def zL (z : Int) : Int64 := Int64.ofInt z
def zI (z : Int) : Int32 := Int32.ofInt z
theorem zL_of (x : Int64) : x = zL x.toInt := (Int64.ofInt_toInt x).symm
theorem zI_of (x : Int32) : x = zI x.toInt := (Int32.ofInt_toInt x).symm
theorem zL_add (a b : Int) : zL a + zL b = zL (a + b) := (Int64.ofInt_add a b).symm
theorem zL_sub (a b : Int) : zL a - zL b = zL (a - b) := (Int64.ofInt_sub a b).symm
theorem zL_mul (a b : Int) : zL a * zL b = zL (a * b) := (Int64.ofInt_mul a b).symm
theorem zL_neg (a : Int) : -zL a = zL (-a) := (Int64.ofInt_neg a).symm
theorem zI_add (a b : Int) : zI a + zI b = zI (a + b) := (Int32.ofInt_add a b).symm
theorem zI_sub (a b : Int) : zI a - zI b = zI (a - b) := (Int32.ofInt_sub a b).symm
theorem zI_mul (a b : Int) : zI a * zI b = zI (a * b) := (Int32.ofInt_mul a b).symm
theorem zI_neg (a : Int) : -zI a = zI (-a) := (Int32.ofInt_neg a).symm
theorem zL_toInt {z : Int} (h1 : -9223372036854775808 ≤ z) (h2 : z < 9223372036854775808) : (zL z).toInt = z := Int64.toInt_ofInt_of_le h1 h2
theorem zI_toInt {z : Int} (h1 : -2147483648 ≤ z) (h2 : z < 2147483648) : (zI z).toInt = z := Int32.toInt_ofInt_of_le h1 h2
theorem zL_lt {a b : Int} (h1 : -9223372036854775808 ≤ a) (h2 : a < 9223372036854775808) (h3 : -9223372036854775808 ≤ b) (h4 : b < 9223372036854775808) : zL a < zL b ↔ a < b := by
  rw [Int64.lt_iff_toInt_lt, zL_toInt h1 h2, zL_toInt h3 h4]
theorem zL_le {a b : Int} (h1 : -9223372036854775808 ≤ a) (h2 : a < 9223372036854775808) (h3 : -9223372036854775808 ≤ b) (h4 : b < 9223372036854775808) : zL a ≤ zL b ↔ a ≤ b := by
  rw [Int64.le_iff_toInt_le, zL_toInt h1 h2, zL_toInt h3 h4]
theorem zL_eq {a b : Int} (h1 : -9223372036854775808 ≤ a) (h2 : a < 9223372036854775808) (h3 : -9223372036854775808 ≤ b) (h4 : b < 9223372036854775808) : zL a = zL b ↔ a = b := by
  rw [← Int64.toInt_inj, zL_toInt h1 h2, zL_toInt h3 h4]
theorem zI_lt {a b : Int} (h1 : -2147483648 ≤ a) (h2 : a < 2147483648) (h3 : -2147483648 ≤ b) (h4 : b < 2147483648) : zI a < zI b ↔ a < b := by
  rw [Int32.lt_iff_toInt_lt, zI_toInt h1 h2, zI_toInt h3 h4]
theorem zI_le {a b : Int} (h1 : -2147483648 ≤ a) (h2 : a < 2147483648) (h3 : -2147483648 ≤ b) (h4 : b < 2147483648) : zI a ≤ zI b ↔ a ≤ b := by
  rw [Int32.le_iff_toInt_le, zI_toInt h1 h2, zI_toInt h3 h4]
theorem zI_eq {a b : Int} (h1 : -2147483648 ≤ a) (h2 : a < 2147483648) (h3 : -2147483648 ≤ b) (h4 : b < 2147483648) : zI a = zI b ↔ a = b := by
  rw [← Int32.toInt_inj, zI_toInt h1 h2, zI_toInt h3 h4]
theorem zL_i (z : Int) : (zL z).toInt32 = zI z := Int64.toInt32_ofInt
theorem zI_l {z : Int} (h1 : -2147483648 ≤ z) (h2 : z < 2147483648) : (zI z).toInt64 = zL z := by
  apply Int64.toInt_inj.mp
  rw [Int32.toInt_toInt64, zI_toInt h1 h2, zL_toInt (by omega) (by omega)]
theorem zL_lN (n : Nat) : zL (n : Int) = lN n := Int64.ofInt_eq_ofNat
theorem zI_nI (n : Nat) : zI (n : Int) = nI n := Int32.ofInt_eq_ofNat
/-- the bits as a natural number -/
theorem zL_tn (z : Int) : (zL z).toBitVec.toNat = (z % 18446744073709551616).toNat := by
  show (BitVec.ofInt 64 z).toNat = _
  rw [BitVec.toNat_ofInt]
  rfl
theorem zI_tn (z : Int) : (zI z).toBitVec.toNat = (z % 4294967296).toNat := by
  show (BitVec.ofInt 32 z).toNat = _
  rw [BitVec.toNat_ofInt]
  rfl
theorem zL_inj {x : Int64} {z : Int} (h : x.toBitVec.toNat = (z % 18446744073709551616).toNat) : x = zL z := by
  apply Int64.toBitVec_inj.mp
  apply BitVec.eq_of_toNat_eq
  rw [h, zL_tn]
theorem zI_inj {x : Int32} {z : Int} (h : x.toBitVec.toNat = (z % 4294967296).toNat) : x = zI z := by
  apply Int32.toBitVec_inj.mp
  apply BitVec.eq_of_toNat_eq
  rw [h, zI_tn]
theorem zL_mod (z : Int) : zL (z % 18446744073709551616) = zL z := by
  apply zL_inj
  rw [zL_tn, Int.emod_emod_of_dvd _ (Int.dvd_refl _)]
theorem zL_wrap {a b : Int} (h : a % 18446744073709551616 = b % 18446744073709551616) : zL a = zL b := by rw [← zL_mod a, h, zL_mod]
/-! shifts by a number that is known -/
theorem z_c : ∀ k, k < 64 → ((nI k).toInt64 &&& 63) = lN k := by decide +kernel
theorem z_cu : ∀ k, k < 64 → ((nI k).toInt64.toUInt64 &&& Int64.toUInt64 63) = UInt64.ofNat k := by decide +kernel
theorem z_sm : ∀ k, k < 64 → (BitVec.ofNat 64 k).smod 64 = BitVec.ofNat 64 k := by decide +kernel
theorem z_tn : ∀ k, k < 64 → (UInt64.ofNat k).toNat = k := by decide +kernel
theorem zL_shl (z : Int) {k : Nat} (hk : k < 64) : jl_shl (zL z) (zI k) = zL (z * 2 ^ k) := by
  unfold jl_shl
  rw [zI_nI, z_c k hk]
  apply zL_inj
  rw [Int64.toBitVec_shiftLeft]
  show ((zL z).toBitVec <<< ((BitVec.ofNat 64 k).smod 64).toNat).toNat = _
  rw [z_sm k hk, BitVec.toNat_ofNat, Nat.mod_eq_of_lt (by omega), BitVec.toNat_shiftLeft, zL_tn, Nat.shiftLeft_eq]
  have h0 : 0 ≤ z % 18446744073709551616 := Int.emod_nonneg _ (by decide)
  have e1 : z * 2 ^ k = z % 18446744073709551616 * 2 ^ k + 18446744073709551616 * (z / 18446744073709551616 * 2 ^ k) := by
    rw [← Int.mul_assoc, ← Int.add_mul, Int.emod_add_mul_ediv]
  rw [e1, Int.add_mul_emod_self_left]
  generalize z % 18446744073709551616 = y at h0
  obtain ⟨n, rfl⟩ := Int.eq_ofNat_of_zero_le h0
  have e2 : ((2 ^ k : Nat) : Int) = (2 : Int) ^ k := by rw [Int.natCast_pow]; rfl
  rw [← e2, ← Int.natCast_mul, Int.toNat_natCast]
  show n * 2 ^ k % 18446744073709551616 = _
  omega
theorem zL_ush {n : Nat} (hn : n < 18446744073709551616) {k : Nat} (hk : k < 64) : jl_ush (zL n) (zI k) = zL ((n / 2 ^ k : Nat) : Int) := by
  unfold jl_ush
  rw [zI_nI, z_cu k hk]
  apply zL_inj
  show ((zL n).toUInt64 >>> UInt64.ofNat k).toNat = _
  rw [UInt64.toNat_shiftRight, z_tn k hk, Nat.mod_eq_of_lt hk, Nat.shiftRight_eq_div_pow]
  show (zL n).toBitVec.toNat / 2 ^ k = _
  rw [zL_tn, show ((n : Int) % 18446744073709551616).toNat = n by omega]
  have : n / 2 ^ k ≤ n := Nat.div_le_self _ _
  generalize n / 2 ^ k = q at this
  omega
theorem zL_mask (z : Int) {k : Nat} (hk : k ≤ 64) : zL z &&& zL (2 ^ k - 1) = zL (z % 2 ^ k) := by
  apply zL_inj
  rw [Int64.toBitVec_and, BitVec.toNat_and, zL_tn, zL_tn]
  have hp : (0 : Int) < 2 ^ k := Int.pow_pos (by decide)
  have hle : (2 : Int) ^ k ≤ 18446744073709551616 := by
    have := Nat.pow_le_pow_right (n := 2) (by decide) hk
    have h2 : ((2 ^ k : Nat) : Int) ≤ ((2 ^ 64 : Nat) : Int) := Int.ofNat_le.mpr this
    rw [Int.natCast_pow] at h2
    exact h2
  have e1 : (((2 : Int) ^ k - 1) % 18446744073709551616).toNat = 2 ^ k - 1 := by
    rw [Int.emod_eq_of_lt (by omega) (by omega)]
    have : ((2 ^ k : Nat) : Int) = (2 : Int) ^ k := by rw [Int.natCast_pow]; rfl
    omega
  rw [e1, Nat.and_two_pow_sub_one_eq_mod]
  have h0 : 0 ≤ z % 18446744073709551616 := Int.emod_nonneg _ (by decide)
  have h1 : 0 ≤ z % 2 ^ k := Int.emod_nonneg _ (by omega)
  have h2 : z % 2 ^ k < 2 ^ k := Int.emod_lt_of_pos _ hp
  rw [Int.emod_eq_of_lt h1 (by omega)]
  have hd : (2 : Int) ^ k ∣ 18446744073709551616 := by
    refine ⟨2 ^ (64 - k), ?_⟩
    rw [← Int.pow_add, show k + (64 - k) = 64 by omega]
    rfl
  rw [← Int.emod_emod_of_dvd z hd]
  generalize z % 18446744073709551616 = y at h0
  obtain ⟨n, rfl⟩ := Int.eq_ofNat_of_zero_le h0
  have : ((2 ^ k : Nat) : Int) = (2 : Int) ^ k := by rw [Int.natCast_pow]; rfl
  rw [← this, ← Int.natCast_emod, Int.toNat_natCast, Int.toNat_natCast]
/-! bits that don't meet -/
theorem zL_orp {m a i : Nat} (h : m < 2 ^ i) (hl : 2 ^ i * a + m < 18446744073709551616) : zL (m : Int) ||| zL ((2 ^ i * a : Nat) : Int) = zL ((m + 2 ^ i * a : Nat) : Int) := by
  apply zL_inj
  rw [Int64.toBitVec_or, BitVec.toNat_or, zL_tn, zL_tn]
  have e1 : ((m : Int) % 18446744073709551616).toNat = m := by omega
  have e2 : (((2 ^ i * a : Nat) : Int) % 18446744073709551616).toNat = 2 ^ i * a := by omega
  rw [e1, e2, Nat.or_comm, ← Nat.two_pow_add_eq_or_of_lt h]
  omega
theorem zL_xorp {m a i : Nat} (h : m < 2 ^ i) (hl : 2 ^ i * a + m < 18446744073709551616) : zL (m : Int) ^^^ zL ((2 ^ i * a : Nat) : Int) = zL ((m + 2 ^ i * a : Nat) : Int) := by
  apply zL_inj
  rw [Int64.toBitVec_xor, BitVec.toNat_xor, zL_tn, zL_tn]
  have e1 : ((m : Int) % 18446744073709551616).toNat = m := by omega
  have e2 : (((2 ^ i * a : Nat) : Int) % 18446744073709551616).toNat = 2 ^ i * a := by omega
  have e3 : m ^^^ 2 ^ i * a = 2 ^ i * a ||| m := by
    apply Nat.eq_of_testBit_eq
    intro j
    rw [Nat.testBit_xor, Nat.testBit_or, Nat.testBit_two_pow_mul]
    rcases Nat.lt_or_ge j i with g | g
    · simp [Nat.not_le.mpr g]
    · have : m.testBit j = false := Nat.testBit_lt_two_pow (Nat.lt_of_lt_of_le h (Nat.pow_le_pow_right (by decide) g))
      simp [this]
  rw [e1, e2, e3, ← Nat.two_pow_add_eq_or_of_lt h]
  omega
theorem zL_xorb {m a i : Nat} (h : m < 2 ^ i) (hl : 2 ^ i * a + m < 18446744073709551616) : zL ((m + 2 ^ i * a : Nat) : Int) ^^^ zL ((2 ^ i * a : Nat) : Int) = zL (m : Int) := by
  rw [← zL_xorp h hl]
  apply Int64.toBitVec_inj.mp
  rw [Int64.toBitVec_xor, Int64.toBitVec_xor, BitVec.xor_assoc, BitVec.xor_self, BitVec.xor_zero]
theorem zL_not (z : Int) : zL z ^^^ (-1) = zL (-1 - z) := by
  rw [Int64.xor_comm, Int64.neg_one_xor, Int64.not_eq_neg_sub, zL_neg, show (1 : Int64) = zL 1 from rfl, zL_sub]
  congr 1; omega
theorem zL_or1 {n : Nat} (h : n < 18446744073709551616) : zL (n : Int) ||| 1 = zL ((2 * (n / 2) + 1 : Nat) : Int) := by
  have e : zL (n : Int) ||| 1 = zL ((n % 2 : Nat) : Int) ||| (zL ((2 ^ 1 * (n / 2) : Nat) : Int) ||| 1) := by
    have := zL_orp (m := n % 2) (a := n / 2) (i := 1) (by omega) (by omega)
    rw [← Int64.or_assoc, this, show n % 2 + 2 ^ 1 * (n / 2) = n by omega]
  have e1 := zL_orp (m := 1) (a := n / 2) (i := 1) (by decide) (by omega)
  rw [show zL ((1 : Nat) : Int) = 1 from rfl] at e1
  rw [e, Int64.or_comm (zL ((2 ^ 1 * (n / 2) : Nat) : Int)) 1, ← Int64.or_assoc]
  have e2 : zL ((n % 2 : Nat) : Int) ||| 1 = 1 := by
    rcases (show n % 2 = 0 ∨ n % 2 = 1 by omega) with q | q <;> rw [q] <;> decide
  rw [e2, e1, show 1 + 2 ^ 1 * (n / 2) = 2 * (n / 2) + 1 by omega]
theorem zL_and1 (n : Nat) : zL (n : Int) &&& 1 = zL ((n % 2 : Nat) : Int) := by
  have := zL_mask (n : Int) (k := 1) (by decide)
  rw [show zL (2 ^ 1 - 1) = 1 from by decide] at this
  rw [this]; congr 1
theorem zI_mask (z : Int) {k : Nat} (hk : k ≤ 32) : zI z &&& zI (2 ^ k - 1) = zI (z % 2 ^ k) := by
  apply zI_inj
  rw [Int32.toBitVec_and, BitVec.toNat_and, zI_tn, zI_tn]
  have hp : (0 : Int) < 2 ^ k := Int.pow_pos (by decide)
  have hle : (2 : Int) ^ k ≤ 4294967296 := by
    have := Nat.pow_le_pow_right (n := 2) (by decide) hk
    have h2 : ((2 ^ k : Nat) : Int) ≤ ((2 ^ 32 : Nat) : Int) := Int.ofNat_le.mpr this
    rw [Int.natCast_pow] at h2
    exact h2
  have e1 : (((2 : Int) ^ k - 1) % 4294967296).toNat = 2 ^ k - 1 := by
    rw [Int.emod_eq_of_lt (by omega) (by omega)]
    have : ((2 ^ k : Nat) : Int) = (2 : Int) ^ k := by rw [Int.natCast_pow]; rfl
    omega
  rw [e1, Nat.and_two_pow_sub_one_eq_mod]
  have h0 : 0 ≤ z % 4294967296 := Int.emod_nonneg _ (by decide)
  have h1 : 0 ≤ z % 2 ^ k := Int.emod_nonneg _ (by omega)
  have h2 : z % 2 ^ k < 2 ^ k := Int.emod_lt_of_pos _ hp
  rw [Int.emod_eq_of_lt h1 (by omega)]
  have hd : (2 : Int) ^ k ∣ 4294967296 := by
    refine ⟨2 ^ (32 - k), ?_⟩
    rw [← Int.pow_add, show k + (32 - k) = 32 by omega]
    rfl
  rw [← Int.emod_emod_of_dvd z hd]
  generalize z % 4294967296 = y at h0
  obtain ⟨n, rfl⟩ := Int.eq_ofNat_of_zero_le h0
  have : ((2 ^ k : Nat) : Int) = (2 : Int) ^ k := by rw [Int.natCast_pow]; rfl
  rw [← this, ← Int.natCast_emod, Int.toNat_natCast, Int.toNat_natCast]
theorem zL_div {a b : Nat} (ha : a < 9223372036854775808) (hb : b < 9223372036854775808) : zL (a : Int) / zL (b : Int) = zL ((a / b : Nat) : Int) := by
  apply Int64.toInt_inj.mp
  have hq : a / b ≤ a := Nat.div_le_self _ _
  rw [Int64.toInt_div, zL_toInt (by omega) (by omega), zL_toInt (by omega) (by omega), ← Int.ofNat_tdiv]
  generalize a / b = q at hq
  rw [zL_toInt (by omega) (by omega)]
  exact Jvm.Kit.bmod64 (by omega) (by omega)
theorem zL_rem {a b : Nat} (ha : a < 9223372036854775808) (hb : b < 9223372036854775808) : jl_rem (zL (a : Int)) (zL (b : Int)) = zL ((a % b : Nat) : Int) := by
  unfold jl_rem
  rw [zL_div ha hb, zL_mul, zL_sub]
  congr 1
  have := Nat.div_add_mod a b
  rw [Nat.mul_comm] at this
  rw [← Int.natCast_mul]
  omega
theorem pf_2 {k : Nat} (h : k < 2) : k = 0 ∨ k = 1 := by omega
/-! leading zeros; rounded -/
theorem z_cu32 : ∀ k, k < 32 → ((nI k).toUInt32 &&& Int32.toUInt32 31) = UInt32.ofNat k := by decide +kernel
theorem z_tn32 : ∀ k, k < 32 → (UInt32.ofNat k).toNat = k := by decide +kernel
theorem zI_ush {n : Nat} (hn : n < 4294967296) {k : Nat} (hk : k < 32) : ji_ush (zI n) (zI k) = zI ((n / 2 ^ k : Nat) : Int) := by
  unfold ji_ush
  rw [zI_nI k, z_cu32 k hk]
  apply zI_inj
  show ((zI n).toUInt32 >>> UInt32.ofNat k).toNat = _
  rw [UInt32.toNat_shiftRight, z_tn32 k hk, Nat.mod_eq_of_lt hk, Nat.shiftRight_eq_div_pow]
  show (zI n).toBitVec.toNat / 2 ^ k = _
  rw [zI_tn, show ((n : Int) % 4294967296).toNat = n by omega]
  have : n / 2 ^ k ≤ n := Nat.div_le_self _ _
  generalize n / 2 ^ k = q at this
  omega
theorem nz4 {c : Int} {i : Nat} (h0 : i ≠ 0) (h : i < 4) : jd_inlz4 (zI (31 - c)) (zI i) = zI (32 - c - rn_len i) := by
  unfold jd_inlz4
  have e := zI_ush (n := i) (by omega) (k := 1) (by decide)
  rw [show zI ((1 : Nat) : Int) = 1 from rfl] at e
  rw [e, zI_sub]
  congr 1
  have l : rn_len i = i / 2 + 1 := by
    rcases (show i = 1 ∨ i = 2 ∨ i = 3 by omega) with rfl | rfl | rfl <;> decide
  rw [l]; omega
theorem nz_up {i j : Nat} (h : 2 ^ j ≤ i) : i / 2 ^ j ≠ 0 ∧ rn_len i = rn_len (i / 2 ^ j) + j := by
  have h0 : i / 2 ^ j ≠ 0 := Nat.ne_of_gt (Nat.div_pos h (Nat.two_pow_pos j))
  exact ⟨h0, rn_len_div h0⟩
theorem nz3 {c : Int} {i : Nat} (h0 : i ≠ 0) (h : i < 16) : jd_inlz3 (zI (31 - c)) (zI i) = zI (32 - c - rn_len i) := by
  unfold jd_inlz3
  rw [show (4 : Int32) = zI 4 from rfl, show (2 : Int32) = zI ((2 : Nat) : Int) from rfl, zI_ush (by omega) (by decide), zI_sub]
  by_cases g : 4 ≤ i
  · obtain ⟨a, b⟩ := nz_up (i := i) (j := 2) g
    rw [if_pos (by rw [zI_le (by omega) (by omega) (by omega) (by omega)]; omega), show 31 - c - ((2 : Nat) : Int) = 31 - (c + 2) by omega, nz4 a (by omega), b]
    congr 1; omega
  · rw [if_neg (by rw [zI_le (by omega) (by omega) (by omega) (by omega)]; omega), nz4 h0 (by omega)]
theorem nz2 {c : Int} {i : Nat} (h0 : i ≠ 0) (h : i < 256) : jd_inlz2 (zI (31 - c)) (zI i) = zI (32 - c - rn_len i) := by
  unfold jd_inlz2
  rw [show (16 : Int32) = zI 16 from rfl, show (4 : Int32) = zI ((4 : Nat) : Int) from rfl, zI_ush (by omega) (by decide), zI_sub]
  by_cases g : 16 ≤ i
  · obtain ⟨a, b⟩ := nz_up (i := i) (j := 4) g
    rw [if_pos (by rw [zI_le (by omega) (by omega) (by omega) (by omega)]; omega), show 31 - c - ((4 : Nat) : Int) = 31 - (c + 4) by omega, nz3 a (by omega), b]
    congr 1; omega
  · rw [if_neg (by rw [zI_le (by omega) (by omega) (by omega) (by omega)]; omega), nz3 h0 (by omega)]
theorem nz1 {c : Int} {i : Nat} (h0 : i ≠ 0) (h : i < 65536) : jd_inlz1 (zI (31 - c)) (zI i) = zI (32 - c - rn_len i) := by
  unfold jd_inlz1
  rw [show (256 : Int32) = zI 256 from rfl, show (8 : Int32) = zI ((8 : Nat) : Int) from rfl, zI_ush (by omega) (by decide), zI_sub]
  by_cases g : 256 ≤ i
  · obtain ⟨a, b⟩ := nz_up (i := i) (j := 8) g
    rw [if_pos (by rw [zI_le (by omega) (by omega) (by omega) (by omega)]; omega), show 31 - c - ((8 : Nat) : Int) = 31 - (c + 8) by omega, nz2 a (by omega), b]
    congr 1; omega
  · rw [if_neg (by rw [zI_le (by omega) (by omega) (by omega) (by omega)]; omega), nz2 h0 (by omega)]
theorem nz_i {i : Nat} (h : i < 4294967296) : jd_inlz (zI i) = zI (32 - rn_len i) := by
  unfold jd_inlz
  rcases Nat.lt_or_ge i 2147483648 with g | g
  · by_cases h0 : i = 0
    · subst h0; decide
    · rw [show (0 : Int32) = zI 0 from rfl, if_neg (by rw [zI_le (by omega) (by omega) (by omega) (by omega)]; omega)]
      rw [show (65536 : Int32) = zI 65536 from rfl, show (16 : Int32) = zI ((16 : Nat) : Int) from rfl, zI_ush (by omega) (by decide), show (31 : Int32) = zI (31 - 0) from rfl, zI_sub]
      by_cases g2 : 65536 ≤ i
      · obtain ⟨a, b⟩ := nz_up (i := i) (j := 16) g2
        rw [if_pos (by rw [zI_le (by omega) (by omega) (by omega) (by omega)]; omega), show 31 - 0 - ((16 : Nat) : Int) = 31 - (16 : Int) by omega, nz1 a (by omega), b]
        congr 1; omega
      · rw [if_neg (by rw [zI_le (by omega) (by omega) (by omega) (by omega)]; omega), nz1 h0 (by omega)]
        congr 1
  · have e : zI (i : Int) = zI ((i : Int) - 4294967296) := by
      apply zI_inj; rw [zI_tn]; omega
    have l : rn_len i = 32 := rn_len_eq (k := 31) (by omega) (by omega)
    rw [e, show (0 : Int32) = zI 0 from rfl, if_pos (by rw [zI_le (by omega) (by omega) (by omega) (by omega)]; omega), if_neg (by rw [zI_eq (by omega) (by omega) (by omega) (by omega)]; omega), l]
    rfl
theorem nz_l {m : Nat} (h : m < 9223372036854775808) : jd_nlz (zL m) = zI (64 - rn_len m) := by
  unfold jd_nlz
  have e1 : jl_ush (zL m) 32 = zL ((m / 2 ^ 32 : Nat) : Int) := zL_ush (n := m) (by omega) (k := 32) (by decide)
  rw [e1, zL_i, zL_i, show (0 : Int32) = zI 0 from rfl]
  by_cases g : m / 2 ^ 32 = 0
  · rw [g, if_pos (show zI ((0 : Nat) : Int) = zI 0 from rfl), nz_i (i := m) (by omega), show (32 : Int32) = zI 32 from rfl, zI_add]
    congr 1; omega
  · have b := rn_len_div g
    rw [if_neg (by rw [zI_eq (by omega) (by omega) (by omega) (by omega)]; omega), nz_i (i := m / 2 ^ 32) (by omega), b]
    congr 1; omega
/-- a significand shifted up to 53 bits -/
theorem ca_wid {m : Nat} (h0 : m ≠ 0) (h : m < 2 ^ 53) : ∃ j : Nat, j + rn_len m = 53 ∧ cf_wid (zL m) = zI (j : Int) ∧ jl_shl (zL m) (zI (j : Int)) = zL ((m * 2 ^ j : Nat) : Int) ∧ 2 ^ 52 ≤ m * 2 ^ j ∧ m * 2 ^ j < 2 ^ 53 := by
  have L1 := rn_len_pos h0
  have L2 : rn_len m ≤ 53 := rn_len_up h
  have L3 := rn_len_le h0
  have L4 := rn_len_lt m
  refine ⟨53 - rn_len m, by omega, ?_, ?_, ?_, ?_⟩
  · unfold cf_wid
    rw [nz_l (by omega), show (11 : Int32) = zI 11 from rfl, zI_sub]
    congr 1; omega
  · rw [zL_shl _ (by omega), Int.natCast_mul, Int.natCast_pow]; rfl
  · have := Nat.mul_le_mul_right (2 ^ (53 - rn_len m)) L3
    rw [← Nat.pow_add, show rn_len m - 1 + (53 - rn_len m) = 52 by omega] at this
    exact this
  · have := Nat.mul_lt_mul_of_pos_right L4 (Nat.two_pow_pos (53 - rn_len m))
    rw [← Nat.pow_add, show rn_len m + (53 - rn_len m) = 53 by omega] at this
    exact this
/-! what keeps the class and the reference from dividing by 0, for any longs at all -/
theorem zL_ofN (x : Int64) : ∃ n : Nat, n < 18446744073709551616 ∧ x = zL (n : Int) := by
  have h0 : 0 ≤ x.toInt % 18446744073709551616 := Int.emod_nonneg _ (by decide)
  obtain ⟨n, hn⟩ := Int.eq_ofNat_of_zero_le h0
  refine ⟨n, by omega, ?_⟩
  rw [← hn, zL_mod]
  exact zL_of x
theorem zL_maskN (n : Nat) {k : Nat} (hk : k ≤ 64) : zL (n : Int) &&& zL (2 ^ k - 1) = zL ((n % 2 ^ k : Nat) : Int) := by
  rw [zL_mask _ hk, Int.natCast_emod, Int.natCast_pow]
  rfl
theorem fa_sig {k : Nat} (hk : k < 2) (x : Int64) : ∃ m : Nat, m < 2 ^ 53 ∧ cf_sig k x = zL (m : Int) ∧ (cf_zer k x = false → m ≠ 0) := by
  obtain ⟨n, hn, rfl⟩ := zL_ofN x
  rcases pf_2 hk with rfl | rfl
  · have e1 : cf_mag 0 (zL (n : Int)) = zL ((n % 2 ^ 31 : Nat) : Int) := zL_maskN n (k := 31) (by decide)
    have e2 : cf_fld 0 (zL (n : Int)) = zI ((n / 2 ^ 23 % 2 ^ 8 : Nat) : Int) := by
      unfold cf_fld
      rw [show kf_b 0 = zI ((23 : Nat) : Int) from rfl, zL_ush hn (by decide), zL_i, show kf_s 0 = zI (2 ^ 8 - 1) from by decide, zI_mask _ (by decide), Int.natCast_emod]
      rfl
    have e3 : zL (n : Int) &&& (jl_shl 1 (kf_b 0) - 1) = zL ((n % 2 ^ 23 : Nat) : Int) := by
      rw [show jl_shl 1 (kf_b 0) - 1 = zL (2 ^ 23 - 1) from by decide]; exact zL_maskN n (by decide)
    have e4 : jl_shl 1 (kf_b 0) = zL ((2 ^ 23 * 1 : Nat) : Int) := by decide
    have e5 : cf_zer 0 (zL (n : Int)) = decide (n % 2 ^ 31 = 0) := by
      unfold cf_zer
      rw [e1]
      apply decide_eq_decide.mpr
      rw [show (0 : Int64) = zL 0 from rfl, zL_eq (by omega) (by omega) (by omega) (by omega)]
      omega
    unfold cf_sig
    rw [e2, e3, e5]
    by_cases h : n / 2 ^ 23 % 2 ^ 8 = 0
    · refine ⟨n % 2 ^ 23, by omega, by rw [h]; exact if_pos rfl, fun q => ?_⟩
      have := of_decide_eq_false q
      omega
    · refine ⟨n % 2 ^ 23 + 2 ^ 23 * 1, by omega, ?_, fun _ => by omega⟩
      rw [if_neg (by rw [show (0 : Int32) = zI 0 from rfl, zI_eq (by omega) (by omega) (by omega) (by omega)]; omega), e4]
      exact zL_orp (by omega) (by omega)
  · have e1 : cf_mag 1 (zL (n : Int)) = zL ((n % 2 ^ 63 : Nat) : Int) := zL_maskN n (k := 63) (by decide)
    have e2 : cf_fld 1 (zL (n : Int)) = zI ((n / 2 ^ 52 % 2 ^ 11 : Nat) : Int) := by
      unfold cf_fld
      rw [show kf_b 1 = zI ((52 : Nat) : Int) from rfl, zL_ush hn (by decide), zL_i, show kf_s 1 = zI (2 ^ 11 - 1) from by decide, zI_mask _ (by decide), Int.natCast_emod]
      rfl
    have e3 : zL (n : Int) &&& (jl_shl 1 (kf_b 1) - 1) = zL ((n % 2 ^ 52 : Nat) : Int) := by
      rw [show jl_shl 1 (kf_b 1) - 1 = zL (2 ^ 52 - 1) from by decide]; exact zL_maskN n (by decide)
    have e4 : jl_shl 1 (kf_b 1) = zL ((2 ^ 52 * 1 : Nat) : Int) := by decide
    have e5 : cf_zer 1 (zL (n : Int)) = decide (n % 2 ^ 63 = 0) := by
      unfold cf_zer
      rw [e1]
      apply decide_eq_decide.mpr
      rw [show (0 : Int64) = zL 0 from rfl, zL_eq (by omega) (by omega) (by omega) (by omega)]
      omega
    unfold cf_sig
    rw [e2, e3, e5]
    by_cases h : n / 2 ^ 52 % 2 ^ 11 = 0
    · refine ⟨n % 2 ^ 52, by omega, by rw [h]; exact if_pos rfl, fun q => ?_⟩
      have := of_decide_eq_false q
      omega
    · refine ⟨n % 2 ^ 52 + 2 ^ 52 * 1, by omega, ?_, fun _ => by omega⟩
      rw [if_neg (by rw [show (0 : Int32) = zI 0 from rfl, zI_eq (by omega) (by omega) (by omega) (by omega)]; omega), e4]
      exact zL_orp (by omega) (by omega)
theorem fa_sig0 {k : Nat} (hk : k < 2) {x : Int64} (h : cf_zer k x = false) : ¬ cf_sig k x = 0 := by
  obtain ⟨m, h1, h2, h3⟩ := fa_sig hk x
  have h4 := h3 h
  rw [h2, show (0 : Int64) = zL 0 from rfl, zL_eq (by omega) (by omega) (by omega) (by omega)]
  omega
/-- the divisor of the class's quotient -/
theorem fa_wid0 {k : Nat} (hk : k < 2) {x : Int64} (h : cf_zer k x = false) : ¬ jl_shl (cf_sig k x) (cf_wid (cf_sig k x)) = 0 := by
  obtain ⟨m, h1, h2, h3⟩ := fa_sig hk x
  obtain ⟨j, j1, j2, j3, j4, j5⟩ := ca_wid (h3 h) h1
  rw [h2, j2, j3, show (0 : Int64) = zL 0 from rfl, zL_eq (by omega) (by omega) (by omega) (by omega)]
  omega
/-- the reference's significand -/
theorem fa_man (f : Int32) (b : Int64) : ∃ m : Nat, m < 2 ^ 53 ∧ rf_man f b = zL (m : Int) := by
  obtain ⟨n, hn, rfl⟩ := zL_ofN b
  unfold rf_man rf_siz rf_sb rf_fr
  by_cases h : f = 0
  · simp only [if_pos h]
    have e1 : zL (n : Int) &&& ((0x80000000 : Int64) - 1) = zL ((n % 2 ^ 31 : Nat) : Int) := by
      rw [show (0x80000000 : Int64) - 1 = zL (2 ^ 31 - 1) from by decide]; exact zL_maskN n (by decide)
    have e2 : jl_shl 1 23 = zL ((2 ^ 23 * 1 : Nat) : Int) := by decide
    have e3 : jl_shl 1 23 - 1 = zL (2 ^ 23 - 1) := by decide
    rw [e1, e3, zL_maskN _ (by decide), e2]
    by_cases g : n % 2 ^ 31 < 2 ^ 23 * 1
    · exact ⟨n % 2 ^ 31, by omega, by rw [if_pos (by rw [zL_lt (by omega) (by omega) (by omega) (by omega)]; omega)]⟩
    · refine ⟨n % 2 ^ 31 % 2 ^ 23 + 2 ^ 23 * 1, by omega, ?_⟩
      rw [if_neg (by rw [zL_lt (by omega) (by omega) (by omega) (by omega)]; omega)]
      exact zL_orp (by omega) (by omega)
  · simp only [if_neg h]
    have e1 : zL (n : Int) &&& ((-0x8000000000000000 : Int64) - 1) = zL ((n % 2 ^ 63 : Nat) : Int) := by
      rw [show (-0x8000000000000000 : Int64) - 1 = zL (2 ^ 63 - 1) from by decide]; exact zL_maskN n (by decide)
    have e2 : jl_shl 1 52 = zL ((2 ^ 52 * 1 : Nat) : Int) := by decide
    have e3 : jl_shl 1 52 - 1 = zL (2 ^ 52 - 1) := by decide
    rw [e1, e3, zL_maskN _ (by decide), e2]
    by_cases g : n % 2 ^ 63 < 2 ^ 52 * 1
    · exact ⟨n % 2 ^ 63, by omega, by rw [if_pos (by rw [zL_lt (by omega) (by omega) (by omega) (by omega)]; omega)]⟩
    · refine ⟨n % 2 ^ 63 % 2 ^ 52 + 2 ^ 52 * 1, by omega, ?_⟩
      rw [if_neg (by rw [zL_lt (by omega) (by omega) (by omega) (by omega)]; omega)]
      exact zL_orp (by omega) (by omega)
theorem fa_man_shl {f : Int32} {b : Int64} (h : ¬ rf_man f b = 0) {d : Int32} (h1 : 0 ≤ d) (h2 : d ≤ 10) : ¬ jl_shl (rf_man f b) d = 0 := by
  obtain ⟨m, m1, m2⟩ := fa_man f b
  have h1' : (0 : Int) ≤ d.toInt := by have := Int32.le_iff_toInt_le.mp h1; exact this
  have h2' : d.toInt ≤ 10 := by have := Int32.le_iff_toInt_le.mp h2; exact this
  obtain ⟨j, hj⟩ := Int.eq_ofNat_of_zero_le h1'
  have ed : d = zI (j : Int) := by rw [← hj]; exact zI_of d
  have hm : m ≠ 0 := by
    intro q
    apply h
    rw [m2, q]
    rfl
  have p1 : 2 ^ j ≤ 2 ^ 10 := Nat.pow_le_pow_right (by decide) (by omega)
  have p2 : 0 < 2 ^ j := Nat.two_pow_pos j
  have p3 : m * 2 ^ j ≤ m * 2 ^ 10 := Nat.mul_le_mul_left _ p1
  have p4 : 0 < m * 2 ^ j := Nat.mul_pos (by omega) p2
  rw [m2, ed, zL_shl _ (by omega), show (m : Int) * 2 ^ j = ((m * 2 ^ j : Nat) : Int) by rw [Int.natCast_mul, Int.natCast_pow]; rfl, show (0 : Int64) = zL 0 from rfl, zL_eq (by omega) (by omega) (by omega) (by omega)]
  omega
/-- a bit of it that is set -/
theorem fa_bit {m : Nat} (h : m ≠ 0) (h1 : m < 2 ^ 53) : ∃ j : Nat, j < 53 ∧ ¬ (jl_ush (zL (m : Int)) (zI (j : Int)) &&& 1) = 0 := by
  have L1 := rn_len_pos h
  have L2 : rn_len m ≤ 53 := rn_len_up h1
  have L3 := rn_len_le h
  have L4 := rn_len_lt m
  refine ⟨rn_len m - 1, by omega, ?_⟩
  have e : m / 2 ^ (rn_len m - 1) = 1 := by
    apply Nat.div_eq_of_lt_le
    · rw [Nat.one_mul]; exact L3
    · rw [show (1 + 1) * 2 ^ (rn_len m - 1) = 2 ^ (rn_len m - 1 + 1) by rw [Nat.pow_succ]; omega, Nat.sub_add_cancel L1]; exact L4
  rw [zL_ush (by omega) (by omega), e]
  decide
end
