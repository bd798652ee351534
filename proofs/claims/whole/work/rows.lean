section
-- ===== PART A: goes FIRST, ahead of the names: the tables' words, and 'selects' of the private methods out of them =====
/-- a private method of a class that the tables say can be made, by its rows of tables_1 -/
def lw_okq (q : MethodName × Nat) : Prop := (q.1.cls ≠ "java/lang/invoke/MethodHandle" ∧ q.1.cls ≠ "java/lang/invoke/VarHandle") ∧ Cond.instantiable q.1.cls q.2 ∈ tables_1 ∧ Cond.privateMethod q.1 ∈ tables_1 ∧ Cond.instanceMethod q.1 ∈ tables_1
theorem lw_p0 : lw_okq (⟨"NumberProbe$Format", "signed", "(ZJ)J"⟩, 9) := ⟨⟨by decide +kernel, by decide +kernel⟩, List.mem_of_getElem? (i := 55) (by decide +kernel), List.mem_of_getElem? (i := 53) (by decide +kernel), List.mem_of_getElem? (i := 54) (by decide +kernel)⟩
theorem lw_p1 : lw_okq (⟨"NumberProbe$Format", "isInfinite", "(J)Z"⟩, 9) := ⟨⟨by decide +kernel, by decide +kernel⟩, List.mem_of_getElem? (i := 55) (by decide +kernel), List.mem_of_getElem? (i := 101) (by decide +kernel), List.mem_of_getElem? (i := 102) (by decide +kernel)⟩
theorem lw_p2 : lw_okq (⟨"NumberProbe$Format", "finiteSum", "(JJ)J"⟩, 9) := ⟨⟨by decide +kernel, by decide +kernel⟩, List.mem_of_getElem? (i := 55) (by decide +kernel), List.mem_of_getElem? (i := 105) (by decide +kernel), List.mem_of_getElem? (i := 106) (by decide +kernel)⟩
theorem lw_p3 : lw_okq (⟨"NumberProbe$Format", "exponentOf", "(J)I"⟩, 9) := ⟨⟨by decide +kernel, by decide +kernel⟩, List.mem_of_getElem? (i := 55) (by decide +kernel), List.mem_of_getElem? (i := 109) (by decide +kernel), List.mem_of_getElem? (i := 110) (by decide +kernel)⟩
theorem lw_p4 : lw_okq (⟨"NumberProbe$Format", "exponentField", "(J)I"⟩, 9) := ⟨⟨by decide +kernel, by decide +kernel⟩, List.mem_of_getElem? (i := 55) (by decide +kernel), List.mem_of_getElem? (i := 113) (by decide +kernel), List.mem_of_getElem? (i := 114) (by decide +kernel)⟩
theorem lw_p5 : lw_okq (⟨"NumberProbe$Format", "significandOf", "(J)J"⟩, 9) := ⟨⟨by decide +kernel, by decide +kernel⟩, List.mem_of_getElem? (i := 55) (by decide +kernel), List.mem_of_getElem? (i := 120) (by decide +kernel), List.mem_of_getElem? (i := 121) (by decide +kernel)⟩
theorem lw_p6 : lw_okq (⟨"NumberProbe$Format", "rounded", "(ZJI)J"⟩, 9) := ⟨⟨by decide +kernel, by decide +kernel⟩, List.mem_of_getElem? (i := 55) (by decide +kernel), List.mem_of_getElem? (i := 130) (by decide +kernel), List.mem_of_getElem? (i := 131) (by decide +kernel)⟩
theorem lw_p7 : lw_okq (⟨"NumberProbe$Format", "isZero", "(J)Z"⟩, 9) := ⟨⟨by decide +kernel, by decide +kernel⟩, List.mem_of_getElem? (i := 55) (by decide +kernel), List.mem_of_getElem? (i := 152) (by decide +kernel), List.mem_of_getElem? (i := 153) (by decide +kernel)⟩
theorem lw_p8 : lw_okq (⟨"NumberProbe$Format", "finiteProduct", "(ZJJ)J"⟩, 9) := ⟨⟨by decide +kernel, by decide +kernel⟩, List.mem_of_getElem? (i := 55) (by decide +kernel), List.mem_of_getElem? (i := 156) (by decide +kernel), List.mem_of_getElem? (i := 157) (by decide +kernel)⟩
theorem lw_p9 : lw_okq (⟨"NumberProbe$Format", "finiteQuotient", "(ZJJ)J"⟩, 9) := ⟨⟨by decide +kernel, by decide +kernel⟩, List.mem_of_getElem? (i := 55) (by decide +kernel), List.mem_of_getElem? (i := 171) (by decide +kernel), List.mem_of_getElem? (i := 172) (by decide +kernel)⟩
theorem lw_p10 : lw_okq (⟨"NumberProbe$Format", "isWhole", "(J)Z"⟩, 9) := ⟨⟨by decide +kernel, by decide +kernel⟩, List.mem_of_getElem? (i := 55) (by decide +kernel), List.mem_of_getElem? (i := 266) (by decide +kernel), List.mem_of_getElem? (i := 267) (by decide +kernel)⟩
theorem lw_p11 : lw_okq (⟨"NumberProbeModel", "operateReal", "(IIJJ)J"⟩, 12) := ⟨⟨by decide +kernel, by decide +kernel⟩, List.mem_of_getElem? (i := 290) (by decide +kernel), List.mem_of_getElem? (i := 421) (by decide +kernel), List.mem_of_getElem? (i := 422) (by decide +kernel)⟩
theorem lw_p12 : lw_okq (⟨"NumberProbeModel", "add", "(IJJ)J"⟩, 12) := ⟨⟨by decide +kernel, by decide +kernel⟩, List.mem_of_getElem? (i := 290) (by decide +kernel), List.mem_of_getElem? (i := 425) (by decide +kernel), List.mem_of_getElem? (i := 426) (by decide +kernel)⟩
theorem lw_p13 : lw_okq (⟨"NumberProbeModel", "takeX", "(IJ)V"⟩, 12) := ⟨⟨by decide +kernel, by decide +kernel⟩, List.mem_of_getElem? (i := 290) (by decide +kernel), List.mem_of_getElem? (i := 429) (by decide +kernel), List.mem_of_getElem? (i := 430) (by decide +kernel)⟩
theorem lw_p14 : lw_okq (⟨"NumberProbeModel", "takeY", "(IJ)V"⟩, 12) := ⟨⟨by decide +kernel, by decide +kernel⟩, List.mem_of_getElem? (i := 290) (by decide +kernel), List.mem_of_getElem? (i := 442) (by decide +kernel), List.mem_of_getElem? (i := 443) (by decide +kernel)⟩
theorem lw_p15 : lw_okq (⟨"NumberProbeModel", "flipped", "(IJ)J"⟩, 12) := ⟨⟨by decide +kernel, by decide +kernel⟩, List.mem_of_getElem? (i := 290) (by decide +kernel), List.mem_of_getElem? (i := 449) (by decide +kernel), List.mem_of_getElem? (i := 450) (by decide +kernel)⟩
def lw_privs_1 : List (MethodName × Nat) := [(⟨"NumberProbe$Format", "signed", "(ZJ)J"⟩, 9), (⟨"NumberProbe$Format", "isInfinite", "(J)Z"⟩, 9), (⟨"NumberProbe$Format", "finiteSum", "(JJ)J"⟩, 9), (⟨"NumberProbe$Format", "exponentOf", "(J)I"⟩, 9), (⟨"NumberProbe$Format", "exponentField", "(J)I"⟩, 9), (⟨"NumberProbe$Format", "significandOf", "(J)J"⟩, 9), (⟨"NumberProbe$Format", "rounded", "(ZJI)J"⟩, 9), (⟨"NumberProbe$Format", "isZero", "(J)Z"⟩, 9), (⟨"NumberProbe$Format", "finiteProduct", "(ZJJ)J"⟩, 9), (⟨"NumberProbe$Format", "finiteQuotient", "(ZJJ)J"⟩, 9), (⟨"NumberProbe$Format", "isWhole", "(J)Z"⟩, 9), (⟨"NumberProbeModel", "operateReal", "(IIJJ)J"⟩, 12), (⟨"NumberProbeModel", "add", "(IJJ)J"⟩, 12), (⟨"NumberProbeModel", "takeX", "(IJ)V"⟩, 12), (⟨"NumberProbeModel", "takeY", "(IJ)V"⟩, 12), (⟨"NumberProbeModel", "flipped", "(IJ)J"⟩, 12)]
theorem lw_r1 : ∀ q ∈ lw_privs_1, lw_okq q := List.forall_mem_cons.mpr ⟨lw_p0, List.forall_mem_cons.mpr ⟨lw_p1, List.forall_mem_cons.mpr ⟨lw_p2, List.forall_mem_cons.mpr ⟨lw_p3, List.forall_mem_cons.mpr ⟨lw_p4, List.forall_mem_cons.mpr ⟨lw_p5, List.forall_mem_cons.mpr ⟨lw_p6, List.forall_mem_cons.mpr ⟨lw_p7, List.forall_mem_cons.mpr ⟨lw_p8, List.forall_mem_cons.mpr ⟨lw_p9, List.forall_mem_cons.mpr ⟨lw_p10, List.forall_mem_cons.mpr ⟨lw_p11, List.forall_mem_cons.mpr ⟨lw_p12, List.forall_mem_cons.mpr ⟨lw_p13, List.forall_mem_cons.mpr ⟨lw_p14, List.forall_mem_cons.mpr ⟨lw_p15, fun _ h => absurd h List.not_mem_nil⟩⟩⟩⟩⟩⟩⟩⟩⟩⟩⟩⟩⟩⟩⟩⟩
theorem lw_p16 : lw_okq (⟨"NumberProbeModel", "multiply", "(IJJ)J"⟩, 12) := ⟨⟨by decide +kernel, by decide +kernel⟩, List.mem_of_getElem? (i := 290) (by decide +kernel), List.mem_of_getElem? (i := 453) (by decide +kernel), List.mem_of_getElem? (i := 454) (by decide +kernel)⟩
theorem lw_p17 : lw_okq (⟨"NumberProbeModel", "product", "(JJ)J"⟩, 12) := ⟨⟨by decide +kernel, by decide +kernel⟩, List.mem_of_getElem? (i := 290) (by decide +kernel), List.mem_of_getElem? (i := 457) (by decide +kernel), List.mem_of_getElem? (i := 458) (by decide +kernel)⟩
theorem lw_p18 : lw_okq (⟨"NumberProbeModel", "divide", "(IJJ)J"⟩, 12) := ⟨⟨by decide +kernel, by decide +kernel⟩, List.mem_of_getElem? (i := 290) (by decide +kernel), List.mem_of_getElem? (i := 461) (by decide +kernel), List.mem_of_getElem? (i := 462) (by decide +kernel)⟩
theorem lw_p19 : lw_okq (⟨"NumberProbeModel", "remainder", "(IJJ)J"⟩, 12) := ⟨⟨by decide +kernel, by decide +kernel⟩, List.mem_of_getElem? (i := 290) (by decide +kernel), List.mem_of_getElem? (i := 465) (by decide +kernel), List.mem_of_getElem? (i := 466) (by decide +kernel)⟩
theorem lw_p20 : lw_okq (⟨"NumberProbeModel", "converted", "(IJI)J"⟩, 12) := ⟨⟨by decide +kernel, by decide +kernel⟩, List.mem_of_getElem? (i := 290) (by decide +kernel), List.mem_of_getElem? (i := 482) (by decide +kernel), List.mem_of_getElem? (i := 483) (by decide +kernel)⟩
theorem lw_p21 : lw_okq (⟨"NumberProbeModel", "toWhole", "(IJ)J"⟩, 12) := ⟨⟨by decide +kernel, by decide +kernel⟩, List.mem_of_getElem? (i := 290) (by decide +kernel), List.mem_of_getElem? (i := 486) (by decide +kernel), List.mem_of_getElem? (i := 487) (by decide +kernel)⟩
theorem lw_p22 : lw_okq (⟨"NumberProbeModel", "placeOf", "(II)J"⟩, 12) := ⟨⟨by decide +kernel, by decide +kernel⟩, List.mem_of_getElem? (i := 290) (by decide +kernel), List.mem_of_getElem? (i := 505) (by decide +kernel), List.mem_of_getElem? (i := 506) (by decide +kernel)⟩
def lw_privs_2 : List (MethodName × Nat) := [(⟨"NumberProbeModel", "multiply", "(IJJ)J"⟩, 12), (⟨"NumberProbeModel", "product", "(JJ)J"⟩, 12), (⟨"NumberProbeModel", "divide", "(IJJ)J"⟩, 12), (⟨"NumberProbeModel", "remainder", "(IJJ)J"⟩, 12), (⟨"NumberProbeModel", "converted", "(IJI)J"⟩, 12), (⟨"NumberProbeModel", "toWhole", "(IJ)J"⟩, 12), (⟨"NumberProbeModel", "placeOf", "(II)J"⟩, 12)]
theorem lw_r2 : ∀ q ∈ lw_privs_2, lw_okq q := List.forall_mem_cons.mpr ⟨lw_p16, List.forall_mem_cons.mpr ⟨lw_p17, List.forall_mem_cons.mpr ⟨lw_p18, List.forall_mem_cons.mpr ⟨lw_p19, List.forall_mem_cons.mpr ⟨lw_p20, List.forall_mem_cons.mpr ⟨lw_p21, List.forall_mem_cons.mpr ⟨lw_p22, fun _ h => absurd h List.not_mem_nil⟩⟩⟩⟩⟩⟩⟩
def lw_privs : List (MethodName × Nat) := lw_privs_1 ++ (lw_privs_2)
def lw_tbl : List Cond := k2_sels lw_privs ++ tables_1
theorem lw_privs_ok : ∀ q ∈ lw_privs, lw_okq q := by
  show ∀ q ∈ lw_privs_1 ++ (lw_privs_2), lw_okq q
  exact List.forall_mem_append.mpr ⟨lw_r1, lw_r2⟩
-- ===== end of PART A =====
def gw_tbl : List Cond := lw_tbl.filter goodWord
theorem gw_mem (n : Nat) {w : Cond} (h : lw_tbl[n]? = some w) (g : goodWord w = true) : w ∈ gw_tbl := List.mem_filter.mpr ⟨List.mem_of_getElem? h, g⟩
theorem gw_good {w : Cond} (h : w ∈ gw_tbl) : goodWord w = true := (List.mem_filter.mp h).2
theorem gd_c {c c2 : Cond} (hc : c2 ∈ gw_tbl) : GoodIn (c :: gw_tbl) (c2 :: gw_tbl) := fun w h => by
  have h2 : w ∈ gw_tbl := (List.mem_cons.mp h).elim (fun e => e ▸ hc) id
  exact ⟨List.mem_cons_of_mem _ h2, good_of_word (gw_good h2)⟩
theorem gd_l {c : Cond} {a b : List Cond} (ha : ∀ w ∈ a, w ∈ gw_tbl) (hb : GoodIn (c :: gw_tbl) b) : GoodIn (c :: gw_tbl) (a ++ b) := fun w h => (List.mem_append.mp h).elim (fun q => ⟨List.mem_cons_of_mem _ (ha w q), good_of_word (gw_good (ha w q))⟩) (hb w)
theorem gd_S {c c2 : Cond} {own : String} {idx : Nat} {y : MethodName} (h1 : Cond.methodLink own idx y ∈ gw_tbl) (h2 : Cond.static y ∈ gw_tbl) (h3 : Cond.initialized y.cls ∈ gw_tbl) (hc : c2 ∈ gw_tbl) : GoodIn (c :: gw_tbl) (va_wsS own idx y (c2 :: gw_tbl)) :=
  gd_l (fun w h => by
    rcases List.mem_cons.mp h with rfl | h
    · exact h1
    · rcases List.mem_cons.mp h with rfl | h
      · exact h2
      · rw [List.mem_singleton.mp h]; exact h3) (gd_c hc)
theorem gd_V {c c2 : Cond} {own C : String} {idx : Nat} {y : MethodName} (h1 : Cond.methodLink own idx y ∈ gw_tbl) (h2 : Cond.instanceMethod y ∈ gw_tbl) (h3 : Cond.selects C y y ∈ gw_tbl) (h4 : Cond.initialized C ∈ gw_tbl) (hc : c2 ∈ gw_tbl) : GoodIn (c :: gw_tbl) (wsV own idx C y (c2 :: gw_tbl)) :=
  gd_l (fun w h => by
    rcases List.mem_cons.mp h with rfl | h
    · exact h1
    · rcases List.mem_cons.mp h with rfl | h
      · exact h2
      · rcases List.mem_cons.mp h with rfl | h
        · exact h3
        · rw [List.mem_singleton.mp h]; exact h4) (gd_c hc)
theorem tm_0 : Cond.selects "NumberProbe$Format" ⟨"NumberProbe$Format", "signed", "(ZJ)J"⟩ ⟨"NumberProbe$Format", "signed", "(ZJ)J"⟩ ∈ gw_tbl := gw_mem 0 (by decide +kernel) (by decide +kernel)
theorem tm_1 : Cond.selects "NumberProbe$Format" ⟨"NumberProbe$Format", "isInfinite", "(J)Z"⟩ ⟨"NumberProbe$Format", "isInfinite", "(J)Z"⟩ ∈ gw_tbl := gw_mem 1 (by decide +kernel) (by decide +kernel)
theorem tm_2 : Cond.selects "NumberProbe$Format" ⟨"NumberProbe$Format", "finiteSum", "(JJ)J"⟩ ⟨"NumberProbe$Format", "finiteSum", "(JJ)J"⟩ ∈ gw_tbl := gw_mem 2 (by decide +kernel) (by decide +kernel)
theorem tm_3 : Cond.selects "NumberProbe$Format" ⟨"NumberProbe$Format", "exponentOf", "(J)I"⟩ ⟨"NumberProbe$Format", "exponentOf", "(J)I"⟩ ∈ gw_tbl := gw_mem 3 (by decide +kernel) (by decide +kernel)
theorem tm_4 : Cond.selects "NumberProbe$Format" ⟨"NumberProbe$Format", "exponentField", "(J)I"⟩ ⟨"NumberProbe$Format", "exponentField", "(J)I"⟩ ∈ gw_tbl := gw_mem 4 (by decide +kernel) (by decide +kernel)
theorem tm_5 : Cond.selects "NumberProbe$Format" ⟨"NumberProbe$Format", "significandOf", "(J)J"⟩ ⟨"NumberProbe$Format", "significandOf", "(J)J"⟩ ∈ gw_tbl := gw_mem 5 (by decide +kernel) (by decide +kernel)
theorem tm_6 : Cond.selects "NumberProbe$Format" ⟨"NumberProbe$Format", "rounded", "(ZJI)J"⟩ ⟨"NumberProbe$Format", "rounded", "(ZJI)J"⟩ ∈ gw_tbl := gw_mem 6 (by decide +kernel) (by decide +kernel)
theorem tm_7 : Cond.selects "NumberProbe$Format" ⟨"NumberProbe$Format", "isZero", "(J)Z"⟩ ⟨"NumberProbe$Format", "isZero", "(J)Z"⟩ ∈ gw_tbl := gw_mem 7 (by decide +kernel) (by decide +kernel)
theorem tm_8 : Cond.selects "NumberProbe$Format" ⟨"NumberProbe$Format", "finiteProduct", "(ZJJ)J"⟩ ⟨"NumberProbe$Format", "finiteProduct", "(ZJJ)J"⟩ ∈ gw_tbl := gw_mem 8 (by decide +kernel) (by decide +kernel)
theorem tm_9 : Cond.selects "NumberProbe$Format" ⟨"NumberProbe$Format", "finiteQuotient", "(ZJJ)J"⟩ ⟨"NumberProbe$Format", "finiteQuotient", "(ZJJ)J"⟩ ∈ gw_tbl := gw_mem 9 (by decide +kernel) (by decide +kernel)
theorem tm_10 : Cond.selects "NumberProbe$Format" ⟨"NumberProbe$Format", "isWhole", "(J)Z"⟩ ⟨"NumberProbe$Format", "isWhole", "(J)Z"⟩ ∈ gw_tbl := gw_mem 10 (by decide +kernel) (by decide +kernel)
theorem tm_11 : Cond.selects "NumberProbeModel" ⟨"NumberProbeModel", "operateReal", "(IIJJ)J"⟩ ⟨"NumberProbeModel", "operateReal", "(IIJJ)J"⟩ ∈ gw_tbl := gw_mem 11 (by decide +kernel) (by decide +kernel)
theorem tm_12 : Cond.selects "NumberProbeModel" ⟨"NumberProbeModel", "add", "(IJJ)J"⟩ ⟨"NumberProbeModel", "add", "(IJJ)J"⟩ ∈ gw_tbl := gw_mem 12 (by decide +kernel) (by decide +kernel)
theorem tm_13 : Cond.selects "NumberProbeModel" ⟨"NumberProbeModel", "takeX", "(IJ)V"⟩ ⟨"NumberProbeModel", "takeX", "(IJ)V"⟩ ∈ gw_tbl := gw_mem 13 (by decide +kernel) (by decide +kernel)
theorem tm_14 : Cond.selects "NumberProbeModel" ⟨"NumberProbeModel", "takeY", "(IJ)V"⟩ ⟨"NumberProbeModel", "takeY", "(IJ)V"⟩ ∈ gw_tbl := gw_mem 14 (by decide +kernel) (by decide +kernel)
theorem tm_15 : Cond.selects "NumberProbeModel" ⟨"NumberProbeModel", "flipped", "(IJ)J"⟩ ⟨"NumberProbeModel", "flipped", "(IJ)J"⟩ ∈ gw_tbl := gw_mem 15 (by decide +kernel) (by decide +kernel)
theorem tm_16 : Cond.selects "NumberProbeModel" ⟨"NumberProbeModel", "multiply", "(IJJ)J"⟩ ⟨"NumberProbeModel", "multiply", "(IJJ)J"⟩ ∈ gw_tbl := gw_mem 16 (by decide +kernel) (by decide +kernel)
theorem tm_17 : Cond.selects "NumberProbeModel" ⟨"NumberProbeModel", "product", "(JJ)J"⟩ ⟨"NumberProbeModel", "product", "(JJ)J"⟩ ∈ gw_tbl := gw_mem 17 (by decide +kernel) (by decide +kernel)
theorem tm_18 : Cond.selects "NumberProbeModel" ⟨"NumberProbeModel", "divide", "(IJJ)J"⟩ ⟨"NumberProbeModel", "divide", "(IJJ)J"⟩ ∈ gw_tbl := gw_mem 18 (by decide +kernel) (by decide +kernel)
theorem tm_19 : Cond.selects "NumberProbeModel" ⟨"NumberProbeModel", "remainder", "(IJJ)J"⟩ ⟨"NumberProbeModel", "remainder", "(IJJ)J"⟩ ∈ gw_tbl := gw_mem 19 (by decide +kernel) (by decide +kernel)
theorem tm_20 : Cond.selects "NumberProbeModel" ⟨"NumberProbeModel", "converted", "(IJI)J"⟩ ⟨"NumberProbeModel", "converted", "(IJI)J"⟩ ∈ gw_tbl := gw_mem 20 (by decide +kernel) (by decide +kernel)
theorem tm_21 : Cond.selects "NumberProbeModel" ⟨"NumberProbeModel", "toWhole", "(IJ)J"⟩ ⟨"NumberProbeModel", "toWhole", "(IJ)J"⟩ ∈ gw_tbl := gw_mem 21 (by decide +kernel) (by decide +kernel)
theorem tm_22 : Cond.selects "NumberProbeModel" ⟨"NumberProbeModel", "placeOf", "(II)J"⟩ ⟨"NumberProbeModel", "placeOf", "(II)J"⟩ ∈ gw_tbl := gw_mem 22 (by decide +kernel) (by decide +kernel)
theorem tm_23 : Cond.initialized "NumberProbeLaw" ∈ gw_tbl := gw_mem 23 (by decide +kernel) (by decide +kernel)
theorem tm_24 : Cond.initialized "NumberProbe" ∈ gw_tbl := gw_mem 24 (by decide +kernel) (by decide +kernel)
theorem tm_25 : Cond.initialized "NumberProbeModel" ∈ gw_tbl := gw_mem 25 (by decide +kernel) (by decide +kernel)
theorem tm_26 : Cond.initialized "java/lang/Enum" ∈ gw_tbl := gw_mem 26 (by decide +kernel) (by decide +kernel)
theorem tm_27 : Cond.initialized "NumberProbe$Format" ∈ gw_tbl := gw_mem 27 (by decide +kernel) (by decide +kernel)
theorem tm_28 : Cond.initialized "java/lang/Math" ∈ gw_tbl := gw_mem 28 (by decide +kernel) (by decide +kernel)
theorem tm_29 : Cond.initialized "java/lang/Long" ∈ gw_tbl := gw_mem 29 (by decide +kernel) (by decide +kernel)
theorem tm_30 : Cond.initialized "java/lang/Integer" ∈ gw_tbl := gw_mem 30 (by decide +kernel) (by decide +kernel)
theorem tm_31 : Cond.classLink "NumberProbeLaw" 7 "NumberProbe" ∈ gw_tbl := gw_mem 31 (by decide +kernel) (by decide +kernel)
theorem tm_33 : Cond.methodLink "NumberProbeLaw" 9 ⟨"NumberProbe", "<init>", "()V"⟩ ∈ gw_tbl := gw_mem 33 (by decide +kernel) (by decide +kernel)
theorem tm_34 : Cond.instanceMethod ⟨"NumberProbe", "<init>", "()V"⟩ ∈ gw_tbl := gw_mem 34 (by decide +kernel) (by decide +kernel)
theorem tm_35 : Cond.code ⟨"NumberProbe", "<init>", "()V"⟩ prog_1_method_1_code 1 (none : Option Jvm.ClassFile.FieldType) ∈ gw_tbl := gw_mem 35 (by decide +kernel) (by decide +kernel)
theorem tm_36 : Cond.methodLink "NumberProbe" 1 ⟨"java/lang/Object", "<init>", "()V"⟩ ∈ gw_tbl := gw_mem 36 (by decide +kernel) (by decide +kernel)
theorem tm_37 : Cond.instanceMethod ⟨"java/lang/Object", "<init>", "()V"⟩ ∈ gw_tbl := gw_mem 37 (by decide +kernel) (by decide +kernel)
theorem tm_38 : Cond.code ⟨"java/lang/Object", "<init>", "()V"⟩ object_method_1_code 1 (none : Option Jvm.ClassFile.FieldType) ∈ gw_tbl := gw_mem 38 (by decide +kernel) (by decide +kernel)
theorem tm_39 : Cond.classLink "NumberProbe" 9 "[[J" ∈ gw_tbl := gw_mem 39 (by decide +kernel) (by decide +kernel)
theorem tm_41 : Cond.fieldLink "NumberProbe" 11 "NumberProbe" "numbers" "[[J" ∈ gw_tbl := gw_mem 41 (by decide +kernel) (by decide +kernel)
theorem tm_45 : Cond.arrayClass .long ∈ gw_tbl := gw_mem 45 (by decide +kernel) (by decide +kernel)
theorem tm_46 : Cond.methodLink "NumberProbeLaw" 15 ⟨"NumberProbe", "put", "(IIJ)I"⟩ ∈ gw_tbl := gw_mem 46 (by decide +kernel) (by decide +kernel)
theorem tm_47 : Cond.instanceMethod ⟨"NumberProbe", "put", "(IIJ)I"⟩ ∈ gw_tbl := gw_mem 47 (by decide +kernel) (by decide +kernel)
theorem tm_48 : Cond.selects "NumberProbe" ⟨"NumberProbe", "put", "(IIJ)I"⟩ ⟨"NumberProbe", "put", "(IIJ)I"⟩ ∈ gw_tbl := gw_mem 48 (by decide +kernel) (by decide +kernel)
theorem tm_49 : Cond.code ⟨"NumberProbe", "put", "(IIJ)I"⟩ prog_1_method_2_code 5 (some .int) ∈ gw_tbl := gw_mem 49 (by decide +kernel) (by decide +kernel)
theorem tm_50 : Cond.methodLink "NumberProbe" 14 ⟨"NumberProbe", "isNumber", "(II)Z"⟩ ∈ gw_tbl := gw_mem 50 (by decide +kernel) (by decide +kernel)
theorem tm_51 : Cond.static ⟨"NumberProbe", "isNumber", "(II)Z"⟩ ∈ gw_tbl := gw_mem 51 (by decide +kernel) (by decide +kernel)
theorem tm_52 : Cond.code ⟨"NumberProbe", "isNumber", "(II)Z"⟩ prog_1_method_14_code 2 (some .boolean) ∈ gw_tbl := gw_mem 52 (by decide +kernel) (by decide +kernel)
theorem tm_53 : Cond.methodLink "NumberProbe" 18 ⟨"NumberProbe", "isFloating", "(I)Z"⟩ ∈ gw_tbl := gw_mem 53 (by decide +kernel) (by decide +kernel)
theorem tm_54 : Cond.static ⟨"NumberProbe", "isFloating", "(I)Z"⟩ ∈ gw_tbl := gw_mem 54 (by decide +kernel) (by decide +kernel)
theorem tm_55 : Cond.code ⟨"NumberProbe", "isFloating", "(I)Z"⟩ prog_1_method_16_code 1 (some .boolean) ∈ gw_tbl := gw_mem 55 (by decide +kernel) (by decide +kernel)
theorem tm_56 : Cond.methodLink "NumberProbe" 22 ⟨"NumberProbe", "formatOf", "(I)LNumberProbe$Format;"⟩ ∈ gw_tbl := gw_mem 56 (by decide +kernel) (by decide +kernel)
theorem tm_57 : Cond.static ⟨"NumberProbe", "formatOf", "(I)LNumberProbe$Format;"⟩ ∈ gw_tbl := gw_mem 57 (by decide +kernel) (by decide +kernel)
theorem tm_58 : Cond.code ⟨"NumberProbe", "formatOf", "(I)LNumberProbe$Format;"⟩ prog_1_method_17_code 1 (some (.object "NumberProbe$Format")) ∈ gw_tbl := gw_mem 58 (by decide +kernel) (by decide +kernel)
theorem tm_59 : Cond.fieldLink "NumberProbe" 87 "NumberProbe$Format" "SINGLE" "LNumberProbe$Format;" ∈ gw_tbl := gw_mem 59 (by decide +kernel) (by decide +kernel)
theorem tm_61 : Cond.fieldLink "NumberProbe" 79 "NumberProbe$Format" "DOUBLE" "LNumberProbe$Format;" ∈ gw_tbl := gw_mem 61 (by decide +kernel) (by decide +kernel)
theorem tm_63 : Cond.methodLink "NumberProbe" 26 ⟨"NumberProbe$Format", "numberOf", "(J)J"⟩ ∈ gw_tbl := gw_mem 63 (by decide +kernel) (by decide +kernel)
theorem tm_64 : Cond.instanceMethod ⟨"NumberProbe$Format", "numberOf", "(J)J"⟩ ∈ gw_tbl := gw_mem 64 (by decide +kernel) (by decide +kernel)
theorem tm_65 : Cond.selects "NumberProbe$Format" ⟨"NumberProbe$Format", "numberOf", "(J)J"⟩ ⟨"NumberProbe$Format", "numberOf", "(J)J"⟩ ∈ gw_tbl := gw_mem 65 (by decide +kernel) (by decide +kernel)
theorem tm_66 : Cond.code ⟨"NumberProbe$Format", "numberOf", "(J)J"⟩ prog_2_method_4_code 4 (some .long) ∈ gw_tbl := gw_mem 66 (by decide +kernel) (by decide +kernel)
theorem tm_67 : Cond.methodLink "NumberProbe$Format" 49 ⟨"NumberProbe$Format", "isNaN", "(J)Z"⟩ ∈ gw_tbl := gw_mem 67 (by decide +kernel) (by decide +kernel)
theorem tm_68 : Cond.instanceMethod ⟨"NumberProbe$Format", "isNaN", "(J)Z"⟩ ∈ gw_tbl := gw_mem 68 (by decide +kernel) (by decide +kernel)
theorem tm_69 : Cond.selects "NumberProbe$Format" ⟨"NumberProbe$Format", "isNaN", "(J)Z"⟩ ⟨"NumberProbe$Format", "isNaN", "(J)Z"⟩ ∈ gw_tbl := gw_mem 69 (by decide +kernel) (by decide +kernel)
theorem tm_70 : Cond.code ⟨"NumberProbe$Format", "isNaN", "(J)Z"⟩ prog_2_method_5_code 3 (some .boolean) ∈ gw_tbl := gw_mem 70 (by decide +kernel) (by decide +kernel)
theorem tm_71 : Cond.methodLink "NumberProbe$Format" 53 ⟨"NumberProbe$Format", "magnitude", "(J)J"⟩ ∈ gw_tbl := gw_mem 71 (by decide +kernel) (by decide +kernel)
theorem tm_72 : Cond.instanceMethod ⟨"NumberProbe$Format", "magnitude", "(J)J"⟩ ∈ gw_tbl := gw_mem 72 (by decide +kernel) (by decide +kernel)
theorem tm_73 : Cond.selects "NumberProbe$Format" ⟨"NumberProbe$Format", "magnitude", "(J)J"⟩ ⟨"NumberProbe$Format", "magnitude", "(J)J"⟩ ∈ gw_tbl := gw_mem 73 (by decide +kernel) (by decide +kernel)
theorem tm_74 : Cond.code ⟨"NumberProbe$Format", "magnitude", "(J)J"⟩ prog_2_method_8_code 3 (some .long) ∈ gw_tbl := gw_mem 74 (by decide +kernel) (by decide +kernel)
theorem tm_75 : Cond.methodLink "NumberProbe$Format" 57 ⟨"NumberProbe$Format", "signed", "(ZJ)J"⟩ ∈ gw_tbl := gw_mem 75 (by decide +kernel) (by decide +kernel)
theorem tm_77 : Cond.instanceMethod ⟨"NumberProbe$Format", "signed", "(ZJ)J"⟩ ∈ gw_tbl := gw_mem 77 (by decide +kernel) (by decide +kernel)
theorem tm_79 : Cond.code ⟨"NumberProbe$Format", "signed", "(ZJ)J"⟩ prog_2_method_10_code 4 (some .long) ∈ gw_tbl := gw_mem 79 (by decide +kernel) (by decide +kernel)
theorem tm_80 : Cond.constantLong "NumberProbe$Format" 61 (-1) ∈ gw_tbl := gw_mem 80 (by decide +kernel) (by decide +kernel)
theorem tm_81 : Cond.methodLink "NumberProbe" 32 ⟨"NumberProbe", "fitted", "(IJ)J"⟩ ∈ gw_tbl := gw_mem 81 (by decide +kernel) (by decide +kernel)
theorem tm_82 : Cond.static ⟨"NumberProbe", "fitted", "(IJ)J"⟩ ∈ gw_tbl := gw_mem 82 (by decide +kernel) (by decide +kernel)
theorem tm_83 : Cond.code ⟨"NumberProbe", "fitted", "(IJ)J"⟩ prog_1_method_20_code 3 (some .long) ∈ gw_tbl := gw_mem 83 (by decide +kernel) (by decide +kernel)
theorem tm_84 : Cond.methodLink "NumberProbeLaw" 20 ⟨"NumberProbe", "boundary", "(III)I"⟩ ∈ gw_tbl := gw_mem 84 (by decide +kernel) (by decide +kernel)
theorem tm_85 : Cond.instanceMethod ⟨"NumberProbe", "boundary", "(III)I"⟩ ∈ gw_tbl := gw_mem 85 (by decide +kernel) (by decide +kernel)
theorem tm_86 : Cond.selects "NumberProbe" ⟨"NumberProbe", "boundary", "(III)I"⟩ ⟨"NumberProbe", "boundary", "(III)I"⟩ ∈ gw_tbl := gw_mem 86 (by decide +kernel) (by decide +kernel)
theorem tm_87 : Cond.code ⟨"NumberProbe", "boundary", "(III)I"⟩ prog_1_method_3_code 5 (some .int) ∈ gw_tbl := gw_mem 87 (by decide +kernel) (by decide +kernel)
theorem tm_88 : Cond.methodLink "NumberProbe" 36 ⟨"NumberProbe", "boundariesOf", "(I)[J"⟩ ∈ gw_tbl := gw_mem 88 (by decide +kernel) (by decide +kernel)
theorem tm_89 : Cond.static ⟨"NumberProbe", "boundariesOf", "(I)[J"⟩ ∈ gw_tbl := gw_mem 89 (by decide +kernel) (by decide +kernel)
theorem tm_90 : Cond.code ⟨"NumberProbe", "boundariesOf", "(I)[J"⟩ prog_1_method_19_code 1 (some (.array .long)) ∈ gw_tbl := gw_mem 90 (by decide +kernel) (by decide +kernel)
theorem tm_91 : Cond.fieldLink "NumberProbe" 93 "NumberProbe" "SINGLE_BOUNDARIES" "[J" ∈ gw_tbl := gw_mem 91 (by decide +kernel) (by decide +kernel)
theorem tm_93 : Cond.fieldLink "NumberProbe" 97 "NumberProbe" "DOUBLE_BOUNDARIES" "[J" ∈ gw_tbl := gw_mem 93 (by decide +kernel) (by decide +kernel)
theorem tm_95 : Cond.fieldLink "NumberProbe" 100 "NumberProbe" "INT_BOUNDARIES" "[J" ∈ gw_tbl := gw_mem 95 (by decide +kernel) (by decide +kernel)
theorem tm_97 : Cond.fieldLink "NumberProbe" 103 "NumberProbe" "LONG_BOUNDARIES" "[J" ∈ gw_tbl := gw_mem 97 (by decide +kernel) (by decide +kernel)
theorem tm_99 : Cond.methodLink "NumberProbeLaw" 25 ⟨"NumberProbe", "bits", "(II)J"⟩ ∈ gw_tbl := gw_mem 99 (by decide +kernel) (by decide +kernel)
theorem tm_100 : Cond.instanceMethod ⟨"NumberProbe", "bits", "(II)J"⟩ ∈ gw_tbl := gw_mem 100 (by decide +kernel) (by decide +kernel)
theorem tm_101 : Cond.selects "NumberProbe" ⟨"NumberProbe", "bits", "(II)J"⟩ ⟨"NumberProbe", "bits", "(II)J"⟩ ∈ gw_tbl := gw_mem 101 (by decide +kernel) (by decide +kernel)
theorem tm_102 : Cond.code ⟨"NumberProbe", "bits", "(II)J"⟩ prog_1_method_4_code 3 (some .long) ∈ gw_tbl := gw_mem 102 (by decide +kernel) (by decide +kernel)
theorem tm_103 : Cond.methodLink "NumberProbeLaw" 30 ⟨"NumberProbe", "operate", "(IIIII)I"⟩ ∈ gw_tbl := gw_mem 103 (by decide +kernel) (by decide +kernel)
theorem tm_104 : Cond.instanceMethod ⟨"NumberProbe", "operate", "(IIIII)I"⟩ ∈ gw_tbl := gw_mem 104 (by decide +kernel) (by decide +kernel)
theorem tm_105 : Cond.selects "NumberProbe" ⟨"NumberProbe", "operate", "(IIIII)I"⟩ ⟨"NumberProbe", "operate", "(IIIII)I"⟩ ∈ gw_tbl := gw_mem 105 (by decide +kernel) (by decide +kernel)
theorem tm_106 : Cond.code ⟨"NumberProbe", "operate", "(IIIII)I"⟩ prog_1_method_5_code 8 (some .int) ∈ gw_tbl := gw_mem 106 (by decide +kernel) (by decide +kernel)
theorem tm_107 : Cond.methodLink "NumberProbe" 40 ⟨"NumberProbe", "isOperation", "(II)Z"⟩ ∈ gw_tbl := gw_mem 107 (by decide +kernel) (by decide +kernel)
theorem tm_108 : Cond.static ⟨"NumberProbe", "isOperation", "(II)Z"⟩ ∈ gw_tbl := gw_mem 108 (by decide +kernel) (by decide +kernel)
theorem tm_109 : Cond.code ⟨"NumberProbe", "isOperation", "(II)Z"⟩ prog_1_method_15_code 2 (some .boolean) ∈ gw_tbl := gw_mem 109 (by decide +kernel) (by decide +kernel)
theorem tm_110 : Cond.methodLink "NumberProbe" 43 ⟨"NumberProbe", "dividesByZero", "(IIJ)Z"⟩ ∈ gw_tbl := gw_mem 110 (by decide +kernel) (by decide +kernel)
theorem tm_111 : Cond.static ⟨"NumberProbe", "dividesByZero", "(IIJ)Z"⟩ ∈ gw_tbl := gw_mem 111 (by decide +kernel) (by decide +kernel)
theorem tm_112 : Cond.code ⟨"NumberProbe", "dividesByZero", "(IIJ)Z"⟩ prog_1_method_22_code 4 (some .boolean) ∈ gw_tbl := gw_mem 112 (by decide +kernel) (by decide +kernel)
theorem tm_113 : Cond.methodLink "NumberProbe" 47 ⟨"NumberProbe", "result", "(IIJJ)J"⟩ ∈ gw_tbl := gw_mem 113 (by decide +kernel) (by decide +kernel)
theorem tm_114 : Cond.static ⟨"NumberProbe", "result", "(IIJJ)J"⟩ ∈ gw_tbl := gw_mem 114 (by decide +kernel) (by decide +kernel)
theorem tm_115 : Cond.code ⟨"NumberProbe", "result", "(IIJJ)J"⟩ prog_1_method_23_code 6 (some .long) ∈ gw_tbl := gw_mem 115 (by decide +kernel) (by decide +kernel)
theorem tm_116 : Cond.methodLink "NumberProbe" 130 ⟨"NumberProbe", "floatingResult", "(LNumberProbe$Format;IJJ)J"⟩ ∈ gw_tbl := gw_mem 116 (by decide +kernel) (by decide +kernel)
theorem tm_117 : Cond.static ⟨"NumberProbe", "floatingResult", "(LNumberProbe$Format;IJJ)J"⟩ ∈ gw_tbl := gw_mem 117 (by decide +kernel) (by decide +kernel)
theorem tm_118 : Cond.code ⟨"NumberProbe", "floatingResult", "(LNumberProbe$Format;IJJ)J"⟩ prog_1_method_24_code 6 (some .long) ∈ gw_tbl := gw_mem 118 (by decide +kernel) (by decide +kernel)
theorem tm_119 : Cond.methodLink "NumberProbe" 83 ⟨"NumberProbe$Format", "sum", "(JJ)J"⟩ ∈ gw_tbl := gw_mem 119 (by decide +kernel) (by decide +kernel)
theorem tm_120 : Cond.instanceMethod ⟨"NumberProbe$Format", "sum", "(JJ)J"⟩ ∈ gw_tbl := gw_mem 120 (by decide +kernel) (by decide +kernel)
theorem tm_121 : Cond.selects "NumberProbe$Format" ⟨"NumberProbe$Format", "sum", "(JJ)J"⟩ ⟨"NumberProbe$Format", "sum", "(JJ)J"⟩ ∈ gw_tbl := gw_mem 121 (by decide +kernel) (by decide +kernel)
theorem tm_122 : Cond.code ⟨"NumberProbe$Format", "sum", "(JJ)J"⟩ prog_2_method_20_code 5 (some .long) ∈ gw_tbl := gw_mem 122 (by decide +kernel) (by decide +kernel)
theorem tm_123 : Cond.methodLink "NumberProbe$Format" 86 ⟨"NumberProbe$Format", "isInfinite", "(J)Z"⟩ ∈ gw_tbl := gw_mem 123 (by decide +kernel) (by decide +kernel)
theorem tm_125 : Cond.instanceMethod ⟨"NumberProbe$Format", "isInfinite", "(J)Z"⟩ ∈ gw_tbl := gw_mem 125 (by decide +kernel) (by decide +kernel)
theorem tm_126 : Cond.code ⟨"NumberProbe$Format", "isInfinite", "(J)Z"⟩ prog_2_method_6_code 3 (some .boolean) ∈ gw_tbl := gw_mem 126 (by decide +kernel) (by decide +kernel)
theorem tm_127 : Cond.methodLink "NumberProbe$Format" 89 ⟨"NumberProbe$Format", "finiteSum", "(JJ)J"⟩ ∈ gw_tbl := gw_mem 127 (by decide +kernel) (by decide +kernel)
theorem tm_129 : Cond.instanceMethod ⟨"NumberProbe$Format", "finiteSum", "(JJ)J"⟩ ∈ gw_tbl := gw_mem 129 (by decide +kernel) (by decide +kernel)
theorem tm_130 : Cond.code ⟨"NumberProbe$Format", "finiteSum", "(JJ)J"⟩ prog_2_method_21_code 14 (some .long) ∈ gw_tbl := gw_mem 130 (by decide +kernel) (by decide +kernel)
theorem tm_131 : Cond.methodLink "NumberProbe$Format" 93 ⟨"NumberProbe$Format", "exponentOf", "(J)I"⟩ ∈ gw_tbl := gw_mem 131 (by decide +kernel) (by decide +kernel)
theorem tm_133 : Cond.instanceMethod ⟨"NumberProbe$Format", "exponentOf", "(J)I"⟩ ∈ gw_tbl := gw_mem 133 (by decide +kernel) (by decide +kernel)
theorem tm_134 : Cond.code ⟨"NumberProbe$Format", "exponentOf", "(J)I"⟩ prog_2_method_12_code 3 (some .int) ∈ gw_tbl := gw_mem 134 (by decide +kernel) (by decide +kernel)
theorem tm_135 : Cond.methodLink "NumberProbe$Format" 63 ⟨"NumberProbe$Format", "exponentField", "(J)I"⟩ ∈ gw_tbl := gw_mem 135 (by decide +kernel) (by decide +kernel)
theorem tm_137 : Cond.instanceMethod ⟨"NumberProbe$Format", "exponentField", "(J)I"⟩ ∈ gw_tbl := gw_mem 137 (by decide +kernel) (by decide +kernel)
theorem tm_138 : Cond.code ⟨"NumberProbe$Format", "exponentField", "(J)I"⟩ prog_2_method_13_code 3 (some .int) ∈ gw_tbl := gw_mem 138 (by decide +kernel) (by decide +kernel)
theorem tm_139 : Cond.methodLink "NumberProbe$Format" 67 ⟨"java/lang/Math", "max", "(II)I"⟩ ∈ gw_tbl := gw_mem 139 (by decide +kernel) (by decide +kernel)
theorem tm_140 : Cond.static ⟨"java/lang/Math", "max", "(II)I"⟩ ∈ gw_tbl := gw_mem 140 (by decide +kernel) (by decide +kernel)
theorem tm_141 : Cond.code ⟨"java/lang/Math", "max", "(II)I"⟩ prog_8_method_65_code 2 (some .int) ∈ gw_tbl := gw_mem 141 (by decide +kernel) (by decide +kernel)
theorem tm_142 : Cond.methodLink "NumberProbe$Format" 96 ⟨"NumberProbe$Format", "significandOf", "(J)J"⟩ ∈ gw_tbl := gw_mem 142 (by decide +kernel) (by decide +kernel)
theorem tm_144 : Cond.instanceMethod ⟨"NumberProbe$Format", "significandOf", "(J)J"⟩ ∈ gw_tbl := gw_mem 144 (by decide +kernel) (by decide +kernel)
theorem tm_145 : Cond.code ⟨"NumberProbe$Format", "significandOf", "(J)J"⟩ prog_2_method_11_code 5 (some .long) ∈ gw_tbl := gw_mem 145 (by decide +kernel) (by decide +kernel)
theorem tm_146 : Cond.methodLink "NumberProbe$Format" 99 ⟨"NumberProbe$Format", "shiftedRight", "(JI)J"⟩ ∈ gw_tbl := gw_mem 146 (by decide +kernel) (by decide +kernel)
theorem tm_147 : Cond.static ⟨"NumberProbe$Format", "shiftedRight", "(JI)J"⟩ ∈ gw_tbl := gw_mem 147 (by decide +kernel) (by decide +kernel)
theorem tm_148 : Cond.code ⟨"NumberProbe$Format", "shiftedRight", "(JI)J"⟩ prog_2_method_34_code 5 (some .long) ∈ gw_tbl := gw_mem 148 (by decide +kernel) (by decide +kernel)
theorem tm_149 : Cond.methodLink "NumberProbe$Format" 117 ⟨"NumberProbe$Format", "withRest", "(JJ)J"⟩ ∈ gw_tbl := gw_mem 149 (by decide +kernel) (by decide +kernel)
theorem tm_150 : Cond.static ⟨"NumberProbe$Format", "withRest", "(JJ)J"⟩ ∈ gw_tbl := gw_mem 150 (by decide +kernel) (by decide +kernel)
theorem tm_151 : Cond.code ⟨"NumberProbe$Format", "withRest", "(JJ)J"⟩ prog_2_method_35_code 4 (some .long) ∈ gw_tbl := gw_mem 151 (by decide +kernel) (by decide +kernel)
theorem tm_152 : Cond.methodLink "NumberProbe$Format" 103 ⟨"NumberProbe$Format", "rounded", "(ZJI)J"⟩ ∈ gw_tbl := gw_mem 152 (by decide +kernel) (by decide +kernel)
theorem tm_154 : Cond.instanceMethod ⟨"NumberProbe$Format", "rounded", "(ZJI)J"⟩ ∈ gw_tbl := gw_mem 154 (by decide +kernel) (by decide +kernel)
theorem tm_155 : Cond.code ⟨"NumberProbe$Format", "rounded", "(ZJI)J"⟩ prog_2_method_32_code 11 (some .long) ∈ gw_tbl := gw_mem 155 (by decide +kernel) (by decide +kernel)
theorem tm_156 : Cond.methodLink "NumberProbe$Format" 73 ⟨"java/lang/Long", "numberOfLeadingZeros", "(J)I"⟩ ∈ gw_tbl := gw_mem 156 (by decide +kernel) (by decide +kernel)
theorem tm_157 : Cond.static ⟨"java/lang/Long", "numberOfLeadingZeros", "(J)I"⟩ ∈ gw_tbl := gw_mem 157 (by decide +kernel) (by decide +kernel)
theorem tm_158 : Cond.code ⟨"java/lang/Long", "numberOfLeadingZeros", "(J)I"⟩ prog_7_method_48_code 3 (some .int) ∈ gw_tbl := gw_mem 158 (by decide +kernel) (by decide +kernel)
theorem tm_159 : Cond.methodLink "java/lang/Long" 308 ⟨"java/lang/Integer", "numberOfLeadingZeros", "(I)I"⟩ ∈ gw_tbl := gw_mem 159 (by decide +kernel) (by decide +kernel)
theorem tm_160 : Cond.static ⟨"java/lang/Integer", "numberOfLeadingZeros", "(I)I"⟩ ∈ gw_tbl := gw_mem 160 (by decide +kernel) (by decide +kernel)
theorem tm_161 : Cond.code ⟨"java/lang/Integer", "numberOfLeadingZeros", "(I)I"⟩ prog_6_method_47_code 2 (some .int) ∈ gw_tbl := gw_mem 161 (by decide +kernel) (by decide +kernel)
theorem tm_162 : Cond.constant "java/lang/Integer" 264 65536 ∈ gw_tbl := gw_mem 162 (by decide +kernel) (by decide +kernel)
theorem tm_163 : Cond.methodLink "NumberProbe$Format" 139 ⟨"NumberProbe$Format", "cutToEven", "(JI)J"⟩ ∈ gw_tbl := gw_mem 163 (by decide +kernel) (by decide +kernel)
theorem tm_164 : Cond.static ⟨"NumberProbe$Format", "cutToEven", "(JI)J"⟩ ∈ gw_tbl := gw_mem 164 (by decide +kernel) (by decide +kernel)
theorem tm_165 : Cond.code ⟨"NumberProbe$Format", "cutToEven", "(JI)J"⟩ prog_2_method_33_code 10 (some .long) ∈ gw_tbl := gw_mem 165 (by decide +kernel) (by decide +kernel)
theorem tm_166 : Cond.methodLink "NumberProbe" 141 ⟨"NumberProbe$Format", "negated", "(J)J"⟩ ∈ gw_tbl := gw_mem 166 (by decide +kernel) (by decide +kernel)
theorem tm_167 : Cond.instanceMethod ⟨"NumberProbe$Format", "negated", "(J)J"⟩ ∈ gw_tbl := gw_mem 167 (by decide +kernel) (by decide +kernel)
theorem tm_168 : Cond.selects "NumberProbe$Format" ⟨"NumberProbe$Format", "negated", "(J)J"⟩ ⟨"NumberProbe$Format", "negated", "(J)J"⟩ ∈ gw_tbl := gw_mem 168 (by decide +kernel) (by decide +kernel)
theorem tm_169 : Cond.code ⟨"NumberProbe$Format", "negated", "(J)J"⟩ prog_2_method_9_code 3 (some .long) ∈ gw_tbl := gw_mem 169 (by decide +kernel) (by decide +kernel)
theorem tm_170 : Cond.methodLink "NumberProbe" 90 ⟨"NumberProbe$Format", "product", "(JJ)J"⟩ ∈ gw_tbl := gw_mem 170 (by decide +kernel) (by decide +kernel)
theorem tm_171 : Cond.instanceMethod ⟨"NumberProbe$Format", "product", "(JJ)J"⟩ ∈ gw_tbl := gw_mem 171 (by decide +kernel) (by decide +kernel)
theorem tm_172 : Cond.selects "NumberProbe$Format" ⟨"NumberProbe$Format", "product", "(JJ)J"⟩ ⟨"NumberProbe$Format", "product", "(JJ)J"⟩ ∈ gw_tbl := gw_mem 172 (by decide +kernel) (by decide +kernel)
theorem tm_173 : Cond.code ⟨"NumberProbe$Format", "product", "(JJ)J"⟩ prog_2_method_22_code 6 (some .long) ∈ gw_tbl := gw_mem 173 (by decide +kernel) (by decide +kernel)
theorem tm_174 : Cond.methodLink "NumberProbe$Format" 80 ⟨"NumberProbe$Format", "isZero", "(J)Z"⟩ ∈ gw_tbl := gw_mem 174 (by decide +kernel) (by decide +kernel)
theorem tm_176 : Cond.instanceMethod ⟨"NumberProbe$Format", "isZero", "(J)Z"⟩ ∈ gw_tbl := gw_mem 176 (by decide +kernel) (by decide +kernel)
theorem tm_177 : Cond.code ⟨"NumberProbe$Format", "isZero", "(J)Z"⟩ prog_2_method_7_code 3 (some .boolean) ∈ gw_tbl := gw_mem 177 (by decide +kernel) (by decide +kernel)
theorem tm_178 : Cond.methodLink "NumberProbe$Format" 107 ⟨"NumberProbe$Format", "finiteProduct", "(ZJJ)J"⟩ ∈ gw_tbl := gw_mem 178 (by decide +kernel) (by decide +kernel)
theorem tm_180 : Cond.instanceMethod ⟨"NumberProbe$Format", "finiteProduct", "(ZJJ)J"⟩ ∈ gw_tbl := gw_mem 180 (by decide +kernel) (by decide +kernel)
theorem tm_181 : Cond.code ⟨"NumberProbe$Format", "finiteProduct", "(ZJJ)J"⟩ prog_2_method_23_code 17 (some .long) ∈ gw_tbl := gw_mem 181 (by decide +kernel) (by decide +kernel)
theorem tm_182 : Cond.methodLink "NumberProbe$Format" 111 ⟨"NumberProbe$Format", "widening", "(J)I"⟩ ∈ gw_tbl := gw_mem 182 (by decide +kernel) (by decide +kernel)
theorem tm_183 : Cond.static ⟨"NumberProbe$Format", "widening", "(J)I"⟩ ∈ gw_tbl := gw_mem 183 (by decide +kernel) (by decide +kernel)
theorem tm_184 : Cond.code ⟨"NumberProbe$Format", "widening", "(J)I"⟩ prog_2_method_14_code 2 (some .int) ∈ gw_tbl := gw_mem 184 (by decide +kernel) (by decide +kernel)
theorem tm_185 : Cond.methodLink "NumberProbe$Format" 114 ⟨"NumberProbe$Format", "digitOf", "(JI)J"⟩ ∈ gw_tbl := gw_mem 185 (by decide +kernel) (by decide +kernel)
theorem tm_186 : Cond.static ⟨"NumberProbe$Format", "digitOf", "(JI)J"⟩ ∈ gw_tbl := gw_mem 186 (by decide +kernel) (by decide +kernel)
theorem tm_187 : Cond.code ⟨"NumberProbe$Format", "digitOf", "(JI)J"⟩ prog_2_method_15_code 3 (some .long) ∈ gw_tbl := gw_mem 187 (by decide +kernel) (by decide +kernel)
theorem tm_188 : Cond.constantLong "NumberProbe$Format" 78 1023 ∈ gw_tbl := gw_mem 188 (by decide +kernel) (by decide +kernel)
theorem tm_189 : Cond.methodLink "NumberProbe" 144 ⟨"NumberProbe$Format", "quotient", "(JJ)J"⟩ ∈ gw_tbl := gw_mem 189 (by decide +kernel) (by decide +kernel)
theorem tm_190 : Cond.instanceMethod ⟨"NumberProbe$Format", "quotient", "(JJ)J"⟩ ∈ gw_tbl := gw_mem 190 (by decide +kernel) (by decide +kernel)
theorem tm_191 : Cond.selects "NumberProbe$Format" ⟨"NumberProbe$Format", "quotient", "(JJ)J"⟩ ⟨"NumberProbe$Format", "quotient", "(JJ)J"⟩ ∈ gw_tbl := gw_mem 191 (by decide +kernel) (by decide +kernel)
theorem tm_192 : Cond.code ⟨"NumberProbe$Format", "quotient", "(JJ)J"⟩ prog_2_method_24_code 6 (some .long) ∈ gw_tbl := gw_mem 192 (by decide +kernel) (by decide +kernel)
theorem tm_193 : Cond.methodLink "NumberProbe$Format" 120 ⟨"NumberProbe$Format", "finiteQuotient", "(ZJJ)J"⟩ ∈ gw_tbl := gw_mem 193 (by decide +kernel) (by decide +kernel)
theorem tm_195 : Cond.instanceMethod ⟨"NumberProbe$Format", "finiteQuotient", "(ZJJ)J"⟩ ∈ gw_tbl := gw_mem 195 (by decide +kernel) (by decide +kernel)
theorem tm_196 : Cond.code ⟨"NumberProbe$Format", "finiteQuotient", "(ZJJ)J"⟩ prog_2_method_25_code 17 (some .long) ∈ gw_tbl := gw_mem 196 (by decide +kernel) (by decide +kernel)
theorem tm_197 : Cond.methodLink "NumberProbe" 147 ⟨"NumberProbe$Format", "remainder", "(JJ)J"⟩ ∈ gw_tbl := gw_mem 197 (by decide +kernel) (by decide +kernel)
theorem tm_198 : Cond.instanceMethod ⟨"NumberProbe$Format", "remainder", "(JJ)J"⟩ ∈ gw_tbl := gw_mem 198 (by decide +kernel) (by decide +kernel)
theorem tm_199 : Cond.selects "NumberProbe$Format" ⟨"NumberProbe$Format", "remainder", "(JJ)J"⟩ ⟨"NumberProbe$Format", "remainder", "(JJ)J"⟩ ∈ gw_tbl := gw_mem 199 (by decide +kernel) (by decide +kernel)
theorem tm_200 : Cond.code ⟨"NumberProbe$Format", "remainder", "(JJ)J"⟩ prog_2_method_26_code 10 (some .long) ∈ gw_tbl := gw_mem 200 (by decide +kernel) (by decide +kernel)
theorem tm_201 : Cond.methodLink "NumberProbe$Format" 123 ⟨"java/lang/Math", "min", "(II)I"⟩ ∈ gw_tbl := gw_mem 201 (by decide +kernel) (by decide +kernel)
theorem tm_202 : Cond.static ⟨"java/lang/Math", "min", "(II)I"⟩ ∈ gw_tbl := gw_mem 202 (by decide +kernel) (by decide +kernel)
theorem tm_203 : Cond.code ⟨"java/lang/Math", "min", "(II)I"⟩ prog_8_method_69_code 2 (some .int) ∈ gw_tbl := gw_mem 203 (by decide +kernel) (by decide +kernel)
theorem tm_204 : Cond.methodLink "NumberProbe" 150 ⟨"NumberProbe$Format", "lesser", "(JJ)J"⟩ ∈ gw_tbl := gw_mem 204 (by decide +kernel) (by decide +kernel)
theorem tm_205 : Cond.instanceMethod ⟨"NumberProbe$Format", "lesser", "(JJ)J"⟩ ∈ gw_tbl := gw_mem 205 (by decide +kernel) (by decide +kernel)
theorem tm_206 : Cond.selects "NumberProbe$Format" ⟨"NumberProbe$Format", "lesser", "(JJ)J"⟩ ⟨"NumberProbe$Format", "lesser", "(JJ)J"⟩ ∈ gw_tbl := gw_mem 206 (by decide +kernel) (by decide +kernel)
theorem tm_207 : Cond.code ⟨"NumberProbe$Format", "lesser", "(JJ)J"⟩ prog_2_method_18_code 5 (some .long) ∈ gw_tbl := gw_mem 207 (by decide +kernel) (by decide +kernel)
theorem tm_208 : Cond.methodLink "NumberProbe$Format" 83 ⟨"NumberProbe$Format", "rankInSorting", "(J)J"⟩ ∈ gw_tbl := gw_mem 208 (by decide +kernel) (by decide +kernel)
theorem tm_209 : Cond.instanceMethod ⟨"NumberProbe$Format", "rankInSorting", "(J)J"⟩ ∈ gw_tbl := gw_mem 209 (by decide +kernel) (by decide +kernel)
theorem tm_210 : Cond.selects "NumberProbe$Format" ⟨"NumberProbe$Format", "rankInSorting", "(J)J"⟩ ⟨"NumberProbe$Format", "rankInSorting", "(J)J"⟩ ∈ gw_tbl := gw_mem 210 (by decide +kernel) (by decide +kernel)
theorem tm_211 : Cond.code ⟨"NumberProbe$Format", "rankInSorting", "(J)J"⟩ prog_2_method_16_code 3 (some .long) ∈ gw_tbl := gw_mem 211 (by decide +kernel) (by decide +kernel)
theorem tm_212 : Cond.methodLink "NumberProbe" 153 ⟨"NumberProbe$Format", "greater", "(JJ)J"⟩ ∈ gw_tbl := gw_mem 212 (by decide +kernel) (by decide +kernel)
theorem tm_213 : Cond.instanceMethod ⟨"NumberProbe$Format", "greater", "(JJ)J"⟩ ∈ gw_tbl := gw_mem 213 (by decide +kernel) (by decide +kernel)
theorem tm_214 : Cond.selects "NumberProbe$Format" ⟨"NumberProbe$Format", "greater", "(JJ)J"⟩ ⟨"NumberProbe$Format", "greater", "(JJ)J"⟩ ∈ gw_tbl := gw_mem 214 (by decide +kernel) (by decide +kernel)
theorem tm_215 : Cond.code ⟨"NumberProbe$Format", "greater", "(JJ)J"⟩ prog_2_method_19_code 5 (some .long) ∈ gw_tbl := gw_mem 215 (by decide +kernel) (by decide +kernel)
theorem tm_216 : Cond.methodLink "NumberProbe" 156 ⟨"NumberProbe$Format", "magnitude", "(J)J"⟩ ∈ gw_tbl := gw_mem 216 (by decide +kernel) (by decide +kernel)
theorem tm_217 : Cond.methodLink "NumberProbe" 134 ⟨"NumberProbe", "shifted", "(IIJJ)J"⟩ ∈ gw_tbl := gw_mem 217 (by decide +kernel) (by decide +kernel)
theorem tm_218 : Cond.static ⟨"NumberProbe", "shifted", "(IIJJ)J"⟩ ∈ gw_tbl := gw_mem 218 (by decide +kernel) (by decide +kernel)
theorem tm_219 : Cond.code ⟨"NumberProbe", "shifted", "(IIJJ)J"⟩ prog_1_method_26_code 8 (some .long) ∈ gw_tbl := gw_mem 219 (by decide +kernel) (by decide +kernel)
theorem tm_220 : Cond.methodLink "NumberProbe" 137 ⟨"NumberProbe", "wholeResult", "(IJJ)J"⟩ ∈ gw_tbl := gw_mem 220 (by decide +kernel) (by decide +kernel)
theorem tm_221 : Cond.static ⟨"NumberProbe", "wholeResult", "(IJJ)J"⟩ ∈ gw_tbl := gw_mem 221 (by decide +kernel) (by decide +kernel)
theorem tm_222 : Cond.code ⟨"NumberProbe", "wholeResult", "(IJJ)J"⟩ prog_1_method_25_code 5 (some .long) ∈ gw_tbl := gw_mem 222 (by decide +kernel) (by decide +kernel)
theorem tm_223 : Cond.methodLink "NumberProbe" 122 ⟨"java/lang/Math", "min", "(JJ)J"⟩ ∈ gw_tbl := gw_mem 223 (by decide +kernel) (by decide +kernel)
theorem tm_224 : Cond.static ⟨"java/lang/Math", "min", "(JJ)J"⟩ ∈ gw_tbl := gw_mem 224 (by decide +kernel) (by decide +kernel)
theorem tm_225 : Cond.code ⟨"java/lang/Math", "min", "(JJ)J"⟩ prog_8_method_70_code 4 (some .long) ∈ gw_tbl := gw_mem 225 (by decide +kernel) (by decide +kernel)
theorem tm_226 : Cond.methodLink "NumberProbe" 127 ⟨"java/lang/Math", "max", "(JJ)J"⟩ ∈ gw_tbl := gw_mem 226 (by decide +kernel) (by decide +kernel)
theorem tm_227 : Cond.static ⟨"java/lang/Math", "max", "(JJ)J"⟩ ∈ gw_tbl := gw_mem 227 (by decide +kernel) (by decide +kernel)
theorem tm_228 : Cond.code ⟨"java/lang/Math", "max", "(JJ)J"⟩ prog_8_method_66_code 4 (some .long) ∈ gw_tbl := gw_mem 228 (by decide +kernel) (by decide +kernel)
theorem tm_229 : Cond.methodLink "NumberProbeLaw" 35 ⟨"NumberProbe", "assign", "(IIIII)I"⟩ ∈ gw_tbl := gw_mem 229 (by decide +kernel) (by decide +kernel)
theorem tm_230 : Cond.instanceMethod ⟨"NumberProbe", "assign", "(IIIII)I"⟩ ∈ gw_tbl := gw_mem 230 (by decide +kernel) (by decide +kernel)
theorem tm_231 : Cond.selects "NumberProbe" ⟨"NumberProbe", "assign", "(IIIII)I"⟩ ⟨"NumberProbe", "assign", "(IIIII)I"⟩ ∈ gw_tbl := gw_mem 231 (by decide +kernel) (by decide +kernel)
theorem tm_232 : Cond.code ⟨"NumberProbe", "assign", "(IIIII)I"⟩ prog_1_method_6_code 11 (some .int) ∈ gw_tbl := gw_mem 232 (by decide +kernel) (by decide +kernel)
theorem tm_233 : Cond.methodLink "NumberProbe" 51 ⟨"NumberProbe", "widthOf", "(I)I"⟩ ∈ gw_tbl := gw_mem 233 (by decide +kernel) (by decide +kernel)
theorem tm_234 : Cond.static ⟨"NumberProbe", "widthOf", "(I)I"⟩ ∈ gw_tbl := gw_mem 234 (by decide +kernel) (by decide +kernel)
theorem tm_235 : Cond.code ⟨"NumberProbe", "widthOf", "(I)I"⟩ prog_1_method_18_code 1 (some .int) ∈ gw_tbl := gw_mem 235 (by decide +kernel) (by decide +kernel)
theorem tm_236 : Cond.methodLink "NumberProbe" 55 ⟨"NumberProbe", "converted", "(IJI)J"⟩ ∈ gw_tbl := gw_mem 236 (by decide +kernel) (by decide +kernel)
theorem tm_237 : Cond.static ⟨"NumberProbe", "converted", "(IJI)J"⟩ ∈ gw_tbl := gw_mem 237 (by decide +kernel) (by decide +kernel)
theorem tm_238 : Cond.code ⟨"NumberProbe", "converted", "(IJI)J"⟩ prog_1_method_21_code 6 (some .long) ∈ gw_tbl := gw_mem 238 (by decide +kernel) (by decide +kernel)
theorem tm_239 : Cond.methodLink "NumberProbe" 106 ⟨"NumberProbe$Format", "nearestTo", "(LNumberProbe$Format;J)J"⟩ ∈ gw_tbl := gw_mem 239 (by decide +kernel) (by decide +kernel)
theorem tm_240 : Cond.instanceMethod ⟨"NumberProbe$Format", "nearestTo", "(LNumberProbe$Format;J)J"⟩ ∈ gw_tbl := gw_mem 240 (by decide +kernel) (by decide +kernel)
theorem tm_241 : Cond.selects "NumberProbe$Format" ⟨"NumberProbe$Format", "nearestTo", "(LNumberProbe$Format;J)J"⟩ ⟨"NumberProbe$Format", "nearestTo", "(LNumberProbe$Format;J)J"⟩ ∈ gw_tbl := gw_mem 241 (by decide +kernel) (by decide +kernel)
theorem tm_242 : Cond.code ⟨"NumberProbe$Format", "nearestTo", "(LNumberProbe$Format;J)J"⟩ prog_2_method_27_code 4 (some .long) ∈ gw_tbl := gw_mem 242 (by decide +kernel) (by decide +kernel)
theorem tm_243 : Cond.methodLink "NumberProbe" 110 ⟨"NumberProbe$Format", "nearestToWhole", "(J)J"⟩ ∈ gw_tbl := gw_mem 243 (by decide +kernel) (by decide +kernel)
theorem tm_244 : Cond.instanceMethod ⟨"NumberProbe$Format", "nearestToWhole", "(J)J"⟩ ∈ gw_tbl := gw_mem 244 (by decide +kernel) (by decide +kernel)
theorem tm_245 : Cond.selects "NumberProbe$Format" ⟨"NumberProbe$Format", "nearestToWhole", "(J)J"⟩ ⟨"NumberProbe$Format", "nearestToWhole", "(J)J"⟩ ∈ gw_tbl := gw_mem 245 (by decide +kernel) (by decide +kernel)
theorem tm_246 : Cond.code ⟨"NumberProbe$Format", "nearestToWhole", "(J)J"⟩ prog_2_method_28_code 5 (some .long) ∈ gw_tbl := gw_mem 246 (by decide +kernel) (by decide +kernel)
theorem tm_247 : Cond.methodLink "NumberProbe" 113 ⟨"NumberProbe$Format", "towardsZero", "(J)J"⟩ ∈ gw_tbl := gw_mem 247 (by decide +kernel) (by decide +kernel)
theorem tm_248 : Cond.instanceMethod ⟨"NumberProbe$Format", "towardsZero", "(J)J"⟩ ∈ gw_tbl := gw_mem 248 (by decide +kernel) (by decide +kernel)
theorem tm_249 : Cond.selects "NumberProbe$Format" ⟨"NumberProbe$Format", "towardsZero", "(J)J"⟩ ⟨"NumberProbe$Format", "towardsZero", "(J)J"⟩ ∈ gw_tbl := gw_mem 249 (by decide +kernel) (by decide +kernel)
theorem tm_250 : Cond.code ⟨"NumberProbe$Format", "towardsZero", "(J)J"⟩ prog_2_method_29_code 8 (some .long) ∈ gw_tbl := gw_mem 250 (by decide +kernel) (by decide +kernel)
theorem tm_251 : Cond.constantLong "NumberProbe$Format" 126 (-9223372036854775808) ∈ gw_tbl := gw_mem 251 (by decide +kernel) (by decide +kernel)
theorem tm_252 : Cond.constantLong "NumberProbe$Format" 128 9223372036854775807 ∈ gw_tbl := gw_mem 252 (by decide +kernel) (by decide +kernel)
theorem tm_253 : Cond.constantLong "NumberProbe" 118 (-2147483648) ∈ gw_tbl := gw_mem 253 (by decide +kernel) (by decide +kernel)
theorem tm_254 : Cond.constantLong "NumberProbe" 120 2147483647 ∈ gw_tbl := gw_mem 254 (by decide +kernel) (by decide +kernel)
theorem tm_255 : Cond.methodLink "NumberProbeLaw" 39 ⟨"NumberProbe", "convert", "(IIII)I"⟩ ∈ gw_tbl := gw_mem 255 (by decide +kernel) (by decide +kernel)
theorem tm_256 : Cond.instanceMethod ⟨"NumberProbe", "convert", "(IIII)I"⟩ ∈ gw_tbl := gw_mem 256 (by decide +kernel) (by decide +kernel)
theorem tm_257 : Cond.selects "NumberProbe" ⟨"NumberProbe", "convert", "(IIII)I"⟩ ⟨"NumberProbe", "convert", "(IIII)I"⟩ ∈ gw_tbl := gw_mem 257 (by decide +kernel) (by decide +kernel)
theorem tm_258 : Cond.code ⟨"NumberProbe", "convert", "(IIII)I"⟩ prog_1_method_7_code 5 (some .int) ∈ gw_tbl := gw_mem 258 (by decide +kernel) (by decide +kernel)
theorem tm_259 : Cond.methodLink "NumberProbeLaw" 44 ⟨"NumberProbe", "narrow", "(III)I"⟩ ∈ gw_tbl := gw_mem 259 (by decide +kernel) (by decide +kernel)
theorem tm_260 : Cond.instanceMethod ⟨"NumberProbe", "narrow", "(III)I"⟩ ∈ gw_tbl := gw_mem 260 (by decide +kernel) (by decide +kernel)
theorem tm_261 : Cond.selects "NumberProbe" ⟨"NumberProbe", "narrow", "(III)I"⟩ ⟨"NumberProbe", "narrow", "(III)I"⟩ ∈ gw_tbl := gw_mem 261 (by decide +kernel) (by decide +kernel)
theorem tm_262 : Cond.code ⟨"NumberProbe", "narrow", "(III)I"⟩ prog_1_method_8_code 5 (some .int) ∈ gw_tbl := gw_mem 262 (by decide +kernel) (by decide +kernel)
theorem tm_263 : Cond.methodLink "NumberProbeLaw" 48 ⟨"NumberProbe", "compare", "(III)I"⟩ ∈ gw_tbl := gw_mem 263 (by decide +kernel) (by decide +kernel)
theorem tm_264 : Cond.instanceMethod ⟨"NumberProbe", "compare", "(III)I"⟩ ∈ gw_tbl := gw_mem 264 (by decide +kernel) (by decide +kernel)
theorem tm_265 : Cond.selects "NumberProbe" ⟨"NumberProbe", "compare", "(III)I"⟩ ⟨"NumberProbe", "compare", "(III)I"⟩ ∈ gw_tbl := gw_mem 265 (by decide +kernel) (by decide +kernel)
theorem tm_266 : Cond.code ⟨"NumberProbe", "compare", "(III)I"⟩ prog_1_method_9_code 9 (some .int) ∈ gw_tbl := gw_mem 266 (by decide +kernel) (by decide +kernel)
theorem tm_267 : Cond.methodLink "NumberProbe" 59 ⟨"NumberProbe$Format", "isNaN", "(J)Z"⟩ ∈ gw_tbl := gw_mem 267 (by decide +kernel) (by decide +kernel)
theorem tm_268 : Cond.methodLink "NumberProbe" 63 ⟨"NumberProbe$Format", "rankByValue", "(J)J"⟩ ∈ gw_tbl := gw_mem 268 (by decide +kernel) (by decide +kernel)
theorem tm_269 : Cond.instanceMethod ⟨"NumberProbe$Format", "rankByValue", "(J)J"⟩ ∈ gw_tbl := gw_mem 269 (by decide +kernel) (by decide +kernel)
theorem tm_270 : Cond.selects "NumberProbe$Format" ⟨"NumberProbe$Format", "rankByValue", "(J)J"⟩ ⟨"NumberProbe$Format", "rankByValue", "(J)J"⟩ ∈ gw_tbl := gw_mem 270 (by decide +kernel) (by decide +kernel)
theorem tm_271 : Cond.code ⟨"NumberProbe$Format", "rankByValue", "(J)J"⟩ prog_2_method_17_code 3 (some .long) ∈ gw_tbl := gw_mem 271 (by decide +kernel) (by decide +kernel)
theorem tm_272 : Cond.methodLink "NumberProbeLaw" 52 ⟨"NumberProbe", "order", "(III)I"⟩ ∈ gw_tbl := gw_mem 272 (by decide +kernel) (by decide +kernel)
theorem tm_273 : Cond.instanceMethod ⟨"NumberProbe", "order", "(III)I"⟩ ∈ gw_tbl := gw_mem 273 (by decide +kernel) (by decide +kernel)
theorem tm_274 : Cond.selects "NumberProbe" ⟨"NumberProbe", "order", "(III)I"⟩ ⟨"NumberProbe", "order", "(III)I"⟩ ∈ gw_tbl := gw_mem 274 (by decide +kernel) (by decide +kernel)
theorem tm_275 : Cond.code ⟨"NumberProbe", "order", "(III)I"⟩ prog_1_method_10_code 9 (some .int) ∈ gw_tbl := gw_mem 275 (by decide +kernel) (by decide +kernel)
theorem tm_276 : Cond.methodLink "NumberProbe" 66 ⟨"NumberProbe$Format", "rankInSorting", "(J)J"⟩ ∈ gw_tbl := gw_mem 276 (by decide +kernel) (by decide +kernel)
theorem tm_277 : Cond.methodLink "NumberProbe" 69 ⟨"java/lang/Long", "compare", "(JJ)I"⟩ ∈ gw_tbl := gw_mem 277 (by decide +kernel) (by decide +kernel)
theorem tm_278 : Cond.static ⟨"java/lang/Long", "compare", "(JJ)I"⟩ ∈ gw_tbl := gw_mem 278 (by decide +kernel) (by decide +kernel)
theorem tm_279 : Cond.code ⟨"java/lang/Long", "compare", "(JJ)I"⟩ prog_7_method_42_code 4 (some .int) ∈ gw_tbl := gw_mem 279 (by decide +kernel) (by decide +kernel)
theorem tm_280 : Cond.methodLink "NumberProbeLaw" 56 ⟨"NumberProbe", "sort", "(II)I"⟩ ∈ gw_tbl := gw_mem 280 (by decide +kernel) (by decide +kernel)
theorem tm_281 : Cond.instanceMethod ⟨"NumberProbe", "sort", "(II)I"⟩ ∈ gw_tbl := gw_mem 281 (by decide +kernel) (by decide +kernel)
theorem tm_282 : Cond.selects "NumberProbe" ⟨"NumberProbe", "sort", "(II)I"⟩ ⟨"NumberProbe", "sort", "(II)I"⟩ ∈ gw_tbl := gw_mem 282 (by decide +kernel) (by decide +kernel)
theorem tm_283 : Cond.code ⟨"NumberProbe", "sort", "(II)I"⟩ prog_1_method_11_code 3 (some .int) ∈ gw_tbl := gw_mem 283 (by decide +kernel) (by decide +kernel)
theorem tm_284 : Cond.methodLink "NumberProbe" 75 ⟨"NumberProbe$Format", "traits", "(J)I"⟩ ∈ gw_tbl := gw_mem 284 (by decide +kernel) (by decide +kernel)
theorem tm_285 : Cond.instanceMethod ⟨"NumberProbe$Format", "traits", "(J)I"⟩ ∈ gw_tbl := gw_mem 285 (by decide +kernel) (by decide +kernel)
theorem tm_286 : Cond.selects "NumberProbe$Format" ⟨"NumberProbe$Format", "traits", "(J)I"⟩ ⟨"NumberProbe$Format", "traits", "(J)I"⟩ ∈ gw_tbl := gw_mem 286 (by decide +kernel) (by decide +kernel)
theorem tm_287 : Cond.code ⟨"NumberProbe$Format", "traits", "(J)I"⟩ prog_2_method_30_code 4 (some .int) ∈ gw_tbl := gw_mem 287 (by decide +kernel) (by decide +kernel)
theorem tm_288 : Cond.methodLink "NumberProbe$Format" 130 ⟨"NumberProbe$Format", "isWhole", "(J)Z"⟩ ∈ gw_tbl := gw_mem 288 (by decide +kernel) (by decide +kernel)
theorem tm_290 : Cond.instanceMethod ⟨"NumberProbe$Format", "isWhole", "(J)Z"⟩ ∈ gw_tbl := gw_mem 290 (by decide +kernel) (by decide +kernel)
theorem tm_291 : Cond.code ⟨"NumberProbe$Format", "isWhole", "(J)Z"⟩ prog_2_method_31_code 3 (some .boolean) ∈ gw_tbl := gw_mem 291 (by decide +kernel) (by decide +kernel)
theorem tm_292 : Cond.methodLink "NumberProbe$Format" 136 ⟨"java/lang/Long", "numberOfTrailingZeros", "(J)I"⟩ ∈ gw_tbl := gw_mem 292 (by decide +kernel) (by decide +kernel)
theorem tm_293 : Cond.static ⟨"java/lang/Long", "numberOfTrailingZeros", "(J)I"⟩ ∈ gw_tbl := gw_mem 293 (by decide +kernel) (by decide +kernel)
theorem tm_294 : Cond.code ⟨"java/lang/Long", "numberOfTrailingZeros", "(J)I"⟩ prog_7_method_49_code 3 (some .int) ∈ gw_tbl := gw_mem 294 (by decide +kernel) (by decide +kernel)
theorem tm_295 : Cond.methodLink "java/lang/Long" 311 ⟨"java/lang/Integer", "numberOfTrailingZeros", "(I)I"⟩ ∈ gw_tbl := gw_mem 295 (by decide +kernel) (by decide +kernel)
theorem tm_296 : Cond.static ⟨"java/lang/Integer", "numberOfTrailingZeros", "(I)I"⟩ ∈ gw_tbl := gw_mem 296 (by decide +kernel) (by decide +kernel)
theorem tm_297 : Cond.code ⟨"java/lang/Integer", "numberOfTrailingZeros", "(I)I"⟩ prog_6_method_48_code 2 (some .int) ∈ gw_tbl := gw_mem 297 (by decide +kernel) (by decide +kernel)
theorem tm_298 : Cond.methodLink "NumberProbe$Format" 133 ⟨"java/lang/Long", "bitCount", "(J)I"⟩ ∈ gw_tbl := gw_mem 298 (by decide +kernel) (by decide +kernel)
theorem tm_299 : Cond.static ⟨"java/lang/Long", "bitCount", "(J)I"⟩ ∈ gw_tbl := gw_mem 299 (by decide +kernel) (by decide +kernel)
theorem tm_300 : Cond.code ⟨"java/lang/Long", "bitCount", "(J)I"⟩ prog_7_method_50_code 2 (some .int) ∈ gw_tbl := gw_mem 300 (by decide +kernel) (by decide +kernel)
theorem tm_301 : Cond.constantLong "java/lang/Long" 314 6148914691236517205 ∈ gw_tbl := gw_mem 301 (by decide +kernel) (by decide +kernel)
theorem tm_302 : Cond.constantLong "java/lang/Long" 316 3689348814741910323 ∈ gw_tbl := gw_mem 302 (by decide +kernel) (by decide +kernel)
theorem tm_303 : Cond.constantLong "java/lang/Long" 318 1085102592571150095 ∈ gw_tbl := gw_mem 303 (by decide +kernel) (by decide +kernel)
theorem tm_304 : Cond.methodLink "NumberProbeLaw" 61 ⟨"NumberProbe", "series", "(IIII)I"⟩ ∈ gw_tbl := gw_mem 304 (by decide +kernel) (by decide +kernel)
theorem tm_305 : Cond.instanceMethod ⟨"NumberProbe", "series", "(IIII)I"⟩ ∈ gw_tbl := gw_mem 305 (by decide +kernel) (by decide +kernel)
theorem tm_306 : Cond.selects "NumberProbe" ⟨"NumberProbe", "series", "(IIII)I"⟩ ⟨"NumberProbe", "series", "(IIII)I"⟩ ∈ gw_tbl := gw_mem 306 (by decide +kernel) (by decide +kernel)
theorem tm_307 : Cond.code ⟨"NumberProbe", "series", "(IIII)I"⟩ prog_1_method_12_code 12 (some .int) ∈ gw_tbl := gw_mem 307 (by decide +kernel) (by decide +kernel)
theorem tm_308 : Cond.methodLink "NumberProbeLaw" 65 ⟨"NumberProbe", "polynomial", "(II)I"⟩ ∈ gw_tbl := gw_mem 308 (by decide +kernel) (by decide +kernel)
theorem tm_309 : Cond.instanceMethod ⟨"NumberProbe", "polynomial", "(II)I"⟩ ∈ gw_tbl := gw_mem 309 (by decide +kernel) (by decide +kernel)
theorem tm_310 : Cond.selects "NumberProbe" ⟨"NumberProbe", "polynomial", "(II)I"⟩ ⟨"NumberProbe", "polynomial", "(II)I"⟩ ∈ gw_tbl := gw_mem 310 (by decide +kernel) (by decide +kernel)
theorem tm_311 : Cond.code ⟨"NumberProbe", "polynomial", "(II)I"⟩ prog_1_method_13_code 7 (some .int) ∈ gw_tbl := gw_mem 311 (by decide +kernel) (by decide +kernel)
theorem tm_312 : Cond.classLink "NumberProbeLaw" 10 "NumberProbeModel" ∈ gw_tbl := gw_mem 312 (by decide +kernel) (by decide +kernel)
theorem tm_314 : Cond.methodLink "NumberProbeLaw" 12 ⟨"NumberProbeModel", "<init>", "()V"⟩ ∈ gw_tbl := gw_mem 314 (by decide +kernel) (by decide +kernel)
theorem tm_315 : Cond.instanceMethod ⟨"NumberProbeModel", "<init>", "()V"⟩ ∈ gw_tbl := gw_mem 315 (by decide +kernel) (by decide +kernel)
theorem tm_316 : Cond.code ⟨"NumberProbeModel", "<init>", "()V"⟩ prog_4_method_1_code 1 (none : Option Jvm.ClassFile.FieldType) ∈ gw_tbl := gw_mem 316 (by decide +kernel) (by decide +kernel)
theorem tm_317 : Cond.methodLink "NumberProbeModel" 1 ⟨"java/lang/Object", "<init>", "()V"⟩ ∈ gw_tbl := gw_mem 317 (by decide +kernel) (by decide +kernel)
theorem tm_318 : Cond.fieldLink "NumberProbeModel" 7 "NumberProbeModel" "cell" "[J" ∈ gw_tbl := gw_mem 318 (by decide +kernel) (by decide +kernel)
theorem tm_319 : Cond.fieldLink "NumberProbeModel" 47 "NumberProbeModel" "xSign" "Z" ∈ gw_tbl := gw_mem 319 (by decide +kernel) (by decide +kernel)
theorem tm_320 : Cond.fieldLink "NumberProbeModel" 75 "NumberProbeModel" "ySign" "Z" ∈ gw_tbl := gw_mem 320 (by decide +kernel) (by decide +kernel)
theorem tm_321 : Cond.fieldLink "NumberProbeModel" 54 "NumberProbeModel" "xNan" "Z" ∈ gw_tbl := gw_mem 321 (by decide +kernel) (by decide +kernel)
theorem tm_322 : Cond.fieldLink "NumberProbeModel" 78 "NumberProbeModel" "yNan" "Z" ∈ gw_tbl := gw_mem 322 (by decide +kernel) (by decide +kernel)
theorem tm_323 : Cond.fieldLink "NumberProbeModel" 57 "NumberProbeModel" "xInfinite" "Z" ∈ gw_tbl := gw_mem 323 (by decide +kernel) (by decide +kernel)
theorem tm_324 : Cond.fieldLink "NumberProbeModel" 81 "NumberProbeModel" "yInfinite" "Z" ∈ gw_tbl := gw_mem 324 (by decide +kernel) (by decide +kernel)
theorem tm_325 : Cond.fieldLink "NumberProbeModel" 63 "NumberProbeModel" "xMantissa" "J" ∈ gw_tbl := gw_mem 325 (by decide +kernel) (by decide +kernel)
theorem tm_326 : Cond.fieldLink "NumberProbeModel" 84 "NumberProbeModel" "yMantissa" "J" ∈ gw_tbl := gw_mem 326 (by decide +kernel) (by decide +kernel)
theorem tm_327 : Cond.fieldLink "NumberProbeModel" 71 "NumberProbeModel" "xPower" "I" ∈ gw_tbl := gw_mem 327 (by decide +kernel) (by decide +kernel)
theorem tm_328 : Cond.fieldLink "NumberProbeModel" 87 "NumberProbeModel" "yPower" "I" ∈ gw_tbl := gw_mem 328 (by decide +kernel) (by decide +kernel)
theorem tm_329 : Cond.fieldLink "NumberProbeModel" 118 "NumberProbeModel" "high" "J" ∈ gw_tbl := gw_mem 329 (by decide +kernel) (by decide +kernel)
theorem tm_355 : Cond.methodLink "NumberProbeLaw" 19 ⟨"NumberProbeModel", "put", "(IIJ)I"⟩ ∈ gw_tbl := gw_mem 355 (by decide +kernel) (by decide +kernel)
theorem tm_356 : Cond.instanceMethod ⟨"NumberProbeModel", "put", "(IIJ)I"⟩ ∈ gw_tbl := gw_mem 356 (by decide +kernel) (by decide +kernel)
theorem tm_357 : Cond.selects "NumberProbeModel" ⟨"NumberProbeModel", "put", "(IIJ)I"⟩ ⟨"NumberProbeModel", "put", "(IIJ)I"⟩ ∈ gw_tbl := gw_mem 357 (by decide +kernel) (by decide +kernel)
theorem tm_358 : Cond.code ⟨"NumberProbeModel", "put", "(IIJ)I"⟩ prog_4_method_33_code 5 (some .int) ∈ gw_tbl := gw_mem 358 (by decide +kernel) (by decide +kernel)
theorem tm_359 : Cond.methodLink "NumberProbeModel" 167 ⟨"NumberProbeModel", "in", "(II)Z"⟩ ∈ gw_tbl := gw_mem 359 (by decide +kernel) (by decide +kernel)
theorem tm_360 : Cond.static ⟨"NumberProbeModel", "in", "(II)Z"⟩ ∈ gw_tbl := gw_mem 360 (by decide +kernel) (by decide +kernel)
theorem tm_361 : Cond.code ⟨"NumberProbeModel", "in", "(II)Z"⟩ prog_4_method_2_code 2 (some .boolean) ∈ gw_tbl := gw_mem 361 (by decide +kernel) (by decide +kernel)
theorem tm_362 : Cond.methodLink "NumberProbeModel" 154 ⟨"NumberProbeModel", "normal", "(IJ)J"⟩ ∈ gw_tbl := gw_mem 362 (by decide +kernel) (by decide +kernel)
theorem tm_363 : Cond.static ⟨"NumberProbeModel", "normal", "(IJ)J"⟩ ∈ gw_tbl := gw_mem 363 (by decide +kernel) (by decide +kernel)
theorem tm_364 : Cond.code ⟨"NumberProbeModel", "normal", "(IJ)J"⟩ prog_4_method_28_code 5 (some .long) ∈ gw_tbl := gw_mem 364 (by decide +kernel) (by decide +kernel)
theorem tm_365 : Cond.constantLong "NumberProbeModel" 116 4294967295 ∈ gw_tbl := gw_mem 365 (by decide +kernel) (by decide +kernel)
theorem tm_366 : Cond.methodLink "NumberProbeModel" 51 ⟨"NumberProbeModel", "isNan", "(IJ)Z"⟩ ∈ gw_tbl := gw_mem 366 (by decide +kernel) (by decide +kernel)
theorem tm_367 : Cond.static ⟨"NumberProbeModel", "isNan", "(IJ)Z"⟩ ∈ gw_tbl := gw_mem 367 (by decide +kernel) (by decide +kernel)
theorem tm_368 : Cond.code ⟨"NumberProbeModel", "isNan", "(IJ)Z"⟩ prog_4_method_10_code 3 (some .boolean) ∈ gw_tbl := gw_mem 368 (by decide +kernel) (by decide +kernel)
theorem tm_369 : Cond.methodLink "NumberProbeModel" 29 ⟨"NumberProbeModel", "size", "(IJ)J"⟩ ∈ gw_tbl := gw_mem 369 (by decide +kernel) (by decide +kernel)
theorem tm_370 : Cond.static ⟨"NumberProbeModel", "size", "(IJ)J"⟩ ∈ gw_tbl := gw_mem 370 (by decide +kernel) (by decide +kernel)
theorem tm_371 : Cond.code ⟨"NumberProbeModel", "size", "(IJ)J"⟩ prog_4_method_9_code 3 (some .long) ∈ gw_tbl := gw_mem 371 (by decide +kernel) (by decide +kernel)
theorem tm_372 : Cond.methodLink "NumberProbeModel" 25 ⟨"NumberProbeModel", "signBit", "(I)J"⟩ ∈ gw_tbl := gw_mem 372 (by decide +kernel) (by decide +kernel)
theorem tm_373 : Cond.static ⟨"NumberProbeModel", "signBit", "(I)J"⟩ ∈ gw_tbl := gw_mem 373 (by decide +kernel) (by decide +kernel)
theorem tm_374 : Cond.code ⟨"NumberProbeModel", "signBit", "(I)J"⟩ prog_4_method_5_code 1 (some .long) ∈ gw_tbl := gw_mem 374 (by decide +kernel) (by decide +kernel)
theorem tm_375 : Cond.constantLong "NumberProbeModel" 13 2147483648 ∈ gw_tbl := gw_mem 375 (by decide +kernel) (by decide +kernel)
theorem tm_376 : Cond.constantLong "NumberProbeModel" 15 (-9223372036854775808) ∈ gw_tbl := gw_mem 376 (by decide +kernel) (by decide +kernel)
theorem tm_377 : Cond.methodLink "NumberProbeModel" 33 ⟨"NumberProbeModel", "infinity", "(I)J"⟩ ∈ gw_tbl := gw_mem 377 (by decide +kernel) (by decide +kernel)
theorem tm_378 : Cond.static ⟨"NumberProbeModel", "infinity", "(I)J"⟩ ∈ gw_tbl := gw_mem 378 (by decide +kernel) (by decide +kernel)
theorem tm_379 : Cond.code ⟨"NumberProbeModel", "infinity", "(I)J"⟩ prog_4_method_6_code 1 (some .long) ∈ gw_tbl := gw_mem 379 (by decide +kernel) (by decide +kernel)
theorem tm_380 : Cond.constantLong "NumberProbeModel" 17 2139095040 ∈ gw_tbl := gw_mem 380 (by decide +kernel) (by decide +kernel)
theorem tm_381 : Cond.constantLong "NumberProbeModel" 19 9218868437227405312 ∈ gw_tbl := gw_mem 381 (by decide +kernel) (by decide +kernel)
theorem tm_382 : Cond.methodLink "NumberProbeModel" 105 ⟨"NumberProbeModel", "nan", "(I)J"⟩ ∈ gw_tbl := gw_mem 382 (by decide +kernel) (by decide +kernel)
theorem tm_383 : Cond.static ⟨"NumberProbeModel", "nan", "(I)J"⟩ ∈ gw_tbl := gw_mem 383 (by decide +kernel) (by decide +kernel)
theorem tm_384 : Cond.code ⟨"NumberProbeModel", "nan", "(I)J"⟩ prog_4_method_7_code 1 (some .long) ∈ gw_tbl := gw_mem 384 (by decide +kernel) (by decide +kernel)
theorem tm_385 : Cond.constantLong "NumberProbeModel" 21 2143289344 ∈ gw_tbl := gw_mem 385 (by decide +kernel) (by decide +kernel)
theorem tm_386 : Cond.constantLong "NumberProbeModel" 23 9221120237041090560 ∈ gw_tbl := gw_mem 386 (by decide +kernel) (by decide +kernel)
theorem tm_387 : Cond.methodLink "NumberProbeLaw" 24 ⟨"NumberProbeModel", "boundary", "(III)I"⟩ ∈ gw_tbl := gw_mem 387 (by decide +kernel) (by decide +kernel)
theorem tm_388 : Cond.instanceMethod ⟨"NumberProbeModel", "boundary", "(III)I"⟩ ∈ gw_tbl := gw_mem 388 (by decide +kernel) (by decide +kernel)
theorem tm_389 : Cond.selects "NumberProbeModel" ⟨"NumberProbeModel", "boundary", "(III)I"⟩ ⟨"NumberProbeModel", "boundary", "(III)I"⟩ ∈ gw_tbl := gw_mem 389 (by decide +kernel) (by decide +kernel)
theorem tm_390 : Cond.code ⟨"NumberProbeModel", "boundary", "(III)I"⟩ prog_4_method_36_code 4 (some .int) ∈ gw_tbl := gw_mem 390 (by decide +kernel) (by decide +kernel)
theorem tm_391 : Cond.methodLink "NumberProbeModel" 201 ⟨"NumberProbeModel", "realBoundary", "(II)J"⟩ ∈ gw_tbl := gw_mem 391 (by decide +kernel) (by decide +kernel)
theorem tm_392 : Cond.static ⟨"NumberProbeModel", "realBoundary", "(II)J"⟩ ∈ gw_tbl := gw_mem 392 (by decide +kernel) (by decide +kernel)
theorem tm_393 : Cond.code ⟨"NumberProbeModel", "realBoundary", "(II)J"⟩ prog_4_method_34_code 4 (some .long) ∈ gw_tbl := gw_mem 393 (by decide +kernel) (by decide +kernel)
theorem tm_394 : Cond.methodLink "NumberProbeModel" 157 ⟨"NumberProbeModel", "ofWhole", "(IJ)J"⟩ ∈ gw_tbl := gw_mem 394 (by decide +kernel) (by decide +kernel)
theorem tm_395 : Cond.static ⟨"NumberProbeModel", "ofWhole", "(IJ)J"⟩ ∈ gw_tbl := gw_mem 395 (by decide +kernel) (by decide +kernel)
theorem tm_396 : Cond.code ⟨"NumberProbeModel", "ofWhole", "(IJ)J"⟩ prog_4_method_29_code 3 (some .long) ∈ gw_tbl := gw_mem 396 (by decide +kernel) (by decide +kernel)
theorem tm_397 : Cond.constantLong "NumberProbeModel" 146 4611686018427387904 ∈ gw_tbl := gw_mem 397 (by decide +kernel) (by decide +kernel)
theorem tm_398 : Cond.methodLink "NumberProbeModel" 112 ⟨"NumberProbeModel", "round", "(IZJI)J"⟩ ∈ gw_tbl := gw_mem 398 (by decide +kernel) (by decide +kernel)
theorem tm_399 : Cond.static ⟨"NumberProbeModel", "round", "(IZJI)J"⟩ ∈ gw_tbl := gw_mem 399 (by decide +kernel) (by decide +kernel)
theorem tm_400 : Cond.code ⟨"NumberProbeModel", "round", "(IZJI)J"⟩ prog_4_method_17_code 13 (some .long) ∈ gw_tbl := gw_mem 400 (by decide +kernel) (by decide +kernel)
theorem tm_401 : Cond.methodLink "NumberProbeModel" 90 ⟨"NumberProbeModel", "signed", "(IZJ)J"⟩ ∈ gw_tbl := gw_mem 401 (by decide +kernel) (by decide +kernel)
theorem tm_402 : Cond.static ⟨"NumberProbeModel", "signed", "(IZJ)J"⟩ ∈ gw_tbl := gw_mem 402 (by decide +kernel) (by decide +kernel)
theorem tm_403 : Cond.code ⟨"NumberProbeModel", "signed", "(IZJ)J"⟩ prog_4_method_12_code 4 (some .long) ∈ gw_tbl := gw_mem 403 (by decide +kernel) (by decide +kernel)
theorem tm_404 : Cond.methodLink "NumberProbeModel" 94 ⟨"NumberProbeModel", "length", "(J)I"⟩ ∈ gw_tbl := gw_mem 404 (by decide +kernel) (by decide +kernel)
theorem tm_405 : Cond.static ⟨"NumberProbeModel", "length", "(J)I"⟩ ∈ gw_tbl := gw_mem 405 (by decide +kernel) (by decide +kernel)
theorem tm_406 : Cond.code ⟨"NumberProbeModel", "length", "(J)I"⟩ prog_4_method_11_code 4 (some .int) ∈ gw_tbl := gw_mem 406 (by decide +kernel) (by decide +kernel)
theorem tm_407 : Cond.methodLink "NumberProbeModel" 36 ⟨"NumberProbeModel", "fraction", "(I)I"⟩ ∈ gw_tbl := gw_mem 407 (by decide +kernel) (by decide +kernel)
theorem tm_408 : Cond.static ⟨"NumberProbeModel", "fraction", "(I)I"⟩ ∈ gw_tbl := gw_mem 408 (by decide +kernel) (by decide +kernel)
theorem tm_409 : Cond.code ⟨"NumberProbeModel", "fraction", "(I)I"⟩ prog_4_method_3_code 1 (some .int) ∈ gw_tbl := gw_mem 409 (by decide +kernel) (by decide +kernel)
theorem tm_410 : Cond.methodLink "NumberProbeModel" 40 ⟨"NumberProbeModel", "least", "(I)I"⟩ ∈ gw_tbl := gw_mem 410 (by decide +kernel) (by decide +kernel)
theorem tm_411 : Cond.static ⟨"NumberProbeModel", "least", "(I)I"⟩ ∈ gw_tbl := gw_mem 411 (by decide +kernel) (by decide +kernel)
theorem tm_412 : Cond.code ⟨"NumberProbeModel", "least", "(I)I"⟩ prog_4_method_4_code 1 (some .int) ∈ gw_tbl := gw_mem 412 (by decide +kernel) (by decide +kernel)
theorem tm_413 : Cond.constantLong "NumberProbeModel" 171 16777217 ∈ gw_tbl := gw_mem 413 (by decide +kernel) (by decide +kernel)
theorem tm_414 : Cond.constantLong "NumberProbeModel" 173 9007199254740993 ∈ gw_tbl := gw_mem 414 (by decide +kernel) (by decide +kernel)
theorem tm_415 : Cond.constantLong "NumberProbeModel" 152 (-2147483648) ∈ gw_tbl := gw_mem 415 (by decide +kernel) (by decide +kernel)
theorem tm_416 : Cond.constantLong "NumberProbeModel" 150 2147483647 ∈ gw_tbl := gw_mem 416 (by decide +kernel) (by decide +kernel)
theorem tm_417 : Cond.constantLong "NumberProbeModel" 148 9223372036854775807 ∈ gw_tbl := gw_mem 417 (by decide +kernel) (by decide +kernel)
theorem tm_418 : Cond.methodLink "NumberProbeModel" 205 ⟨"NumberProbeModel", "wholeBoundary", "(II)J"⟩ ∈ gw_tbl := gw_mem 418 (by decide +kernel) (by decide +kernel)
theorem tm_419 : Cond.static ⟨"NumberProbeModel", "wholeBoundary", "(II)J"⟩ ∈ gw_tbl := gw_mem 419 (by decide +kernel) (by decide +kernel)
theorem tm_420 : Cond.code ⟨"NumberProbeModel", "wholeBoundary", "(II)J"⟩ prog_4_method_35_code 2 (some .long) ∈ gw_tbl := gw_mem 420 (by decide +kernel) (by decide +kernel)
theorem tm_421 : Cond.constantLong "NumberProbeModel" 125 (-1) ∈ gw_tbl := gw_mem 421 (by decide +kernel) (by decide +kernel)
theorem tm_422 : Cond.constantLong "NumberProbeModel" 175 127 ∈ gw_tbl := gw_mem 422 (by decide +kernel) (by decide +kernel)
theorem tm_423 : Cond.constantLong "NumberProbeModel" 177 128 ∈ gw_tbl := gw_mem 423 (by decide +kernel) (by decide +kernel)
theorem tm_424 : Cond.constantLong "NumberProbeModel" 179 (-129) ∈ gw_tbl := gw_mem 424 (by decide +kernel) (by decide +kernel)
theorem tm_425 : Cond.constantLong "NumberProbeModel" 181 255 ∈ gw_tbl := gw_mem 425 (by decide +kernel) (by decide +kernel)
theorem tm_426 : Cond.constantLong "NumberProbeModel" 183 32767 ∈ gw_tbl := gw_mem 426 (by decide +kernel) (by decide +kernel)
theorem tm_427 : Cond.constantLong "NumberProbeModel" 185 32768 ∈ gw_tbl := gw_mem 427 (by decide +kernel) (by decide +kernel)
theorem tm_428 : Cond.constantLong "NumberProbeModel" 187 (-32769) ∈ gw_tbl := gw_mem 428 (by decide +kernel) (by decide +kernel)
theorem tm_429 : Cond.constantLong "NumberProbeModel" 189 65535 ∈ gw_tbl := gw_mem 429 (by decide +kernel) (by decide +kernel)
theorem tm_430 : Cond.constantLong "NumberProbeModel" 191 65536 ∈ gw_tbl := gw_mem 430 (by decide +kernel) (by decide +kernel)
theorem tm_431 : Cond.constantLong "NumberProbeModel" 193 (-2147483649) ∈ gw_tbl := gw_mem 431 (by decide +kernel) (by decide +kernel)
theorem tm_432 : Cond.constantLong "NumberProbeModel" 195 4294967296 ∈ gw_tbl := gw_mem 432 (by decide +kernel) (by decide +kernel)
theorem tm_433 : Cond.constantLong "NumberProbeModel" 197 9007199254740991 ∈ gw_tbl := gw_mem 433 (by decide +kernel) (by decide +kernel)
theorem tm_434 : Cond.constantLong "NumberProbeModel" 199 4611686018427388417 ∈ gw_tbl := gw_mem 434 (by decide +kernel) (by decide +kernel)
theorem tm_435 : Cond.methodLink "NumberProbeLaw" 29 ⟨"NumberProbeModel", "bits", "(II)J"⟩ ∈ gw_tbl := gw_mem 435 (by decide +kernel) (by decide +kernel)
theorem tm_436 : Cond.instanceMethod ⟨"NumberProbeModel", "bits", "(II)J"⟩ ∈ gw_tbl := gw_mem 436 (by decide +kernel) (by decide +kernel)
theorem tm_437 : Cond.selects "NumberProbeModel" ⟨"NumberProbeModel", "bits", "(II)J"⟩ ⟨"NumberProbeModel", "bits", "(II)J"⟩ ∈ gw_tbl := gw_mem 437 (by decide +kernel) (by decide +kernel)
theorem tm_438 : Cond.code ⟨"NumberProbeModel", "bits", "(II)J"⟩ prog_4_method_37_code 3 (some .long) ∈ gw_tbl := gw_mem 438 (by decide +kernel) (by decide +kernel)
theorem tm_439 : Cond.methodLink "NumberProbeLaw" 34 ⟨"NumberProbeModel", "operate", "(IIIII)I"⟩ ∈ gw_tbl := gw_mem 439 (by decide +kernel) (by decide +kernel)
theorem tm_440 : Cond.instanceMethod ⟨"NumberProbeModel", "operate", "(IIIII)I"⟩ ∈ gw_tbl := gw_mem 440 (by decide +kernel) (by decide +kernel)
theorem tm_441 : Cond.selects "NumberProbeModel" ⟨"NumberProbeModel", "operate", "(IIIII)I"⟩ ⟨"NumberProbeModel", "operate", "(IIIII)I"⟩ ∈ gw_tbl := gw_mem 441 (by decide +kernel) (by decide +kernel)
theorem tm_442 : Cond.code ⟨"NumberProbeModel", "operate", "(IIIII)I"⟩ prog_4_method_38_code 10 (some .int) ∈ gw_tbl := gw_mem 442 (by decide +kernel) (by decide +kernel)
theorem tm_443 : Cond.methodLink "NumberProbeModel" 208 ⟨"NumberProbeModel", "operateReal", "(IIJJ)J"⟩ ∈ gw_tbl := gw_mem 443 (by decide +kernel) (by decide +kernel)
theorem tm_445 : Cond.instanceMethod ⟨"NumberProbeModel", "operateReal", "(IIJJ)J"⟩ ∈ gw_tbl := gw_mem 445 (by decide +kernel) (by decide +kernel)
theorem tm_446 : Cond.code ⟨"NumberProbeModel", "operateReal", "(IIJJ)J"⟩ prog_4_method_26_code 8 (some .long) ∈ gw_tbl := gw_mem 446 (by decide +kernel) (by decide +kernel)
theorem tm_447 : Cond.methodLink "NumberProbeModel" 127 ⟨"NumberProbeModel", "add", "(IJJ)J"⟩ ∈ gw_tbl := gw_mem 447 (by decide +kernel) (by decide +kernel)
theorem tm_449 : Cond.instanceMethod ⟨"NumberProbeModel", "add", "(IJJ)J"⟩ ∈ gw_tbl := gw_mem 449 (by decide +kernel) (by decide +kernel)
theorem tm_450 : Cond.code ⟨"NumberProbeModel", "add", "(IJJ)J"⟩ prog_4_method_19_code 13 (some .long) ∈ gw_tbl := gw_mem 450 (by decide +kernel) (by decide +kernel)
theorem tm_451 : Cond.methodLink "NumberProbeModel" 98 ⟨"NumberProbeModel", "takeX", "(IJ)V"⟩ ∈ gw_tbl := gw_mem 451 (by decide +kernel) (by decide +kernel)
theorem tm_453 : Cond.instanceMethod ⟨"NumberProbeModel", "takeX", "(IJ)V"⟩ ∈ gw_tbl := gw_mem 453 (by decide +kernel) (by decide +kernel)
theorem tm_454 : Cond.code ⟨"NumberProbeModel", "takeX", "(IJ)V"⟩ prog_4_method_15_code 4 (none : Option Jvm.ClassFile.FieldType) ∈ gw_tbl := gw_mem 454 (by decide +kernel) (by decide +kernel)
theorem tm_455 : Cond.methodLink "NumberProbeModel" 43 ⟨"NumberProbeModel", "isSign", "(IJ)Z"⟩ ∈ gw_tbl := gw_mem 455 (by decide +kernel) (by decide +kernel)
theorem tm_456 : Cond.static ⟨"NumberProbeModel", "isSign", "(IJ)Z"⟩ ∈ gw_tbl := gw_mem 456 (by decide +kernel) (by decide +kernel)
theorem tm_457 : Cond.code ⟨"NumberProbeModel", "isSign", "(IJ)Z"⟩ prog_4_method_8_code 3 (some .boolean) ∈ gw_tbl := gw_mem 457 (by decide +kernel) (by decide +kernel)
theorem tm_458 : Cond.methodLink "NumberProbeModel" 60 ⟨"NumberProbeModel", "mantissa", "(IJ)J"⟩ ∈ gw_tbl := gw_mem 458 (by decide +kernel) (by decide +kernel)
theorem tm_459 : Cond.static ⟨"NumberProbeModel", "mantissa", "(IJ)J"⟩ ∈ gw_tbl := gw_mem 459 (by decide +kernel) (by decide +kernel)
theorem tm_460 : Cond.code ⟨"NumberProbeModel", "mantissa", "(IJ)J"⟩ prog_4_method_13_code 7 (some .long) ∈ gw_tbl := gw_mem 460 (by decide +kernel) (by decide +kernel)
theorem tm_461 : Cond.methodLink "NumberProbeModel" 67 ⟨"NumberProbeModel", "power", "(IJ)I"⟩ ∈ gw_tbl := gw_mem 461 (by decide +kernel) (by decide +kernel)
theorem tm_462 : Cond.static ⟨"NumberProbeModel", "power", "(IJ)I"⟩ ∈ gw_tbl := gw_mem 462 (by decide +kernel) (by decide +kernel)
theorem tm_463 : Cond.code ⟨"NumberProbeModel", "power", "(IJ)I"⟩ prog_4_method_14_code 4 (some .int) ∈ gw_tbl := gw_mem 463 (by decide +kernel) (by decide +kernel)
theorem tm_464 : Cond.methodLink "NumberProbeModel" 102 ⟨"NumberProbeModel", "takeY", "(IJ)V"⟩ ∈ gw_tbl := gw_mem 464 (by decide +kernel) (by decide +kernel)
theorem tm_466 : Cond.instanceMethod ⟨"NumberProbeModel", "takeY", "(IJ)V"⟩ ∈ gw_tbl := gw_mem 466 (by decide +kernel) (by decide +kernel)
theorem tm_467 : Cond.code ⟨"NumberProbeModel", "takeY", "(IJ)V"⟩ prog_4_method_16_code 4 (none : Option Jvm.ClassFile.FieldType) ∈ gw_tbl := gw_mem 467 (by decide +kernel) (by decide +kernel)
theorem tm_468 : Cond.methodLink "NumberProbeModel" 108 ⟨"NumberProbeModel", "shiftedDown", "(JI)J"⟩ ∈ gw_tbl := gw_mem 468 (by decide +kernel) (by decide +kernel)
theorem tm_469 : Cond.static ⟨"NumberProbeModel", "shiftedDown", "(JI)J"⟩ ∈ gw_tbl := gw_mem 469 (by decide +kernel) (by decide +kernel)
theorem tm_470 : Cond.code ⟨"NumberProbeModel", "shiftedDown", "(JI)J"⟩ prog_4_method_18_code 5 (some .long) ∈ gw_tbl := gw_mem 470 (by decide +kernel) (by decide +kernel)
theorem tm_471 : Cond.methodLink "NumberProbeModel" 131 ⟨"NumberProbeModel", "flipped", "(IJ)J"⟩ ∈ gw_tbl := gw_mem 471 (by decide +kernel) (by decide +kernel)
theorem tm_473 : Cond.instanceMethod ⟨"NumberProbeModel", "flipped", "(IJ)J"⟩ ∈ gw_tbl := gw_mem 473 (by decide +kernel) (by decide +kernel)
theorem tm_474 : Cond.code ⟨"NumberProbeModel", "flipped", "(IJ)J"⟩ prog_4_method_20_code 4 (some .long) ∈ gw_tbl := gw_mem 474 (by decide +kernel) (by decide +kernel)
theorem tm_475 : Cond.methodLink "NumberProbeModel" 134 ⟨"NumberProbeModel", "multiply", "(IJJ)J"⟩ ∈ gw_tbl := gw_mem 475 (by decide +kernel) (by decide +kernel)
theorem tm_477 : Cond.instanceMethod ⟨"NumberProbeModel", "multiply", "(IJJ)J"⟩ ∈ gw_tbl := gw_mem 477 (by decide +kernel) (by decide +kernel)
theorem tm_478 : Cond.code ⟨"NumberProbeModel", "multiply", "(IJJ)J"⟩ prog_4_method_22_code 12 (some .long) ∈ gw_tbl := gw_mem 478 (by decide +kernel) (by decide +kernel)
theorem tm_479 : Cond.methodLink "NumberProbeModel" 121 ⟨"NumberProbeModel", "product", "(JJ)J"⟩ ∈ gw_tbl := gw_mem 479 (by decide +kernel) (by decide +kernel)
theorem tm_481 : Cond.instanceMethod ⟨"NumberProbeModel", "product", "(JJ)J"⟩ ∈ gw_tbl := gw_mem 481 (by decide +kernel) (by decide +kernel)
theorem tm_482 : Cond.code ⟨"NumberProbeModel", "product", "(JJ)J"⟩ prog_4_method_21_code 19 (some .long) ∈ gw_tbl := gw_mem 482 (by decide +kernel) (by decide +kernel)
theorem tm_483 : Cond.methodLink "NumberProbeModel" 137 ⟨"NumberProbeModel", "divide", "(IJJ)J"⟩ ∈ gw_tbl := gw_mem 483 (by decide +kernel) (by decide +kernel)
theorem tm_485 : Cond.instanceMethod ⟨"NumberProbeModel", "divide", "(IJJ)J"⟩ ∈ gw_tbl := gw_mem 485 (by decide +kernel) (by decide +kernel)
theorem tm_486 : Cond.code ⟨"NumberProbeModel", "divide", "(IJJ)J"⟩ prog_4_method_23_code 17 (some .long) ∈ gw_tbl := gw_mem 486 (by decide +kernel) (by decide +kernel)
theorem tm_487 : Cond.methodLink "NumberProbeModel" 140 ⟨"NumberProbeModel", "remainder", "(IJJ)J"⟩ ∈ gw_tbl := gw_mem 487 (by decide +kernel) (by decide +kernel)
theorem tm_489 : Cond.instanceMethod ⟨"NumberProbeModel", "remainder", "(IJJ)J"⟩ ∈ gw_tbl := gw_mem 489 (by decide +kernel) (by decide +kernel)
theorem tm_490 : Cond.code ⟨"NumberProbeModel", "remainder", "(IJJ)J"⟩ prog_4_method_24_code 10 (some .long) ∈ gw_tbl := gw_mem 490 (by decide +kernel) (by decide +kernel)
theorem tm_491 : Cond.methodLink "NumberProbeModel" 143 ⟨"NumberProbeModel", "place", "(IJ)J"⟩ ∈ gw_tbl := gw_mem 491 (by decide +kernel) (by decide +kernel)
theorem tm_492 : Cond.static ⟨"NumberProbeModel", "place", "(IJ)J"⟩ ∈ gw_tbl := gw_mem 492 (by decide +kernel) (by decide +kernel)
theorem tm_493 : Cond.code ⟨"NumberProbeModel", "place", "(IJ)J"⟩ prog_4_method_25_code 3 (some .long) ∈ gw_tbl := gw_mem 493 (by decide +kernel) (by decide +kernel)
theorem tm_494 : Cond.methodLink "NumberProbeModel" 212 ⟨"NumberProbeModel", "operateWhole", "(IIJJ)J"⟩ ∈ gw_tbl := gw_mem 494 (by decide +kernel) (by decide +kernel)
theorem tm_495 : Cond.static ⟨"NumberProbeModel", "operateWhole", "(IIJJ)J"⟩ ∈ gw_tbl := gw_mem 495 (by decide +kernel) (by decide +kernel)
theorem tm_496 : Cond.code ⟨"NumberProbeModel", "operateWhole", "(IIJJ)J"⟩ prog_4_method_27_code 8 (some .long) ∈ gw_tbl := gw_mem 496 (by decide +kernel) (by decide +kernel)
theorem tm_497 : Cond.methodLink "NumberProbeLaw" 38 ⟨"NumberProbeModel", "assign", "(IIIII)I"⟩ ∈ gw_tbl := gw_mem 497 (by decide +kernel) (by decide +kernel)
theorem tm_498 : Cond.instanceMethod ⟨"NumberProbeModel", "assign", "(IIIII)I"⟩ ∈ gw_tbl := gw_mem 498 (by decide +kernel) (by decide +kernel)
theorem tm_499 : Cond.selects "NumberProbeModel" ⟨"NumberProbeModel", "assign", "(IIIII)I"⟩ ⟨"NumberProbeModel", "assign", "(IIIII)I"⟩ ∈ gw_tbl := gw_mem 499 (by decide +kernel) (by decide +kernel)
theorem tm_500 : Cond.code ⟨"NumberProbeModel", "assign", "(IIIII)I"⟩ prog_4_method_40_code 13 (some .int) ∈ gw_tbl := gw_mem 500 (by decide +kernel) (by decide +kernel)
theorem tm_501 : Cond.methodLink "NumberProbeModel" 215 ⟨"NumberProbeModel", "rank", "(I)I"⟩ ∈ gw_tbl := gw_mem 501 (by decide +kernel) (by decide +kernel)
theorem tm_502 : Cond.static ⟨"NumberProbeModel", "rank", "(I)I"⟩ ∈ gw_tbl := gw_mem 502 (by decide +kernel) (by decide +kernel)
theorem tm_503 : Cond.code ⟨"NumberProbeModel", "rank", "(I)I"⟩ prog_4_method_39_code 1 (some .int) ∈ gw_tbl := gw_mem 503 (by decide +kernel) (by decide +kernel)
theorem tm_504 : Cond.methodLink "NumberProbeModel" 218 ⟨"NumberProbeModel", "converted", "(IJI)J"⟩ ∈ gw_tbl := gw_mem 504 (by decide +kernel) (by decide +kernel)
theorem tm_506 : Cond.instanceMethod ⟨"NumberProbeModel", "converted", "(IJI)J"⟩ ∈ gw_tbl := gw_mem 506 (by decide +kernel) (by decide +kernel)
theorem tm_507 : Cond.code ⟨"NumberProbeModel", "converted", "(IJI)J"⟩ prog_4_method_32_code 5 (some .long) ∈ gw_tbl := gw_mem 507 (by decide +kernel) (by decide +kernel)
theorem tm_508 : Cond.methodLink "NumberProbeModel" 160 ⟨"NumberProbeModel", "toWhole", "(IJ)J"⟩ ∈ gw_tbl := gw_mem 508 (by decide +kernel) (by decide +kernel)
theorem tm_510 : Cond.instanceMethod ⟨"NumberProbeModel", "toWhole", "(IJ)J"⟩ ∈ gw_tbl := gw_mem 510 (by decide +kernel) (by decide +kernel)
theorem tm_511 : Cond.code ⟨"NumberProbeModel", "toWhole", "(IJ)J"⟩ prog_4_method_30_code 6 (some .long) ∈ gw_tbl := gw_mem 511 (by decide +kernel) (by decide +kernel)
theorem tm_512 : Cond.methodLink "NumberProbeModel" 163 ⟨"NumberProbeModel", "bounded", "(J)J"⟩ ∈ gw_tbl := gw_mem 512 (by decide +kernel) (by decide +kernel)
theorem tm_513 : Cond.static ⟨"NumberProbeModel", "bounded", "(J)J"⟩ ∈ gw_tbl := gw_mem 513 (by decide +kernel) (by decide +kernel)
theorem tm_514 : Cond.code ⟨"NumberProbeModel", "bounded", "(J)J"⟩ prog_4_method_31_code 2 (some .long) ∈ gw_tbl := gw_mem 514 (by decide +kernel) (by decide +kernel)
theorem tm_515 : Cond.methodLink "NumberProbeLaw" 43 ⟨"NumberProbeModel", "convert", "(IIII)I"⟩ ∈ gw_tbl := gw_mem 515 (by decide +kernel) (by decide +kernel)
theorem tm_516 : Cond.instanceMethod ⟨"NumberProbeModel", "convert", "(IIII)I"⟩ ∈ gw_tbl := gw_mem 516 (by decide +kernel) (by decide +kernel)
theorem tm_517 : Cond.selects "NumberProbeModel" ⟨"NumberProbeModel", "convert", "(IIII)I"⟩ ⟨"NumberProbeModel", "convert", "(IIII)I"⟩ ∈ gw_tbl := gw_mem 517 (by decide +kernel) (by decide +kernel)
theorem tm_518 : Cond.code ⟨"NumberProbeModel", "convert", "(IIII)I"⟩ prog_4_method_41_code 5 (some .int) ∈ gw_tbl := gw_mem 518 (by decide +kernel) (by decide +kernel)
theorem tm_519 : Cond.methodLink "NumberProbeLaw" 47 ⟨"NumberProbeModel", "narrow", "(III)I"⟩ ∈ gw_tbl := gw_mem 519 (by decide +kernel) (by decide +kernel)
theorem tm_520 : Cond.instanceMethod ⟨"NumberProbeModel", "narrow", "(III)I"⟩ ∈ gw_tbl := gw_mem 520 (by decide +kernel) (by decide +kernel)
theorem tm_521 : Cond.selects "NumberProbeModel" ⟨"NumberProbeModel", "narrow", "(III)I"⟩ ⟨"NumberProbeModel", "narrow", "(III)I"⟩ ∈ gw_tbl := gw_mem 521 (by decide +kernel) (by decide +kernel)
theorem tm_522 : Cond.code ⟨"NumberProbeModel", "narrow", "(III)I"⟩ prog_4_method_42_code 5 (some .int) ∈ gw_tbl := gw_mem 522 (by decide +kernel) (by decide +kernel)
theorem tm_523 : Cond.methodLink "NumberProbeLaw" 51 ⟨"NumberProbeModel", "compare", "(III)I"⟩ ∈ gw_tbl := gw_mem 523 (by decide +kernel) (by decide +kernel)
theorem tm_524 : Cond.instanceMethod ⟨"NumberProbeModel", "compare", "(III)I"⟩ ∈ gw_tbl := gw_mem 524 (by decide +kernel) (by decide +kernel)
theorem tm_525 : Cond.selects "NumberProbeModel" ⟨"NumberProbeModel", "compare", "(III)I"⟩ ⟨"NumberProbeModel", "compare", "(III)I"⟩ ∈ gw_tbl := gw_mem 525 (by decide +kernel) (by decide +kernel)
theorem tm_526 : Cond.code ⟨"NumberProbeModel", "compare", "(III)I"⟩ prog_4_method_44_code 8 (some .int) ∈ gw_tbl := gw_mem 526 (by decide +kernel) (by decide +kernel)
theorem tm_527 : Cond.methodLink "NumberProbeModel" 222 ⟨"NumberProbeModel", "placeOf", "(II)J"⟩ ∈ gw_tbl := gw_mem 527 (by decide +kernel) (by decide +kernel)
theorem tm_529 : Cond.instanceMethod ⟨"NumberProbeModel", "placeOf", "(II)J"⟩ ∈ gw_tbl := gw_mem 529 (by decide +kernel) (by decide +kernel)
theorem tm_530 : Cond.code ⟨"NumberProbeModel", "placeOf", "(II)J"⟩ prog_4_method_43_code 3 (some .long) ∈ gw_tbl := gw_mem 530 (by decide +kernel) (by decide +kernel)
theorem tm_531 : Cond.methodLink "NumberProbeLaw" 55 ⟨"NumberProbeModel", "order", "(III)I"⟩ ∈ gw_tbl := gw_mem 531 (by decide +kernel) (by decide +kernel)
theorem tm_532 : Cond.instanceMethod ⟨"NumberProbeModel", "order", "(III)I"⟩ ∈ gw_tbl := gw_mem 532 (by decide +kernel) (by decide +kernel)
theorem tm_533 : Cond.selects "NumberProbeModel" ⟨"NumberProbeModel", "order", "(III)I"⟩ ⟨"NumberProbeModel", "order", "(III)I"⟩ ∈ gw_tbl := gw_mem 533 (by decide +kernel) (by decide +kernel)
theorem tm_534 : Cond.code ⟨"NumberProbeModel", "order", "(III)I"⟩ prog_4_method_45_code 8 (some .int) ∈ gw_tbl := gw_mem 534 (by decide +kernel) (by decide +kernel)
theorem tm_535 : Cond.methodLink "NumberProbeLaw" 60 ⟨"NumberProbeModel", "sort", "(II)I"⟩ ∈ gw_tbl := gw_mem 535 (by decide +kernel) (by decide +kernel)
theorem tm_536 : Cond.instanceMethod ⟨"NumberProbeModel", "sort", "(II)I"⟩ ∈ gw_tbl := gw_mem 536 (by decide +kernel) (by decide +kernel)
theorem tm_537 : Cond.selects "NumberProbeModel" ⟨"NumberProbeModel", "sort", "(II)I"⟩ ⟨"NumberProbeModel", "sort", "(II)I"⟩ ∈ gw_tbl := gw_mem 537 (by decide +kernel) (by decide +kernel)
theorem tm_538 : Cond.code ⟨"NumberProbeModel", "sort", "(II)I"⟩ prog_4_method_46_code 5 (some .int) ∈ gw_tbl := gw_mem 538 (by decide +kernel) (by decide +kernel)
theorem tm_539 : Cond.methodLink "NumberProbeLaw" 64 ⟨"NumberProbeModel", "series", "(IIII)I"⟩ ∈ gw_tbl := gw_mem 539 (by decide +kernel) (by decide +kernel)
theorem tm_540 : Cond.instanceMethod ⟨"NumberProbeModel", "series", "(IIII)I"⟩ ∈ gw_tbl := gw_mem 540 (by decide +kernel) (by decide +kernel)
theorem tm_541 : Cond.selects "NumberProbeModel" ⟨"NumberProbeModel", "series", "(IIII)I"⟩ ⟨"NumberProbeModel", "series", "(IIII)I"⟩ ∈ gw_tbl := gw_mem 541 (by decide +kernel) (by decide +kernel)
theorem tm_542 : Cond.code ⟨"NumberProbeModel", "series", "(IIII)I"⟩ prog_4_method_47_code 10 (some .int) ∈ gw_tbl := gw_mem 542 (by decide +kernel) (by decide +kernel)
theorem tm_543 : Cond.methodLink "NumberProbeLaw" 68 ⟨"NumberProbeModel", "polynomial", "(II)I"⟩ ∈ gw_tbl := gw_mem 543 (by decide +kernel) (by decide +kernel)
theorem tm_544 : Cond.instanceMethod ⟨"NumberProbeModel", "polynomial", "(II)I"⟩ ∈ gw_tbl := gw_mem 544 (by decide +kernel) (by decide +kernel)
theorem tm_545 : Cond.selects "NumberProbeModel" ⟨"NumberProbeModel", "polynomial", "(II)I"⟩ ⟨"NumberProbeModel", "polynomial", "(II)I"⟩ ∈ gw_tbl := gw_mem 545 (by decide +kernel) (by decide +kernel)
theorem tm_546 : Cond.code ⟨"NumberProbeModel", "polynomial", "(II)I"⟩ prog_4_method_48_code 8 (some .int) ∈ gw_tbl := gw_mem 546 (by decide +kernel) (by decide +kernel)
theorem tm_547 : Cond.constantLong "NumberProbeLaw" 13 4294967295 ∈ gw_tbl := gw_mem 547 (by decide +kernel) (by decide +kernel)
theorem tm_548 : Cond.fieldLink "NumberProbe$Format" 39 "NumberProbe$Format" "magnitudeMask" "J" ∈ gw_tbl := gw_mem 548 (by decide +kernel) (by decide +kernel)
theorem tm_549 : Cond.fieldLink "NumberProbe$Format" 43 "NumberProbe$Format" "infinity" "J" ∈ gw_tbl := gw_mem 549 (by decide +kernel) (by decide +kernel)
theorem tm_550 : Cond.fieldLink "NumberProbe$Format" 46 "NumberProbe$Format" "nan" "J" ∈ gw_tbl := gw_mem 550 (by decide +kernel) (by decide +kernel)
theorem tm_551 : Cond.fieldLink "NumberProbe$Format" 36 "NumberProbe$Format" "leastExponent" "I" ∈ gw_tbl := gw_mem 551 (by decide +kernel) (by decide +kernel)
theorem tm_552 : Cond.fieldLink "NumberProbe$Format" 29 "NumberProbe$Format" "fractionBits" "I" ∈ gw_tbl := gw_mem 552 (by decide +kernel) (by decide +kernel)
theorem tm_553 : Cond.fieldLink "NumberProbe$Format" 33 "NumberProbe$Format" "exponentOfSpecials" "I" ∈ gw_tbl := gw_mem 553 (by decide +kernel) (by decide +kernel)
end
section
abbrev mc_F_numberOf : ByteArray := prog_2_method_4_code
def my_F_numberOf : MethodName := ⟨"NumberProbe$Format", "numberOf", "(J)J"⟩
abbrev mw_F_numberOf : List Cond := Cond.code my_F_numberOf mc_F_numberOf 4 (some .long) :: gw_tbl
theorem md_F_numberOf_0 : decode mc_F_numberOf 0 = .ok (.lload_n 1, 1) := by decide +kernel
theorem md_F_numberOf_1 : decode mc_F_numberOf 1 = .ok (.aload_n 0, 1) := by decide +kernel
theorem md_F_numberOf_2 : decode mc_F_numberOf 2 = .ok (.getfield 39, 3) := by decide +kernel
theorem md_F_numberOf_5 : decode mc_F_numberOf 5 = .ok (.lconst 1, 1) := by decide +kernel
theorem md_F_numberOf_6 : decode mc_F_numberOf 6 = .ok (.ladd, 1) := by decide +kernel
theorem md_F_numberOf_7 : decode mc_F_numberOf 7 = .ok (.land, 1) := by decide +kernel
theorem md_F_numberOf_8 : decode mc_F_numberOf 8 = .ok (.lconst 0, 1) := by decide +kernel
theorem md_F_numberOf_9 : decode mc_F_numberOf 9 = .ok (.lcmp, 1) := by decide +kernel
theorem md_F_numberOf_10 : decode mc_F_numberOf 10 = .ok (.ifCond .eq 7, 3) := by decide +kernel
theorem md_F_numberOf_13 : decode mc_F_numberOf 13 = .ok (.iconst 1, 1) := by decide +kernel
theorem md_F_numberOf_14 : decode mc_F_numberOf 14 = .ok (.goto 4, 3) := by decide +kernel
theorem md_F_numberOf_17 : decode mc_F_numberOf 17 = .ok (.iconst 0, 1) := by decide +kernel
theorem md_F_numberOf_18 : decode mc_F_numberOf 18 = .ok (.istore_n 3, 1) := by decide +kernel
theorem md_F_numberOf_19 : decode mc_F_numberOf 19 = .ok (.aload_n 0, 1) := by decide +kernel
theorem md_F_numberOf_20 : decode mc_F_numberOf 20 = .ok (.lload_n 1, 1) := by decide +kernel
theorem md_F_numberOf_21 : decode mc_F_numberOf 21 = .ok (.invokevirtual 49, 3) := by decide +kernel
theorem md_F_numberOf_24 : decode mc_F_numberOf 24 = .ok (.ifCond .eq 10, 3) := by decide +kernel
theorem md_F_numberOf_27 : decode mc_F_numberOf 27 = .ok (.aload_n 0, 1) := by decide +kernel
theorem md_F_numberOf_28 : decode mc_F_numberOf 28 = .ok (.getfield 46, 3) := by decide +kernel
theorem md_F_numberOf_31 : decode mc_F_numberOf 31 = .ok (.goto 13, 3) := by decide +kernel
theorem md_F_numberOf_34 : decode mc_F_numberOf 34 = .ok (.aload_n 0, 1) := by decide +kernel
theorem md_F_numberOf_35 : decode mc_F_numberOf 35 = .ok (.iload_n 3, 1) := by decide +kernel
theorem md_F_numberOf_36 : decode mc_F_numberOf 36 = .ok (.aload_n 0, 1) := by decide +kernel
theorem md_F_numberOf_37 : decode mc_F_numberOf 37 = .ok (.lload_n 1, 1) := by decide +kernel
theorem md_F_numberOf_38 : decode mc_F_numberOf 38 = .ok (.invokevirtual 53, 3) := by decide +kernel
theorem md_F_numberOf_41 : decode mc_F_numberOf 41 = .ok (.invokevirtual 57, 3) := by decide +kernel
theorem md_F_numberOf_44 : decode mc_F_numberOf 44 = .ok (.lreturn, 1) := by decide +kernel
abbrev mc_F_isNaN : ByteArray := prog_2_method_5_code
def my_F_isNaN : MethodName := ⟨"NumberProbe$Format", "isNaN", "(J)Z"⟩
abbrev mw_F_isNaN : List Cond := Cond.code my_F_isNaN mc_F_isNaN 3 (some .boolean) :: gw_tbl
theorem md_F_isNaN_0 : decode mc_F_isNaN 0 = .ok (.aload_n 0, 1) := by decide +kernel
theorem md_F_isNaN_1 : decode mc_F_isNaN 1 = .ok (.lload_n 1, 1) := by decide +kernel
theorem md_F_isNaN_2 : decode mc_F_isNaN 2 = .ok (.invokevirtual 53, 3) := by decide +kernel
theorem md_F_isNaN_5 : decode mc_F_isNaN 5 = .ok (.aload_n 0, 1) := by decide +kernel
theorem md_F_isNaN_6 : decode mc_F_isNaN 6 = .ok (.getfield 43, 3) := by decide +kernel
theorem md_F_isNaN_9 : decode mc_F_isNaN 9 = .ok (.lcmp, 1) := by decide +kernel
theorem md_F_isNaN_10 : decode mc_F_isNaN 10 = .ok (.ifCond .le 7, 3) := by decide +kernel
theorem md_F_isNaN_13 : decode mc_F_isNaN 13 = .ok (.iconst 1, 1) := by decide +kernel
theorem md_F_isNaN_14 : decode mc_F_isNaN 14 = .ok (.goto 4, 3) := by decide +kernel
theorem md_F_isNaN_17 : decode mc_F_isNaN 17 = .ok (.iconst 0, 1) := by decide +kernel
theorem md_F_isNaN_18 : decode mc_F_isNaN 18 = .ok (.ireturn, 1) := by decide +kernel
abbrev mc_F_isInfinite : ByteArray := prog_2_method_6_code
def my_F_isInfinite : MethodName := ⟨"NumberProbe$Format", "isInfinite", "(J)Z"⟩
abbrev mw_F_isInfinite : List Cond := Cond.code my_F_isInfinite mc_F_isInfinite 3 (some .boolean) :: gw_tbl
theorem md_F_isInfinite_0 : decode mc_F_isInfinite 0 = .ok (.aload_n 0, 1) := by decide +kernel
theorem md_F_isInfinite_1 : decode mc_F_isInfinite 1 = .ok (.lload_n 1, 1) := by decide +kernel
theorem md_F_isInfinite_2 : decode mc_F_isInfinite 2 = .ok (.invokevirtual 53, 3) := by decide +kernel
theorem md_F_isInfinite_5 : decode mc_F_isInfinite 5 = .ok (.aload_n 0, 1) := by decide +kernel
theorem md_F_isInfinite_6 : decode mc_F_isInfinite 6 = .ok (.getfield 43, 3) := by decide +kernel
theorem md_F_isInfinite_9 : decode mc_F_isInfinite 9 = .ok (.lcmp, 1) := by decide +kernel
theorem md_F_isInfinite_10 : decode mc_F_isInfinite 10 = .ok (.ifCond .ne 7, 3) := by decide +kernel
theorem md_F_isInfinite_13 : decode mc_F_isInfinite 13 = .ok (.iconst 1, 1) := by decide +kernel
theorem md_F_isInfinite_14 : decode mc_F_isInfinite 14 = .ok (.goto 4, 3) := by decide +kernel
theorem md_F_isInfinite_17 : decode mc_F_isInfinite 17 = .ok (.iconst 0, 1) := by decide +kernel
theorem md_F_isInfinite_18 : decode mc_F_isInfinite 18 = .ok (.ireturn, 1) := by decide +kernel
abbrev mc_F_isZero : ByteArray := prog_2_method_7_code
def my_F_isZero : MethodName := ⟨"NumberProbe$Format", "isZero", "(J)Z"⟩
abbrev mw_F_isZero : List Cond := Cond.code my_F_isZero mc_F_isZero 3 (some .boolean) :: gw_tbl
theorem md_F_isZero_0 : decode mc_F_isZero 0 = .ok (.aload_n 0, 1) := by decide +kernel
theorem md_F_isZero_1 : decode mc_F_isZero 1 = .ok (.lload_n 1, 1) := by decide +kernel
theorem md_F_isZero_2 : decode mc_F_isZero 2 = .ok (.invokevirtual 53, 3) := by decide +kernel
theorem md_F_isZero_5 : decode mc_F_isZero 5 = .ok (.lconst 0, 1) := by decide +kernel
theorem md_F_isZero_6 : decode mc_F_isZero 6 = .ok (.lcmp, 1) := by decide +kernel
theorem md_F_isZero_7 : decode mc_F_isZero 7 = .ok (.ifCond .ne 7, 3) := by decide +kernel
theorem md_F_isZero_10 : decode mc_F_isZero 10 = .ok (.iconst 1, 1) := by decide +kernel
theorem md_F_isZero_11 : decode mc_F_isZero 11 = .ok (.goto 4, 3) := by decide +kernel
theorem md_F_isZero_14 : decode mc_F_isZero 14 = .ok (.iconst 0, 1) := by decide +kernel
theorem md_F_isZero_15 : decode mc_F_isZero 15 = .ok (.ireturn, 1) := by decide +kernel
abbrev mc_F_magnitude : ByteArray := prog_2_method_8_code
def my_F_magnitude : MethodName := ⟨"NumberProbe$Format", "magnitude", "(J)J"⟩
abbrev mw_F_magnitude : List Cond := Cond.code my_F_magnitude mc_F_magnitude 3 (some .long) :: gw_tbl
theorem md_F_magnitude_0 : decode mc_F_magnitude 0 = .ok (.lload_n 1, 1) := by decide +kernel
theorem md_F_magnitude_1 : decode mc_F_magnitude 1 = .ok (.aload_n 0, 1) := by decide +kernel
theorem md_F_magnitude_2 : decode mc_F_magnitude 2 = .ok (.getfield 39, 3) := by decide +kernel
theorem md_F_magnitude_5 : decode mc_F_magnitude 5 = .ok (.land, 1) := by decide +kernel
theorem md_F_magnitude_6 : decode mc_F_magnitude 6 = .ok (.lreturn, 1) := by decide +kernel
abbrev mc_F_negated : ByteArray := prog_2_method_9_code
def my_F_negated : MethodName := ⟨"NumberProbe$Format", "negated", "(J)J"⟩
abbrev mw_F_negated : List Cond := Cond.code my_F_negated mc_F_negated 3 (some .long) :: gw_tbl
theorem md_F_negated_0 : decode mc_F_negated 0 = .ok (.aload_n 0, 1) := by decide +kernel
theorem md_F_negated_1 : decode mc_F_negated 1 = .ok (.lload_n 1, 1) := by decide +kernel
theorem md_F_negated_2 : decode mc_F_negated 2 = .ok (.invokevirtual 49, 3) := by decide +kernel
theorem md_F_negated_5 : decode mc_F_negated 5 = .ok (.ifCond .eq 7, 3) := by decide +kernel
theorem md_F_negated_8 : decode mc_F_negated 8 = .ok (.lload_n 1, 1) := by decide +kernel
theorem md_F_negated_9 : decode mc_F_negated 9 = .ok (.goto 13, 3) := by decide +kernel
theorem md_F_negated_12 : decode mc_F_negated 12 = .ok (.lload_n 1, 1) := by decide +kernel
theorem md_F_negated_13 : decode mc_F_negated 13 = .ok (.aload_n 0, 1) := by decide +kernel
theorem md_F_negated_14 : decode mc_F_negated 14 = .ok (.getfield 39, 3) := by decide +kernel
theorem md_F_negated_17 : decode mc_F_negated 17 = .ok (.ldc2_w 61, 3) := by decide +kernel
theorem md_F_negated_20 : decode mc_F_negated 20 = .ok (.lxor, 1) := by decide +kernel
theorem md_F_negated_21 : decode mc_F_negated 21 = .ok (.lxor, 1) := by decide +kernel
theorem md_F_negated_22 : decode mc_F_negated 22 = .ok (.lreturn, 1) := by decide +kernel
abbrev mc_F_signed : ByteArray := prog_2_method_10_code
def my_F_signed : MethodName := ⟨"NumberProbe$Format", "signed", "(ZJ)J"⟩
abbrev mw_F_signed : List Cond := Cond.code my_F_signed mc_F_signed 4 (some .long) :: gw_tbl
theorem md_F_signed_0 : decode mc_F_signed 0 = .ok (.iload_n 1, 1) := by decide +kernel
theorem md_F_signed_1 : decode mc_F_signed 1 = .ok (.ifCond .eq 16, 3) := by decide +kernel
theorem md_F_signed_4 : decode mc_F_signed 4 = .ok (.lload_n 2, 1) := by decide +kernel
theorem md_F_signed_5 : decode mc_F_signed 5 = .ok (.aload_n 0, 1) := by decide +kernel
theorem md_F_signed_6 : decode mc_F_signed 6 = .ok (.getfield 39, 3) := by decide +kernel
theorem md_F_signed_9 : decode mc_F_signed 9 = .ok (.ldc2_w 61, 3) := by decide +kernel
theorem md_F_signed_12 : decode mc_F_signed 12 = .ok (.lxor, 1) := by decide +kernel
theorem md_F_signed_13 : decode mc_F_signed 13 = .ok (.lor, 1) := by decide +kernel
theorem md_F_signed_14 : decode mc_F_signed 14 = .ok (.goto 4, 3) := by decide +kernel
theorem md_F_signed_17 : decode mc_F_signed 17 = .ok (.lload_n 2, 1) := by decide +kernel
theorem md_F_signed_18 : decode mc_F_signed 18 = .ok (.lreturn, 1) := by decide +kernel
abbrev mc_F_significandOf : ByteArray := prog_2_method_11_code
def my_F_significandOf : MethodName := ⟨"NumberProbe$Format", "significandOf", "(J)J"⟩
abbrev mw_F_significandOf : List Cond := Cond.code my_F_significandOf mc_F_significandOf 5 (some .long) :: gw_tbl
theorem md_F_significandOf_0 : decode mc_F_significandOf 0 = .ok (.lload_n 1, 1) := by decide +kernel
theorem md_F_significandOf_1 : decode mc_F_significandOf 1 = .ok (.lconst 1, 1) := by decide +kernel
theorem md_F_significandOf_2 : decode mc_F_significandOf 2 = .ok (.aload_n 0, 1) := by decide +kernel
theorem md_F_significandOf_3 : decode mc_F_significandOf 3 = .ok (.getfield 29, 3) := by decide +kernel
theorem md_F_significandOf_6 : decode mc_F_significandOf 6 = .ok (.lshl, 1) := by decide +kernel
theorem md_F_significandOf_7 : decode mc_F_significandOf 7 = .ok (.lconst 1, 1) := by decide +kernel
theorem md_F_significandOf_8 : decode mc_F_significandOf 8 = .ok (.lsub, 1) := by decide +kernel
theorem md_F_significandOf_9 : decode mc_F_significandOf 9 = .ok (.land, 1) := by decide +kernel
theorem md_F_significandOf_10 : decode mc_F_significandOf 10 = .ok (.lstore_n 3, 1) := by decide +kernel
theorem md_F_significandOf_11 : decode mc_F_significandOf 11 = .ok (.aload_n 0, 1) := by decide +kernel
theorem md_F_significandOf_12 : decode mc_F_significandOf 12 = .ok (.lload_n 1, 1) := by decide +kernel
theorem md_F_significandOf_13 : decode mc_F_significandOf 13 = .ok (.invokevirtual 63, 3) := by decide +kernel
theorem md_F_significandOf_16 : decode mc_F_significandOf 16 = .ok (.ifCond .ne 7, 3) := by decide +kernel
theorem md_F_significandOf_19 : decode mc_F_significandOf 19 = .ok (.lload_n 3, 1) := by decide +kernel
theorem md_F_significandOf_20 : decode mc_F_significandOf 20 = .ok (.goto 11, 3) := by decide +kernel
theorem md_F_significandOf_23 : decode mc_F_significandOf 23 = .ok (.lload_n 3, 1) := by decide +kernel
theorem md_F_significandOf_24 : decode mc_F_significandOf 24 = .ok (.lconst 1, 1) := by decide +kernel
theorem md_F_significandOf_25 : decode mc_F_significandOf 25 = .ok (.aload_n 0, 1) := by decide +kernel
theorem md_F_significandOf_26 : decode mc_F_significandOf 26 = .ok (.getfield 29, 3) := by decide +kernel
theorem md_F_significandOf_29 : decode mc_F_significandOf 29 = .ok (.lshl, 1) := by decide +kernel
theorem md_F_significandOf_30 : decode mc_F_significandOf 30 = .ok (.lor, 1) := by decide +kernel
theorem md_F_significandOf_31 : decode mc_F_significandOf 31 = .ok (.lreturn, 1) := by decide +kernel
abbrev mc_F_exponentOf : ByteArray := prog_2_method_12_code
def my_F_exponentOf : MethodName := ⟨"NumberProbe$Format", "exponentOf", "(J)I"⟩
abbrev mw_F_exponentOf : List Cond := Cond.code my_F_exponentOf mc_F_exponentOf 3 (some .int) :: gw_tbl
theorem md_F_exponentOf_0 : decode mc_F_exponentOf 0 = .ok (.aload_n 0, 1) := by decide +kernel
theorem md_F_exponentOf_1 : decode mc_F_exponentOf 1 = .ok (.getfield 36, 3) := by decide +kernel
theorem md_F_exponentOf_4 : decode mc_F_exponentOf 4 = .ok (.aload_n 0, 1) := by decide +kernel
theorem md_F_exponentOf_5 : decode mc_F_exponentOf 5 = .ok (.lload_n 1, 1) := by decide +kernel
theorem md_F_exponentOf_6 : decode mc_F_exponentOf 6 = .ok (.invokevirtual 63, 3) := by decide +kernel
theorem md_F_exponentOf_9 : decode mc_F_exponentOf 9 = .ok (.iconst 1, 1) := by decide +kernel
theorem md_F_exponentOf_10 : decode mc_F_exponentOf 10 = .ok (.invokestatic 67, 3) := by decide +kernel
theorem md_F_exponentOf_13 : decode mc_F_exponentOf 13 = .ok (.iadd, 1) := by decide +kernel
theorem md_F_exponentOf_14 : decode mc_F_exponentOf 14 = .ok (.iconst 1, 1) := by decide +kernel
theorem md_F_exponentOf_15 : decode mc_F_exponentOf 15 = .ok (.isub, 1) := by decide +kernel
theorem md_F_exponentOf_16 : decode mc_F_exponentOf 16 = .ok (.ireturn, 1) := by decide +kernel
abbrev mc_F_exponentField : ByteArray := prog_2_method_13_code
def my_F_exponentField : MethodName := ⟨"NumberProbe$Format", "exponentField", "(J)I"⟩
abbrev mw_F_exponentField : List Cond := Cond.code my_F_exponentField mc_F_exponentField 3 (some .int) :: gw_tbl
theorem md_F_exponentField_0 : decode mc_F_exponentField 0 = .ok (.lload_n 1, 1) := by decide +kernel
theorem md_F_exponentField_1 : decode mc_F_exponentField 1 = .ok (.aload_n 0, 1) := by decide +kernel
theorem md_F_exponentField_2 : decode mc_F_exponentField 2 = .ok (.getfield 29, 3) := by decide +kernel
theorem md_F_exponentField_5 : decode mc_F_exponentField 5 = .ok (.lushr, 1) := by decide +kernel
theorem md_F_exponentField_6 : decode mc_F_exponentField 6 = .ok (.l2i, 1) := by decide +kernel
theorem md_F_exponentField_7 : decode mc_F_exponentField 7 = .ok (.aload_n 0, 1) := by decide +kernel
theorem md_F_exponentField_8 : decode mc_F_exponentField 8 = .ok (.getfield 33, 3) := by decide +kernel
theorem md_F_exponentField_11 : decode mc_F_exponentField 11 = .ok (.iand, 1) := by decide +kernel
theorem md_F_exponentField_12 : decode mc_F_exponentField 12 = .ok (.ireturn, 1) := by decide +kernel
abbrev mc_F_widening : ByteArray := prog_2_method_14_code
def my_F_widening : MethodName := ⟨"NumberProbe$Format", "widening", "(J)I"⟩
abbrev mw_F_widening : List Cond := Cond.code my_F_widening mc_F_widening 2 (some .int) :: gw_tbl
theorem md_F_widening_0 : decode mc_F_widening 0 = .ok (.lload_n 0, 1) := by decide +kernel
theorem md_F_widening_1 : decode mc_F_widening 1 = .ok (.invokestatic 73, 3) := by decide +kernel
theorem md_F_widening_4 : decode mc_F_widening 4 = .ok (.bipush 11, 2) := by decide +kernel
theorem md_F_widening_6 : decode mc_F_widening 6 = .ok (.isub, 1) := by decide +kernel
theorem md_F_widening_7 : decode mc_F_widening 7 = .ok (.ireturn, 1) := by decide +kernel
abbrev mc_F_digitOf : ByteArray := prog_2_method_15_code
def my_F_digitOf : MethodName := ⟨"NumberProbe$Format", "digitOf", "(JI)J"⟩
abbrev mw_F_digitOf : List Cond := Cond.code my_F_digitOf mc_F_digitOf 3 (some .long) :: gw_tbl
theorem md_F_digitOf_0 : decode mc_F_digitOf 0 = .ok (.lload_n 0, 1) := by decide +kernel
theorem md_F_digitOf_1 : decode mc_F_digitOf 1 = .ok (.iload_n 2, 1) := by decide +kernel
theorem md_F_digitOf_2 : decode mc_F_digitOf 2 = .ok (.bipush 10, 2) := by decide +kernel
theorem md_F_digitOf_4 : decode mc_F_digitOf 4 = .ok (.imul, 1) := by decide +kernel
theorem md_F_digitOf_5 : decode mc_F_digitOf 5 = .ok (.lushr, 1) := by decide +kernel
theorem md_F_digitOf_6 : decode mc_F_digitOf 6 = .ok (.ldc2_w 78, 3) := by decide +kernel
theorem md_F_digitOf_9 : decode mc_F_digitOf 9 = .ok (.land, 1) := by decide +kernel
theorem md_F_digitOf_10 : decode mc_F_digitOf 10 = .ok (.lreturn, 1) := by decide +kernel
abbrev mc_F_rankInSorting : ByteArray := prog_2_method_16_code
def my_F_rankInSorting : MethodName := ⟨"NumberProbe$Format", "rankInSorting", "(J)J"⟩
abbrev mw_F_rankInSorting : List Cond := Cond.code my_F_rankInSorting mc_F_rankInSorting 3 (some .long) :: gw_tbl
theorem md_F_rankInSorting_0 : decode mc_F_rankInSorting 0 = .ok (.lload_n 1, 1) := by decide +kernel
theorem md_F_rankInSorting_1 : decode mc_F_rankInSorting 1 = .ok (.lconst 0, 1) := by decide +kernel
theorem md_F_rankInSorting_2 : decode mc_F_rankInSorting 2 = .ok (.lcmp, 1) := by decide +kernel
theorem md_F_rankInSorting_3 : decode mc_F_rankInSorting 3 = .ok (.ifCond .ge 12, 3) := by decide +kernel
theorem md_F_rankInSorting_6 : decode mc_F_rankInSorting 6 = .ok (.lload_n 1, 1) := by decide +kernel
theorem md_F_rankInSorting_7 : decode mc_F_rankInSorting 7 = .ok (.aload_n 0, 1) := by decide +kernel
theorem md_F_rankInSorting_8 : decode mc_F_rankInSorting 8 = .ok (.getfield 39, 3) := by decide +kernel
theorem md_F_rankInSorting_11 : decode mc_F_rankInSorting 11 = .ok (.lxor, 1) := by decide +kernel
theorem md_F_rankInSorting_12 : decode mc_F_rankInSorting 12 = .ok (.goto 4, 3) := by decide +kernel
theorem md_F_rankInSorting_15 : decode mc_F_rankInSorting 15 = .ok (.lload_n 1, 1) := by decide +kernel
theorem md_F_rankInSorting_16 : decode mc_F_rankInSorting 16 = .ok (.lreturn, 1) := by decide +kernel
abbrev mc_F_rankByValue : ByteArray := prog_2_method_17_code
def my_F_rankByValue : MethodName := ⟨"NumberProbe$Format", "rankByValue", "(J)J"⟩
abbrev mw_F_rankByValue : List Cond := Cond.code my_F_rankByValue mc_F_rankByValue 3 (some .long) :: gw_tbl
theorem md_F_rankByValue_0 : decode mc_F_rankByValue 0 = .ok (.aload_n 0, 1) := by decide +kernel
theorem md_F_rankByValue_1 : decode mc_F_rankByValue 1 = .ok (.lload_n 1, 1) := by decide +kernel
theorem md_F_rankByValue_2 : decode mc_F_rankByValue 2 = .ok (.invokevirtual 80, 3) := by decide +kernel
theorem md_F_rankByValue_5 : decode mc_F_rankByValue 5 = .ok (.ifCond .eq 7, 3) := by decide +kernel
theorem md_F_rankByValue_8 : decode mc_F_rankByValue 8 = .ok (.lconst 0, 1) := by decide +kernel
theorem md_F_rankByValue_9 : decode mc_F_rankByValue 9 = .ok (.goto 8, 3) := by decide +kernel
theorem md_F_rankByValue_12 : decode mc_F_rankByValue 12 = .ok (.aload_n 0, 1) := by decide +kernel
theorem md_F_rankByValue_13 : decode mc_F_rankByValue 13 = .ok (.lload_n 1, 1) := by decide +kernel
theorem md_F_rankByValue_14 : decode mc_F_rankByValue 14 = .ok (.invokevirtual 83, 3) := by decide +kernel
theorem md_F_rankByValue_17 : decode mc_F_rankByValue 17 = .ok (.lreturn, 1) := by decide +kernel
abbrev mc_F_lesser : ByteArray := prog_2_method_18_code
def my_F_lesser : MethodName := ⟨"NumberProbe$Format", "lesser", "(JJ)J"⟩
abbrev mw_F_lesser : List Cond := Cond.code my_F_lesser mc_F_lesser 5 (some .long) :: gw_tbl
theorem md_F_lesser_0 : decode mc_F_lesser 0 = .ok (.aload_n 0, 1) := by decide +kernel
theorem md_F_lesser_1 : decode mc_F_lesser 1 = .ok (.lload_n 1, 1) := by decide +kernel
theorem md_F_lesser_2 : decode mc_F_lesser 2 = .ok (.invokevirtual 49, 3) := by decide +kernel
theorem md_F_lesser_5 : decode mc_F_lesser 5 = .ok (.ifCond .ne 11, 3) := by decide +kernel
theorem md_F_lesser_8 : decode mc_F_lesser 8 = .ok (.aload_n 0, 1) := by decide +kernel
theorem md_F_lesser_9 : decode mc_F_lesser 9 = .ok (.lload_n 3, 1) := by decide +kernel
theorem md_F_lesser_10 : decode mc_F_lesser 10 = .ok (.invokevirtual 49, 3) := by decide +kernel
theorem md_F_lesser_13 : decode mc_F_lesser 13 = .ok (.ifCond .eq 8, 3) := by decide +kernel
theorem md_F_lesser_16 : decode mc_F_lesser 16 = .ok (.aload_n 0, 1) := by decide +kernel
theorem md_F_lesser_17 : decode mc_F_lesser 17 = .ok (.getfield 46, 3) := by decide +kernel
theorem md_F_lesser_20 : decode mc_F_lesser 20 = .ok (.lreturn, 1) := by decide +kernel
theorem md_F_lesser_21 : decode mc_F_lesser 21 = .ok (.aload_n 0, 1) := by decide +kernel
theorem md_F_lesser_22 : decode mc_F_lesser 22 = .ok (.lload_n 1, 1) := by decide +kernel
theorem md_F_lesser_23 : decode mc_F_lesser 23 = .ok (.invokevirtual 83, 3) := by decide +kernel
theorem md_F_lesser_26 : decode mc_F_lesser 26 = .ok (.aload_n 0, 1) := by decide +kernel
theorem md_F_lesser_27 : decode mc_F_lesser 27 = .ok (.lload_n 3, 1) := by decide +kernel
theorem md_F_lesser_28 : decode mc_F_lesser 28 = .ok (.invokevirtual 83, 3) := by decide +kernel
theorem md_F_lesser_31 : decode mc_F_lesser 31 = .ok (.lcmp, 1) := by decide +kernel
theorem md_F_lesser_32 : decode mc_F_lesser 32 = .ok (.ifCond .gt 7, 3) := by decide +kernel
theorem md_F_lesser_35 : decode mc_F_lesser 35 = .ok (.lload_n 1, 1) := by decide +kernel
theorem md_F_lesser_36 : decode mc_F_lesser 36 = .ok (.goto 4, 3) := by decide +kernel
theorem md_F_lesser_39 : decode mc_F_lesser 39 = .ok (.lload_n 3, 1) := by decide +kernel
theorem md_F_lesser_40 : decode mc_F_lesser 40 = .ok (.lreturn, 1) := by decide +kernel
abbrev mc_F_greater : ByteArray := prog_2_method_19_code
def my_F_greater : MethodName := ⟨"NumberProbe$Format", "greater", "(JJ)J"⟩
abbrev mw_F_greater : List Cond := Cond.code my_F_greater mc_F_greater 5 (some .long) :: gw_tbl
theorem md_F_greater_0 : decode mc_F_greater 0 = .ok (.aload_n 0, 1) := by decide +kernel
theorem md_F_greater_1 : decode mc_F_greater 1 = .ok (.lload_n 1, 1) := by decide +kernel
theorem md_F_greater_2 : decode mc_F_greater 2 = .ok (.invokevirtual 49, 3) := by decide +kernel
theorem md_F_greater_5 : decode mc_F_greater 5 = .ok (.ifCond .ne 11, 3) := by decide +kernel
theorem md_F_greater_8 : decode mc_F_greater 8 = .ok (.aload_n 0, 1) := by decide +kernel
theorem md_F_greater_9 : decode mc_F_greater 9 = .ok (.lload_n 3, 1) := by decide +kernel
theorem md_F_greater_10 : decode mc_F_greater 10 = .ok (.invokevirtual 49, 3) := by decide +kernel
theorem md_F_greater_13 : decode mc_F_greater 13 = .ok (.ifCond .eq 8, 3) := by decide +kernel
theorem md_F_greater_16 : decode mc_F_greater 16 = .ok (.aload_n 0, 1) := by decide +kernel
theorem md_F_greater_17 : decode mc_F_greater 17 = .ok (.getfield 46, 3) := by decide +kernel
theorem md_F_greater_20 : decode mc_F_greater 20 = .ok (.lreturn, 1) := by decide +kernel
theorem md_F_greater_21 : decode mc_F_greater 21 = .ok (.aload_n 0, 1) := by decide +kernel
theorem md_F_greater_22 : decode mc_F_greater 22 = .ok (.lload_n 1, 1) := by decide +kernel
theorem md_F_greater_23 : decode mc_F_greater 23 = .ok (.invokevirtual 83, 3) := by decide +kernel
theorem md_F_greater_26 : decode mc_F_greater 26 = .ok (.aload_n 0, 1) := by decide +kernel
theorem md_F_greater_27 : decode mc_F_greater 27 = .ok (.lload_n 3, 1) := by decide +kernel
theorem md_F_greater_28 : decode mc_F_greater 28 = .ok (.invokevirtual 83, 3) := by decide +kernel
theorem md_F_greater_31 : decode mc_F_greater 31 = .ok (.lcmp, 1) := by decide +kernel
theorem md_F_greater_32 : decode mc_F_greater 32 = .ok (.ifCond .lt 7, 3) := by decide +kernel
theorem md_F_greater_35 : decode mc_F_greater 35 = .ok (.lload_n 1, 1) := by decide +kernel
theorem md_F_greater_36 : decode mc_F_greater 36 = .ok (.goto 4, 3) := by decide +kernel
theorem md_F_greater_39 : decode mc_F_greater 39 = .ok (.lload_n 3, 1) := by decide +kernel
theorem md_F_greater_40 : decode mc_F_greater 40 = .ok (.lreturn, 1) := by decide +kernel
abbrev mc_F_sum : ByteArray := prog_2_method_20_code
def my_F_sum : MethodName := ⟨"NumberProbe$Format", "sum", "(JJ)J"⟩
abbrev mw_F_sum : List Cond := Cond.code my_F_sum mc_F_sum 5 (some .long) :: gw_tbl
theorem md_F_sum_0 : decode mc_F_sum 0 = .ok (.aload_n 0, 1) := by decide +kernel
theorem md_F_sum_1 : decode mc_F_sum 1 = .ok (.lload_n 1, 1) := by decide +kernel
theorem md_F_sum_2 : decode mc_F_sum 2 = .ok (.invokevirtual 49, 3) := by decide +kernel
theorem md_F_sum_5 : decode mc_F_sum 5 = .ok (.ifCond .ne 11, 3) := by decide +kernel
theorem md_F_sum_8 : decode mc_F_sum 8 = .ok (.aload_n 0, 1) := by decide +kernel
theorem md_F_sum_9 : decode mc_F_sum 9 = .ok (.lload_n 3, 1) := by decide +kernel
theorem md_F_sum_10 : decode mc_F_sum 10 = .ok (.invokevirtual 49, 3) := by decide +kernel
theorem md_F_sum_13 : decode mc_F_sum 13 = .ok (.ifCond .eq 8, 3) := by decide +kernel
theorem md_F_sum_16 : decode mc_F_sum 16 = .ok (.aload_n 0, 1) := by decide +kernel
theorem md_F_sum_17 : decode mc_F_sum 17 = .ok (.getfield 46, 3) := by decide +kernel
theorem md_F_sum_20 : decode mc_F_sum 20 = .ok (.lreturn, 1) := by decide +kernel
theorem md_F_sum_21 : decode mc_F_sum 21 = .ok (.aload_n 0, 1) := by decide +kernel
theorem md_F_sum_22 : decode mc_F_sum 22 = .ok (.lload_n 1, 1) := by decide +kernel
theorem md_F_sum_23 : decode mc_F_sum 23 = .ok (.invokevirtual 86, 3) := by decide +kernel
theorem md_F_sum_26 : decode mc_F_sum 26 = .ok (.ifCond .eq 26, 3) := by decide +kernel
theorem md_F_sum_29 : decode mc_F_sum 29 = .ok (.aload_n 0, 1) := by decide +kernel
theorem md_F_sum_30 : decode mc_F_sum 30 = .ok (.lload_n 3, 1) := by decide +kernel
theorem md_F_sum_31 : decode mc_F_sum 31 = .ok (.invokevirtual 86, 3) := by decide +kernel
theorem md_F_sum_34 : decode mc_F_sum 34 = .ok (.ifCond .eq 16, 3) := by decide +kernel
theorem md_F_sum_37 : decode mc_F_sum 37 = .ok (.lload_n 1, 1) := by decide +kernel
theorem md_F_sum_38 : decode mc_F_sum 38 = .ok (.lload_n 3, 1) := by decide +kernel
theorem md_F_sum_39 : decode mc_F_sum 39 = .ok (.lcmp, 1) := by decide +kernel
theorem md_F_sum_40 : decode mc_F_sum 40 = .ok (.ifCond .eq 10, 3) := by decide +kernel
theorem md_F_sum_43 : decode mc_F_sum 43 = .ok (.aload_n 0, 1) := by decide +kernel
theorem md_F_sum_44 : decode mc_F_sum 44 = .ok (.getfield 46, 3) := by decide +kernel
theorem md_F_sum_47 : decode mc_F_sum 47 = .ok (.goto 4, 3) := by decide +kernel
theorem md_F_sum_50 : decode mc_F_sum 50 = .ok (.lload_n 1, 1) := by decide +kernel
theorem md_F_sum_51 : decode mc_F_sum 51 = .ok (.lreturn, 1) := by decide +kernel
theorem md_F_sum_52 : decode mc_F_sum 52 = .ok (.aload_n 0, 1) := by decide +kernel
theorem md_F_sum_53 : decode mc_F_sum 53 = .ok (.lload_n 3, 1) := by decide +kernel
theorem md_F_sum_54 : decode mc_F_sum 54 = .ok (.invokevirtual 86, 3) := by decide +kernel
theorem md_F_sum_57 : decode mc_F_sum 57 = .ok (.ifCond .eq 5, 3) := by decide +kernel
theorem md_F_sum_60 : decode mc_F_sum 60 = .ok (.lload_n 3, 1) := by decide +kernel
theorem md_F_sum_61 : decode mc_F_sum 61 = .ok (.lreturn, 1) := by decide +kernel
theorem md_F_sum_62 : decode mc_F_sum 62 = .ok (.aload_n 0, 1) := by decide +kernel
theorem md_F_sum_63 : decode mc_F_sum 63 = .ok (.lload_n 1, 1) := by decide +kernel
theorem md_F_sum_64 : decode mc_F_sum 64 = .ok (.invokevirtual 53, 3) := by decide +kernel
theorem md_F_sum_67 : decode mc_F_sum 67 = .ok (.aload_n 0, 1) := by decide +kernel
theorem md_F_sum_68 : decode mc_F_sum 68 = .ok (.lload_n 3, 1) := by decide +kernel
theorem md_F_sum_69 : decode mc_F_sum 69 = .ok (.invokevirtual 53, 3) := by decide +kernel
theorem md_F_sum_72 : decode mc_F_sum 72 = .ok (.lcmp, 1) := by decide +kernel
theorem md_F_sum_73 : decode mc_F_sum 73 = .ok (.ifCond .lt 12, 3) := by decide +kernel
theorem md_F_sum_76 : decode mc_F_sum 76 = .ok (.aload_n 0, 1) := by decide +kernel
theorem md_F_sum_77 : decode mc_F_sum 77 = .ok (.lload_n 1, 1) := by decide +kernel
theorem md_F_sum_78 : decode mc_F_sum 78 = .ok (.lload_n 3, 1) := by decide +kernel
theorem md_F_sum_79 : decode mc_F_sum 79 = .ok (.invokevirtual 89, 3) := by decide +kernel
theorem md_F_sum_82 : decode mc_F_sum 82 = .ok (.goto 9, 3) := by decide +kernel
theorem md_F_sum_85 : decode mc_F_sum 85 = .ok (.aload_n 0, 1) := by decide +kernel
theorem md_F_sum_86 : decode mc_F_sum 86 = .ok (.lload_n 3, 1) := by decide +kernel
theorem md_F_sum_87 : decode mc_F_sum 87 = .ok (.lload_n 1, 1) := by decide +kernel
theorem md_F_sum_88 : decode mc_F_sum 88 = .ok (.invokevirtual 89, 3) := by decide +kernel
theorem md_F_sum_91 : decode mc_F_sum 91 = .ok (.lreturn, 1) := by decide +kernel
abbrev mc_F_finiteSum : ByteArray := prog_2_method_21_code
def my_F_finiteSum : MethodName := ⟨"NumberProbe$Format", "finiteSum", "(JJ)J"⟩
abbrev mw_F_finiteSum : List Cond := Cond.code my_F_finiteSum mc_F_finiteSum 14 (some .long) :: gw_tbl
theorem md_F_finiteSum_0 : decode mc_F_finiteSum 0 = .ok (.aload_n 0, 1) := by decide +kernel
theorem md_F_finiteSum_1 : decode mc_F_finiteSum 1 = .ok (.lload_n 1, 1) := by decide +kernel
theorem md_F_finiteSum_2 : decode mc_F_finiteSum 2 = .ok (.invokevirtual 93, 3) := by decide +kernel
theorem md_F_finiteSum_5 : decode mc_F_finiteSum 5 = .ok (.istore 5, 2) := by decide +kernel
theorem md_F_finiteSum_7 : decode mc_F_finiteSum 7 = .ok (.aload_n 0, 1) := by decide +kernel
theorem md_F_finiteSum_8 : decode mc_F_finiteSum 8 = .ok (.lload_n 1, 1) := by decide +kernel
theorem md_F_finiteSum_9 : decode mc_F_finiteSum 9 = .ok (.invokevirtual 96, 3) := by decide +kernel
theorem md_F_finiteSum_12 : decode mc_F_finiteSum 12 = .ok (.bipush 9, 2) := by decide +kernel
theorem md_F_finiteSum_14 : decode mc_F_finiteSum 14 = .ok (.lshl, 1) := by decide +kernel
theorem md_F_finiteSum_15 : decode mc_F_finiteSum 15 = .ok (.lstore 6, 2) := by decide +kernel
theorem md_F_finiteSum_17 : decode mc_F_finiteSum 17 = .ok (.aload_n 0, 1) := by decide +kernel
theorem md_F_finiteSum_18 : decode mc_F_finiteSum 18 = .ok (.lload_n 3, 1) := by decide +kernel
theorem md_F_finiteSum_19 : decode mc_F_finiteSum 19 = .ok (.invokevirtual 96, 3) := by decide +kernel
theorem md_F_finiteSum_22 : decode mc_F_finiteSum 22 = .ok (.bipush 9, 2) := by decide +kernel
theorem md_F_finiteSum_24 : decode mc_F_finiteSum 24 = .ok (.lshl, 1) := by decide +kernel
theorem md_F_finiteSum_25 : decode mc_F_finiteSum 25 = .ok (.iload 5, 2) := by decide +kernel
theorem md_F_finiteSum_27 : decode mc_F_finiteSum 27 = .ok (.aload_n 0, 1) := by decide +kernel
theorem md_F_finiteSum_28 : decode mc_F_finiteSum 28 = .ok (.lload_n 3, 1) := by decide +kernel
theorem md_F_finiteSum_29 : decode mc_F_finiteSum 29 = .ok (.invokevirtual 93, 3) := by decide +kernel
theorem md_F_finiteSum_32 : decode mc_F_finiteSum 32 = .ok (.isub, 1) := by decide +kernel
theorem md_F_finiteSum_33 : decode mc_F_finiteSum 33 = .ok (.invokestatic 99, 3) := by decide +kernel
theorem md_F_finiteSum_36 : decode mc_F_finiteSum 36 = .ok (.lstore 8, 2) := by decide +kernel
theorem md_F_finiteSum_38 : decode mc_F_finiteSum 38 = .ok (.lload_n 1, 1) := by decide +kernel
theorem md_F_finiteSum_39 : decode mc_F_finiteSum 39 = .ok (.lconst 0, 1) := by decide +kernel
theorem md_F_finiteSum_40 : decode mc_F_finiteSum 40 = .ok (.lcmp, 1) := by decide +kernel
theorem md_F_finiteSum_41 : decode mc_F_finiteSum 41 = .ok (.ifCond .ge 7, 3) := by decide +kernel
theorem md_F_finiteSum_44 : decode mc_F_finiteSum 44 = .ok (.iconst 1, 1) := by decide +kernel
theorem md_F_finiteSum_45 : decode mc_F_finiteSum 45 = .ok (.goto 4, 3) := by decide +kernel
theorem md_F_finiteSum_48 : decode mc_F_finiteSum 48 = .ok (.iconst 0, 1) := by decide +kernel
theorem md_F_finiteSum_49 : decode mc_F_finiteSum 49 = .ok (.lload_n 3, 1) := by decide +kernel
theorem md_F_finiteSum_50 : decode mc_F_finiteSum 50 = .ok (.lconst 0, 1) := by decide +kernel
theorem md_F_finiteSum_51 : decode mc_F_finiteSum 51 = .ok (.lcmp, 1) := by decide +kernel
theorem md_F_finiteSum_52 : decode mc_F_finiteSum 52 = .ok (.ifCond .ge 7, 3) := by decide +kernel
theorem md_F_finiteSum_55 : decode mc_F_finiteSum 55 = .ok (.iconst 1, 1) := by decide +kernel
theorem md_F_finiteSum_56 : decode mc_F_finiteSum 56 = .ok (.goto 4, 3) := by decide +kernel
theorem md_F_finiteSum_59 : decode mc_F_finiteSum 59 = .ok (.iconst 0, 1) := by decide +kernel
theorem md_F_finiteSum_60 : decode mc_F_finiteSum 60 = .ok (.if_icmp .ne 7, 3) := by decide +kernel
theorem md_F_finiteSum_63 : decode mc_F_finiteSum 63 = .ok (.iconst 1, 1) := by decide +kernel
theorem md_F_finiteSum_64 : decode mc_F_finiteSum 64 = .ok (.goto 4, 3) := by decide +kernel
theorem md_F_finiteSum_67 : decode mc_F_finiteSum 67 = .ok (.iconst 0, 1) := by decide +kernel
theorem md_F_finiteSum_68 : decode mc_F_finiteSum 68 = .ok (.istore 10, 2) := by decide +kernel
theorem md_F_finiteSum_70 : decode mc_F_finiteSum 70 = .ok (.iload 10, 2) := by decide +kernel
theorem md_F_finiteSum_72 : decode mc_F_finiteSum 72 = .ok (.ifCond .eq 11, 3) := by decide +kernel
theorem md_F_finiteSum_75 : decode mc_F_finiteSum 75 = .ok (.lload 6, 2) := by decide +kernel
theorem md_F_finiteSum_77 : decode mc_F_finiteSum 77 = .ok (.lload 8, 2) := by decide +kernel
theorem md_F_finiteSum_79 : decode mc_F_finiteSum 79 = .ok (.ladd, 1) := by decide +kernel
theorem md_F_finiteSum_80 : decode mc_F_finiteSum 80 = .ok (.goto 8, 3) := by decide +kernel
theorem md_F_finiteSum_83 : decode mc_F_finiteSum 83 = .ok (.lload 6, 2) := by decide +kernel
theorem md_F_finiteSum_85 : decode mc_F_finiteSum 85 = .ok (.lload 8, 2) := by decide +kernel
theorem md_F_finiteSum_87 : decode mc_F_finiteSum 87 = .ok (.lsub, 1) := by decide +kernel
theorem md_F_finiteSum_88 : decode mc_F_finiteSum 88 = .ok (.lstore 11, 2) := by decide +kernel
theorem md_F_finiteSum_90 : decode mc_F_finiteSum 90 = .ok (.lload_n 1, 1) := by decide +kernel
theorem md_F_finiteSum_91 : decode mc_F_finiteSum 91 = .ok (.lconst 0, 1) := by decide +kernel
theorem md_F_finiteSum_92 : decode mc_F_finiteSum 92 = .ok (.lcmp, 1) := by decide +kernel
theorem md_F_finiteSum_93 : decode mc_F_finiteSum 93 = .ok (.ifCond .ge 19, 3) := by decide +kernel
theorem md_F_finiteSum_96 : decode mc_F_finiteSum 96 = .ok (.iload 10, 2) := by decide +kernel
theorem md_F_finiteSum_98 : decode mc_F_finiteSum 98 = .ok (.ifCond .ne 10, 3) := by decide +kernel
theorem md_F_finiteSum_101 : decode mc_F_finiteSum 101 = .ok (.lload 11, 2) := by decide +kernel
theorem md_F_finiteSum_103 : decode mc_F_finiteSum 103 = .ok (.lconst 0, 1) := by decide +kernel
theorem md_F_finiteSum_104 : decode mc_F_finiteSum 104 = .ok (.lcmp, 1) := by decide +kernel
theorem md_F_finiteSum_105 : decode mc_F_finiteSum 105 = .ok (.ifCond .eq 7, 3) := by decide +kernel
theorem md_F_finiteSum_108 : decode mc_F_finiteSum 108 = .ok (.iconst 1, 1) := by decide +kernel
theorem md_F_finiteSum_109 : decode mc_F_finiteSum 109 = .ok (.goto 4, 3) := by decide +kernel
theorem md_F_finiteSum_112 : decode mc_F_finiteSum 112 = .ok (.iconst 0, 1) := by decide +kernel
theorem md_F_finiteSum_113 : decode mc_F_finiteSum 113 = .ok (.istore 13, 2) := by decide +kernel
theorem md_F_finiteSum_115 : decode mc_F_finiteSum 115 = .ok (.aload_n 0, 1) := by decide +kernel
theorem md_F_finiteSum_116 : decode mc_F_finiteSum 116 = .ok (.iload 13, 2) := by decide +kernel
theorem md_F_finiteSum_118 : decode mc_F_finiteSum 118 = .ok (.lload 11, 2) := by decide +kernel
theorem md_F_finiteSum_120 : decode mc_F_finiteSum 120 = .ok (.iload 5, 2) := by decide +kernel
theorem md_F_finiteSum_122 : decode mc_F_finiteSum 122 = .ok (.bipush 9, 2) := by decide +kernel
theorem md_F_finiteSum_124 : decode mc_F_finiteSum 124 = .ok (.isub, 1) := by decide +kernel
theorem md_F_finiteSum_125 : decode mc_F_finiteSum 125 = .ok (.invokevirtual 103, 3) := by decide +kernel
theorem md_F_finiteSum_128 : decode mc_F_finiteSum 128 = .ok (.lreturn, 1) := by decide +kernel
abbrev mc_F_product : ByteArray := prog_2_method_22_code
def my_F_product : MethodName := ⟨"NumberProbe$Format", "product", "(JJ)J"⟩
abbrev mw_F_product : List Cond := Cond.code my_F_product mc_F_product 6 (some .long) :: gw_tbl
theorem md_F_product_0 : decode mc_F_product 0 = .ok (.lload_n 1, 1) := by decide +kernel
theorem md_F_product_1 : decode mc_F_product 1 = .ok (.lconst 0, 1) := by decide +kernel
theorem md_F_product_2 : decode mc_F_product 2 = .ok (.lcmp, 1) := by decide +kernel
theorem md_F_product_3 : decode mc_F_product 3 = .ok (.ifCond .ge 7, 3) := by decide +kernel
theorem md_F_product_6 : decode mc_F_product 6 = .ok (.iconst 1, 1) := by decide +kernel
theorem md_F_product_7 : decode mc_F_product 7 = .ok (.goto 4, 3) := by decide +kernel
theorem md_F_product_10 : decode mc_F_product 10 = .ok (.iconst 0, 1) := by decide +kernel
theorem md_F_product_11 : decode mc_F_product 11 = .ok (.lload_n 3, 1) := by decide +kernel
theorem md_F_product_12 : decode mc_F_product 12 = .ok (.lconst 0, 1) := by decide +kernel
theorem md_F_product_13 : decode mc_F_product 13 = .ok (.lcmp, 1) := by decide +kernel
theorem md_F_product_14 : decode mc_F_product 14 = .ok (.ifCond .ge 7, 3) := by decide +kernel
theorem md_F_product_17 : decode mc_F_product 17 = .ok (.iconst 1, 1) := by decide +kernel
theorem md_F_product_18 : decode mc_F_product 18 = .ok (.goto 4, 3) := by decide +kernel
theorem md_F_product_21 : decode mc_F_product 21 = .ok (.iconst 0, 1) := by decide +kernel
theorem md_F_product_22 : decode mc_F_product 22 = .ok (.if_icmp .eq 7, 3) := by decide +kernel
theorem md_F_product_25 : decode mc_F_product 25 = .ok (.iconst 1, 1) := by decide +kernel
theorem md_F_product_26 : decode mc_F_product 26 = .ok (.goto 4, 3) := by decide +kernel
theorem md_F_product_29 : decode mc_F_product 29 = .ok (.iconst 0, 1) := by decide +kernel
theorem md_F_product_30 : decode mc_F_product 30 = .ok (.istore 5, 2) := by decide +kernel
theorem md_F_product_32 : decode mc_F_product 32 = .ok (.aload_n 0, 1) := by decide +kernel
theorem md_F_product_33 : decode mc_F_product 33 = .ok (.lload_n 1, 1) := by decide +kernel
theorem md_F_product_34 : decode mc_F_product 34 = .ok (.invokevirtual 49, 3) := by decide +kernel
theorem md_F_product_37 : decode mc_F_product 37 = .ok (.ifCond .ne 11, 3) := by decide +kernel
theorem md_F_product_40 : decode mc_F_product 40 = .ok (.aload_n 0, 1) := by decide +kernel
theorem md_F_product_41 : decode mc_F_product 41 = .ok (.lload_n 3, 1) := by decide +kernel
theorem md_F_product_42 : decode mc_F_product 42 = .ok (.invokevirtual 49, 3) := by decide +kernel
theorem md_F_product_45 : decode mc_F_product 45 = .ok (.ifCond .eq 8, 3) := by decide +kernel
theorem md_F_product_48 : decode mc_F_product 48 = .ok (.aload_n 0, 1) := by decide +kernel
theorem md_F_product_49 : decode mc_F_product 49 = .ok (.getfield 46, 3) := by decide +kernel
theorem md_F_product_52 : decode mc_F_product 52 = .ok (.lreturn, 1) := by decide +kernel
theorem md_F_product_53 : decode mc_F_product 53 = .ok (.aload_n 0, 1) := by decide +kernel
theorem md_F_product_54 : decode mc_F_product 54 = .ok (.lload_n 1, 1) := by decide +kernel
theorem md_F_product_55 : decode mc_F_product 55 = .ok (.invokevirtual 86, 3) := by decide +kernel
theorem md_F_product_58 : decode mc_F_product 58 = .ok (.ifCond .ne 11, 3) := by decide +kernel
theorem md_F_product_61 : decode mc_F_product 61 = .ok (.aload_n 0, 1) := by decide +kernel
theorem md_F_product_62 : decode mc_F_product 62 = .ok (.lload_n 3, 1) := by decide +kernel
theorem md_F_product_63 : decode mc_F_product 63 = .ok (.invokevirtual 86, 3) := by decide +kernel
theorem md_F_product_66 : decode mc_F_product 66 = .ok (.ifCond .eq 37, 3) := by decide +kernel
theorem md_F_product_69 : decode mc_F_product 69 = .ok (.aload_n 0, 1) := by decide +kernel
theorem md_F_product_70 : decode mc_F_product 70 = .ok (.lload_n 1, 1) := by decide +kernel
theorem md_F_product_71 : decode mc_F_product 71 = .ok (.invokevirtual 80, 3) := by decide +kernel
theorem md_F_product_74 : decode mc_F_product 74 = .ok (.ifCond .ne 11, 3) := by decide +kernel
theorem md_F_product_77 : decode mc_F_product 77 = .ok (.aload_n 0, 1) := by decide +kernel
theorem md_F_product_78 : decode mc_F_product 78 = .ok (.lload_n 3, 1) := by decide +kernel
theorem md_F_product_79 : decode mc_F_product 79 = .ok (.invokevirtual 80, 3) := by decide +kernel
theorem md_F_product_82 : decode mc_F_product 82 = .ok (.ifCond .eq 10, 3) := by decide +kernel
theorem md_F_product_85 : decode mc_F_product 85 = .ok (.aload_n 0, 1) := by decide +kernel
theorem md_F_product_86 : decode mc_F_product 86 = .ok (.getfield 46, 3) := by decide +kernel
theorem md_F_product_89 : decode mc_F_product 89 = .ok (.goto 13, 3) := by decide +kernel
theorem md_F_product_92 : decode mc_F_product 92 = .ok (.aload_n 0, 1) := by decide +kernel
theorem md_F_product_93 : decode mc_F_product 93 = .ok (.iload 5, 2) := by decide +kernel
theorem md_F_product_95 : decode mc_F_product 95 = .ok (.aload_n 0, 1) := by decide +kernel
theorem md_F_product_96 : decode mc_F_product 96 = .ok (.getfield 43, 3) := by decide +kernel
theorem md_F_product_99 : decode mc_F_product 99 = .ok (.invokevirtual 57, 3) := by decide +kernel
theorem md_F_product_102 : decode mc_F_product 102 = .ok (.lreturn, 1) := by decide +kernel
theorem md_F_product_103 : decode mc_F_product 103 = .ok (.aload_n 0, 1) := by decide +kernel
theorem md_F_product_104 : decode mc_F_product 104 = .ok (.lload_n 1, 1) := by decide +kernel
theorem md_F_product_105 : decode mc_F_product 105 = .ok (.invokevirtual 80, 3) := by decide +kernel
theorem md_F_product_108 : decode mc_F_product 108 = .ok (.ifCond .ne 11, 3) := by decide +kernel
theorem md_F_product_111 : decode mc_F_product 111 = .ok (.aload_n 0, 1) := by decide +kernel
theorem md_F_product_112 : decode mc_F_product 112 = .ok (.lload_n 3, 1) := by decide +kernel
theorem md_F_product_113 : decode mc_F_product 113 = .ok (.invokevirtual 80, 3) := by decide +kernel
theorem md_F_product_116 : decode mc_F_product 116 = .ok (.ifCond .eq 11, 3) := by decide +kernel
theorem md_F_product_119 : decode mc_F_product 119 = .ok (.aload_n 0, 1) := by decide +kernel
theorem md_F_product_120 : decode mc_F_product 120 = .ok (.iload 5, 2) := by decide +kernel
theorem md_F_product_122 : decode mc_F_product 122 = .ok (.lconst 0, 1) := by decide +kernel
theorem md_F_product_123 : decode mc_F_product 123 = .ok (.invokevirtual 57, 3) := by decide +kernel
theorem md_F_product_126 : decode mc_F_product 126 = .ok (.lreturn, 1) := by decide +kernel
theorem md_F_product_127 : decode mc_F_product 127 = .ok (.aload_n 0, 1) := by decide +kernel
theorem md_F_product_128 : decode mc_F_product 128 = .ok (.iload 5, 2) := by decide +kernel
theorem md_F_product_130 : decode mc_F_product 130 = .ok (.lload_n 1, 1) := by decide +kernel
theorem md_F_product_131 : decode mc_F_product 131 = .ok (.lload_n 3, 1) := by decide +kernel
theorem md_F_product_132 : decode mc_F_product 132 = .ok (.invokevirtual 107, 3) := by decide +kernel
theorem md_F_product_135 : decode mc_F_product 135 = .ok (.lreturn, 1) := by decide +kernel
abbrev mc_F_finiteProduct : ByteArray := prog_2_method_23_code
def my_F_finiteProduct : MethodName := ⟨"NumberProbe$Format", "finiteProduct", "(ZJJ)J"⟩
abbrev mw_F_finiteProduct : List Cond := Cond.code my_F_finiteProduct mc_F_finiteProduct 17 (some .long) :: gw_tbl
theorem md_F_finiteProduct_0 : decode mc_F_finiteProduct 0 = .ok (.aload_n 0, 1) := by decide +kernel
theorem md_F_finiteProduct_1 : decode mc_F_finiteProduct 1 = .ok (.lload_n 2, 1) := by decide +kernel
theorem md_F_finiteProduct_2 : decode mc_F_finiteProduct 2 = .ok (.invokevirtual 96, 3) := by decide +kernel
theorem md_F_finiteProduct_5 : decode mc_F_finiteProduct 5 = .ok (.invokestatic 111, 3) := by decide +kernel
theorem md_F_finiteProduct_8 : decode mc_F_finiteProduct 8 = .ok (.istore 6, 2) := by decide +kernel
theorem md_F_finiteProduct_10 : decode mc_F_finiteProduct 10 = .ok (.aload_n 0, 1) := by decide +kernel
theorem md_F_finiteProduct_11 : decode mc_F_finiteProduct 11 = .ok (.lload 4, 2) := by decide +kernel
theorem md_F_finiteProduct_13 : decode mc_F_finiteProduct 13 = .ok (.invokevirtual 96, 3) := by decide +kernel
theorem md_F_finiteProduct_16 : decode mc_F_finiteProduct 16 = .ok (.invokestatic 111, 3) := by decide +kernel
theorem md_F_finiteProduct_19 : decode mc_F_finiteProduct 19 = .ok (.istore 7, 2) := by decide +kernel
theorem md_F_finiteProduct_21 : decode mc_F_finiteProduct 21 = .ok (.aload_n 0, 1) := by decide +kernel
theorem md_F_finiteProduct_22 : decode mc_F_finiteProduct 22 = .ok (.lload_n 2, 1) := by decide +kernel
theorem md_F_finiteProduct_23 : decode mc_F_finiteProduct 23 = .ok (.invokevirtual 96, 3) := by decide +kernel
theorem md_F_finiteProduct_26 : decode mc_F_finiteProduct 26 = .ok (.iload 6, 2) := by decide +kernel
theorem md_F_finiteProduct_28 : decode mc_F_finiteProduct 28 = .ok (.lshl, 1) := by decide +kernel
theorem md_F_finiteProduct_29 : decode mc_F_finiteProduct 29 = .ok (.lstore 8, 2) := by decide +kernel
theorem md_F_finiteProduct_31 : decode mc_F_finiteProduct 31 = .ok (.aload_n 0, 1) := by decide +kernel
theorem md_F_finiteProduct_32 : decode mc_F_finiteProduct 32 = .ok (.lload 4, 2) := by decide +kernel
theorem md_F_finiteProduct_34 : decode mc_F_finiteProduct 34 = .ok (.invokevirtual 96, 3) := by decide +kernel
theorem md_F_finiteProduct_37 : decode mc_F_finiteProduct 37 = .ok (.iload 7, 2) := by decide +kernel
theorem md_F_finiteProduct_39 : decode mc_F_finiteProduct 39 = .ok (.lshl, 1) := by decide +kernel
theorem md_F_finiteProduct_40 : decode mc_F_finiteProduct 40 = .ok (.lstore 10, 2) := by decide +kernel
theorem md_F_finiteProduct_42 : decode mc_F_finiteProduct 42 = .ok (.lconst 0, 1) := by decide +kernel
theorem md_F_finiteProduct_43 : decode mc_F_finiteProduct 43 = .ok (.lstore 12, 2) := by decide +kernel
theorem md_F_finiteProduct_45 : decode mc_F_finiteProduct 45 = .ok (.lconst 0, 1) := by decide +kernel
theorem md_F_finiteProduct_46 : decode mc_F_finiteProduct 46 = .ok (.lstore 14, 2) := by decide +kernel
theorem md_F_finiteProduct_48 : decode mc_F_finiteProduct 48 = .ok (.iconst 0, 1) := by decide +kernel
theorem md_F_finiteProduct_49 : decode mc_F_finiteProduct 49 = .ok (.istore 16, 2) := by decide +kernel
theorem md_F_finiteProduct_51 : decode mc_F_finiteProduct 51 = .ok (.iload 16, 2) := by decide +kernel
theorem md_F_finiteProduct_53 : decode mc_F_finiteProduct 53 = .ok (.bipush 6, 2) := by decide +kernel
theorem md_F_finiteProduct_55 : decode mc_F_finiteProduct 55 = .ok (.if_icmp .ge 38, 3) := by decide +kernel
theorem md_F_finiteProduct_58 : decode mc_F_finiteProduct 58 = .ok (.lload 14, 2) := by decide +kernel
theorem md_F_finiteProduct_60 : decode mc_F_finiteProduct 60 = .ok (.lload 12, 2) := by decide +kernel
theorem md_F_finiteProduct_62 : decode mc_F_finiteProduct 62 = .ok (.iconst 0, 1) := by decide +kernel
theorem md_F_finiteProduct_63 : decode mc_F_finiteProduct 63 = .ok (.invokestatic 114, 3) := by decide +kernel
theorem md_F_finiteProduct_66 : decode mc_F_finiteProduct 66 = .ok (.lor, 1) := by decide +kernel
theorem md_F_finiteProduct_67 : decode mc_F_finiteProduct 67 = .ok (.lstore 14, 2) := by decide +kernel
theorem md_F_finiteProduct_69 : decode mc_F_finiteProduct 69 = .ok (.lload 12, 2) := by decide +kernel
theorem md_F_finiteProduct_71 : decode mc_F_finiteProduct 71 = .ok (.bipush 10, 2) := by decide +kernel
theorem md_F_finiteProduct_73 : decode mc_F_finiteProduct 73 = .ok (.lushr, 1) := by decide +kernel
theorem md_F_finiteProduct_74 : decode mc_F_finiteProduct 74 = .ok (.lload 8, 2) := by decide +kernel
theorem md_F_finiteProduct_76 : decode mc_F_finiteProduct 76 = .ok (.lload 10, 2) := by decide +kernel
theorem md_F_finiteProduct_78 : decode mc_F_finiteProduct 78 = .ok (.iload 16, 2) := by decide +kernel
theorem md_F_finiteProduct_80 : decode mc_F_finiteProduct 80 = .ok (.invokestatic 114, 3) := by decide +kernel
theorem md_F_finiteProduct_83 : decode mc_F_finiteProduct 83 = .ok (.lmul, 1) := by decide +kernel
theorem md_F_finiteProduct_84 : decode mc_F_finiteProduct 84 = .ok (.ladd, 1) := by decide +kernel
theorem md_F_finiteProduct_85 : decode mc_F_finiteProduct 85 = .ok (.lstore 12, 2) := by decide +kernel
theorem md_F_finiteProduct_87 : decode mc_F_finiteProduct 87 = .ok (.iinc 16 1, 3) := by decide +kernel
theorem md_F_finiteProduct_90 : decode mc_F_finiteProduct 90 = .ok (.goto (-39), 3) := by decide +kernel
theorem md_F_finiteProduct_93 : decode mc_F_finiteProduct 93 = .ok (.aload_n 0, 1) := by decide +kernel
theorem md_F_finiteProduct_94 : decode mc_F_finiteProduct 94 = .ok (.lload_n 2, 1) := by decide +kernel
theorem md_F_finiteProduct_95 : decode mc_F_finiteProduct 95 = .ok (.invokevirtual 93, 3) := by decide +kernel
theorem md_F_finiteProduct_98 : decode mc_F_finiteProduct 98 = .ok (.iload 6, 2) := by decide +kernel
theorem md_F_finiteProduct_100 : decode mc_F_finiteProduct 100 = .ok (.isub, 1) := by decide +kernel
theorem md_F_finiteProduct_101 : decode mc_F_finiteProduct 101 = .ok (.aload_n 0, 1) := by decide +kernel
theorem md_F_finiteProduct_102 : decode mc_F_finiteProduct 102 = .ok (.lload 4, 2) := by decide +kernel
theorem md_F_finiteProduct_104 : decode mc_F_finiteProduct 104 = .ok (.invokevirtual 93, 3) := by decide +kernel
theorem md_F_finiteProduct_107 : decode mc_F_finiteProduct 107 = .ok (.iadd, 1) := by decide +kernel
theorem md_F_finiteProduct_108 : decode mc_F_finiteProduct 108 = .ok (.iload 7, 2) := by decide +kernel
theorem md_F_finiteProduct_110 : decode mc_F_finiteProduct 110 = .ok (.isub, 1) := by decide +kernel
theorem md_F_finiteProduct_111 : decode mc_F_finiteProduct 111 = .ok (.bipush 50, 2) := by decide +kernel
theorem md_F_finiteProduct_113 : decode mc_F_finiteProduct 113 = .ok (.iadd, 1) := by decide +kernel
theorem md_F_finiteProduct_114 : decode mc_F_finiteProduct 114 = .ok (.istore 16, 2) := by decide +kernel
theorem md_F_finiteProduct_116 : decode mc_F_finiteProduct 116 = .ok (.aload_n 0, 1) := by decide +kernel
theorem md_F_finiteProduct_117 : decode mc_F_finiteProduct 117 = .ok (.iload_n 1, 1) := by decide +kernel
theorem md_F_finiteProduct_118 : decode mc_F_finiteProduct 118 = .ok (.lload 12, 2) := by decide +kernel
theorem md_F_finiteProduct_120 : decode mc_F_finiteProduct 120 = .ok (.lload 14, 2) := by decide +kernel
theorem md_F_finiteProduct_122 : decode mc_F_finiteProduct 122 = .ok (.invokestatic 117, 3) := by decide +kernel
theorem md_F_finiteProduct_125 : decode mc_F_finiteProduct 125 = .ok (.iload 16, 2) := by decide +kernel
theorem md_F_finiteProduct_127 : decode mc_F_finiteProduct 127 = .ok (.invokevirtual 103, 3) := by decide +kernel
theorem md_F_finiteProduct_130 : decode mc_F_finiteProduct 130 = .ok (.lreturn, 1) := by decide +kernel
abbrev mc_F_quotient : ByteArray := prog_2_method_24_code
def my_F_quotient : MethodName := ⟨"NumberProbe$Format", "quotient", "(JJ)J"⟩
abbrev mw_F_quotient : List Cond := Cond.code my_F_quotient mc_F_quotient 6 (some .long) :: gw_tbl
theorem md_F_quotient_0 : decode mc_F_quotient 0 = .ok (.lload_n 1, 1) := by decide +kernel
theorem md_F_quotient_1 : decode mc_F_quotient 1 = .ok (.lconst 0, 1) := by decide +kernel
theorem md_F_quotient_2 : decode mc_F_quotient 2 = .ok (.lcmp, 1) := by decide +kernel
theorem md_F_quotient_3 : decode mc_F_quotient 3 = .ok (.ifCond .ge 7, 3) := by decide +kernel
theorem md_F_quotient_6 : decode mc_F_quotient 6 = .ok (.iconst 1, 1) := by decide +kernel
theorem md_F_quotient_7 : decode mc_F_quotient 7 = .ok (.goto 4, 3) := by decide +kernel
theorem md_F_quotient_10 : decode mc_F_quotient 10 = .ok (.iconst 0, 1) := by decide +kernel
theorem md_F_quotient_11 : decode mc_F_quotient 11 = .ok (.lload_n 3, 1) := by decide +kernel
theorem md_F_quotient_12 : decode mc_F_quotient 12 = .ok (.lconst 0, 1) := by decide +kernel
theorem md_F_quotient_13 : decode mc_F_quotient 13 = .ok (.lcmp, 1) := by decide +kernel
theorem md_F_quotient_14 : decode mc_F_quotient 14 = .ok (.ifCond .ge 7, 3) := by decide +kernel
theorem md_F_quotient_17 : decode mc_F_quotient 17 = .ok (.iconst 1, 1) := by decide +kernel
theorem md_F_quotient_18 : decode mc_F_quotient 18 = .ok (.goto 4, 3) := by decide +kernel
theorem md_F_quotient_21 : decode mc_F_quotient 21 = .ok (.iconst 0, 1) := by decide +kernel
theorem md_F_quotient_22 : decode mc_F_quotient 22 = .ok (.if_icmp .eq 7, 3) := by decide +kernel
theorem md_F_quotient_25 : decode mc_F_quotient 25 = .ok (.iconst 1, 1) := by decide +kernel
theorem md_F_quotient_26 : decode mc_F_quotient 26 = .ok (.goto 4, 3) := by decide +kernel
theorem md_F_quotient_29 : decode mc_F_quotient 29 = .ok (.iconst 0, 1) := by decide +kernel
theorem md_F_quotient_30 : decode mc_F_quotient 30 = .ok (.istore 5, 2) := by decide +kernel
theorem md_F_quotient_32 : decode mc_F_quotient 32 = .ok (.aload_n 0, 1) := by decide +kernel
theorem md_F_quotient_33 : decode mc_F_quotient 33 = .ok (.lload_n 1, 1) := by decide +kernel
theorem md_F_quotient_34 : decode mc_F_quotient 34 = .ok (.invokevirtual 49, 3) := by decide +kernel
theorem md_F_quotient_37 : decode mc_F_quotient 37 = .ok (.ifCond .ne 43, 3) := by decide +kernel
theorem md_F_quotient_40 : decode mc_F_quotient 40 = .ok (.aload_n 0, 1) := by decide +kernel
theorem md_F_quotient_41 : decode mc_F_quotient 41 = .ok (.lload_n 3, 1) := by decide +kernel
theorem md_F_quotient_42 : decode mc_F_quotient 42 = .ok (.invokevirtual 49, 3) := by decide +kernel
theorem md_F_quotient_45 : decode mc_F_quotient 45 = .ok (.ifCond .ne 35, 3) := by decide +kernel
theorem md_F_quotient_48 : decode mc_F_quotient 48 = .ok (.aload_n 0, 1) := by decide +kernel
theorem md_F_quotient_49 : decode mc_F_quotient 49 = .ok (.lload_n 1, 1) := by decide +kernel
theorem md_F_quotient_50 : decode mc_F_quotient 50 = .ok (.invokevirtual 86, 3) := by decide +kernel
theorem md_F_quotient_53 : decode mc_F_quotient 53 = .ok (.ifCond .eq 11, 3) := by decide +kernel
theorem md_F_quotient_56 : decode mc_F_quotient 56 = .ok (.aload_n 0, 1) := by decide +kernel
theorem md_F_quotient_57 : decode mc_F_quotient 57 = .ok (.lload_n 3, 1) := by decide +kernel
theorem md_F_quotient_58 : decode mc_F_quotient 58 = .ok (.invokevirtual 86, 3) := by decide +kernel
theorem md_F_quotient_61 : decode mc_F_quotient 61 = .ok (.ifCond .ne 19, 3) := by decide +kernel
theorem md_F_quotient_64 : decode mc_F_quotient 64 = .ok (.aload_n 0, 1) := by decide +kernel
theorem md_F_quotient_65 : decode mc_F_quotient 65 = .ok (.lload_n 1, 1) := by decide +kernel
theorem md_F_quotient_66 : decode mc_F_quotient 66 = .ok (.invokevirtual 80, 3) := by decide +kernel
theorem md_F_quotient_69 : decode mc_F_quotient 69 = .ok (.ifCond .eq 16, 3) := by decide +kernel
theorem md_F_quotient_72 : decode mc_F_quotient 72 = .ok (.aload_n 0, 1) := by decide +kernel
theorem md_F_quotient_73 : decode mc_F_quotient 73 = .ok (.lload_n 3, 1) := by decide +kernel
theorem md_F_quotient_74 : decode mc_F_quotient 74 = .ok (.invokevirtual 80, 3) := by decide +kernel
theorem md_F_quotient_77 : decode mc_F_quotient 77 = .ok (.ifCond .eq 8, 3) := by decide +kernel
theorem md_F_quotient_80 : decode mc_F_quotient 80 = .ok (.aload_n 0, 1) := by decide +kernel
theorem md_F_quotient_81 : decode mc_F_quotient 81 = .ok (.getfield 46, 3) := by decide +kernel
theorem md_F_quotient_84 : decode mc_F_quotient 84 = .ok (.lreturn, 1) := by decide +kernel
theorem md_F_quotient_85 : decode mc_F_quotient 85 = .ok (.aload_n 0, 1) := by decide +kernel
theorem md_F_quotient_86 : decode mc_F_quotient 86 = .ok (.lload_n 1, 1) := by decide +kernel
theorem md_F_quotient_87 : decode mc_F_quotient 87 = .ok (.invokevirtual 86, 3) := by decide +kernel
theorem md_F_quotient_90 : decode mc_F_quotient 90 = .ok (.ifCond .ne 11, 3) := by decide +kernel
theorem md_F_quotient_93 : decode mc_F_quotient 93 = .ok (.aload_n 0, 1) := by decide +kernel
theorem md_F_quotient_94 : decode mc_F_quotient 94 = .ok (.lload_n 3, 1) := by decide +kernel
theorem md_F_quotient_95 : decode mc_F_quotient 95 = .ok (.invokevirtual 80, 3) := by decide +kernel
theorem md_F_quotient_98 : decode mc_F_quotient 98 = .ok (.ifCond .eq 14, 3) := by decide +kernel
theorem md_F_quotient_101 : decode mc_F_quotient 101 = .ok (.aload_n 0, 1) := by decide +kernel
theorem md_F_quotient_102 : decode mc_F_quotient 102 = .ok (.iload 5, 2) := by decide +kernel
theorem md_F_quotient_104 : decode mc_F_quotient 104 = .ok (.aload_n 0, 1) := by decide +kernel
theorem md_F_quotient_105 : decode mc_F_quotient 105 = .ok (.getfield 43, 3) := by decide +kernel
theorem md_F_quotient_108 : decode mc_F_quotient 108 = .ok (.invokevirtual 57, 3) := by decide +kernel
theorem md_F_quotient_111 : decode mc_F_quotient 111 = .ok (.lreturn, 1) := by decide +kernel
theorem md_F_quotient_112 : decode mc_F_quotient 112 = .ok (.aload_n 0, 1) := by decide +kernel
theorem md_F_quotient_113 : decode mc_F_quotient 113 = .ok (.lload_n 1, 1) := by decide +kernel
theorem md_F_quotient_114 : decode mc_F_quotient 114 = .ok (.invokevirtual 80, 3) := by decide +kernel
theorem md_F_quotient_117 : decode mc_F_quotient 117 = .ok (.ifCond .ne 11, 3) := by decide +kernel
theorem md_F_quotient_120 : decode mc_F_quotient 120 = .ok (.aload_n 0, 1) := by decide +kernel
theorem md_F_quotient_121 : decode mc_F_quotient 121 = .ok (.lload_n 3, 1) := by decide +kernel
theorem md_F_quotient_122 : decode mc_F_quotient 122 = .ok (.invokevirtual 86, 3) := by decide +kernel
theorem md_F_quotient_125 : decode mc_F_quotient 125 = .ok (.ifCond .eq 11, 3) := by decide +kernel
theorem md_F_quotient_128 : decode mc_F_quotient 128 = .ok (.aload_n 0, 1) := by decide +kernel
theorem md_F_quotient_129 : decode mc_F_quotient 129 = .ok (.iload 5, 2) := by decide +kernel
theorem md_F_quotient_131 : decode mc_F_quotient 131 = .ok (.lconst 0, 1) := by decide +kernel
theorem md_F_quotient_132 : decode mc_F_quotient 132 = .ok (.invokevirtual 57, 3) := by decide +kernel
theorem md_F_quotient_135 : decode mc_F_quotient 135 = .ok (.lreturn, 1) := by decide +kernel
theorem md_F_quotient_136 : decode mc_F_quotient 136 = .ok (.aload_n 0, 1) := by decide +kernel
theorem md_F_quotient_137 : decode mc_F_quotient 137 = .ok (.iload 5, 2) := by decide +kernel
theorem md_F_quotient_139 : decode mc_F_quotient 139 = .ok (.lload_n 1, 1) := by decide +kernel
theorem md_F_quotient_140 : decode mc_F_quotient 140 = .ok (.lload_n 3, 1) := by decide +kernel
theorem md_F_quotient_141 : decode mc_F_quotient 141 = .ok (.invokevirtual 120, 3) := by decide +kernel
theorem md_F_quotient_144 : decode mc_F_quotient 144 = .ok (.lreturn, 1) := by decide +kernel
abbrev mc_F_finiteQuotient : ByteArray := prog_2_method_25_code
def my_F_finiteQuotient : MethodName := ⟨"NumberProbe$Format", "finiteQuotient", "(ZJJ)J"⟩
abbrev mw_F_finiteQuotient : List Cond := Cond.code my_F_finiteQuotient mc_F_finiteQuotient 17 (some .long) :: gw_tbl
theorem md_F_finiteQuotient_0 : decode mc_F_finiteQuotient 0 = .ok (.aload_n 0, 1) := by decide +kernel
theorem md_F_finiteQuotient_1 : decode mc_F_finiteQuotient 1 = .ok (.lload_n 2, 1) := by decide +kernel
theorem md_F_finiteQuotient_2 : decode mc_F_finiteQuotient 2 = .ok (.invokevirtual 96, 3) := by decide +kernel
theorem md_F_finiteQuotient_5 : decode mc_F_finiteQuotient 5 = .ok (.invokestatic 111, 3) := by decide +kernel
theorem md_F_finiteQuotient_8 : decode mc_F_finiteQuotient 8 = .ok (.istore 6, 2) := by decide +kernel
theorem md_F_finiteQuotient_10 : decode mc_F_finiteQuotient 10 = .ok (.aload_n 0, 1) := by decide +kernel
theorem md_F_finiteQuotient_11 : decode mc_F_finiteQuotient 11 = .ok (.lload 4, 2) := by decide +kernel
theorem md_F_finiteQuotient_13 : decode mc_F_finiteQuotient 13 = .ok (.invokevirtual 96, 3) := by decide +kernel
theorem md_F_finiteQuotient_16 : decode mc_F_finiteQuotient 16 = .ok (.invokestatic 111, 3) := by decide +kernel
theorem md_F_finiteQuotient_19 : decode mc_F_finiteQuotient 19 = .ok (.istore 7, 2) := by decide +kernel
theorem md_F_finiteQuotient_21 : decode mc_F_finiteQuotient 21 = .ok (.aload_n 0, 1) := by decide +kernel
theorem md_F_finiteQuotient_22 : decode mc_F_finiteQuotient 22 = .ok (.lload_n 2, 1) := by decide +kernel
theorem md_F_finiteQuotient_23 : decode mc_F_finiteQuotient 23 = .ok (.invokevirtual 96, 3) := by decide +kernel
theorem md_F_finiteQuotient_26 : decode mc_F_finiteQuotient 26 = .ok (.iload 6, 2) := by decide +kernel
theorem md_F_finiteQuotient_28 : decode mc_F_finiteQuotient 28 = .ok (.lshl, 1) := by decide +kernel
theorem md_F_finiteQuotient_29 : decode mc_F_finiteQuotient 29 = .ok (.lstore 8, 2) := by decide +kernel
theorem md_F_finiteQuotient_31 : decode mc_F_finiteQuotient 31 = .ok (.aload_n 0, 1) := by decide +kernel
theorem md_F_finiteQuotient_32 : decode mc_F_finiteQuotient 32 = .ok (.lload 4, 2) := by decide +kernel
theorem md_F_finiteQuotient_34 : decode mc_F_finiteQuotient 34 = .ok (.invokevirtual 96, 3) := by decide +kernel
theorem md_F_finiteQuotient_37 : decode mc_F_finiteQuotient 37 = .ok (.iload 7, 2) := by decide +kernel
theorem md_F_finiteQuotient_39 : decode mc_F_finiteQuotient 39 = .ok (.lshl, 1) := by decide +kernel
theorem md_F_finiteQuotient_40 : decode mc_F_finiteQuotient 40 = .ok (.lstore 10, 2) := by decide +kernel
theorem md_F_finiteQuotient_42 : decode mc_F_finiteQuotient 42 = .ok (.lload 8, 2) := by decide +kernel
theorem md_F_finiteQuotient_44 : decode mc_F_finiteQuotient 44 = .ok (.lload 10, 2) := by decide +kernel
theorem md_F_finiteQuotient_46 : decode mc_F_finiteQuotient 46 = .ok (.ldiv, 1) := by decide +kernel
theorem md_F_finiteQuotient_47 : decode mc_F_finiteQuotient 47 = .ok (.lstore 12, 2) := by decide +kernel
theorem md_F_finiteQuotient_49 : decode mc_F_finiteQuotient 49 = .ok (.lload 8, 2) := by decide +kernel
theorem md_F_finiteQuotient_51 : decode mc_F_finiteQuotient 51 = .ok (.lload 10, 2) := by decide +kernel
theorem md_F_finiteQuotient_53 : decode mc_F_finiteQuotient 53 = .ok (.lrem, 1) := by decide +kernel
theorem md_F_finiteQuotient_54 : decode mc_F_finiteQuotient 54 = .ok (.lstore 14, 2) := by decide +kernel
theorem md_F_finiteQuotient_56 : decode mc_F_finiteQuotient 56 = .ok (.iconst 0, 1) := by decide +kernel
theorem md_F_finiteQuotient_57 : decode mc_F_finiteQuotient 57 = .ok (.istore 16, 2) := by decide +kernel
theorem md_F_finiteQuotient_59 : decode mc_F_finiteQuotient 59 = .ok (.iload 16, 2) := by decide +kernel
theorem md_F_finiteQuotient_61 : decode mc_F_finiteQuotient 61 = .ok (.bipush 6, 2) := by decide +kernel
theorem md_F_finiteQuotient_63 : decode mc_F_finiteQuotient 63 = .ok (.if_icmp .ge 36, 3) := by decide +kernel
theorem md_F_finiteQuotient_66 : decode mc_F_finiteQuotient 66 = .ok (.lload 14, 2) := by decide +kernel
theorem md_F_finiteQuotient_68 : decode mc_F_finiteQuotient 68 = .ok (.bipush 10, 2) := by decide +kernel
theorem md_F_finiteQuotient_70 : decode mc_F_finiteQuotient 70 = .ok (.lshl, 1) := by decide +kernel
theorem md_F_finiteQuotient_71 : decode mc_F_finiteQuotient 71 = .ok (.lstore 14, 2) := by decide +kernel
theorem md_F_finiteQuotient_73 : decode mc_F_finiteQuotient 73 = .ok (.lload 12, 2) := by decide +kernel
theorem md_F_finiteQuotient_75 : decode mc_F_finiteQuotient 75 = .ok (.bipush 10, 2) := by decide +kernel
theorem md_F_finiteQuotient_77 : decode mc_F_finiteQuotient 77 = .ok (.lshl, 1) := by decide +kernel
theorem md_F_finiteQuotient_78 : decode mc_F_finiteQuotient 78 = .ok (.lload 14, 2) := by decide +kernel
theorem md_F_finiteQuotient_80 : decode mc_F_finiteQuotient 80 = .ok (.lload 10, 2) := by decide +kernel
theorem md_F_finiteQuotient_82 : decode mc_F_finiteQuotient 82 = .ok (.ldiv, 1) := by decide +kernel
theorem md_F_finiteQuotient_83 : decode mc_F_finiteQuotient 83 = .ok (.ladd, 1) := by decide +kernel
theorem md_F_finiteQuotient_84 : decode mc_F_finiteQuotient 84 = .ok (.lstore 12, 2) := by decide +kernel
theorem md_F_finiteQuotient_86 : decode mc_F_finiteQuotient 86 = .ok (.lload 14, 2) := by decide +kernel
theorem md_F_finiteQuotient_88 : decode mc_F_finiteQuotient 88 = .ok (.lload 10, 2) := by decide +kernel
theorem md_F_finiteQuotient_90 : decode mc_F_finiteQuotient 90 = .ok (.lrem, 1) := by decide +kernel
theorem md_F_finiteQuotient_91 : decode mc_F_finiteQuotient 91 = .ok (.lstore 14, 2) := by decide +kernel
theorem md_F_finiteQuotient_93 : decode mc_F_finiteQuotient 93 = .ok (.iinc 16 1, 3) := by decide +kernel
theorem md_F_finiteQuotient_96 : decode mc_F_finiteQuotient 96 = .ok (.goto (-37), 3) := by decide +kernel
theorem md_F_finiteQuotient_99 : decode mc_F_finiteQuotient 99 = .ok (.aload_n 0, 1) := by decide +kernel
theorem md_F_finiteQuotient_100 : decode mc_F_finiteQuotient 100 = .ok (.lload_n 2, 1) := by decide +kernel
theorem md_F_finiteQuotient_101 : decode mc_F_finiteQuotient 101 = .ok (.invokevirtual 93, 3) := by decide +kernel
theorem md_F_finiteQuotient_104 : decode mc_F_finiteQuotient 104 = .ok (.iload 6, 2) := by decide +kernel
theorem md_F_finiteQuotient_106 : decode mc_F_finiteQuotient 106 = .ok (.isub, 1) := by decide +kernel
theorem md_F_finiteQuotient_107 : decode mc_F_finiteQuotient 107 = .ok (.aload_n 0, 1) := by decide +kernel
theorem md_F_finiteQuotient_108 : decode mc_F_finiteQuotient 108 = .ok (.lload 4, 2) := by decide +kernel
theorem md_F_finiteQuotient_110 : decode mc_F_finiteQuotient 110 = .ok (.invokevirtual 93, 3) := by decide +kernel
theorem md_F_finiteQuotient_113 : decode mc_F_finiteQuotient 113 = .ok (.isub, 1) := by decide +kernel
theorem md_F_finiteQuotient_114 : decode mc_F_finiteQuotient 114 = .ok (.iload 7, 2) := by decide +kernel
theorem md_F_finiteQuotient_116 : decode mc_F_finiteQuotient 116 = .ok (.iadd, 1) := by decide +kernel
theorem md_F_finiteQuotient_117 : decode mc_F_finiteQuotient 117 = .ok (.bipush 60, 2) := by decide +kernel
theorem md_F_finiteQuotient_119 : decode mc_F_finiteQuotient 119 = .ok (.isub, 1) := by decide +kernel
theorem md_F_finiteQuotient_120 : decode mc_F_finiteQuotient 120 = .ok (.istore 16, 2) := by decide +kernel
theorem md_F_finiteQuotient_122 : decode mc_F_finiteQuotient 122 = .ok (.aload_n 0, 1) := by decide +kernel
theorem md_F_finiteQuotient_123 : decode mc_F_finiteQuotient 123 = .ok (.iload_n 1, 1) := by decide +kernel
theorem md_F_finiteQuotient_124 : decode mc_F_finiteQuotient 124 = .ok (.lload 12, 2) := by decide +kernel
theorem md_F_finiteQuotient_126 : decode mc_F_finiteQuotient 126 = .ok (.lload 14, 2) := by decide +kernel
theorem md_F_finiteQuotient_128 : decode mc_F_finiteQuotient 128 = .ok (.invokestatic 117, 3) := by decide +kernel
theorem md_F_finiteQuotient_131 : decode mc_F_finiteQuotient 131 = .ok (.iload 16, 2) := by decide +kernel
theorem md_F_finiteQuotient_133 : decode mc_F_finiteQuotient 133 = .ok (.invokevirtual 103, 3) := by decide +kernel
theorem md_F_finiteQuotient_136 : decode mc_F_finiteQuotient 136 = .ok (.lreturn, 1) := by decide +kernel
abbrev mc_F_remainder : ByteArray := prog_2_method_26_code
def my_F_remainder : MethodName := ⟨"NumberProbe$Format", "remainder", "(JJ)J"⟩
abbrev mw_F_remainder : List Cond := Cond.code my_F_remainder mc_F_remainder 10 (some .long) :: gw_tbl
theorem md_F_remainder_0 : decode mc_F_remainder 0 = .ok (.aload_n 0, 1) := by decide +kernel
theorem md_F_remainder_1 : decode mc_F_remainder 1 = .ok (.lload_n 1, 1) := by decide +kernel
theorem md_F_remainder_2 : decode mc_F_remainder 2 = .ok (.invokevirtual 49, 3) := by decide +kernel
theorem md_F_remainder_5 : decode mc_F_remainder 5 = .ok (.ifCond .ne 27, 3) := by decide +kernel
theorem md_F_remainder_8 : decode mc_F_remainder 8 = .ok (.aload_n 0, 1) := by decide +kernel
theorem md_F_remainder_9 : decode mc_F_remainder 9 = .ok (.lload_n 3, 1) := by decide +kernel
theorem md_F_remainder_10 : decode mc_F_remainder 10 = .ok (.invokevirtual 49, 3) := by decide +kernel
theorem md_F_remainder_13 : decode mc_F_remainder 13 = .ok (.ifCond .ne 19, 3) := by decide +kernel
theorem md_F_remainder_16 : decode mc_F_remainder 16 = .ok (.aload_n 0, 1) := by decide +kernel
theorem md_F_remainder_17 : decode mc_F_remainder 17 = .ok (.lload_n 1, 1) := by decide +kernel
theorem md_F_remainder_18 : decode mc_F_remainder 18 = .ok (.invokevirtual 86, 3) := by decide +kernel
theorem md_F_remainder_21 : decode mc_F_remainder 21 = .ok (.ifCond .ne 11, 3) := by decide +kernel
theorem md_F_remainder_24 : decode mc_F_remainder 24 = .ok (.aload_n 0, 1) := by decide +kernel
theorem md_F_remainder_25 : decode mc_F_remainder 25 = .ok (.lload_n 3, 1) := by decide +kernel
theorem md_F_remainder_26 : decode mc_F_remainder 26 = .ok (.invokevirtual 80, 3) := by decide +kernel
theorem md_F_remainder_29 : decode mc_F_remainder 29 = .ok (.ifCond .eq 8, 3) := by decide +kernel
theorem md_F_remainder_32 : decode mc_F_remainder 32 = .ok (.aload_n 0, 1) := by decide +kernel
theorem md_F_remainder_33 : decode mc_F_remainder 33 = .ok (.getfield 46, 3) := by decide +kernel
theorem md_F_remainder_36 : decode mc_F_remainder 36 = .ok (.lreturn, 1) := by decide +kernel
theorem md_F_remainder_37 : decode mc_F_remainder 37 = .ok (.aload_n 0, 1) := by decide +kernel
theorem md_F_remainder_38 : decode mc_F_remainder 38 = .ok (.lload_n 1, 1) := by decide +kernel
theorem md_F_remainder_39 : decode mc_F_remainder 39 = .ok (.invokevirtual 53, 3) := by decide +kernel
theorem md_F_remainder_42 : decode mc_F_remainder 42 = .ok (.aload_n 0, 1) := by decide +kernel
theorem md_F_remainder_43 : decode mc_F_remainder 43 = .ok (.lload_n 3, 1) := by decide +kernel
theorem md_F_remainder_44 : decode mc_F_remainder 44 = .ok (.invokevirtual 53, 3) := by decide +kernel
theorem md_F_remainder_47 : decode mc_F_remainder 47 = .ok (.lcmp, 1) := by decide +kernel
theorem md_F_remainder_48 : decode mc_F_remainder 48 = .ok (.ifCond .ge 5, 3) := by decide +kernel
theorem md_F_remainder_51 : decode mc_F_remainder 51 = .ok (.lload_n 1, 1) := by decide +kernel
theorem md_F_remainder_52 : decode mc_F_remainder 52 = .ok (.lreturn, 1) := by decide +kernel
theorem md_F_remainder_53 : decode mc_F_remainder 53 = .ok (.aload_n 0, 1) := by decide +kernel
theorem md_F_remainder_54 : decode mc_F_remainder 54 = .ok (.lload_n 3, 1) := by decide +kernel
theorem md_F_remainder_55 : decode mc_F_remainder 55 = .ok (.invokevirtual 96, 3) := by decide +kernel
theorem md_F_remainder_58 : decode mc_F_remainder 58 = .ok (.lstore 5, 2) := by decide +kernel
theorem md_F_remainder_60 : decode mc_F_remainder 60 = .ok (.aload_n 0, 1) := by decide +kernel
theorem md_F_remainder_61 : decode mc_F_remainder 61 = .ok (.lload_n 1, 1) := by decide +kernel
theorem md_F_remainder_62 : decode mc_F_remainder 62 = .ok (.invokevirtual 96, 3) := by decide +kernel
theorem md_F_remainder_65 : decode mc_F_remainder 65 = .ok (.lload 5, 2) := by decide +kernel
theorem md_F_remainder_67 : decode mc_F_remainder 67 = .ok (.lrem, 1) := by decide +kernel
theorem md_F_remainder_68 : decode mc_F_remainder 68 = .ok (.lstore 7, 2) := by decide +kernel
theorem md_F_remainder_70 : decode mc_F_remainder 70 = .ok (.aload_n 0, 1) := by decide +kernel
theorem md_F_remainder_71 : decode mc_F_remainder 71 = .ok (.lload_n 1, 1) := by decide +kernel
theorem md_F_remainder_72 : decode mc_F_remainder 72 = .ok (.invokevirtual 93, 3) := by decide +kernel
theorem md_F_remainder_75 : decode mc_F_remainder 75 = .ok (.aload_n 0, 1) := by decide +kernel
theorem md_F_remainder_76 : decode mc_F_remainder 76 = .ok (.lload_n 3, 1) := by decide +kernel
theorem md_F_remainder_77 : decode mc_F_remainder 77 = .ok (.invokevirtual 93, 3) := by decide +kernel
theorem md_F_remainder_80 : decode mc_F_remainder 80 = .ok (.isub, 1) := by decide +kernel
theorem md_F_remainder_81 : decode mc_F_remainder 81 = .ok (.istore 9, 2) := by decide +kernel
theorem md_F_remainder_83 : decode mc_F_remainder 83 = .ok (.iload 9, 2) := by decide +kernel
theorem md_F_remainder_85 : decode mc_F_remainder 85 = .ok (.ifCond .le 24, 3) := by decide +kernel
theorem md_F_remainder_88 : decode mc_F_remainder 88 = .ok (.lload 7, 2) := by decide +kernel
theorem md_F_remainder_90 : decode mc_F_remainder 90 = .ok (.iload 9, 2) := by decide +kernel
theorem md_F_remainder_92 : decode mc_F_remainder 92 = .ok (.bipush 10, 2) := by decide +kernel
theorem md_F_remainder_94 : decode mc_F_remainder 94 = .ok (.invokestatic 123, 3) := by decide +kernel
theorem md_F_remainder_97 : decode mc_F_remainder 97 = .ok (.lshl, 1) := by decide +kernel
theorem md_F_remainder_98 : decode mc_F_remainder 98 = .ok (.lload 5, 2) := by decide +kernel
theorem md_F_remainder_100 : decode mc_F_remainder 100 = .ok (.lrem, 1) := by decide +kernel
theorem md_F_remainder_101 : decode mc_F_remainder 101 = .ok (.lstore 7, 2) := by decide +kernel
theorem md_F_remainder_103 : decode mc_F_remainder 103 = .ok (.iinc 9 (-10), 3) := by decide +kernel
theorem md_F_remainder_106 : decode mc_F_remainder 106 = .ok (.goto (-23), 3) := by decide +kernel
theorem md_F_remainder_109 : decode mc_F_remainder 109 = .ok (.aload_n 0, 1) := by decide +kernel
theorem md_F_remainder_110 : decode mc_F_remainder 110 = .ok (.lload_n 1, 1) := by decide +kernel
theorem md_F_remainder_111 : decode mc_F_remainder 111 = .ok (.lconst 0, 1) := by decide +kernel
theorem md_F_remainder_112 : decode mc_F_remainder 112 = .ok (.lcmp, 1) := by decide +kernel
theorem md_F_remainder_113 : decode mc_F_remainder 113 = .ok (.ifCond .ge 7, 3) := by decide +kernel
theorem md_F_remainder_116 : decode mc_F_remainder 116 = .ok (.iconst 1, 1) := by decide +kernel
theorem md_F_remainder_117 : decode mc_F_remainder 117 = .ok (.goto 4, 3) := by decide +kernel
theorem md_F_remainder_120 : decode mc_F_remainder 120 = .ok (.iconst 0, 1) := by decide +kernel
theorem md_F_remainder_121 : decode mc_F_remainder 121 = .ok (.lload 7, 2) := by decide +kernel
theorem md_F_remainder_123 : decode mc_F_remainder 123 = .ok (.aload_n 0, 1) := by decide +kernel
theorem md_F_remainder_124 : decode mc_F_remainder 124 = .ok (.lload_n 3, 1) := by decide +kernel
theorem md_F_remainder_125 : decode mc_F_remainder 125 = .ok (.invokevirtual 93, 3) := by decide +kernel
theorem md_F_remainder_128 : decode mc_F_remainder 128 = .ok (.invokevirtual 103, 3) := by decide +kernel
theorem md_F_remainder_131 : decode mc_F_remainder 131 = .ok (.lreturn, 1) := by decide +kernel
abbrev mc_F_nearestTo : ByteArray := prog_2_method_27_code
def my_F_nearestTo : MethodName := ⟨"NumberProbe$Format", "nearestTo", "(LNumberProbe$Format;J)J"⟩
abbrev mw_F_nearestTo : List Cond := Cond.code my_F_nearestTo mc_F_nearestTo 4 (some .long) :: gw_tbl
theorem md_F_nearestTo_0 : decode mc_F_nearestTo 0 = .ok (.aload_n 1, 1) := by decide +kernel
theorem md_F_nearestTo_1 : decode mc_F_nearestTo 1 = .ok (.lload_n 2, 1) := by decide +kernel
theorem md_F_nearestTo_2 : decode mc_F_nearestTo 2 = .ok (.invokevirtual 49, 3) := by decide +kernel
theorem md_F_nearestTo_5 : decode mc_F_nearestTo 5 = .ok (.ifCond .eq 8, 3) := by decide +kernel
theorem md_F_nearestTo_8 : decode mc_F_nearestTo 8 = .ok (.aload_n 0, 1) := by decide +kernel
theorem md_F_nearestTo_9 : decode mc_F_nearestTo 9 = .ok (.getfield 46, 3) := by decide +kernel
theorem md_F_nearestTo_12 : decode mc_F_nearestTo 12 = .ok (.lreturn, 1) := by decide +kernel
theorem md_F_nearestTo_13 : decode mc_F_nearestTo 13 = .ok (.aload_n 1, 1) := by decide +kernel
theorem md_F_nearestTo_14 : decode mc_F_nearestTo 14 = .ok (.lload_n 2, 1) := by decide +kernel
theorem md_F_nearestTo_15 : decode mc_F_nearestTo 15 = .ok (.invokevirtual 86, 3) := by decide +kernel
theorem md_F_nearestTo_18 : decode mc_F_nearestTo 18 = .ok (.ifCond .eq 23, 3) := by decide +kernel
theorem md_F_nearestTo_21 : decode mc_F_nearestTo 21 = .ok (.aload_n 0, 1) := by decide +kernel
theorem md_F_nearestTo_22 : decode mc_F_nearestTo 22 = .ok (.lload_n 2, 1) := by decide +kernel
theorem md_F_nearestTo_23 : decode mc_F_nearestTo 23 = .ok (.lconst 0, 1) := by decide +kernel
theorem md_F_nearestTo_24 : decode mc_F_nearestTo 24 = .ok (.lcmp, 1) := by decide +kernel
theorem md_F_nearestTo_25 : decode mc_F_nearestTo 25 = .ok (.ifCond .ge 7, 3) := by decide +kernel
theorem md_F_nearestTo_28 : decode mc_F_nearestTo 28 = .ok (.iconst 1, 1) := by decide +kernel
theorem md_F_nearestTo_29 : decode mc_F_nearestTo 29 = .ok (.goto 4, 3) := by decide +kernel
theorem md_F_nearestTo_32 : decode mc_F_nearestTo 32 = .ok (.iconst 0, 1) := by decide +kernel
theorem md_F_nearestTo_33 : decode mc_F_nearestTo 33 = .ok (.aload_n 0, 1) := by decide +kernel
theorem md_F_nearestTo_34 : decode mc_F_nearestTo 34 = .ok (.getfield 43, 3) := by decide +kernel
theorem md_F_nearestTo_37 : decode mc_F_nearestTo 37 = .ok (.invokevirtual 57, 3) := by decide +kernel
theorem md_F_nearestTo_40 : decode mc_F_nearestTo 40 = .ok (.lreturn, 1) := by decide +kernel
theorem md_F_nearestTo_41 : decode mc_F_nearestTo 41 = .ok (.aload_n 0, 1) := by decide +kernel
theorem md_F_nearestTo_42 : decode mc_F_nearestTo 42 = .ok (.lload_n 2, 1) := by decide +kernel
theorem md_F_nearestTo_43 : decode mc_F_nearestTo 43 = .ok (.lconst 0, 1) := by decide +kernel
theorem md_F_nearestTo_44 : decode mc_F_nearestTo 44 = .ok (.lcmp, 1) := by decide +kernel
theorem md_F_nearestTo_45 : decode mc_F_nearestTo 45 = .ok (.ifCond .ge 7, 3) := by decide +kernel
theorem md_F_nearestTo_48 : decode mc_F_nearestTo 48 = .ok (.iconst 1, 1) := by decide +kernel
theorem md_F_nearestTo_49 : decode mc_F_nearestTo 49 = .ok (.goto 4, 3) := by decide +kernel
theorem md_F_nearestTo_52 : decode mc_F_nearestTo 52 = .ok (.iconst 0, 1) := by decide +kernel
theorem md_F_nearestTo_53 : decode mc_F_nearestTo 53 = .ok (.aload_n 1, 1) := by decide +kernel
theorem md_F_nearestTo_54 : decode mc_F_nearestTo 54 = .ok (.lload_n 2, 1) := by decide +kernel
theorem md_F_nearestTo_55 : decode mc_F_nearestTo 55 = .ok (.invokevirtual 96, 3) := by decide +kernel
theorem md_F_nearestTo_58 : decode mc_F_nearestTo 58 = .ok (.aload_n 1, 1) := by decide +kernel
theorem md_F_nearestTo_59 : decode mc_F_nearestTo 59 = .ok (.lload_n 2, 1) := by decide +kernel
theorem md_F_nearestTo_60 : decode mc_F_nearestTo 60 = .ok (.invokevirtual 93, 3) := by decide +kernel
theorem md_F_nearestTo_63 : decode mc_F_nearestTo 63 = .ok (.invokevirtual 103, 3) := by decide +kernel
theorem md_F_nearestTo_66 : decode mc_F_nearestTo 66 = .ok (.lreturn, 1) := by decide +kernel
abbrev mc_F_nearestToWhole : ByteArray := prog_2_method_28_code
def my_F_nearestToWhole : MethodName := ⟨"NumberProbe$Format", "nearestToWhole", "(J)J"⟩
abbrev mw_F_nearestToWhole : List Cond := Cond.code my_F_nearestToWhole mc_F_nearestToWhole 5 (some .long) :: gw_tbl
theorem md_F_nearestToWhole_0 : decode mc_F_nearestToWhole 0 = .ok (.lload_n 1, 1) := by decide +kernel
theorem md_F_nearestToWhole_1 : decode mc_F_nearestToWhole 1 = .ok (.lconst 0, 1) := by decide +kernel
theorem md_F_nearestToWhole_2 : decode mc_F_nearestToWhole 2 = .ok (.lcmp, 1) := by decide +kernel
theorem md_F_nearestToWhole_3 : decode mc_F_nearestToWhole 3 = .ok (.ifCond .ge 8, 3) := by decide +kernel
theorem md_F_nearestToWhole_6 : decode mc_F_nearestToWhole 6 = .ok (.lload_n 1, 1) := by decide +kernel
theorem md_F_nearestToWhole_7 : decode mc_F_nearestToWhole 7 = .ok (.lneg, 1) := by decide +kernel
theorem md_F_nearestToWhole_8 : decode mc_F_nearestToWhole 8 = .ok (.goto 4, 3) := by decide +kernel
theorem md_F_nearestToWhole_11 : decode mc_F_nearestToWhole 11 = .ok (.lload_n 1, 1) := by decide +kernel
theorem md_F_nearestToWhole_12 : decode mc_F_nearestToWhole 12 = .ok (.lstore_n 3, 1) := by decide +kernel
theorem md_F_nearestToWhole_13 : decode mc_F_nearestToWhole 13 = .ok (.lload_n 3, 1) := by decide +kernel
theorem md_F_nearestToWhole_14 : decode mc_F_nearestToWhole 14 = .ok (.lconst 0, 1) := by decide +kernel
theorem md_F_nearestToWhole_15 : decode mc_F_nearestToWhole 15 = .ok (.lcmp, 1) := by decide +kernel
theorem md_F_nearestToWhole_16 : decode mc_F_nearestToWhole 16 = .ok (.ifCond .ge 15, 3) := by decide +kernel
theorem md_F_nearestToWhole_19 : decode mc_F_nearestToWhole 19 = .ok (.aload_n 0, 1) := by decide +kernel
theorem md_F_nearestToWhole_20 : decode mc_F_nearestToWhole 20 = .ok (.iconst 1, 1) := by decide +kernel
theorem md_F_nearestToWhole_21 : decode mc_F_nearestToWhole 21 = .ok (.lload_n 3, 1) := by decide +kernel
theorem md_F_nearestToWhole_22 : decode mc_F_nearestToWhole 22 = .ok (.iconst 1, 1) := by decide +kernel
theorem md_F_nearestToWhole_23 : decode mc_F_nearestToWhole 23 = .ok (.lushr, 1) := by decide +kernel
theorem md_F_nearestToWhole_24 : decode mc_F_nearestToWhole 24 = .ok (.iconst 1, 1) := by decide +kernel
theorem md_F_nearestToWhole_25 : decode mc_F_nearestToWhole 25 = .ok (.invokevirtual 103, 3) := by decide +kernel
theorem md_F_nearestToWhole_28 : decode mc_F_nearestToWhole 28 = .ok (.goto 20, 3) := by decide +kernel
theorem md_F_nearestToWhole_31 : decode mc_F_nearestToWhole 31 = .ok (.aload_n 0, 1) := by decide +kernel
theorem md_F_nearestToWhole_32 : decode mc_F_nearestToWhole 32 = .ok (.lload_n 1, 1) := by decide +kernel
theorem md_F_nearestToWhole_33 : decode mc_F_nearestToWhole 33 = .ok (.lconst 0, 1) := by decide +kernel
theorem md_F_nearestToWhole_34 : decode mc_F_nearestToWhole 34 = .ok (.lcmp, 1) := by decide +kernel
theorem md_F_nearestToWhole_35 : decode mc_F_nearestToWhole 35 = .ok (.ifCond .ge 7, 3) := by decide +kernel
theorem md_F_nearestToWhole_38 : decode mc_F_nearestToWhole 38 = .ok (.iconst 1, 1) := by decide +kernel
theorem md_F_nearestToWhole_39 : decode mc_F_nearestToWhole 39 = .ok (.goto 4, 3) := by decide +kernel
theorem md_F_nearestToWhole_42 : decode mc_F_nearestToWhole 42 = .ok (.iconst 0, 1) := by decide +kernel
theorem md_F_nearestToWhole_43 : decode mc_F_nearestToWhole 43 = .ok (.lload_n 3, 1) := by decide +kernel
theorem md_F_nearestToWhole_44 : decode mc_F_nearestToWhole 44 = .ok (.iconst 0, 1) := by decide +kernel
theorem md_F_nearestToWhole_45 : decode mc_F_nearestToWhole 45 = .ok (.invokevirtual 103, 3) := by decide +kernel
theorem md_F_nearestToWhole_48 : decode mc_F_nearestToWhole 48 = .ok (.lreturn, 1) := by decide +kernel
abbrev mc_F_towardsZero : ByteArray := prog_2_method_29_code
def my_F_towardsZero : MethodName := ⟨"NumberProbe$Format", "towardsZero", "(J)J"⟩
abbrev mw_F_towardsZero : List Cond := Cond.code my_F_towardsZero mc_F_towardsZero 8 (some .long) :: gw_tbl
theorem md_F_towardsZero_0 : decode mc_F_towardsZero 0 = .ok (.aload_n 0, 1) := by decide +kernel
theorem md_F_towardsZero_1 : decode mc_F_towardsZero 1 = .ok (.lload_n 1, 1) := by decide +kernel
theorem md_F_towardsZero_2 : decode mc_F_towardsZero 2 = .ok (.invokevirtual 49, 3) := by decide +kernel
theorem md_F_towardsZero_5 : decode mc_F_towardsZero 5 = .ok (.ifCond .eq 5, 3) := by decide +kernel
theorem md_F_towardsZero_8 : decode mc_F_towardsZero 8 = .ok (.lconst 0, 1) := by decide +kernel
theorem md_F_towardsZero_9 : decode mc_F_towardsZero 9 = .ok (.lreturn, 1) := by decide +kernel
theorem md_F_towardsZero_10 : decode mc_F_towardsZero 10 = .ok (.aload_n 0, 1) := by decide +kernel
theorem md_F_towardsZero_11 : decode mc_F_towardsZero 11 = .ok (.lload_n 1, 1) := by decide +kernel
theorem md_F_towardsZero_12 : decode mc_F_towardsZero 12 = .ok (.invokevirtual 96, 3) := by decide +kernel
theorem md_F_towardsZero_15 : decode mc_F_towardsZero 15 = .ok (.lstore_n 3, 1) := by decide +kernel
theorem md_F_towardsZero_16 : decode mc_F_towardsZero 16 = .ok (.aload_n 0, 1) := by decide +kernel
theorem md_F_towardsZero_17 : decode mc_F_towardsZero 17 = .ok (.lload_n 1, 1) := by decide +kernel
theorem md_F_towardsZero_18 : decode mc_F_towardsZero 18 = .ok (.invokevirtual 93, 3) := by decide +kernel
theorem md_F_towardsZero_21 : decode mc_F_towardsZero 21 = .ok (.istore 5, 2) := by decide +kernel
theorem md_F_towardsZero_23 : decode mc_F_towardsZero 23 = .ok (.iload 5, 2) := by decide +kernel
theorem md_F_towardsZero_25 : decode mc_F_towardsZero 25 = .ok (.lload_n 3, 1) := by decide +kernel
theorem md_F_towardsZero_26 : decode mc_F_towardsZero 26 = .ok (.invokestatic 73, 3) := by decide +kernel
theorem md_F_towardsZero_29 : decode mc_F_towardsZero 29 = .ok (.if_icmp .lt 19, 3) := by decide +kernel
theorem md_F_towardsZero_32 : decode mc_F_towardsZero 32 = .ok (.lload_n 1, 1) := by decide +kernel
theorem md_F_towardsZero_33 : decode mc_F_towardsZero 33 = .ok (.lconst 0, 1) := by decide +kernel
theorem md_F_towardsZero_34 : decode mc_F_towardsZero 34 = .ok (.lcmp, 1) := by decide +kernel
theorem md_F_towardsZero_35 : decode mc_F_towardsZero 35 = .ok (.ifCond .ge 9, 3) := by decide +kernel
theorem md_F_towardsZero_38 : decode mc_F_towardsZero 38 = .ok (.ldc2_w 126, 3) := by decide +kernel
theorem md_F_towardsZero_41 : decode mc_F_towardsZero 41 = .ok (.goto 6, 3) := by decide +kernel
theorem md_F_towardsZero_44 : decode mc_F_towardsZero 44 = .ok (.ldc2_w 128, 3) := by decide +kernel
theorem md_F_towardsZero_47 : decode mc_F_towardsZero 47 = .ok (.lreturn, 1) := by decide +kernel
theorem md_F_towardsZero_48 : decode mc_F_towardsZero 48 = .ok (.iload 5, 2) := by decide +kernel
theorem md_F_towardsZero_50 : decode mc_F_towardsZero 50 = .ok (.ifCond .lt 12, 3) := by decide +kernel
theorem md_F_towardsZero_53 : decode mc_F_towardsZero 53 = .ok (.lload_n 3, 1) := by decide +kernel
theorem md_F_towardsZero_54 : decode mc_F_towardsZero 54 = .ok (.iload 5, 2) := by decide +kernel
theorem md_F_towardsZero_56 : decode mc_F_towardsZero 56 = .ok (.lshl, 1) := by decide +kernel
theorem md_F_towardsZero_57 : decode mc_F_towardsZero 57 = .ok (.lstore 6, 2) := by decide +kernel
theorem md_F_towardsZero_59 : decode mc_F_towardsZero 59 = .ok (.goto 21, 3) := by decide +kernel
theorem md_F_towardsZero_62 : decode mc_F_towardsZero 62 = .ok (.iload 5, 2) := by decide +kernel
theorem md_F_towardsZero_64 : decode mc_F_towardsZero 64 = .ok (.bipush (-64), 2) := by decide +kernel
theorem md_F_towardsZero_66 : decode mc_F_towardsZero 66 = .ok (.if_icmp .le 11, 3) := by decide +kernel
theorem md_F_towardsZero_69 : decode mc_F_towardsZero 69 = .ok (.lload_n 3, 1) := by decide +kernel
theorem md_F_towardsZero_70 : decode mc_F_towardsZero 70 = .ok (.iload 5, 2) := by decide +kernel
theorem md_F_towardsZero_72 : decode mc_F_towardsZero 72 = .ok (.ineg, 1) := by decide +kernel
theorem md_F_towardsZero_73 : decode mc_F_towardsZero 73 = .ok (.lushr, 1) := by decide +kernel
theorem md_F_towardsZero_74 : decode mc_F_towardsZero 74 = .ok (.goto 4, 3) := by decide +kernel
theorem md_F_towardsZero_77 : decode mc_F_towardsZero 77 = .ok (.lconst 0, 1) := by decide +kernel
theorem md_F_towardsZero_78 : decode mc_F_towardsZero 78 = .ok (.lstore 6, 2) := by decide +kernel
theorem md_F_towardsZero_80 : decode mc_F_towardsZero 80 = .ok (.lload_n 1, 1) := by decide +kernel
theorem md_F_towardsZero_81 : decode mc_F_towardsZero 81 = .ok (.lconst 0, 1) := by decide +kernel
theorem md_F_towardsZero_82 : decode mc_F_towardsZero 82 = .ok (.lcmp, 1) := by decide +kernel
theorem md_F_towardsZero_83 : decode mc_F_towardsZero 83 = .ok (.ifCond .ge 9, 3) := by decide +kernel
theorem md_F_towardsZero_86 : decode mc_F_towardsZero 86 = .ok (.lload 6, 2) := by decide +kernel
theorem md_F_towardsZero_88 : decode mc_F_towardsZero 88 = .ok (.lneg, 1) := by decide +kernel
theorem md_F_towardsZero_89 : decode mc_F_towardsZero 89 = .ok (.goto 5, 3) := by decide +kernel
theorem md_F_towardsZero_92 : decode mc_F_towardsZero 92 = .ok (.lload 6, 2) := by decide +kernel
theorem md_F_towardsZero_94 : decode mc_F_towardsZero 94 = .ok (.lreturn, 1) := by decide +kernel
abbrev mc_F_traits : ByteArray := prog_2_method_30_code
def my_F_traits : MethodName := ⟨"NumberProbe$Format", "traits", "(J)I"⟩
abbrev mw_F_traits : List Cond := Cond.code my_F_traits mc_F_traits 4 (some .int) :: gw_tbl
theorem md_F_traits_0 : decode mc_F_traits 0 = .ok (.aload_n 0, 1) := by decide +kernel
theorem md_F_traits_1 : decode mc_F_traits 1 = .ok (.lload_n 1, 1) := by decide +kernel
theorem md_F_traits_2 : decode mc_F_traits 2 = .ok (.invokevirtual 49, 3) := by decide +kernel
theorem md_F_traits_5 : decode mc_F_traits 5 = .ok (.ifCond .eq 5, 3) := by decide +kernel
theorem md_F_traits_8 : decode mc_F_traits 8 = .ok (.iconst 1, 1) := by decide +kernel
theorem md_F_traits_9 : decode mc_F_traits 9 = .ok (.ireturn, 1) := by decide +kernel
theorem md_F_traits_10 : decode mc_F_traits 10 = .ok (.lload_n 1, 1) := by decide +kernel
theorem md_F_traits_11 : decode mc_F_traits 11 = .ok (.lconst 0, 1) := by decide +kernel
theorem md_F_traits_12 : decode mc_F_traits 12 = .ok (.lcmp, 1) := by decide +kernel
theorem md_F_traits_13 : decode mc_F_traits 13 = .ok (.ifCond .ge 8, 3) := by decide +kernel
theorem md_F_traits_16 : decode mc_F_traits 16 = .ok (.bipush 32, 2) := by decide +kernel
theorem md_F_traits_18 : decode mc_F_traits 18 = .ok (.goto 4, 3) := by decide +kernel
theorem md_F_traits_21 : decode mc_F_traits 21 = .ok (.iconst 0, 1) := by decide +kernel
theorem md_F_traits_22 : decode mc_F_traits 22 = .ok (.istore_n 3, 1) := by decide +kernel
theorem md_F_traits_23 : decode mc_F_traits 23 = .ok (.aload_n 0, 1) := by decide +kernel
theorem md_F_traits_24 : decode mc_F_traits 24 = .ok (.lload_n 1, 1) := by decide +kernel
theorem md_F_traits_25 : decode mc_F_traits 25 = .ok (.invokevirtual 86, 3) := by decide +kernel
theorem md_F_traits_28 : decode mc_F_traits 28 = .ok (.ifCond .eq 7, 3) := by decide +kernel
theorem md_F_traits_31 : decode mc_F_traits 31 = .ok (.iload_n 3, 1) := by decide +kernel
theorem md_F_traits_32 : decode mc_F_traits 32 = .ok (.iconst 2, 1) := by decide +kernel
theorem md_F_traits_33 : decode mc_F_traits 33 = .ok (.ior, 1) := by decide +kernel
theorem md_F_traits_34 : decode mc_F_traits 34 = .ok (.ireturn, 1) := by decide +kernel
theorem md_F_traits_35 : decode mc_F_traits 35 = .ok (.aload_n 0, 1) := by decide +kernel
theorem md_F_traits_36 : decode mc_F_traits 36 = .ok (.lload_n 1, 1) := by decide +kernel
theorem md_F_traits_37 : decode mc_F_traits 37 = .ok (.invokevirtual 80, 3) := by decide +kernel
theorem md_F_traits_40 : decode mc_F_traits 40 = .ok (.ifCond .eq 13, 3) := by decide +kernel
theorem md_F_traits_43 : decode mc_F_traits 43 = .ok (.iload_n 3, 1) := by decide +kernel
theorem md_F_traits_44 : decode mc_F_traits 44 = .ok (.iconst 4, 1) := by decide +kernel
theorem md_F_traits_45 : decode mc_F_traits 45 = .ok (.ior, 1) := by decide +kernel
theorem md_F_traits_46 : decode mc_F_traits 46 = .ok (.bipush 8, 2) := by decide +kernel
theorem md_F_traits_48 : decode mc_F_traits 48 = .ok (.ior, 1) := by decide +kernel
theorem md_F_traits_49 : decode mc_F_traits 49 = .ok (.bipush 64, 2) := by decide +kernel
theorem md_F_traits_51 : decode mc_F_traits 51 = .ok (.ior, 1) := by decide +kernel
theorem md_F_traits_52 : decode mc_F_traits 52 = .ok (.ireturn, 1) := by decide +kernel
theorem md_F_traits_53 : decode mc_F_traits 53 = .ok (.iload_n 3, 1) := by decide +kernel
theorem md_F_traits_54 : decode mc_F_traits 54 = .ok (.iconst 4, 1) := by decide +kernel
theorem md_F_traits_55 : decode mc_F_traits 55 = .ok (.ior, 1) := by decide +kernel
theorem md_F_traits_56 : decode mc_F_traits 56 = .ok (.aload_n 0, 1) := by decide +kernel
theorem md_F_traits_57 : decode mc_F_traits 57 = .ok (.lload_n 1, 1) := by decide +kernel
theorem md_F_traits_58 : decode mc_F_traits 58 = .ok (.invokevirtual 63, 3) := by decide +kernel
theorem md_F_traits_61 : decode mc_F_traits 61 = .ok (.ifCond .ne 8, 3) := by decide +kernel
theorem md_F_traits_64 : decode mc_F_traits 64 = .ok (.bipush 16, 2) := by decide +kernel
theorem md_F_traits_66 : decode mc_F_traits 66 = .ok (.goto 4, 3) := by decide +kernel
theorem md_F_traits_69 : decode mc_F_traits 69 = .ok (.iconst 0, 1) := by decide +kernel
theorem md_F_traits_70 : decode mc_F_traits 70 = .ok (.ior, 1) := by decide +kernel
theorem md_F_traits_71 : decode mc_F_traits 71 = .ok (.aload_n 0, 1) := by decide +kernel
theorem md_F_traits_72 : decode mc_F_traits 72 = .ok (.lload_n 1, 1) := by decide +kernel
theorem md_F_traits_73 : decode mc_F_traits 73 = .ok (.invokevirtual 130, 3) := by decide +kernel
theorem md_F_traits_76 : decode mc_F_traits 76 = .ok (.ifCond .eq 8, 3) := by decide +kernel
theorem md_F_traits_79 : decode mc_F_traits 79 = .ok (.bipush 64, 2) := by decide +kernel
theorem md_F_traits_81 : decode mc_F_traits 81 = .ok (.goto 4, 3) := by decide +kernel
theorem md_F_traits_84 : decode mc_F_traits 84 = .ok (.iconst 0, 1) := by decide +kernel
theorem md_F_traits_85 : decode mc_F_traits 85 = .ok (.ior, 1) := by decide +kernel
theorem md_F_traits_86 : decode mc_F_traits 86 = .ok (.lload_n 1, 1) := by decide +kernel
theorem md_F_traits_87 : decode mc_F_traits 87 = .ok (.lconst 0, 1) := by decide +kernel
theorem md_F_traits_88 : decode mc_F_traits 88 = .ok (.lcmp, 1) := by decide +kernel
theorem md_F_traits_89 : decode mc_F_traits 89 = .ok (.ifCond .le 21, 3) := by decide +kernel
theorem md_F_traits_92 : decode mc_F_traits 92 = .ok (.aload_n 0, 1) := by decide +kernel
theorem md_F_traits_93 : decode mc_F_traits 93 = .ok (.lload_n 1, 1) := by decide +kernel
theorem md_F_traits_94 : decode mc_F_traits 94 = .ok (.invokevirtual 96, 3) := by decide +kernel
theorem md_F_traits_97 : decode mc_F_traits 97 = .ok (.invokestatic 133, 3) := by decide +kernel
theorem md_F_traits_100 : decode mc_F_traits 100 = .ok (.iconst 1, 1) := by decide +kernel
theorem md_F_traits_101 : decode mc_F_traits 101 = .ok (.if_icmp .ne 9, 3) := by decide +kernel
theorem md_F_traits_104 : decode mc_F_traits 104 = .ok (.sipush 128, 3) := by decide +kernel
theorem md_F_traits_107 : decode mc_F_traits 107 = .ok (.goto 4, 3) := by decide +kernel
theorem md_F_traits_110 : decode mc_F_traits 110 = .ok (.iconst 0, 1) := by decide +kernel
theorem md_F_traits_111 : decode mc_F_traits 111 = .ok (.ior, 1) := by decide +kernel
theorem md_F_traits_112 : decode mc_F_traits 112 = .ok (.ireturn, 1) := by decide +kernel
abbrev mc_F_isWhole : ByteArray := prog_2_method_31_code
def my_F_isWhole : MethodName := ⟨"NumberProbe$Format", "isWhole", "(J)Z"⟩
abbrev mw_F_isWhole : List Cond := Cond.code my_F_isWhole mc_F_isWhole 3 (some .boolean) :: gw_tbl
theorem md_F_isWhole_0 : decode mc_F_isWhole 0 = .ok (.aload_n 0, 1) := by decide +kernel
theorem md_F_isWhole_1 : decode mc_F_isWhole 1 = .ok (.lload_n 1, 1) := by decide +kernel
theorem md_F_isWhole_2 : decode mc_F_isWhole 2 = .ok (.invokevirtual 93, 3) := by decide +kernel
theorem md_F_isWhole_5 : decode mc_F_isWhole 5 = .ok (.aload_n 0, 1) := by decide +kernel
theorem md_F_isWhole_6 : decode mc_F_isWhole 6 = .ok (.lload_n 1, 1) := by decide +kernel
theorem md_F_isWhole_7 : decode mc_F_isWhole 7 = .ok (.invokevirtual 96, 3) := by decide +kernel
theorem md_F_isWhole_10 : decode mc_F_isWhole 10 = .ok (.invokestatic 136, 3) := by decide +kernel
theorem md_F_isWhole_13 : decode mc_F_isWhole 13 = .ok (.iadd, 1) := by decide +kernel
theorem md_F_isWhole_14 : decode mc_F_isWhole 14 = .ok (.ifCond .lt 7, 3) := by decide +kernel
theorem md_F_isWhole_17 : decode mc_F_isWhole 17 = .ok (.iconst 1, 1) := by decide +kernel
theorem md_F_isWhole_18 : decode mc_F_isWhole 18 = .ok (.goto 4, 3) := by decide +kernel
theorem md_F_isWhole_21 : decode mc_F_isWhole 21 = .ok (.iconst 0, 1) := by decide +kernel
theorem md_F_isWhole_22 : decode mc_F_isWhole 22 = .ok (.ireturn, 1) := by decide +kernel
abbrev mc_F_rounded : ByteArray := prog_2_method_32_code
def my_F_rounded : MethodName := ⟨"NumberProbe$Format", "rounded", "(ZJI)J"⟩
abbrev mw_F_rounded : List Cond := Cond.code my_F_rounded mc_F_rounded 11 (some .long) :: gw_tbl
theorem md_F_rounded_0 : decode mc_F_rounded 0 = .ok (.lload_n 2, 1) := by decide +kernel
theorem md_F_rounded_1 : decode mc_F_rounded 1 = .ok (.lconst 0, 1) := by decide +kernel
theorem md_F_rounded_2 : decode mc_F_rounded 2 = .ok (.lcmp, 1) := by decide +kernel
theorem md_F_rounded_3 : decode mc_F_rounded 3 = .ok (.ifCond .ne 10, 3) := by decide +kernel
theorem md_F_rounded_6 : decode mc_F_rounded 6 = .ok (.aload_n 0, 1) := by decide +kernel
theorem md_F_rounded_7 : decode mc_F_rounded 7 = .ok (.iload_n 1, 1) := by decide +kernel
theorem md_F_rounded_8 : decode mc_F_rounded 8 = .ok (.lconst 0, 1) := by decide +kernel
theorem md_F_rounded_9 : decode mc_F_rounded 9 = .ok (.invokevirtual 57, 3) := by decide +kernel
theorem md_F_rounded_12 : decode mc_F_rounded 12 = .ok (.lreturn, 1) := by decide +kernel
theorem md_F_rounded_13 : decode mc_F_rounded 13 = .ok (.lload_n 2, 1) := by decide +kernel
theorem md_F_rounded_14 : decode mc_F_rounded 14 = .ok (.invokestatic 73, 3) := by decide +kernel
theorem md_F_rounded_17 : decode mc_F_rounded 17 = .ok (.iconst 1, 1) := by decide +kernel
theorem md_F_rounded_18 : decode mc_F_rounded 18 = .ok (.isub, 1) := by decide +kernel
theorem md_F_rounded_19 : decode mc_F_rounded 19 = .ok (.istore 5, 2) := by decide +kernel
theorem md_F_rounded_21 : decode mc_F_rounded 21 = .ok (.bipush 62, 2) := by decide +kernel
theorem md_F_rounded_23 : decode mc_F_rounded 23 = .ok (.aload_n 0, 1) := by decide +kernel
theorem md_F_rounded_24 : decode mc_F_rounded 24 = .ok (.getfield 29, 3) := by decide +kernel
theorem md_F_rounded_27 : decode mc_F_rounded 27 = .ok (.isub, 1) := by decide +kernel
theorem md_F_rounded_28 : decode mc_F_rounded 28 = .ok (.istore 6, 2) := by decide +kernel
theorem md_F_rounded_30 : decode mc_F_rounded 30 = .ok (.iload 4, 2) := by decide +kernel
theorem md_F_rounded_32 : decode mc_F_rounded 32 = .ok (.iload 5, 2) := by decide +kernel
theorem md_F_rounded_34 : decode mc_F_rounded 34 = .ok (.isub, 1) := by decide +kernel
theorem md_F_rounded_35 : decode mc_F_rounded 35 = .ok (.iload 6, 2) := by decide +kernel
theorem md_F_rounded_37 : decode mc_F_rounded 37 = .ok (.iadd, 1) := by decide +kernel
theorem md_F_rounded_38 : decode mc_F_rounded 38 = .ok (.istore 7, 2) := by decide +kernel
theorem md_F_rounded_40 : decode mc_F_rounded 40 = .ok (.iload 7, 2) := by decide +kernel
theorem md_F_rounded_42 : decode mc_F_rounded 42 = .ok (.aload_n 0, 1) := by decide +kernel
theorem md_F_rounded_43 : decode mc_F_rounded 43 = .ok (.getfield 36, 3) := by decide +kernel
theorem md_F_rounded_46 : decode mc_F_rounded 46 = .ok (.if_icmp .ge 21, 3) := by decide +kernel
theorem md_F_rounded_49 : decode mc_F_rounded 49 = .ok (.iload 6, 2) := by decide +kernel
theorem md_F_rounded_51 : decode mc_F_rounded 51 = .ok (.aload_n 0, 1) := by decide +kernel
theorem md_F_rounded_52 : decode mc_F_rounded 52 = .ok (.getfield 36, 3) := by decide +kernel
theorem md_F_rounded_55 : decode mc_F_rounded 55 = .ok (.iload 7, 2) := by decide +kernel
theorem md_F_rounded_57 : decode mc_F_rounded 57 = .ok (.isub, 1) := by decide +kernel
theorem md_F_rounded_58 : decode mc_F_rounded 58 = .ok (.iadd, 1) := by decide +kernel
theorem md_F_rounded_59 : decode mc_F_rounded 59 = .ok (.istore 6, 2) := by decide +kernel
theorem md_F_rounded_61 : decode mc_F_rounded 61 = .ok (.aload_n 0, 1) := by decide +kernel
theorem md_F_rounded_62 : decode mc_F_rounded 62 = .ok (.getfield 36, 3) := by decide +kernel
theorem md_F_rounded_65 : decode mc_F_rounded 65 = .ok (.istore 7, 2) := by decide +kernel
theorem md_F_rounded_67 : decode mc_F_rounded 67 = .ok (.iload 7, 2) := by decide +kernel
theorem md_F_rounded_69 : decode mc_F_rounded 69 = .ok (.aload_n 0, 1) := by decide +kernel
theorem md_F_rounded_70 : decode mc_F_rounded 70 = .ok (.getfield 36, 3) := by decide +kernel
theorem md_F_rounded_73 : decode mc_F_rounded 73 = .ok (.isub, 1) := by decide +kernel
theorem md_F_rounded_74 : decode mc_F_rounded 74 = .ok (.istore 8, 2) := by decide +kernel
theorem md_F_rounded_76 : decode mc_F_rounded 76 = .ok (.iload 8, 2) := by decide +kernel
theorem md_F_rounded_78 : decode mc_F_rounded 78 = .ok (.aload_n 0, 1) := by decide +kernel
theorem md_F_rounded_79 : decode mc_F_rounded 79 = .ok (.getfield 33, 3) := by decide +kernel
theorem md_F_rounded_82 : decode mc_F_rounded 82 = .ok (.iconst 1, 1) := by decide +kernel
theorem md_F_rounded_83 : decode mc_F_rounded 83 = .ok (.isub, 1) := by decide +kernel
theorem md_F_rounded_84 : decode mc_F_rounded 84 = .ok (.if_icmp .lt 13, 3) := by decide +kernel
theorem md_F_rounded_87 : decode mc_F_rounded 87 = .ok (.aload_n 0, 1) := by decide +kernel
theorem md_F_rounded_88 : decode mc_F_rounded 88 = .ok (.iload_n 1, 1) := by decide +kernel
theorem md_F_rounded_89 : decode mc_F_rounded 89 = .ok (.aload_n 0, 1) := by decide +kernel
theorem md_F_rounded_90 : decode mc_F_rounded 90 = .ok (.getfield 43, 3) := by decide +kernel
theorem md_F_rounded_93 : decode mc_F_rounded 93 = .ok (.invokevirtual 57, 3) := by decide +kernel
theorem md_F_rounded_96 : decode mc_F_rounded 96 = .ok (.lreturn, 1) := by decide +kernel
theorem md_F_rounded_97 : decode mc_F_rounded 97 = .ok (.iload 8, 2) := by decide +kernel
theorem md_F_rounded_99 : decode mc_F_rounded 99 = .ok (.i2l, 1) := by decide +kernel
theorem md_F_rounded_100 : decode mc_F_rounded 100 = .ok (.aload_n 0, 1) := by decide +kernel
theorem md_F_rounded_101 : decode mc_F_rounded 101 = .ok (.getfield 29, 3) := by decide +kernel
theorem md_F_rounded_104 : decode mc_F_rounded 104 = .ok (.lshl, 1) := by decide +kernel
theorem md_F_rounded_105 : decode mc_F_rounded 105 = .ok (.lload_n 2, 1) := by decide +kernel
theorem md_F_rounded_106 : decode mc_F_rounded 106 = .ok (.iload 5, 2) := by decide +kernel
theorem md_F_rounded_108 : decode mc_F_rounded 108 = .ok (.lshl, 1) := by decide +kernel
theorem md_F_rounded_109 : decode mc_F_rounded 109 = .ok (.iload 6, 2) := by decide +kernel
theorem md_F_rounded_111 : decode mc_F_rounded 111 = .ok (.invokestatic 139, 3) := by decide +kernel
theorem md_F_rounded_114 : decode mc_F_rounded 114 = .ok (.ladd, 1) := by decide +kernel
theorem md_F_rounded_115 : decode mc_F_rounded 115 = .ok (.lstore 9, 2) := by decide +kernel
theorem md_F_rounded_117 : decode mc_F_rounded 117 = .ok (.aload_n 0, 1) := by decide +kernel
theorem md_F_rounded_118 : decode mc_F_rounded 118 = .ok (.iload_n 1, 1) := by decide +kernel
theorem md_F_rounded_119 : decode mc_F_rounded 119 = .ok (.lload 9, 2) := by decide +kernel
theorem md_F_rounded_121 : decode mc_F_rounded 121 = .ok (.invokevirtual 57, 3) := by decide +kernel
theorem md_F_rounded_124 : decode mc_F_rounded 124 = .ok (.lreturn, 1) := by decide +kernel
abbrev mc_F_cutToEven : ByteArray := prog_2_method_33_code
def my_F_cutToEven : MethodName := ⟨"NumberProbe$Format", "cutToEven", "(JI)J"⟩
abbrev mw_F_cutToEven : List Cond := Cond.code my_F_cutToEven mc_F_cutToEven 10 (some .long) :: gw_tbl
theorem md_F_cutToEven_0 : decode mc_F_cutToEven 0 = .ok (.iload_n 2, 1) := by decide +kernel
theorem md_F_cutToEven_1 : decode mc_F_cutToEven 1 = .ok (.bipush 64, 2) := by decide +kernel
theorem md_F_cutToEven_3 : decode mc_F_cutToEven 3 = .ok (.if_icmp .lt 5, 3) := by decide +kernel
theorem md_F_cutToEven_6 : decode mc_F_cutToEven 6 = .ok (.lconst 0, 1) := by decide +kernel
theorem md_F_cutToEven_7 : decode mc_F_cutToEven 7 = .ok (.lreturn, 1) := by decide +kernel
theorem md_F_cutToEven_8 : decode mc_F_cutToEven 8 = .ok (.lload_n 0, 1) := by decide +kernel
theorem md_F_cutToEven_9 : decode mc_F_cutToEven 9 = .ok (.iload_n 2, 1) := by decide +kernel
theorem md_F_cutToEven_10 : decode mc_F_cutToEven 10 = .ok (.lushr, 1) := by decide +kernel
theorem md_F_cutToEven_11 : decode mc_F_cutToEven 11 = .ok (.lstore_n 3, 1) := by decide +kernel
theorem md_F_cutToEven_12 : decode mc_F_cutToEven 12 = .ok (.lload_n 0, 1) := by decide +kernel
theorem md_F_cutToEven_13 : decode mc_F_cutToEven 13 = .ok (.lload_n 3, 1) := by decide +kernel
theorem md_F_cutToEven_14 : decode mc_F_cutToEven 14 = .ok (.iload_n 2, 1) := by decide +kernel
theorem md_F_cutToEven_15 : decode mc_F_cutToEven 15 = .ok (.lshl, 1) := by decide +kernel
theorem md_F_cutToEven_16 : decode mc_F_cutToEven 16 = .ok (.lsub, 1) := by decide +kernel
theorem md_F_cutToEven_17 : decode mc_F_cutToEven 17 = .ok (.lstore 5, 2) := by decide +kernel
theorem md_F_cutToEven_19 : decode mc_F_cutToEven 19 = .ok (.lconst 1, 1) := by decide +kernel
theorem md_F_cutToEven_20 : decode mc_F_cutToEven 20 = .ok (.iload_n 2, 1) := by decide +kernel
theorem md_F_cutToEven_21 : decode mc_F_cutToEven 21 = .ok (.iconst 1, 1) := by decide +kernel
theorem md_F_cutToEven_22 : decode mc_F_cutToEven 22 = .ok (.isub, 1) := by decide +kernel
theorem md_F_cutToEven_23 : decode mc_F_cutToEven 23 = .ok (.lshl, 1) := by decide +kernel
theorem md_F_cutToEven_24 : decode mc_F_cutToEven 24 = .ok (.lstore 7, 2) := by decide +kernel
theorem md_F_cutToEven_26 : decode mc_F_cutToEven 26 = .ok (.lload 5, 2) := by decide +kernel
theorem md_F_cutToEven_28 : decode mc_F_cutToEven 28 = .ok (.lload 7, 2) := by decide +kernel
theorem md_F_cutToEven_30 : decode mc_F_cutToEven 30 = .ok (.lcmp, 1) := by decide +kernel
theorem md_F_cutToEven_31 : decode mc_F_cutToEven 31 = .ok (.ifCond .gt 19, 3) := by decide +kernel
theorem md_F_cutToEven_34 : decode mc_F_cutToEven 34 = .ok (.lload 5, 2) := by decide +kernel
theorem md_F_cutToEven_36 : decode mc_F_cutToEven 36 = .ok (.lload 7, 2) := by decide +kernel
theorem md_F_cutToEven_38 : decode mc_F_cutToEven 38 = .ok (.lcmp, 1) := by decide +kernel
theorem md_F_cutToEven_39 : decode mc_F_cutToEven 39 = .ok (.ifCond .ne 15, 3) := by decide +kernel
theorem md_F_cutToEven_42 : decode mc_F_cutToEven 42 = .ok (.lload_n 3, 1) := by decide +kernel
theorem md_F_cutToEven_43 : decode mc_F_cutToEven 43 = .ok (.lconst 1, 1) := by decide +kernel
theorem md_F_cutToEven_44 : decode mc_F_cutToEven 44 = .ok (.land, 1) := by decide +kernel
theorem md_F_cutToEven_45 : decode mc_F_cutToEven 45 = .ok (.lconst 1, 1) := by decide +kernel
theorem md_F_cutToEven_46 : decode mc_F_cutToEven 46 = .ok (.lcmp, 1) := by decide +kernel
theorem md_F_cutToEven_47 : decode mc_F_cutToEven 47 = .ok (.ifCond .ne 7, 3) := by decide +kernel
theorem md_F_cutToEven_50 : decode mc_F_cutToEven 50 = .ok (.iconst 1, 1) := by decide +kernel
theorem md_F_cutToEven_51 : decode mc_F_cutToEven 51 = .ok (.goto 4, 3) := by decide +kernel
theorem md_F_cutToEven_54 : decode mc_F_cutToEven 54 = .ok (.iconst 0, 1) := by decide +kernel
theorem md_F_cutToEven_55 : decode mc_F_cutToEven 55 = .ok (.istore 9, 2) := by decide +kernel
theorem md_F_cutToEven_57 : decode mc_F_cutToEven 57 = .ok (.iload 9, 2) := by decide +kernel
theorem md_F_cutToEven_59 : decode mc_F_cutToEven 59 = .ok (.ifCond .eq 9, 3) := by decide +kernel
theorem md_F_cutToEven_62 : decode mc_F_cutToEven 62 = .ok (.lload_n 3, 1) := by decide +kernel
theorem md_F_cutToEven_63 : decode mc_F_cutToEven 63 = .ok (.lconst 1, 1) := by decide +kernel
theorem md_F_cutToEven_64 : decode mc_F_cutToEven 64 = .ok (.ladd, 1) := by decide +kernel
theorem md_F_cutToEven_65 : decode mc_F_cutToEven 65 = .ok (.goto 4, 3) := by decide +kernel
theorem md_F_cutToEven_68 : decode mc_F_cutToEven 68 = .ok (.lload_n 3, 1) := by decide +kernel
theorem md_F_cutToEven_69 : decode mc_F_cutToEven 69 = .ok (.lreturn, 1) := by decide +kernel
abbrev mc_F_shiftedRight : ByteArray := prog_2_method_34_code
def my_F_shiftedRight : MethodName := ⟨"NumberProbe$Format", "shiftedRight", "(JI)J"⟩
abbrev mw_F_shiftedRight : List Cond := Cond.code my_F_shiftedRight mc_F_shiftedRight 5 (some .long) :: gw_tbl
theorem md_F_shiftedRight_0 : decode mc_F_shiftedRight 0 = .ok (.iload_n 2, 1) := by decide +kernel
theorem md_F_shiftedRight_1 : decode mc_F_shiftedRight 1 = .ok (.bipush 64, 2) := by decide +kernel
theorem md_F_shiftedRight_3 : decode mc_F_shiftedRight 3 = .ok (.if_icmp .lt 9, 3) := by decide +kernel
theorem md_F_shiftedRight_6 : decode mc_F_shiftedRight 6 = .ok (.lconst 0, 1) := by decide +kernel
theorem md_F_shiftedRight_7 : decode mc_F_shiftedRight 7 = .ok (.lload_n 0, 1) := by decide +kernel
theorem md_F_shiftedRight_8 : decode mc_F_shiftedRight 8 = .ok (.invokestatic 117, 3) := by decide +kernel
theorem md_F_shiftedRight_11 : decode mc_F_shiftedRight 11 = .ok (.lreturn, 1) := by decide +kernel
theorem md_F_shiftedRight_12 : decode mc_F_shiftedRight 12 = .ok (.lload_n 0, 1) := by decide +kernel
theorem md_F_shiftedRight_13 : decode mc_F_shiftedRight 13 = .ok (.iload_n 2, 1) := by decide +kernel
theorem md_F_shiftedRight_14 : decode mc_F_shiftedRight 14 = .ok (.lushr, 1) := by decide +kernel
theorem md_F_shiftedRight_15 : decode mc_F_shiftedRight 15 = .ok (.lstore_n 3, 1) := by decide +kernel
theorem md_F_shiftedRight_16 : decode mc_F_shiftedRight 16 = .ok (.lload_n 3, 1) := by decide +kernel
theorem md_F_shiftedRight_17 : decode mc_F_shiftedRight 17 = .ok (.lload_n 0, 1) := by decide +kernel
theorem md_F_shiftedRight_18 : decode mc_F_shiftedRight 18 = .ok (.lload_n 3, 1) := by decide +kernel
theorem md_F_shiftedRight_19 : decode mc_F_shiftedRight 19 = .ok (.iload_n 2, 1) := by decide +kernel
theorem md_F_shiftedRight_20 : decode mc_F_shiftedRight 20 = .ok (.lshl, 1) := by decide +kernel
theorem md_F_shiftedRight_21 : decode mc_F_shiftedRight 21 = .ok (.lsub, 1) := by decide +kernel
theorem md_F_shiftedRight_22 : decode mc_F_shiftedRight 22 = .ok (.invokestatic 117, 3) := by decide +kernel
theorem md_F_shiftedRight_25 : decode mc_F_shiftedRight 25 = .ok (.lreturn, 1) := by decide +kernel
abbrev mc_F_withRest : ByteArray := prog_2_method_35_code
def my_F_withRest : MethodName := ⟨"NumberProbe$Format", "withRest", "(JJ)J"⟩
abbrev mw_F_withRest : List Cond := Cond.code my_F_withRest mc_F_withRest 4 (some .long) :: gw_tbl
theorem md_F_withRest_0 : decode mc_F_withRest 0 = .ok (.lload_n 2, 1) := by decide +kernel
theorem md_F_withRest_1 : decode mc_F_withRest 1 = .ok (.lconst 0, 1) := by decide +kernel
theorem md_F_withRest_2 : decode mc_F_withRest 2 = .ok (.lcmp, 1) := by decide +kernel
theorem md_F_withRest_3 : decode mc_F_withRest 3 = .ok (.ifCond .ne 7, 3) := by decide +kernel
theorem md_F_withRest_6 : decode mc_F_withRest 6 = .ok (.lload_n 0, 1) := by decide +kernel
theorem md_F_withRest_7 : decode mc_F_withRest 7 = .ok (.goto 6, 3) := by decide +kernel
theorem md_F_withRest_10 : decode mc_F_withRest 10 = .ok (.lload_n 0, 1) := by decide +kernel
theorem md_F_withRest_11 : decode mc_F_withRest 11 = .ok (.lconst 1, 1) := by decide +kernel
theorem md_F_withRest_12 : decode mc_F_withRest 12 = .ok (.lor, 1) := by decide +kernel
theorem md_F_withRest_13 : decode mc_F_withRest 13 = .ok (.lreturn, 1) := by decide +kernel
end
section
abbrev mc_N_init : ByteArray := prog_1_method_1_code
def my_N_init : MethodName := ⟨"NumberProbe", "<init>", "()V"⟩
abbrev mw_N_init : List Cond := Cond.code my_N_init mc_N_init 1 none :: gw_tbl
theorem md_N_init_0 : decode mc_N_init 0 = .ok (.aload_n 0, 1) := by decide +kernel
theorem md_N_init_1 : decode mc_N_init 1 = .ok (.invokespecial 1, 3) := by decide +kernel
theorem md_N_init_4 : decode mc_N_init 4 = .ok (.aload_n 0, 1) := by decide +kernel
theorem md_N_init_5 : decode mc_N_init 5 = .ok (.iconst 4, 1) := by decide +kernel
theorem md_N_init_6 : decode mc_N_init 6 = .ok (.bipush 6, 2) := by decide +kernel
theorem md_N_init_8 : decode mc_N_init 8 = .ok (.multianewarray 9 2, 4) := by decide +kernel
theorem md_N_init_12 : decode mc_N_init 12 = .ok (.putfield 11, 3) := by decide +kernel
theorem md_N_init_15 : decode mc_N_init 15 = .ok (.return_, 1) := by decide +kernel
abbrev mc_N_put : ByteArray := prog_1_method_2_code
def my_N_put : MethodName := ⟨"NumberProbe", "put", "(IIJ)I"⟩
abbrev mw_N_put : List Cond := Cond.code my_N_put mc_N_put 5 (some .int) :: gw_tbl
theorem md_N_put_0 : decode mc_N_put 0 = .ok (.iload_n 1, 1) := by decide +kernel
theorem md_N_put_1 : decode mc_N_put 1 = .ok (.iload_n 2, 1) := by decide +kernel
theorem md_N_put_2 : decode mc_N_put 2 = .ok (.invokestatic 14, 3) := by decide +kernel
theorem md_N_put_5 : decode mc_N_put 5 = .ok (.ifCond .ne 5, 3) := by decide +kernel
theorem md_N_put_8 : decode mc_N_put 8 = .ok (.iconst (-1), 1) := by decide +kernel
theorem md_N_put_9 : decode mc_N_put 9 = .ok (.ireturn, 1) := by decide +kernel
theorem md_N_put_10 : decode mc_N_put 10 = .ok (.aload_n 0, 1) := by decide +kernel
theorem md_N_put_11 : decode mc_N_put 11 = .ok (.getfield 11, 3) := by decide +kernel
theorem md_N_put_14 : decode mc_N_put 14 = .ok (.iload_n 1, 1) := by decide +kernel
theorem md_N_put_15 : decode mc_N_put 15 = .ok (.aaload, 1) := by decide +kernel
theorem md_N_put_16 : decode mc_N_put 16 = .ok (.iload_n 2, 1) := by decide +kernel
theorem md_N_put_17 : decode mc_N_put 17 = .ok (.iload_n 1, 1) := by decide +kernel
theorem md_N_put_18 : decode mc_N_put 18 = .ok (.invokestatic 18, 3) := by decide +kernel
theorem md_N_put_21 : decode mc_N_put 21 = .ok (.ifCond .eq 14, 3) := by decide +kernel
theorem md_N_put_24 : decode mc_N_put 24 = .ok (.iload_n 1, 1) := by decide +kernel
theorem md_N_put_25 : decode mc_N_put 25 = .ok (.invokestatic 22, 3) := by decide +kernel
theorem md_N_put_28 : decode mc_N_put 28 = .ok (.lload_n 3, 1) := by decide +kernel
theorem md_N_put_29 : decode mc_N_put 29 = .ok (.invokevirtual 26, 3) := by decide +kernel
theorem md_N_put_32 : decode mc_N_put 32 = .ok (.goto 8, 3) := by decide +kernel
theorem md_N_put_35 : decode mc_N_put 35 = .ok (.iload_n 1, 1) := by decide +kernel
theorem md_N_put_36 : decode mc_N_put 36 = .ok (.lload_n 3, 1) := by decide +kernel
theorem md_N_put_37 : decode mc_N_put 37 = .ok (.invokestatic 32, 3) := by decide +kernel
theorem md_N_put_40 : decode mc_N_put 40 = .ok (.lastore, 1) := by decide +kernel
theorem md_N_put_41 : decode mc_N_put 41 = .ok (.iconst 0, 1) := by decide +kernel
theorem md_N_put_42 : decode mc_N_put 42 = .ok (.ireturn, 1) := by decide +kernel
abbrev mc_N_boundary : ByteArray := prog_1_method_3_code
def my_N_boundary : MethodName := ⟨"NumberProbe", "boundary", "(III)I"⟩
abbrev mw_N_boundary : List Cond := Cond.code my_N_boundary mc_N_boundary 5 (some .int) :: gw_tbl
theorem md_N_boundary_0 : decode mc_N_boundary 0 = .ok (.iload_n 1, 1) := by decide +kernel
theorem md_N_boundary_1 : decode mc_N_boundary 1 = .ok (.iload_n 2, 1) := by decide +kernel
theorem md_N_boundary_2 : decode mc_N_boundary 2 = .ok (.invokestatic 14, 3) := by decide +kernel
theorem md_N_boundary_5 : decode mc_N_boundary 5 = .ok (.ifCond .ne 5, 3) := by decide +kernel
theorem md_N_boundary_8 : decode mc_N_boundary 8 = .ok (.iconst (-1), 1) := by decide +kernel
theorem md_N_boundary_9 : decode mc_N_boundary 9 = .ok (.ireturn, 1) := by decide +kernel
theorem md_N_boundary_10 : decode mc_N_boundary 10 = .ok (.iload_n 1, 1) := by decide +kernel
theorem md_N_boundary_11 : decode mc_N_boundary 11 = .ok (.invokestatic 36, 3) := by decide +kernel
theorem md_N_boundary_14 : decode mc_N_boundary 14 = .ok (.astore 4, 2) := by decide +kernel
theorem md_N_boundary_16 : decode mc_N_boundary 16 = .ok (.iload_n 3, 1) := by decide +kernel
theorem md_N_boundary_17 : decode mc_N_boundary 17 = .ok (.ifCond .lt 10, 3) := by decide +kernel
theorem md_N_boundary_20 : decode mc_N_boundary 20 = .ok (.iload_n 3, 1) := by decide +kernel
theorem md_N_boundary_21 : decode mc_N_boundary 21 = .ok (.aload 4, 2) := by decide +kernel
theorem md_N_boundary_23 : decode mc_N_boundary 23 = .ok (.arraylength, 1) := by decide +kernel
theorem md_N_boundary_24 : decode mc_N_boundary 24 = .ok (.if_icmp .lt 5, 3) := by decide +kernel
theorem md_N_boundary_27 : decode mc_N_boundary 27 = .ok (.iconst (-1), 1) := by decide +kernel
theorem md_N_boundary_28 : decode mc_N_boundary 28 = .ok (.ireturn, 1) := by decide +kernel
theorem md_N_boundary_29 : decode mc_N_boundary 29 = .ok (.aload_n 0, 1) := by decide +kernel
theorem md_N_boundary_30 : decode mc_N_boundary 30 = .ok (.getfield 11, 3) := by decide +kernel
theorem md_N_boundary_33 : decode mc_N_boundary 33 = .ok (.iload_n 1, 1) := by decide +kernel
theorem md_N_boundary_34 : decode mc_N_boundary 34 = .ok (.aaload, 1) := by decide +kernel
theorem md_N_boundary_35 : decode mc_N_boundary 35 = .ok (.iload_n 2, 1) := by decide +kernel
theorem md_N_boundary_36 : decode mc_N_boundary 36 = .ok (.aload 4, 2) := by decide +kernel
theorem md_N_boundary_38 : decode mc_N_boundary 38 = .ok (.iload_n 3, 1) := by decide +kernel
theorem md_N_boundary_39 : decode mc_N_boundary 39 = .ok (.laload, 1) := by decide +kernel
theorem md_N_boundary_40 : decode mc_N_boundary 40 = .ok (.lastore, 1) := by decide +kernel
theorem md_N_boundary_41 : decode mc_N_boundary 41 = .ok (.iconst 0, 1) := by decide +kernel
theorem md_N_boundary_42 : decode mc_N_boundary 42 = .ok (.ireturn, 1) := by decide +kernel
abbrev mc_N_bits : ByteArray := prog_1_method_4_code
def my_N_bits : MethodName := ⟨"NumberProbe", "bits", "(II)J"⟩
abbrev mw_N_bits : List Cond := Cond.code my_N_bits mc_N_bits 3 (some .long) :: gw_tbl
theorem md_N_bits_0 : decode mc_N_bits 0 = .ok (.iload_n 1, 1) := by decide +kernel
theorem md_N_bits_1 : decode mc_N_bits 1 = .ok (.iload_n 2, 1) := by decide +kernel
theorem md_N_bits_2 : decode mc_N_bits 2 = .ok (.invokestatic 14, 3) := by decide +kernel
theorem md_N_bits_5 : decode mc_N_bits 5 = .ok (.ifCond .eq 14, 3) := by decide +kernel
theorem md_N_bits_8 : decode mc_N_bits 8 = .ok (.aload_n 0, 1) := by decide +kernel
theorem md_N_bits_9 : decode mc_N_bits 9 = .ok (.getfield 11, 3) := by decide +kernel
theorem md_N_bits_12 : decode mc_N_bits 12 = .ok (.iload_n 1, 1) := by decide +kernel
theorem md_N_bits_13 : decode mc_N_bits 13 = .ok (.aaload, 1) := by decide +kernel
theorem md_N_bits_14 : decode mc_N_bits 14 = .ok (.iload_n 2, 1) := by decide +kernel
theorem md_N_bits_15 : decode mc_N_bits 15 = .ok (.laload, 1) := by decide +kernel
theorem md_N_bits_16 : decode mc_N_bits 16 = .ok (.goto 4, 3) := by decide +kernel
theorem md_N_bits_19 : decode mc_N_bits 19 = .ok (.lconst 0, 1) := by decide +kernel
theorem md_N_bits_20 : decode mc_N_bits 20 = .ok (.lreturn, 1) := by decide +kernel
abbrev mc_N_operate : ByteArray := prog_1_method_5_code
def my_N_operate : MethodName := ⟨"NumberProbe", "operate", "(IIIII)I"⟩
abbrev mw_N_operate : List Cond := Cond.code my_N_operate mc_N_operate 8 (some .int) :: gw_tbl
theorem md_N_operate_0 : decode mc_N_operate 0 = .ok (.iload_n 1, 1) := by decide +kernel
theorem md_N_operate_1 : decode mc_N_operate 1 = .ok (.iload_n 3, 1) := by decide +kernel
theorem md_N_operate_2 : decode mc_N_operate 2 = .ok (.invokestatic 14, 3) := by decide +kernel
theorem md_N_operate_5 : decode mc_N_operate 5 = .ok (.ifCond .eq 29, 3) := by decide +kernel
theorem md_N_operate_8 : decode mc_N_operate 8 = .ok (.iload_n 1, 1) := by decide +kernel
theorem md_N_operate_9 : decode mc_N_operate 9 = .ok (.iload 4, 2) := by decide +kernel
theorem md_N_operate_11 : decode mc_N_operate 11 = .ok (.invokestatic 14, 3) := by decide +kernel
theorem md_N_operate_14 : decode mc_N_operate 14 = .ok (.ifCond .eq 20, 3) := by decide +kernel
theorem md_N_operate_17 : decode mc_N_operate 17 = .ok (.iload_n 1, 1) := by decide +kernel
theorem md_N_operate_18 : decode mc_N_operate 18 = .ok (.iload 5, 2) := by decide +kernel
theorem md_N_operate_20 : decode mc_N_operate 20 = .ok (.invokestatic 14, 3) := by decide +kernel
theorem md_N_operate_23 : decode mc_N_operate 23 = .ok (.ifCond .eq 11, 3) := by decide +kernel
theorem md_N_operate_26 : decode mc_N_operate 26 = .ok (.iload_n 1, 1) := by decide +kernel
theorem md_N_operate_27 : decode mc_N_operate 27 = .ok (.iload_n 2, 1) := by decide +kernel
theorem md_N_operate_28 : decode mc_N_operate 28 = .ok (.invokestatic 40, 3) := by decide +kernel
theorem md_N_operate_31 : decode mc_N_operate 31 = .ok (.ifCond .ne 5, 3) := by decide +kernel
theorem md_N_operate_34 : decode mc_N_operate 34 = .ok (.iconst (-1), 1) := by decide +kernel
theorem md_N_operate_35 : decode mc_N_operate 35 = .ok (.ireturn, 1) := by decide +kernel
theorem md_N_operate_36 : decode mc_N_operate 36 = .ok (.aload_n 0, 1) := by decide +kernel
theorem md_N_operate_37 : decode mc_N_operate 37 = .ok (.getfield 11, 3) := by decide +kernel
theorem md_N_operate_40 : decode mc_N_operate 40 = .ok (.iload_n 1, 1) := by decide +kernel
theorem md_N_operate_41 : decode mc_N_operate 41 = .ok (.aaload, 1) := by decide +kernel
theorem md_N_operate_42 : decode mc_N_operate 42 = .ok (.iload 4, 2) := by decide +kernel
theorem md_N_operate_44 : decode mc_N_operate 44 = .ok (.laload, 1) := by decide +kernel
theorem md_N_operate_45 : decode mc_N_operate 45 = .ok (.lstore 6, 2) := by decide +kernel
theorem md_N_operate_47 : decode mc_N_operate 47 = .ok (.iload_n 1, 1) := by decide +kernel
theorem md_N_operate_48 : decode mc_N_operate 48 = .ok (.iload_n 2, 1) := by decide +kernel
theorem md_N_operate_49 : decode mc_N_operate 49 = .ok (.lload 6, 2) := by decide +kernel
theorem md_N_operate_51 : decode mc_N_operate 51 = .ok (.invokestatic 43, 3) := by decide +kernel
theorem md_N_operate_54 : decode mc_N_operate 54 = .ok (.ifCond .eq 6, 3) := by decide +kernel
theorem md_N_operate_57 : decode mc_N_operate 57 = .ok (.bipush (-2), 2) := by decide +kernel
theorem md_N_operate_59 : decode mc_N_operate 59 = .ok (.ireturn, 1) := by decide +kernel
theorem md_N_operate_60 : decode mc_N_operate 60 = .ok (.aload_n 0, 1) := by decide +kernel
theorem md_N_operate_61 : decode mc_N_operate 61 = .ok (.getfield 11, 3) := by decide +kernel
theorem md_N_operate_64 : decode mc_N_operate 64 = .ok (.iload_n 1, 1) := by decide +kernel
theorem md_N_operate_65 : decode mc_N_operate 65 = .ok (.aaload, 1) := by decide +kernel
theorem md_N_operate_66 : decode mc_N_operate 66 = .ok (.iload 5, 2) := by decide +kernel
theorem md_N_operate_68 : decode mc_N_operate 68 = .ok (.iload_n 1, 1) := by decide +kernel
theorem md_N_operate_69 : decode mc_N_operate 69 = .ok (.iload_n 2, 1) := by decide +kernel
theorem md_N_operate_70 : decode mc_N_operate 70 = .ok (.aload_n 0, 1) := by decide +kernel
theorem md_N_operate_71 : decode mc_N_operate 71 = .ok (.getfield 11, 3) := by decide +kernel
theorem md_N_operate_74 : decode mc_N_operate 74 = .ok (.iload_n 1, 1) := by decide +kernel
theorem md_N_operate_75 : decode mc_N_operate 75 = .ok (.aaload, 1) := by decide +kernel
theorem md_N_operate_76 : decode mc_N_operate 76 = .ok (.iload_n 3, 1) := by decide +kernel
theorem md_N_operate_77 : decode mc_N_operate 77 = .ok (.laload, 1) := by decide +kernel
theorem md_N_operate_78 : decode mc_N_operate 78 = .ok (.lload 6, 2) := by decide +kernel
theorem md_N_operate_80 : decode mc_N_operate 80 = .ok (.invokestatic 47, 3) := by decide +kernel
theorem md_N_operate_83 : decode mc_N_operate 83 = .ok (.lastore, 1) := by decide +kernel
theorem md_N_operate_84 : decode mc_N_operate 84 = .ok (.iconst 0, 1) := by decide +kernel
theorem md_N_operate_85 : decode mc_N_operate 85 = .ok (.ireturn, 1) := by decide +kernel
abbrev mc_N_assign : ByteArray := prog_1_method_6_code
def my_N_assign : MethodName := ⟨"NumberProbe", "assign", "(IIIII)I"⟩
abbrev mw_N_assign : List Cond := Cond.code my_N_assign mc_N_assign 11 (some .int) :: gw_tbl
theorem md_N_assign_0 : decode mc_N_assign 0 = .ok (.iload_n 1, 1) := by decide +kernel
theorem md_N_assign_1 : decode mc_N_assign 1 = .ok (.iload_n 2, 1) := by decide +kernel
theorem md_N_assign_2 : decode mc_N_assign 2 = .ok (.invokestatic 14, 3) := by decide +kernel
theorem md_N_assign_5 : decode mc_N_assign 5 = .ok (.ifCond .eq 22, 3) := by decide +kernel
theorem md_N_assign_8 : decode mc_N_assign 8 = .ok (.iload 4, 2) := by decide +kernel
theorem md_N_assign_10 : decode mc_N_assign 10 = .ok (.iload 5, 2) := by decide +kernel
theorem md_N_assign_12 : decode mc_N_assign 12 = .ok (.invokestatic 14, 3) := by decide +kernel
theorem md_N_assign_15 : decode mc_N_assign 15 = .ok (.ifCond .eq 12, 3) := by decide +kernel
theorem md_N_assign_18 : decode mc_N_assign 18 = .ok (.iload_n 3, 1) := by decide +kernel
theorem md_N_assign_19 : decode mc_N_assign 19 = .ok (.ifCond .lt 8, 3) := by decide +kernel
theorem md_N_assign_22 : decode mc_N_assign 22 = .ok (.iload_n 3, 1) := by decide +kernel
theorem md_N_assign_23 : decode mc_N_assign 23 = .ok (.iconst 3, 1) := by decide +kernel
theorem md_N_assign_24 : decode mc_N_assign 24 = .ok (.if_icmp .le 5, 3) := by decide +kernel
theorem md_N_assign_27 : decode mc_N_assign 27 = .ok (.iconst (-1), 1) := by decide +kernel
theorem md_N_assign_28 : decode mc_N_assign 28 = .ok (.ireturn, 1) := by decide +kernel
theorem md_N_assign_29 : decode mc_N_assign 29 = .ok (.iload_n 1, 1) := by decide +kernel
theorem md_N_assign_30 : decode mc_N_assign 30 = .ok (.invokestatic 51, 3) := by decide +kernel
theorem md_N_assign_33 : decode mc_N_assign 33 = .ok (.iload 4, 2) := by decide +kernel
theorem md_N_assign_35 : decode mc_N_assign 35 = .ok (.invokestatic 51, 3) := by decide +kernel
theorem md_N_assign_38 : decode mc_N_assign 38 = .ok (.if_icmp .lt 7, 3) := by decide +kernel
theorem md_N_assign_41 : decode mc_N_assign 41 = .ok (.iload_n 1, 1) := by decide +kernel
theorem md_N_assign_42 : decode mc_N_assign 42 = .ok (.goto 5, 3) := by decide +kernel
theorem md_N_assign_45 : decode mc_N_assign 45 = .ok (.iload 4, 2) := by decide +kernel
theorem md_N_assign_47 : decode mc_N_assign 47 = .ok (.istore 6, 2) := by decide +kernel
theorem md_N_assign_49 : decode mc_N_assign 49 = .ok (.iload_n 1, 1) := by decide +kernel
theorem md_N_assign_50 : decode mc_N_assign 50 = .ok (.aload_n 0, 1) := by decide +kernel
theorem md_N_assign_51 : decode mc_N_assign 51 = .ok (.getfield 11, 3) := by decide +kernel
theorem md_N_assign_54 : decode mc_N_assign 54 = .ok (.iload_n 1, 1) := by decide +kernel
theorem md_N_assign_55 : decode mc_N_assign 55 = .ok (.aaload, 1) := by decide +kernel
theorem md_N_assign_56 : decode mc_N_assign 56 = .ok (.iload_n 2, 1) := by decide +kernel
theorem md_N_assign_57 : decode mc_N_assign 57 = .ok (.laload, 1) := by decide +kernel
theorem md_N_assign_58 : decode mc_N_assign 58 = .ok (.iload 6, 2) := by decide +kernel
theorem md_N_assign_60 : decode mc_N_assign 60 = .ok (.invokestatic 55, 3) := by decide +kernel
theorem md_N_assign_63 : decode mc_N_assign 63 = .ok (.lstore 7, 2) := by decide +kernel
theorem md_N_assign_65 : decode mc_N_assign 65 = .ok (.iload 4, 2) := by decide +kernel
theorem md_N_assign_67 : decode mc_N_assign 67 = .ok (.aload_n 0, 1) := by decide +kernel
theorem md_N_assign_68 : decode mc_N_assign 68 = .ok (.getfield 11, 3) := by decide +kernel
theorem md_N_assign_71 : decode mc_N_assign 71 = .ok (.iload 4, 2) := by decide +kernel
theorem md_N_assign_73 : decode mc_N_assign 73 = .ok (.aaload, 1) := by decide +kernel
theorem md_N_assign_74 : decode mc_N_assign 74 = .ok (.iload 5, 2) := by decide +kernel
theorem md_N_assign_76 : decode mc_N_assign 76 = .ok (.laload, 1) := by decide +kernel
theorem md_N_assign_77 : decode mc_N_assign 77 = .ok (.iload 6, 2) := by decide +kernel
theorem md_N_assign_79 : decode mc_N_assign 79 = .ok (.invokestatic 55, 3) := by decide +kernel
theorem md_N_assign_82 : decode mc_N_assign 82 = .ok (.lstore 9, 2) := by decide +kernel
theorem md_N_assign_84 : decode mc_N_assign 84 = .ok (.iload 6, 2) := by decide +kernel
theorem md_N_assign_86 : decode mc_N_assign 86 = .ok (.iload_n 3, 1) := by decide +kernel
theorem md_N_assign_87 : decode mc_N_assign 87 = .ok (.lload 9, 2) := by decide +kernel
theorem md_N_assign_89 : decode mc_N_assign 89 = .ok (.invokestatic 43, 3) := by decide +kernel
theorem md_N_assign_92 : decode mc_N_assign 92 = .ok (.ifCond .eq 6, 3) := by decide +kernel
theorem md_N_assign_95 : decode mc_N_assign 95 = .ok (.bipush (-2), 2) := by decide +kernel
theorem md_N_assign_97 : decode mc_N_assign 97 = .ok (.ireturn, 1) := by decide +kernel
theorem md_N_assign_98 : decode mc_N_assign 98 = .ok (.aload_n 0, 1) := by decide +kernel
theorem md_N_assign_99 : decode mc_N_assign 99 = .ok (.getfield 11, 3) := by decide +kernel
theorem md_N_assign_102 : decode mc_N_assign 102 = .ok (.iload_n 1, 1) := by decide +kernel
theorem md_N_assign_103 : decode mc_N_assign 103 = .ok (.aaload, 1) := by decide +kernel
theorem md_N_assign_104 : decode mc_N_assign 104 = .ok (.iload_n 2, 1) := by decide +kernel
theorem md_N_assign_105 : decode mc_N_assign 105 = .ok (.iload 6, 2) := by decide +kernel
theorem md_N_assign_107 : decode mc_N_assign 107 = .ok (.iload 6, 2) := by decide +kernel
theorem md_N_assign_109 : decode mc_N_assign 109 = .ok (.iload_n 3, 1) := by decide +kernel
theorem md_N_assign_110 : decode mc_N_assign 110 = .ok (.lload 7, 2) := by decide +kernel
theorem md_N_assign_112 : decode mc_N_assign 112 = .ok (.lload 9, 2) := by decide +kernel
theorem md_N_assign_114 : decode mc_N_assign 114 = .ok (.invokestatic 47, 3) := by decide +kernel
theorem md_N_assign_117 : decode mc_N_assign 117 = .ok (.iload_n 1, 1) := by decide +kernel
theorem md_N_assign_118 : decode mc_N_assign 118 = .ok (.invokestatic 55, 3) := by decide +kernel
theorem md_N_assign_121 : decode mc_N_assign 121 = .ok (.lastore, 1) := by decide +kernel
theorem md_N_assign_122 : decode mc_N_assign 122 = .ok (.iconst 0, 1) := by decide +kernel
theorem md_N_assign_123 : decode mc_N_assign 123 = .ok (.ireturn, 1) := by decide +kernel
abbrev mc_N_convert : ByteArray := prog_1_method_7_code
def my_N_convert : MethodName := ⟨"NumberProbe", "convert", "(IIII)I"⟩
abbrev mw_N_convert : List Cond := Cond.code my_N_convert mc_N_convert 5 (some .int) :: gw_tbl
theorem md_N_convert_0 : decode mc_N_convert 0 = .ok (.iload_n 1, 1) := by decide +kernel
theorem md_N_convert_1 : decode mc_N_convert 1 = .ok (.iload_n 2, 1) := by decide +kernel
theorem md_N_convert_2 : decode mc_N_convert 2 = .ok (.invokestatic 14, 3) := by decide +kernel
theorem md_N_convert_5 : decode mc_N_convert 5 = .ok (.ifCond .eq 12, 3) := by decide +kernel
theorem md_N_convert_8 : decode mc_N_convert 8 = .ok (.iload_n 3, 1) := by decide +kernel
theorem md_N_convert_9 : decode mc_N_convert 9 = .ok (.iload 4, 2) := by decide +kernel
theorem md_N_convert_11 : decode mc_N_convert 11 = .ok (.invokestatic 14, 3) := by decide +kernel
theorem md_N_convert_14 : decode mc_N_convert 14 = .ok (.ifCond .ne 5, 3) := by decide +kernel
theorem md_N_convert_17 : decode mc_N_convert 17 = .ok (.iconst (-1), 1) := by decide +kernel
theorem md_N_convert_18 : decode mc_N_convert 18 = .ok (.ireturn, 1) := by decide +kernel
theorem md_N_convert_19 : decode mc_N_convert 19 = .ok (.aload_n 0, 1) := by decide +kernel
theorem md_N_convert_20 : decode mc_N_convert 20 = .ok (.getfield 11, 3) := by decide +kernel
theorem md_N_convert_23 : decode mc_N_convert 23 = .ok (.iload_n 3, 1) := by decide +kernel
theorem md_N_convert_24 : decode mc_N_convert 24 = .ok (.aaload, 1) := by decide +kernel
theorem md_N_convert_25 : decode mc_N_convert 25 = .ok (.iload 4, 2) := by decide +kernel
theorem md_N_convert_27 : decode mc_N_convert 27 = .ok (.iload_n 1, 1) := by decide +kernel
theorem md_N_convert_28 : decode mc_N_convert 28 = .ok (.aload_n 0, 1) := by decide +kernel
theorem md_N_convert_29 : decode mc_N_convert 29 = .ok (.getfield 11, 3) := by decide +kernel
theorem md_N_convert_32 : decode mc_N_convert 32 = .ok (.iload_n 1, 1) := by decide +kernel
theorem md_N_convert_33 : decode mc_N_convert 33 = .ok (.aaload, 1) := by decide +kernel
theorem md_N_convert_34 : decode mc_N_convert 34 = .ok (.iload_n 2, 1) := by decide +kernel
theorem md_N_convert_35 : decode mc_N_convert 35 = .ok (.laload, 1) := by decide +kernel
theorem md_N_convert_36 : decode mc_N_convert 36 = .ok (.iload_n 3, 1) := by decide +kernel
theorem md_N_convert_37 : decode mc_N_convert 37 = .ok (.invokestatic 55, 3) := by decide +kernel
theorem md_N_convert_40 : decode mc_N_convert 40 = .ok (.lastore, 1) := by decide +kernel
theorem md_N_convert_41 : decode mc_N_convert 41 = .ok (.iconst 0, 1) := by decide +kernel
theorem md_N_convert_42 : decode mc_N_convert 42 = .ok (.ireturn, 1) := by decide +kernel
abbrev mc_N_narrow : ByteArray := prog_1_method_8_code
def my_N_narrow : MethodName := ⟨"NumberProbe", "narrow", "(III)I"⟩
abbrev mw_N_narrow : List Cond := Cond.code my_N_narrow mc_N_narrow 5 (some .int) :: gw_tbl
theorem md_N_narrow_0 : decode mc_N_narrow 0 = .ok (.iload_n 1, 1) := by decide +kernel
theorem md_N_narrow_1 : decode mc_N_narrow 1 = .ok (.iload_n 2, 1) := by decide +kernel
theorem md_N_narrow_2 : decode mc_N_narrow 2 = .ok (.invokestatic 14, 3) := by decide +kernel
theorem md_N_narrow_5 : decode mc_N_narrow 5 = .ok (.ifCond .ne 5, 3) := by decide +kernel
theorem md_N_narrow_8 : decode mc_N_narrow 8 = .ok (.iconst 0, 1) := by decide +kernel
theorem md_N_narrow_9 : decode mc_N_narrow 9 = .ok (.ireturn, 1) := by decide +kernel
theorem md_N_narrow_10 : decode mc_N_narrow 10 = .ok (.iload_n 1, 1) := by decide +kernel
theorem md_N_narrow_11 : decode mc_N_narrow 11 = .ok (.aload_n 0, 1) := by decide +kernel
theorem md_N_narrow_12 : decode mc_N_narrow 12 = .ok (.getfield 11, 3) := by decide +kernel
theorem md_N_narrow_15 : decode mc_N_narrow 15 = .ok (.iload_n 1, 1) := by decide +kernel
theorem md_N_narrow_16 : decode mc_N_narrow 16 = .ok (.aaload, 1) := by decide +kernel
theorem md_N_narrow_17 : decode mc_N_narrow 17 = .ok (.iload_n 2, 1) := by decide +kernel
theorem md_N_narrow_18 : decode mc_N_narrow 18 = .ok (.laload, 1) := by decide +kernel
theorem md_N_narrow_19 : decode mc_N_narrow 19 = .ok (.iconst 2, 1) := by decide +kernel
theorem md_N_narrow_20 : decode mc_N_narrow 20 = .ok (.invokestatic 55, 3) := by decide +kernel
theorem md_N_narrow_23 : decode mc_N_narrow 23 = .ok (.l2i, 1) := by decide +kernel
theorem md_N_narrow_24 : decode mc_N_narrow 24 = .ok (.istore 4, 2) := by decide +kernel
theorem md_N_narrow_26 : decode mc_N_narrow 26 = .ok (.iload_n 3, 1) := by decide +kernel
theorem md_N_narrow_27 : decode mc_N_narrow 27 = .ok (.tableswitch 44 0 3 #[29, 33, 37, 41], 29) := by decide +kernel
theorem md_N_narrow_56 : decode mc_N_narrow 56 = .ok (.iload 4, 2) := by decide +kernel
theorem md_N_narrow_58 : decode mc_N_narrow 58 = .ok (.i2b, 1) := by decide +kernel
theorem md_N_narrow_59 : decode mc_N_narrow 59 = .ok (.ireturn, 1) := by decide +kernel
theorem md_N_narrow_60 : decode mc_N_narrow 60 = .ok (.iload 4, 2) := by decide +kernel
theorem md_N_narrow_62 : decode mc_N_narrow 62 = .ok (.i2c, 1) := by decide +kernel
theorem md_N_narrow_63 : decode mc_N_narrow 63 = .ok (.ireturn, 1) := by decide +kernel
theorem md_N_narrow_64 : decode mc_N_narrow 64 = .ok (.iload 4, 2) := by decide +kernel
theorem md_N_narrow_66 : decode mc_N_narrow 66 = .ok (.i2s, 1) := by decide +kernel
theorem md_N_narrow_67 : decode mc_N_narrow 67 = .ok (.ireturn, 1) := by decide +kernel
theorem md_N_narrow_68 : decode mc_N_narrow 68 = .ok (.iload 4, 2) := by decide +kernel
theorem md_N_narrow_70 : decode mc_N_narrow 70 = .ok (.ireturn, 1) := by decide +kernel
theorem md_N_narrow_71 : decode mc_N_narrow 71 = .ok (.iconst 0, 1) := by decide +kernel
theorem md_N_narrow_72 : decode mc_N_narrow 72 = .ok (.ireturn, 1) := by decide +kernel
abbrev mc_N_compare : ByteArray := prog_1_method_9_code
def my_N_compare : MethodName := ⟨"NumberProbe", "compare", "(III)I"⟩
abbrev mw_N_compare : List Cond := Cond.code my_N_compare mc_N_compare 9 (some .int) :: gw_tbl
theorem md_N_compare_0 : decode mc_N_compare 0 = .ok (.iload_n 1, 1) := by decide +kernel
theorem md_N_compare_1 : decode mc_N_compare 1 = .ok (.iload_n 2, 1) := by decide +kernel
theorem md_N_compare_2 : decode mc_N_compare 2 = .ok (.invokestatic 14, 3) := by decide +kernel
theorem md_N_compare_5 : decode mc_N_compare 5 = .ok (.ifCond .eq 11, 3) := by decide +kernel
theorem md_N_compare_8 : decode mc_N_compare 8 = .ok (.iload_n 1, 1) := by decide +kernel
theorem md_N_compare_9 : decode mc_N_compare 9 = .ok (.iload_n 3, 1) := by decide +kernel
theorem md_N_compare_10 : decode mc_N_compare 10 = .ok (.invokestatic 14, 3) := by decide +kernel
theorem md_N_compare_13 : decode mc_N_compare 13 = .ok (.ifCond .ne 5, 3) := by decide +kernel
theorem md_N_compare_16 : decode mc_N_compare 16 = .ok (.iconst (-1), 1) := by decide +kernel
theorem md_N_compare_17 : decode mc_N_compare 17 = .ok (.ireturn, 1) := by decide +kernel
theorem md_N_compare_18 : decode mc_N_compare 18 = .ok (.aload_n 0, 1) := by decide +kernel
theorem md_N_compare_19 : decode mc_N_compare 19 = .ok (.getfield 11, 3) := by decide +kernel
theorem md_N_compare_22 : decode mc_N_compare 22 = .ok (.iload_n 1, 1) := by decide +kernel
theorem md_N_compare_23 : decode mc_N_compare 23 = .ok (.aaload, 1) := by decide +kernel
theorem md_N_compare_24 : decode mc_N_compare 24 = .ok (.iload_n 2, 1) := by decide +kernel
theorem md_N_compare_25 : decode mc_N_compare 25 = .ok (.laload, 1) := by decide +kernel
theorem md_N_compare_26 : decode mc_N_compare 26 = .ok (.lstore 4, 2) := by decide +kernel
theorem md_N_compare_28 : decode mc_N_compare 28 = .ok (.aload_n 0, 1) := by decide +kernel
theorem md_N_compare_29 : decode mc_N_compare 29 = .ok (.getfield 11, 3) := by decide +kernel
theorem md_N_compare_32 : decode mc_N_compare 32 = .ok (.iload_n 1, 1) := by decide +kernel
theorem md_N_compare_33 : decode mc_N_compare 33 = .ok (.aaload, 1) := by decide +kernel
theorem md_N_compare_34 : decode mc_N_compare 34 = .ok (.iload_n 3, 1) := by decide +kernel
theorem md_N_compare_35 : decode mc_N_compare 35 = .ok (.laload, 1) := by decide +kernel
theorem md_N_compare_36 : decode mc_N_compare 36 = .ok (.lstore 6, 2) := by decide +kernel
theorem md_N_compare_38 : decode mc_N_compare 38 = .ok (.iload_n 1, 1) := by decide +kernel
theorem md_N_compare_39 : decode mc_N_compare 39 = .ok (.invokestatic 18, 3) := by decide +kernel
theorem md_N_compare_42 : decode mc_N_compare 42 = .ok (.ifCond .eq 51, 3) := by decide +kernel
theorem md_N_compare_45 : decode mc_N_compare 45 = .ok (.iload_n 1, 1) := by decide +kernel
theorem md_N_compare_46 : decode mc_N_compare 46 = .ok (.invokestatic 22, 3) := by decide +kernel
theorem md_N_compare_49 : decode mc_N_compare 49 = .ok (.astore 8, 2) := by decide +kernel
theorem md_N_compare_51 : decode mc_N_compare 51 = .ok (.aload 8, 2) := by decide +kernel
theorem md_N_compare_53 : decode mc_N_compare 53 = .ok (.lload 4, 2) := by decide +kernel
theorem md_N_compare_55 : decode mc_N_compare 55 = .ok (.invokevirtual 59, 3) := by decide +kernel
theorem md_N_compare_58 : decode mc_N_compare 58 = .ok (.ifCond .ne 13, 3) := by decide +kernel
theorem md_N_compare_61 : decode mc_N_compare 61 = .ok (.aload 8, 2) := by decide +kernel
theorem md_N_compare_63 : decode mc_N_compare 63 = .ok (.lload 6, 2) := by decide +kernel
theorem md_N_compare_65 : decode mc_N_compare 65 = .ok (.invokevirtual 59, 3) := by decide +kernel
theorem md_N_compare_68 : decode mc_N_compare 68 = .ok (.ifCond .eq 7, 3) := by decide +kernel
theorem md_N_compare_71 : decode mc_N_compare 71 = .ok (.sipush 224, 3) := by decide +kernel
theorem md_N_compare_74 : decode mc_N_compare 74 = .ok (.ireturn, 1) := by decide +kernel
theorem md_N_compare_75 : decode mc_N_compare 75 = .ok (.aload 8, 2) := by decide +kernel
theorem md_N_compare_77 : decode mc_N_compare 77 = .ok (.lload 4, 2) := by decide +kernel
theorem md_N_compare_79 : decode mc_N_compare 79 = .ok (.invokevirtual 63, 3) := by decide +kernel
theorem md_N_compare_82 : decode mc_N_compare 82 = .ok (.lstore 4, 2) := by decide +kernel
theorem md_N_compare_84 : decode mc_N_compare 84 = .ok (.aload 8, 2) := by decide +kernel
theorem md_N_compare_86 : decode mc_N_compare 86 = .ok (.lload 6, 2) := by decide +kernel
theorem md_N_compare_88 : decode mc_N_compare 88 = .ok (.invokevirtual 63, 3) := by decide +kernel
theorem md_N_compare_91 : decode mc_N_compare 91 = .ok (.lstore 6, 2) := by decide +kernel
theorem md_N_compare_93 : decode mc_N_compare 93 = .ok (.lload 4, 2) := by decide +kernel
theorem md_N_compare_95 : decode mc_N_compare 95 = .ok (.lload 6, 2) := by decide +kernel
theorem md_N_compare_97 : decode mc_N_compare 97 = .ok (.lcmp, 1) := by decide +kernel
theorem md_N_compare_98 : decode mc_N_compare 98 = .ok (.ifCond .ne 6, 3) := by decide +kernel
theorem md_N_compare_101 : decode mc_N_compare 101 = .ok (.bipush 90, 2) := by decide +kernel
theorem md_N_compare_103 : decode mc_N_compare 103 = .ok (.ireturn, 1) := by decide +kernel
theorem md_N_compare_104 : decode mc_N_compare 104 = .ok (.lload 4, 2) := by decide +kernel
theorem md_N_compare_106 : decode mc_N_compare 106 = .ok (.lload 6, 2) := by decide +kernel
theorem md_N_compare_108 : decode mc_N_compare 108 = .ok (.lcmp, 1) := by decide +kernel
theorem md_N_compare_109 : decode mc_N_compare 109 = .ok (.ifCond .ge 9, 3) := by decide +kernel
theorem md_N_compare_112 : decode mc_N_compare 112 = .ok (.sipush 163, 3) := by decide +kernel
theorem md_N_compare_115 : decode mc_N_compare 115 = .ok (.goto 5, 3) := by decide +kernel
theorem md_N_compare_118 : decode mc_N_compare 118 = .ok (.bipush 108, 2) := by decide +kernel
theorem md_N_compare_120 : decode mc_N_compare 120 = .ok (.ireturn, 1) := by decide +kernel
abbrev mc_N_order : ByteArray := prog_1_method_10_code
def my_N_order : MethodName := ⟨"NumberProbe", "order", "(III)I"⟩
abbrev mw_N_order : List Cond := Cond.code my_N_order mc_N_order 9 (some .int) :: gw_tbl
theorem md_N_order_0 : decode mc_N_order 0 = .ok (.iload_n 1, 1) := by decide +kernel
theorem md_N_order_1 : decode mc_N_order 1 = .ok (.iload_n 2, 1) := by decide +kernel
theorem md_N_order_2 : decode mc_N_order 2 = .ok (.invokestatic 14, 3) := by decide +kernel
theorem md_N_order_5 : decode mc_N_order 5 = .ok (.ifCond .eq 11, 3) := by decide +kernel
theorem md_N_order_8 : decode mc_N_order 8 = .ok (.iload_n 1, 1) := by decide +kernel
theorem md_N_order_9 : decode mc_N_order 9 = .ok (.iload_n 3, 1) := by decide +kernel
theorem md_N_order_10 : decode mc_N_order 10 = .ok (.invokestatic 14, 3) := by decide +kernel
theorem md_N_order_13 : decode mc_N_order 13 = .ok (.ifCond .ne 5, 3) := by decide +kernel
theorem md_N_order_16 : decode mc_N_order 16 = .ok (.iconst (-1), 1) := by decide +kernel
theorem md_N_order_17 : decode mc_N_order 17 = .ok (.ireturn, 1) := by decide +kernel
theorem md_N_order_18 : decode mc_N_order 18 = .ok (.aload_n 0, 1) := by decide +kernel
theorem md_N_order_19 : decode mc_N_order 19 = .ok (.getfield 11, 3) := by decide +kernel
theorem md_N_order_22 : decode mc_N_order 22 = .ok (.iload_n 1, 1) := by decide +kernel
theorem md_N_order_23 : decode mc_N_order 23 = .ok (.aaload, 1) := by decide +kernel
theorem md_N_order_24 : decode mc_N_order 24 = .ok (.iload_n 2, 1) := by decide +kernel
theorem md_N_order_25 : decode mc_N_order 25 = .ok (.laload, 1) := by decide +kernel
theorem md_N_order_26 : decode mc_N_order 26 = .ok (.lstore 4, 2) := by decide +kernel
theorem md_N_order_28 : decode mc_N_order 28 = .ok (.aload_n 0, 1) := by decide +kernel
theorem md_N_order_29 : decode mc_N_order 29 = .ok (.getfield 11, 3) := by decide +kernel
theorem md_N_order_32 : decode mc_N_order 32 = .ok (.iload_n 1, 1) := by decide +kernel
theorem md_N_order_33 : decode mc_N_order 33 = .ok (.aaload, 1) := by decide +kernel
theorem md_N_order_34 : decode mc_N_order 34 = .ok (.iload_n 3, 1) := by decide +kernel
theorem md_N_order_35 : decode mc_N_order 35 = .ok (.laload, 1) := by decide +kernel
theorem md_N_order_36 : decode mc_N_order 36 = .ok (.lstore 6, 2) := by decide +kernel
theorem md_N_order_38 : decode mc_N_order 38 = .ok (.iload_n 1, 1) := by decide +kernel
theorem md_N_order_39 : decode mc_N_order 39 = .ok (.invokestatic 18, 3) := by decide +kernel
theorem md_N_order_42 : decode mc_N_order 42 = .ok (.ifCond .eq 27, 3) := by decide +kernel
theorem md_N_order_45 : decode mc_N_order 45 = .ok (.iload_n 1, 1) := by decide +kernel
theorem md_N_order_46 : decode mc_N_order 46 = .ok (.invokestatic 22, 3) := by decide +kernel
theorem md_N_order_49 : decode mc_N_order 49 = .ok (.astore 8, 2) := by decide +kernel
theorem md_N_order_51 : decode mc_N_order 51 = .ok (.aload 8, 2) := by decide +kernel
theorem md_N_order_53 : decode mc_N_order 53 = .ok (.lload 4, 2) := by decide +kernel
theorem md_N_order_55 : decode mc_N_order 55 = .ok (.invokevirtual 66, 3) := by decide +kernel
theorem md_N_order_58 : decode mc_N_order 58 = .ok (.lstore 4, 2) := by decide +kernel
theorem md_N_order_60 : decode mc_N_order 60 = .ok (.aload 8, 2) := by decide +kernel
theorem md_N_order_62 : decode mc_N_order 62 = .ok (.lload 6, 2) := by decide +kernel
theorem md_N_order_64 : decode mc_N_order 64 = .ok (.invokevirtual 66, 3) := by decide +kernel
theorem md_N_order_67 : decode mc_N_order 67 = .ok (.lstore 6, 2) := by decide +kernel
theorem md_N_order_69 : decode mc_N_order 69 = .ok (.lload 4, 2) := by decide +kernel
theorem md_N_order_71 : decode mc_N_order 71 = .ok (.lload 6, 2) := by decide +kernel
theorem md_N_order_73 : decode mc_N_order 73 = .ok (.invokestatic 69, 3) := by decide +kernel
theorem md_N_order_76 : decode mc_N_order 76 = .ok (.ireturn, 1) := by decide +kernel
abbrev mc_N_sort : ByteArray := prog_1_method_11_code
def my_N_sort : MethodName := ⟨"NumberProbe", "sort", "(II)I"⟩
abbrev mw_N_sort : List Cond := Cond.code my_N_sort mc_N_sort 3 (some .int) :: gw_tbl
theorem md_N_sort_0 : decode mc_N_sort 0 = .ok (.iload_n 1, 1) := by decide +kernel
theorem md_N_sort_1 : decode mc_N_sort 1 = .ok (.iload_n 2, 1) := by decide +kernel
theorem md_N_sort_2 : decode mc_N_sort 2 = .ok (.invokestatic 14, 3) := by decide +kernel
theorem md_N_sort_5 : decode mc_N_sort 5 = .ok (.ifCond .ne 5, 3) := by decide +kernel
theorem md_N_sort_8 : decode mc_N_sort 8 = .ok (.iconst (-1), 1) := by decide +kernel
theorem md_N_sort_9 : decode mc_N_sort 9 = .ok (.ireturn, 1) := by decide +kernel
theorem md_N_sort_10 : decode mc_N_sort 10 = .ok (.iload_n 1, 1) := by decide +kernel
theorem md_N_sort_11 : decode mc_N_sort 11 = .ok (.invokestatic 18, 3) := by decide +kernel
theorem md_N_sort_14 : decode mc_N_sort 14 = .ok (.ifCond .eq 21, 3) := by decide +kernel
theorem md_N_sort_17 : decode mc_N_sort 17 = .ok (.iload_n 1, 1) := by decide +kernel
theorem md_N_sort_18 : decode mc_N_sort 18 = .ok (.invokestatic 22, 3) := by decide +kernel
theorem md_N_sort_21 : decode mc_N_sort 21 = .ok (.aload_n 0, 1) := by decide +kernel
theorem md_N_sort_22 : decode mc_N_sort 22 = .ok (.getfield 11, 3) := by decide +kernel
theorem md_N_sort_25 : decode mc_N_sort 25 = .ok (.iload_n 1, 1) := by decide +kernel
theorem md_N_sort_26 : decode mc_N_sort 26 = .ok (.aaload, 1) := by decide +kernel
theorem md_N_sort_27 : decode mc_N_sort 27 = .ok (.iload_n 2, 1) := by decide +kernel
theorem md_N_sort_28 : decode mc_N_sort 28 = .ok (.laload, 1) := by decide +kernel
theorem md_N_sort_29 : decode mc_N_sort 29 = .ok (.invokevirtual 75, 3) := by decide +kernel
theorem md_N_sort_32 : decode mc_N_sort 32 = .ok (.goto 4, 3) := by decide +kernel
theorem md_N_sort_35 : decode mc_N_sort 35 = .ok (.iconst 0, 1) := by decide +kernel
theorem md_N_sort_36 : decode mc_N_sort 36 = .ok (.ireturn, 1) := by decide +kernel
abbrev mc_N_series : ByteArray := prog_1_method_12_code
def my_N_series : MethodName := ⟨"NumberProbe", "series", "(IIII)I"⟩
abbrev mw_N_series : List Cond := Cond.code my_N_series mc_N_series 12 (some .int) :: gw_tbl
theorem md_N_series_0 : decode mc_N_series 0 = .ok (.iconst 1, 1) := by decide +kernel
theorem md_N_series_1 : decode mc_N_series 1 = .ok (.iload_n 1, 1) := by decide +kernel
theorem md_N_series_2 : decode mc_N_series 2 = .ok (.invokestatic 14, 3) := by decide +kernel
theorem md_N_series_5 : decode mc_N_series 5 = .ok (.ifCond .eq 30, 3) := by decide +kernel
theorem md_N_series_8 : decode mc_N_series 8 = .ok (.iconst 1, 1) := by decide +kernel
theorem md_N_series_9 : decode mc_N_series 9 = .ok (.iload_n 2, 1) := by decide +kernel
theorem md_N_series_10 : decode mc_N_series 10 = .ok (.invokestatic 14, 3) := by decide +kernel
theorem md_N_series_13 : decode mc_N_series 13 = .ok (.ifCond .eq 22, 3) := by decide +kernel
theorem md_N_series_16 : decode mc_N_series 16 = .ok (.iconst 1, 1) := by decide +kernel
theorem md_N_series_17 : decode mc_N_series 17 = .ok (.iload 4, 2) := by decide +kernel
theorem md_N_series_19 : decode mc_N_series 19 = .ok (.invokestatic 14, 3) := by decide +kernel
theorem md_N_series_22 : decode mc_N_series 22 = .ok (.ifCond .eq 13, 3) := by decide +kernel
theorem md_N_series_25 : decode mc_N_series 25 = .ok (.iload_n 3, 1) := by decide +kernel
theorem md_N_series_26 : decode mc_N_series 26 = .ok (.ifCond .lt 9, 3) := by decide +kernel
theorem md_N_series_29 : decode mc_N_series 29 = .ok (.iload_n 3, 1) := by decide +kernel
theorem md_N_series_30 : decode mc_N_series 30 = .ok (.bipush 40, 2) := by decide +kernel
theorem md_N_series_32 : decode mc_N_series 32 = .ok (.if_icmp .le 5, 3) := by decide +kernel
theorem md_N_series_35 : decode mc_N_series 35 = .ok (.iconst (-1), 1) := by decide +kernel
theorem md_N_series_36 : decode mc_N_series 36 = .ok (.ireturn, 1) := by decide +kernel
theorem md_N_series_37 : decode mc_N_series 37 = .ok (.aload_n 0, 1) := by decide +kernel
theorem md_N_series_38 : decode mc_N_series 38 = .ok (.getfield 11, 3) := by decide +kernel
theorem md_N_series_41 : decode mc_N_series 41 = .ok (.iconst 1, 1) := by decide +kernel
theorem md_N_series_42 : decode mc_N_series 42 = .ok (.aaload, 1) := by decide +kernel
theorem md_N_series_43 : decode mc_N_series 43 = .ok (.iload_n 1, 1) := by decide +kernel
theorem md_N_series_44 : decode mc_N_series 44 = .ok (.laload, 1) := by decide +kernel
theorem md_N_series_45 : decode mc_N_series 45 = .ok (.lstore 5, 2) := by decide +kernel
theorem md_N_series_47 : decode mc_N_series 47 = .ok (.aload_n 0, 1) := by decide +kernel
theorem md_N_series_48 : decode mc_N_series 48 = .ok (.getfield 11, 3) := by decide +kernel
theorem md_N_series_51 : decode mc_N_series 51 = .ok (.iconst 1, 1) := by decide +kernel
theorem md_N_series_52 : decode mc_N_series 52 = .ok (.aaload, 1) := by decide +kernel
theorem md_N_series_53 : decode mc_N_series 53 = .ok (.iload_n 2, 1) := by decide +kernel
theorem md_N_series_54 : decode mc_N_series 54 = .ok (.laload, 1) := by decide +kernel
theorem md_N_series_55 : decode mc_N_series 55 = .ok (.lstore 7, 2) := by decide +kernel
theorem md_N_series_57 : decode mc_N_series 57 = .ok (.iload_n 3, 1) := by decide +kernel
theorem md_N_series_58 : decode mc_N_series 58 = .ok (.ifCond .ne 7, 3) := by decide +kernel
theorem md_N_series_61 : decode mc_N_series 61 = .ok (.lconst 0, 1) := by decide +kernel
theorem md_N_series_62 : decode mc_N_series 62 = .ok (.goto 5, 3) := by decide +kernel
theorem md_N_series_65 : decode mc_N_series 65 = .ok (.lload 5, 2) := by decide +kernel
theorem md_N_series_67 : decode mc_N_series 67 = .ok (.lstore 9, 2) := by decide +kernel
theorem md_N_series_69 : decode mc_N_series 69 = .ok (.iconst 1, 1) := by decide +kernel
theorem md_N_series_70 : decode mc_N_series 70 = .ok (.istore 11, 2) := by decide +kernel
theorem md_N_series_72 : decode mc_N_series 72 = .ok (.iload 11, 2) := by decide +kernel
theorem md_N_series_74 : decode mc_N_series 74 = .ok (.iload_n 3, 1) := by decide +kernel
theorem md_N_series_75 : decode mc_N_series 75 = .ok (.if_icmp .ge 33, 3) := by decide +kernel
theorem md_N_series_78 : decode mc_N_series 78 = .ok (.getstatic 79, 3) := by decide +kernel
theorem md_N_series_81 : decode mc_N_series 81 = .ok (.lload 5, 2) := by decide +kernel
theorem md_N_series_83 : decode mc_N_series 83 = .ok (.lload 7, 2) := by decide +kernel
theorem md_N_series_85 : decode mc_N_series 85 = .ok (.invokevirtual 83, 3) := by decide +kernel
theorem md_N_series_88 : decode mc_N_series 88 = .ok (.lstore 5, 2) := by decide +kernel
theorem md_N_series_90 : decode mc_N_series 90 = .ok (.getstatic 79, 3) := by decide +kernel
theorem md_N_series_93 : decode mc_N_series 93 = .ok (.lload 9, 2) := by decide +kernel
theorem md_N_series_95 : decode mc_N_series 95 = .ok (.lload 5, 2) := by decide +kernel
theorem md_N_series_97 : decode mc_N_series 97 = .ok (.invokevirtual 83, 3) := by decide +kernel
theorem md_N_series_100 : decode mc_N_series 100 = .ok (.lstore 9, 2) := by decide +kernel
theorem md_N_series_102 : decode mc_N_series 102 = .ok (.iinc 11 1, 3) := by decide +kernel
theorem md_N_series_105 : decode mc_N_series 105 = .ok (.goto (-33), 3) := by decide +kernel
theorem md_N_series_108 : decode mc_N_series 108 = .ok (.aload_n 0, 1) := by decide +kernel
theorem md_N_series_109 : decode mc_N_series 109 = .ok (.getfield 11, 3) := by decide +kernel
theorem md_N_series_112 : decode mc_N_series 112 = .ok (.iconst 1, 1) := by decide +kernel
theorem md_N_series_113 : decode mc_N_series 113 = .ok (.aaload, 1) := by decide +kernel
theorem md_N_series_114 : decode mc_N_series 114 = .ok (.iload 4, 2) := by decide +kernel
theorem md_N_series_116 : decode mc_N_series 116 = .ok (.lload 9, 2) := by decide +kernel
theorem md_N_series_118 : decode mc_N_series 118 = .ok (.lastore, 1) := by decide +kernel
theorem md_N_series_119 : decode mc_N_series 119 = .ok (.iconst 0, 1) := by decide +kernel
theorem md_N_series_120 : decode mc_N_series 120 = .ok (.ireturn, 1) := by decide +kernel
abbrev mc_N_polynomial : ByteArray := prog_1_method_13_code
def my_N_polynomial : MethodName := ⟨"NumberProbe", "polynomial", "(II)I"⟩
abbrev mw_N_polynomial : List Cond := Cond.code my_N_polynomial mc_N_polynomial 7 (some .int) :: gw_tbl
theorem md_N_polynomial_0 : decode mc_N_polynomial 0 = .ok (.iconst 0, 1) := by decide +kernel
theorem md_N_polynomial_1 : decode mc_N_polynomial 1 = .ok (.iload_n 1, 1) := by decide +kernel
theorem md_N_polynomial_2 : decode mc_N_polynomial 2 = .ok (.invokestatic 14, 3) := by decide +kernel
theorem md_N_polynomial_5 : decode mc_N_polynomial 5 = .ok (.ifCond .eq 11, 3) := by decide +kernel
theorem md_N_polynomial_8 : decode mc_N_polynomial 8 = .ok (.iconst 0, 1) := by decide +kernel
theorem md_N_polynomial_9 : decode mc_N_polynomial 9 = .ok (.iload_n 2, 1) := by decide +kernel
theorem md_N_polynomial_10 : decode mc_N_polynomial 10 = .ok (.invokestatic 14, 3) := by decide +kernel
theorem md_N_polynomial_13 : decode mc_N_polynomial 13 = .ok (.ifCond .ne 5, 3) := by decide +kernel
theorem md_N_polynomial_16 : decode mc_N_polynomial 16 = .ok (.iconst (-1), 1) := by decide +kernel
theorem md_N_polynomial_17 : decode mc_N_polynomial 17 = .ok (.ireturn, 1) := by decide +kernel
theorem md_N_polynomial_18 : decode mc_N_polynomial 18 = .ok (.aload_n 0, 1) := by decide +kernel
theorem md_N_polynomial_19 : decode mc_N_polynomial 19 = .ok (.getfield 11, 3) := by decide +kernel
theorem md_N_polynomial_22 : decode mc_N_polynomial 22 = .ok (.iconst 0, 1) := by decide +kernel
theorem md_N_polynomial_23 : decode mc_N_polynomial 23 = .ok (.aaload, 1) := by decide +kernel
theorem md_N_polynomial_24 : decode mc_N_polynomial 24 = .ok (.astore_n 3, 1) := by decide +kernel
theorem md_N_polynomial_25 : decode mc_N_polynomial 25 = .ok (.aload_n 3, 1) := by decide +kernel
theorem md_N_polynomial_26 : decode mc_N_polynomial 26 = .ok (.iconst 5, 1) := by decide +kernel
theorem md_N_polynomial_27 : decode mc_N_polynomial 27 = .ok (.laload, 1) := by decide +kernel
theorem md_N_polynomial_28 : decode mc_N_polynomial 28 = .ok (.lstore 4, 2) := by decide +kernel
theorem md_N_polynomial_30 : decode mc_N_polynomial 30 = .ok (.iconst 4, 1) := by decide +kernel
theorem md_N_polynomial_31 : decode mc_N_polynomial 31 = .ok (.istore 6, 2) := by decide +kernel
theorem md_N_polynomial_33 : decode mc_N_polynomial 33 = .ok (.iload 6, 2) := by decide +kernel
theorem md_N_polynomial_35 : decode mc_N_polynomial 35 = .ok (.ifCond .lt 32, 3) := by decide +kernel
theorem md_N_polynomial_38 : decode mc_N_polynomial 38 = .ok (.getstatic 87, 3) := by decide +kernel
theorem md_N_polynomial_41 : decode mc_N_polynomial 41 = .ok (.getstatic 87, 3) := by decide +kernel
theorem md_N_polynomial_44 : decode mc_N_polynomial 44 = .ok (.lload 4, 2) := by decide +kernel
theorem md_N_polynomial_46 : decode mc_N_polynomial 46 = .ok (.aload_n 3, 1) := by decide +kernel
theorem md_N_polynomial_47 : decode mc_N_polynomial 47 = .ok (.iload_n 1, 1) := by decide +kernel
theorem md_N_polynomial_48 : decode mc_N_polynomial 48 = .ok (.laload, 1) := by decide +kernel
theorem md_N_polynomial_49 : decode mc_N_polynomial 49 = .ok (.invokevirtual 90, 3) := by decide +kernel
theorem md_N_polynomial_52 : decode mc_N_polynomial 52 = .ok (.aload_n 3, 1) := by decide +kernel
theorem md_N_polynomial_53 : decode mc_N_polynomial 53 = .ok (.iload 6, 2) := by decide +kernel
theorem md_N_polynomial_55 : decode mc_N_polynomial 55 = .ok (.laload, 1) := by decide +kernel
theorem md_N_polynomial_56 : decode mc_N_polynomial 56 = .ok (.invokevirtual 83, 3) := by decide +kernel
theorem md_N_polynomial_59 : decode mc_N_polynomial 59 = .ok (.lstore 4, 2) := by decide +kernel
theorem md_N_polynomial_61 : decode mc_N_polynomial 61 = .ok (.iinc 6 (-1), 3) := by decide +kernel
theorem md_N_polynomial_64 : decode mc_N_polynomial 64 = .ok (.goto (-31), 3) := by decide +kernel
theorem md_N_polynomial_67 : decode mc_N_polynomial 67 = .ok (.aload_n 3, 1) := by decide +kernel
theorem md_N_polynomial_68 : decode mc_N_polynomial 68 = .ok (.iload_n 2, 1) := by decide +kernel
theorem md_N_polynomial_69 : decode mc_N_polynomial 69 = .ok (.lload 4, 2) := by decide +kernel
theorem md_N_polynomial_71 : decode mc_N_polynomial 71 = .ok (.lastore, 1) := by decide +kernel
theorem md_N_polynomial_72 : decode mc_N_polynomial 72 = .ok (.iconst 0, 1) := by decide +kernel
theorem md_N_polynomial_73 : decode mc_N_polynomial 73 = .ok (.ireturn, 1) := by decide +kernel
abbrev mc_N_isNumber : ByteArray := prog_1_method_14_code
def my_N_isNumber : MethodName := ⟨"NumberProbe", "isNumber", "(II)Z"⟩
abbrev mw_N_isNumber : List Cond := Cond.code my_N_isNumber mc_N_isNumber 2 (some .boolean) :: gw_tbl
theorem md_N_isNumber_0 : decode mc_N_isNumber 0 = .ok (.iload_n 0, 1) := by decide +kernel
theorem md_N_isNumber_1 : decode mc_N_isNumber 1 = .ok (.ifCond .lt 22, 3) := by decide +kernel
theorem md_N_isNumber_4 : decode mc_N_isNumber 4 = .ok (.iload_n 0, 1) := by decide +kernel
theorem md_N_isNumber_5 : decode mc_N_isNumber 5 = .ok (.iconst 4, 1) := by decide +kernel
theorem md_N_isNumber_6 : decode mc_N_isNumber 6 = .ok (.if_icmp .ge 17, 3) := by decide +kernel
theorem md_N_isNumber_9 : decode mc_N_isNumber 9 = .ok (.iload_n 1, 1) := by decide +kernel
theorem md_N_isNumber_10 : decode mc_N_isNumber 10 = .ok (.ifCond .lt 13, 3) := by decide +kernel
theorem md_N_isNumber_13 : decode mc_N_isNumber 13 = .ok (.iload_n 1, 1) := by decide +kernel
theorem md_N_isNumber_14 : decode mc_N_isNumber 14 = .ok (.bipush 6, 2) := by decide +kernel
theorem md_N_isNumber_16 : decode mc_N_isNumber 16 = .ok (.if_icmp .ge 7, 3) := by decide +kernel
theorem md_N_isNumber_19 : decode mc_N_isNumber 19 = .ok (.iconst 1, 1) := by decide +kernel
theorem md_N_isNumber_20 : decode mc_N_isNumber 20 = .ok (.goto 4, 3) := by decide +kernel
theorem md_N_isNumber_23 : decode mc_N_isNumber 23 = .ok (.iconst 0, 1) := by decide +kernel
theorem md_N_isNumber_24 : decode mc_N_isNumber 24 = .ok (.ireturn, 1) := by decide +kernel
abbrev mc_N_isOperation : ByteArray := prog_1_method_15_code
def my_N_isOperation : MethodName := ⟨"NumberProbe", "isOperation", "(II)Z"⟩
abbrev mw_N_isOperation : List Cond := Cond.code my_N_isOperation mc_N_isOperation 2 (some .boolean) :: gw_tbl
theorem md_N_isOperation_0 : decode mc_N_isOperation 0 = .ok (.iload_n 1, 1) := by decide +kernel
theorem md_N_isOperation_1 : decode mc_N_isOperation 1 = .ok (.ifCond .lt 25, 3) := by decide +kernel
theorem md_N_isOperation_4 : decode mc_N_isOperation 4 = .ok (.iload_n 1, 1) := by decide +kernel
theorem md_N_isOperation_5 : decode mc_N_isOperation 5 = .ok (.iload_n 0, 1) := by decide +kernel
theorem md_N_isOperation_6 : decode mc_N_isOperation 6 = .ok (.invokestatic 18, 3) := by decide +kernel
theorem md_N_isOperation_9 : decode mc_N_isOperation 9 = .ok (.ifCond .eq 8, 3) := by decide +kernel
theorem md_N_isOperation_12 : decode mc_N_isOperation 12 = .ok (.bipush 8, 2) := by decide +kernel
theorem md_N_isOperation_14 : decode mc_N_isOperation 14 = .ok (.goto 5, 3) := by decide +kernel
theorem md_N_isOperation_17 : decode mc_N_isOperation 17 = .ok (.bipush 14, 2) := by decide +kernel
theorem md_N_isOperation_19 : decode mc_N_isOperation 19 = .ok (.if_icmp .gt 7, 3) := by decide +kernel
theorem md_N_isOperation_22 : decode mc_N_isOperation 22 = .ok (.iconst 1, 1) := by decide +kernel
theorem md_N_isOperation_23 : decode mc_N_isOperation 23 = .ok (.goto 4, 3) := by decide +kernel
theorem md_N_isOperation_26 : decode mc_N_isOperation 26 = .ok (.iconst 0, 1) := by decide +kernel
theorem md_N_isOperation_27 : decode mc_N_isOperation 27 = .ok (.ireturn, 1) := by decide +kernel
abbrev mc_N_isFloating : ByteArray := prog_1_method_16_code
def my_N_isFloating : MethodName := ⟨"NumberProbe", "isFloating", "(I)Z"⟩
abbrev mw_N_isFloating : List Cond := Cond.code my_N_isFloating mc_N_isFloating 1 (some .boolean) :: gw_tbl
theorem md_N_isFloating_0 : decode mc_N_isFloating 0 = .ok (.iload_n 0, 1) := by decide +kernel
theorem md_N_isFloating_1 : decode mc_N_isFloating 1 = .ok (.ifCond .eq 8, 3) := by decide +kernel
theorem md_N_isFloating_4 : decode mc_N_isFloating 4 = .ok (.iload_n 0, 1) := by decide +kernel
theorem md_N_isFloating_5 : decode mc_N_isFloating 5 = .ok (.iconst 1, 1) := by decide +kernel
theorem md_N_isFloating_6 : decode mc_N_isFloating 6 = .ok (.if_icmp .ne 7, 3) := by decide +kernel
theorem md_N_isFloating_9 : decode mc_N_isFloating 9 = .ok (.iconst 1, 1) := by decide +kernel
theorem md_N_isFloating_10 : decode mc_N_isFloating 10 = .ok (.goto 4, 3) := by decide +kernel
theorem md_N_isFloating_13 : decode mc_N_isFloating 13 = .ok (.iconst 0, 1) := by decide +kernel
theorem md_N_isFloating_14 : decode mc_N_isFloating 14 = .ok (.ireturn, 1) := by decide +kernel
abbrev mc_N_formatOf : ByteArray := prog_1_method_17_code
def my_N_formatOf : MethodName := ⟨"NumberProbe", "formatOf", "(I)LNumberProbe$Format;"⟩
abbrev mw_N_formatOf : List Cond := Cond.code my_N_formatOf mc_N_formatOf 1 (some (.object "NumberProbe$Format")) :: gw_tbl
theorem md_N_formatOf_0 : decode mc_N_formatOf 0 = .ok (.iload_n 0, 1) := by decide +kernel
theorem md_N_formatOf_1 : decode mc_N_formatOf 1 = .ok (.ifCond .ne 9, 3) := by decide +kernel
theorem md_N_formatOf_4 : decode mc_N_formatOf 4 = .ok (.getstatic 87, 3) := by decide +kernel
theorem md_N_formatOf_7 : decode mc_N_formatOf 7 = .ok (.goto 6, 3) := by decide +kernel
theorem md_N_formatOf_10 : decode mc_N_formatOf 10 = .ok (.getstatic 79, 3) := by decide +kernel
theorem md_N_formatOf_13 : decode mc_N_formatOf 13 = .ok (.areturn, 1) := by decide +kernel
abbrev mc_N_widthOf : ByteArray := prog_1_method_18_code
def my_N_widthOf : MethodName := ⟨"NumberProbe", "widthOf", "(I)I"⟩
abbrev mw_N_widthOf : List Cond := Cond.code my_N_widthOf mc_N_widthOf 1 (some .int) :: gw_tbl
theorem md_N_widthOf_0 : decode mc_N_widthOf 0 = .ok (.iload_n 0, 1) := by decide +kernel
theorem md_N_widthOf_1 : decode mc_N_widthOf 1 = .ok (.invokestatic 18, 3) := by decide +kernel
theorem md_N_widthOf_4 : decode mc_N_widthOf 4 = .ok (.ifCond .eq 9, 3) := by decide +kernel
theorem md_N_widthOf_7 : decode mc_N_widthOf 7 = .ok (.iload_n 0, 1) := by decide +kernel
theorem md_N_widthOf_8 : decode mc_N_widthOf 8 = .ok (.iconst 2, 1) := by decide +kernel
theorem md_N_widthOf_9 : decode mc_N_widthOf 9 = .ok (.iadd, 1) := by decide +kernel
theorem md_N_widthOf_10 : decode mc_N_widthOf 10 = .ok (.goto 6, 3) := by decide +kernel
theorem md_N_widthOf_13 : decode mc_N_widthOf 13 = .ok (.iload_n 0, 1) := by decide +kernel
theorem md_N_widthOf_14 : decode mc_N_widthOf 14 = .ok (.iconst 2, 1) := by decide +kernel
theorem md_N_widthOf_15 : decode mc_N_widthOf 15 = .ok (.isub, 1) := by decide +kernel
theorem md_N_widthOf_16 : decode mc_N_widthOf 16 = .ok (.ireturn, 1) := by decide +kernel
abbrev mc_N_boundariesOf : ByteArray := prog_1_method_19_code
def my_N_boundariesOf : MethodName := ⟨"NumberProbe", "boundariesOf", "(I)[J"⟩
abbrev mw_N_boundariesOf : List Cond := Cond.code my_N_boundariesOf mc_N_boundariesOf 1 (some (.array .long)) :: gw_tbl
theorem md_N_boundariesOf_0 : decode mc_N_boundariesOf 0 = .ok (.iload_n 0, 1) := by decide +kernel
theorem md_N_boundariesOf_1 : decode mc_N_boundariesOf 1 = .ok (.tableswitch 39 0 2 #[27, 31, 35], 27) := by decide +kernel
theorem md_N_boundariesOf_28 : decode mc_N_boundariesOf 28 = .ok (.getstatic 93, 3) := by decide +kernel
theorem md_N_boundariesOf_31 : decode mc_N_boundariesOf 31 = .ok (.areturn, 1) := by decide +kernel
theorem md_N_boundariesOf_32 : decode mc_N_boundariesOf 32 = .ok (.getstatic 97, 3) := by decide +kernel
theorem md_N_boundariesOf_35 : decode mc_N_boundariesOf 35 = .ok (.areturn, 1) := by decide +kernel
theorem md_N_boundariesOf_36 : decode mc_N_boundariesOf 36 = .ok (.getstatic 100, 3) := by decide +kernel
theorem md_N_boundariesOf_39 : decode mc_N_boundariesOf 39 = .ok (.areturn, 1) := by decide +kernel
theorem md_N_boundariesOf_40 : decode mc_N_boundariesOf 40 = .ok (.getstatic 103, 3) := by decide +kernel
theorem md_N_boundariesOf_43 : decode mc_N_boundariesOf 43 = .ok (.areturn, 1) := by decide +kernel
abbrev mc_N_fitted : ByteArray := prog_1_method_20_code
def my_N_fitted : MethodName := ⟨"NumberProbe", "fitted", "(IJ)J"⟩
abbrev mw_N_fitted : List Cond := Cond.code my_N_fitted mc_N_fitted 3 (some .long) :: gw_tbl
theorem md_N_fitted_0 : decode mc_N_fitted 0 = .ok (.iload_n 0, 1) := by decide +kernel
theorem md_N_fitted_1 : decode mc_N_fitted 1 = .ok (.iconst 3, 1) := by decide +kernel
theorem md_N_fitted_2 : decode mc_N_fitted 2 = .ok (.if_icmp .ne 7, 3) := by decide +kernel
theorem md_N_fitted_5 : decode mc_N_fitted 5 = .ok (.lload_n 1, 1) := by decide +kernel
theorem md_N_fitted_6 : decode mc_N_fitted 6 = .ok (.goto 6, 3) := by decide +kernel
theorem md_N_fitted_9 : decode mc_N_fitted 9 = .ok (.lload_n 1, 1) := by decide +kernel
theorem md_N_fitted_10 : decode mc_N_fitted 10 = .ok (.l2i, 1) := by decide +kernel
theorem md_N_fitted_11 : decode mc_N_fitted 11 = .ok (.i2l, 1) := by decide +kernel
theorem md_N_fitted_12 : decode mc_N_fitted 12 = .ok (.lreturn, 1) := by decide +kernel
abbrev mc_N_converted : ByteArray := prog_1_method_21_code
def my_N_converted : MethodName := ⟨"NumberProbe", "converted", "(IJI)J"⟩
abbrev mw_N_converted : List Cond := Cond.code my_N_converted mc_N_converted 6 (some .long) :: gw_tbl
theorem md_N_converted_0 : decode mc_N_converted 0 = .ok (.iload_n 3, 1) := by decide +kernel
theorem md_N_converted_1 : decode mc_N_converted 1 = .ok (.invokestatic 18, 3) := by decide +kernel
theorem md_N_converted_4 : decode mc_N_converted 4 = .ok (.ifCond .eq 34, 3) := by decide +kernel
theorem md_N_converted_7 : decode mc_N_converted 7 = .ok (.iload_n 0, 1) := by decide +kernel
theorem md_N_converted_8 : decode mc_N_converted 8 = .ok (.invokestatic 18, 3) := by decide +kernel
theorem md_N_converted_11 : decode mc_N_converted 11 = .ok (.ifCond .eq 18, 3) := by decide +kernel
theorem md_N_converted_14 : decode mc_N_converted 14 = .ok (.iload_n 3, 1) := by decide +kernel
theorem md_N_converted_15 : decode mc_N_converted 15 = .ok (.invokestatic 22, 3) := by decide +kernel
theorem md_N_converted_18 : decode mc_N_converted 18 = .ok (.iload_n 0, 1) := by decide +kernel
theorem md_N_converted_19 : decode mc_N_converted 19 = .ok (.invokestatic 22, 3) := by decide +kernel
theorem md_N_converted_22 : decode mc_N_converted 22 = .ok (.lload_n 1, 1) := by decide +kernel
theorem md_N_converted_23 : decode mc_N_converted 23 = .ok (.invokevirtual 106, 3) := by decide +kernel
theorem md_N_converted_26 : decode mc_N_converted 26 = .ok (.goto 11, 3) := by decide +kernel
theorem md_N_converted_29 : decode mc_N_converted 29 = .ok (.iload_n 3, 1) := by decide +kernel
theorem md_N_converted_30 : decode mc_N_converted 30 = .ok (.invokestatic 22, 3) := by decide +kernel
theorem md_N_converted_33 : decode mc_N_converted 33 = .ok (.lload_n 1, 1) := by decide +kernel
theorem md_N_converted_34 : decode mc_N_converted 34 = .ok (.invokevirtual 110, 3) := by decide +kernel
theorem md_N_converted_37 : decode mc_N_converted 37 = .ok (.lreturn, 1) := by decide +kernel
theorem md_N_converted_38 : decode mc_N_converted 38 = .ok (.iload_n 0, 1) := by decide +kernel
theorem md_N_converted_39 : decode mc_N_converted 39 = .ok (.invokestatic 18, 3) := by decide +kernel
theorem md_N_converted_42 : decode mc_N_converted 42 = .ok (.ifCond .ne 9, 3) := by decide +kernel
theorem md_N_converted_45 : decode mc_N_converted 45 = .ok (.iload_n 3, 1) := by decide +kernel
theorem md_N_converted_46 : decode mc_N_converted 46 = .ok (.lload_n 1, 1) := by decide +kernel
theorem md_N_converted_47 : decode mc_N_converted 47 = .ok (.invokestatic 32, 3) := by decide +kernel
theorem md_N_converted_50 : decode mc_N_converted 50 = .ok (.lreturn, 1) := by decide +kernel
theorem md_N_converted_51 : decode mc_N_converted 51 = .ok (.iload_n 0, 1) := by decide +kernel
theorem md_N_converted_52 : decode mc_N_converted 52 = .ok (.invokestatic 22, 3) := by decide +kernel
theorem md_N_converted_55 : decode mc_N_converted 55 = .ok (.lload_n 1, 1) := by decide +kernel
theorem md_N_converted_56 : decode mc_N_converted 56 = .ok (.invokevirtual 113, 3) := by decide +kernel
theorem md_N_converted_59 : decode mc_N_converted 59 = .ok (.lstore 4, 2) := by decide +kernel
theorem md_N_converted_61 : decode mc_N_converted 61 = .ok (.iload_n 3, 1) := by decide +kernel
theorem md_N_converted_62 : decode mc_N_converted 62 = .ok (.iconst 3, 1) := by decide +kernel
theorem md_N_converted_63 : decode mc_N_converted 63 = .ok (.if_icmp .ne 8, 3) := by decide +kernel
theorem md_N_converted_66 : decode mc_N_converted 66 = .ok (.lload 4, 2) := by decide +kernel
theorem md_N_converted_68 : decode mc_N_converted 68 = .ok (.goto 17, 3) := by decide +kernel
theorem md_N_converted_71 : decode mc_N_converted 71 = .ok (.ldc2_w 118, 3) := by decide +kernel
theorem md_N_converted_74 : decode mc_N_converted 74 = .ok (.ldc2_w 120, 3) := by decide +kernel
theorem md_N_converted_77 : decode mc_N_converted 77 = .ok (.lload 4, 2) := by decide +kernel
theorem md_N_converted_79 : decode mc_N_converted 79 = .ok (.invokestatic 122, 3) := by decide +kernel
theorem md_N_converted_82 : decode mc_N_converted 82 = .ok (.invokestatic 127, 3) := by decide +kernel
theorem md_N_converted_85 : decode mc_N_converted 85 = .ok (.lreturn, 1) := by decide +kernel
abbrev mc_N_dividesByZero : ByteArray := prog_1_method_22_code
def my_N_dividesByZero : MethodName := ⟨"NumberProbe", "dividesByZero", "(IIJ)Z"⟩
abbrev mw_N_dividesByZero : List Cond := Cond.code my_N_dividesByZero mc_N_dividesByZero 4 (some .boolean) :: gw_tbl
theorem md_N_dividesByZero_0 : decode mc_N_dividesByZero 0 = .ok (.iload_n 0, 1) := by decide +kernel
theorem md_N_dividesByZero_1 : decode mc_N_dividesByZero 1 = .ok (.invokestatic 18, 3) := by decide +kernel
theorem md_N_dividesByZero_4 : decode mc_N_dividesByZero 4 = .ok (.ifCond .ne 23, 3) := by decide +kernel
theorem md_N_dividesByZero_7 : decode mc_N_dividesByZero 7 = .ok (.iload_n 1, 1) := by decide +kernel
theorem md_N_dividesByZero_8 : decode mc_N_dividesByZero 8 = .ok (.iconst 3, 1) := by decide +kernel
theorem md_N_dividesByZero_9 : decode mc_N_dividesByZero 9 = .ok (.if_icmp .eq 8, 3) := by decide +kernel
theorem md_N_dividesByZero_12 : decode mc_N_dividesByZero 12 = .ok (.iload_n 1, 1) := by decide +kernel
theorem md_N_dividesByZero_13 : decode mc_N_dividesByZero 13 = .ok (.iconst 4, 1) := by decide +kernel
theorem md_N_dividesByZero_14 : decode mc_N_dividesByZero 14 = .ok (.if_icmp .ne 13, 3) := by decide +kernel
theorem md_N_dividesByZero_17 : decode mc_N_dividesByZero 17 = .ok (.lload_n 2, 1) := by decide +kernel
theorem md_N_dividesByZero_18 : decode mc_N_dividesByZero 18 = .ok (.lconst 0, 1) := by decide +kernel
theorem md_N_dividesByZero_19 : decode mc_N_dividesByZero 19 = .ok (.lcmp, 1) := by decide +kernel
theorem md_N_dividesByZero_20 : decode mc_N_dividesByZero 20 = .ok (.ifCond .ne 7, 3) := by decide +kernel
theorem md_N_dividesByZero_23 : decode mc_N_dividesByZero 23 = .ok (.iconst 1, 1) := by decide +kernel
theorem md_N_dividesByZero_24 : decode mc_N_dividesByZero 24 = .ok (.goto 4, 3) := by decide +kernel
theorem md_N_dividesByZero_27 : decode mc_N_dividesByZero 27 = .ok (.iconst 0, 1) := by decide +kernel
theorem md_N_dividesByZero_28 : decode mc_N_dividesByZero 28 = .ok (.ireturn, 1) := by decide +kernel
abbrev mc_N_result : ByteArray := prog_1_method_23_code
def my_N_result : MethodName := ⟨"NumberProbe", "result", "(IIJJ)J"⟩
abbrev mw_N_result : List Cond := Cond.code my_N_result mc_N_result 6 (some .long) :: gw_tbl
theorem md_N_result_0 : decode mc_N_result 0 = .ok (.iload_n 0, 1) := by decide +kernel
theorem md_N_result_1 : decode mc_N_result 1 = .ok (.invokestatic 18, 3) := by decide +kernel
theorem md_N_result_4 : decode mc_N_result 4 = .ok (.ifCond .eq 15, 3) := by decide +kernel
theorem md_N_result_7 : decode mc_N_result 7 = .ok (.iload_n 0, 1) := by decide +kernel
theorem md_N_result_8 : decode mc_N_result 8 = .ok (.invokestatic 22, 3) := by decide +kernel
theorem md_N_result_11 : decode mc_N_result 11 = .ok (.iload_n 1, 1) := by decide +kernel
theorem md_N_result_12 : decode mc_N_result 12 = .ok (.lload_n 2, 1) := by decide +kernel
theorem md_N_result_13 : decode mc_N_result 13 = .ok (.lload 4, 2) := by decide +kernel
theorem md_N_result_15 : decode mc_N_result 15 = .ok (.invokestatic 130, 3) := by decide +kernel
theorem md_N_result_18 : decode mc_N_result 18 = .ok (.lreturn, 1) := by decide +kernel
theorem md_N_result_19 : decode mc_N_result 19 = .ok (.iload_n 1, 1) := by decide +kernel
theorem md_N_result_20 : decode mc_N_result 20 = .ok (.bipush 9, 2) := by decide +kernel
theorem md_N_result_22 : decode mc_N_result 22 = .ok (.if_icmp .lt 18, 3) := by decide +kernel
theorem md_N_result_25 : decode mc_N_result 25 = .ok (.iload_n 1, 1) := by decide +kernel
theorem md_N_result_26 : decode mc_N_result 26 = .ok (.bipush 11, 2) := by decide +kernel
theorem md_N_result_28 : decode mc_N_result 28 = .ok (.if_icmp .gt 12, 3) := by decide +kernel
theorem md_N_result_31 : decode mc_N_result 31 = .ok (.iload_n 0, 1) := by decide +kernel
theorem md_N_result_32 : decode mc_N_result 32 = .ok (.iload_n 1, 1) := by decide +kernel
theorem md_N_result_33 : decode mc_N_result 33 = .ok (.lload_n 2, 1) := by decide +kernel
theorem md_N_result_34 : decode mc_N_result 34 = .ok (.lload 4, 2) := by decide +kernel
theorem md_N_result_36 : decode mc_N_result 36 = .ok (.invokestatic 134, 3) := by decide +kernel
theorem md_N_result_39 : decode mc_N_result 39 = .ok (.lreturn, 1) := by decide +kernel
theorem md_N_result_40 : decode mc_N_result 40 = .ok (.iload_n 0, 1) := by decide +kernel
theorem md_N_result_41 : decode mc_N_result 41 = .ok (.iload_n 1, 1) := by decide +kernel
theorem md_N_result_42 : decode mc_N_result 42 = .ok (.lload_n 2, 1) := by decide +kernel
theorem md_N_result_43 : decode mc_N_result 43 = .ok (.lload 4, 2) := by decide +kernel
theorem md_N_result_45 : decode mc_N_result 45 = .ok (.invokestatic 137, 3) := by decide +kernel
theorem md_N_result_48 : decode mc_N_result 48 = .ok (.invokestatic 32, 3) := by decide +kernel
theorem md_N_result_51 : decode mc_N_result 51 = .ok (.lreturn, 1) := by decide +kernel
abbrev mc_N_floatingResult : ByteArray := prog_1_method_24_code
def my_N_floatingResult : MethodName := ⟨"NumberProbe", "floatingResult", "(LNumberProbe$Format;IJJ)J"⟩
abbrev mw_N_floatingResult : List Cond := Cond.code my_N_floatingResult mc_N_floatingResult 6 (some .long) :: gw_tbl
theorem md_N_floatingResult_0 : decode mc_N_floatingResult 0 = .ok (.iload_n 1, 1) := by decide +kernel
theorem md_N_floatingResult_1 : decode mc_N_floatingResult 1 = .ok (.tableswitch 113 0 7 #[47, 55, 67, 75, 83, 91, 99, 107], 47) := by decide +kernel
theorem md_N_floatingResult_48 : decode mc_N_floatingResult 48 = .ok (.aload_n 0, 1) := by decide +kernel
theorem md_N_floatingResult_49 : decode mc_N_floatingResult 49 = .ok (.lload_n 2, 1) := by decide +kernel
theorem md_N_floatingResult_50 : decode mc_N_floatingResult 50 = .ok (.lload 4, 2) := by decide +kernel
theorem md_N_floatingResult_52 : decode mc_N_floatingResult 52 = .ok (.invokevirtual 83, 3) := by decide +kernel
theorem md_N_floatingResult_55 : decode mc_N_floatingResult 55 = .ok (.lreturn, 1) := by decide +kernel
theorem md_N_floatingResult_56 : decode mc_N_floatingResult 56 = .ok (.aload_n 0, 1) := by decide +kernel
theorem md_N_floatingResult_57 : decode mc_N_floatingResult 57 = .ok (.lload_n 2, 1) := by decide +kernel
theorem md_N_floatingResult_58 : decode mc_N_floatingResult 58 = .ok (.aload_n 0, 1) := by decide +kernel
theorem md_N_floatingResult_59 : decode mc_N_floatingResult 59 = .ok (.lload 4, 2) := by decide +kernel
theorem md_N_floatingResult_61 : decode mc_N_floatingResult 61 = .ok (.invokevirtual 141, 3) := by decide +kernel
theorem md_N_floatingResult_64 : decode mc_N_floatingResult 64 = .ok (.invokevirtual 83, 3) := by decide +kernel
theorem md_N_floatingResult_67 : decode mc_N_floatingResult 67 = .ok (.lreturn, 1) := by decide +kernel
theorem md_N_floatingResult_68 : decode mc_N_floatingResult 68 = .ok (.aload_n 0, 1) := by decide +kernel
theorem md_N_floatingResult_69 : decode mc_N_floatingResult 69 = .ok (.lload_n 2, 1) := by decide +kernel
theorem md_N_floatingResult_70 : decode mc_N_floatingResult 70 = .ok (.lload 4, 2) := by decide +kernel
theorem md_N_floatingResult_72 : decode mc_N_floatingResult 72 = .ok (.invokevirtual 90, 3) := by decide +kernel
theorem md_N_floatingResult_75 : decode mc_N_floatingResult 75 = .ok (.lreturn, 1) := by decide +kernel
theorem md_N_floatingResult_76 : decode mc_N_floatingResult 76 = .ok (.aload_n 0, 1) := by decide +kernel
theorem md_N_floatingResult_77 : decode mc_N_floatingResult 77 = .ok (.lload_n 2, 1) := by decide +kernel
theorem md_N_floatingResult_78 : decode mc_N_floatingResult 78 = .ok (.lload 4, 2) := by decide +kernel
theorem md_N_floatingResult_80 : decode mc_N_floatingResult 80 = .ok (.invokevirtual 144, 3) := by decide +kernel
theorem md_N_floatingResult_83 : decode mc_N_floatingResult 83 = .ok (.lreturn, 1) := by decide +kernel
theorem md_N_floatingResult_84 : decode mc_N_floatingResult 84 = .ok (.aload_n 0, 1) := by decide +kernel
theorem md_N_floatingResult_85 : decode mc_N_floatingResult 85 = .ok (.lload_n 2, 1) := by decide +kernel
theorem md_N_floatingResult_86 : decode mc_N_floatingResult 86 = .ok (.lload 4, 2) := by decide +kernel
theorem md_N_floatingResult_88 : decode mc_N_floatingResult 88 = .ok (.invokevirtual 147, 3) := by decide +kernel
theorem md_N_floatingResult_91 : decode mc_N_floatingResult 91 = .ok (.lreturn, 1) := by decide +kernel
theorem md_N_floatingResult_92 : decode mc_N_floatingResult 92 = .ok (.aload_n 0, 1) := by decide +kernel
theorem md_N_floatingResult_93 : decode mc_N_floatingResult 93 = .ok (.lload_n 2, 1) := by decide +kernel
theorem md_N_floatingResult_94 : decode mc_N_floatingResult 94 = .ok (.lload 4, 2) := by decide +kernel
theorem md_N_floatingResult_96 : decode mc_N_floatingResult 96 = .ok (.invokevirtual 150, 3) := by decide +kernel
theorem md_N_floatingResult_99 : decode mc_N_floatingResult 99 = .ok (.lreturn, 1) := by decide +kernel
theorem md_N_floatingResult_100 : decode mc_N_floatingResult 100 = .ok (.aload_n 0, 1) := by decide +kernel
theorem md_N_floatingResult_101 : decode mc_N_floatingResult 101 = .ok (.lload_n 2, 1) := by decide +kernel
theorem md_N_floatingResult_102 : decode mc_N_floatingResult 102 = .ok (.lload 4, 2) := by decide +kernel
theorem md_N_floatingResult_104 : decode mc_N_floatingResult 104 = .ok (.invokevirtual 153, 3) := by decide +kernel
theorem md_N_floatingResult_107 : decode mc_N_floatingResult 107 = .ok (.lreturn, 1) := by decide +kernel
theorem md_N_floatingResult_108 : decode mc_N_floatingResult 108 = .ok (.aload_n 0, 1) := by decide +kernel
theorem md_N_floatingResult_109 : decode mc_N_floatingResult 109 = .ok (.lload_n 2, 1) := by decide +kernel
theorem md_N_floatingResult_110 : decode mc_N_floatingResult 110 = .ok (.invokevirtual 141, 3) := by decide +kernel
theorem md_N_floatingResult_113 : decode mc_N_floatingResult 113 = .ok (.lreturn, 1) := by decide +kernel
theorem md_N_floatingResult_114 : decode mc_N_floatingResult 114 = .ok (.aload_n 0, 1) := by decide +kernel
theorem md_N_floatingResult_115 : decode mc_N_floatingResult 115 = .ok (.lload_n 2, 1) := by decide +kernel
theorem md_N_floatingResult_116 : decode mc_N_floatingResult 116 = .ok (.invokevirtual 156, 3) := by decide +kernel
theorem md_N_floatingResult_119 : decode mc_N_floatingResult 119 = .ok (.lreturn, 1) := by decide +kernel
abbrev mc_N_wholeResult : ByteArray := prog_1_method_25_code
def my_N_wholeResult : MethodName := ⟨"NumberProbe", "wholeResult", "(IJJ)J"⟩
abbrev mw_N_wholeResult : List Cond := Cond.code my_N_wholeResult mc_N_wholeResult 5 (some .long) :: gw_tbl
theorem md_N_wholeResult_0 : decode mc_N_wholeResult 0 = .ok (.iload_n 0, 1) := by decide +kernel
theorem md_N_wholeResult_1 : decode mc_N_wholeResult 1 = .ok (.tableswitch 127 0 13 #[71, 75, 79, 83, 87, 91, 97, 103, 106, 127, 127, 127, 119, 123], 71) := by decide +kernel
theorem md_N_wholeResult_72 : decode mc_N_wholeResult 72 = .ok (.lload_n 1, 1) := by decide +kernel
theorem md_N_wholeResult_73 : decode mc_N_wholeResult 73 = .ok (.lload_n 3, 1) := by decide +kernel
theorem md_N_wholeResult_74 : decode mc_N_wholeResult 74 = .ok (.ladd, 1) := by decide +kernel
theorem md_N_wholeResult_75 : decode mc_N_wholeResult 75 = .ok (.lreturn, 1) := by decide +kernel
theorem md_N_wholeResult_76 : decode mc_N_wholeResult 76 = .ok (.lload_n 1, 1) := by decide +kernel
theorem md_N_wholeResult_77 : decode mc_N_wholeResult 77 = .ok (.lload_n 3, 1) := by decide +kernel
theorem md_N_wholeResult_78 : decode mc_N_wholeResult 78 = .ok (.lsub, 1) := by decide +kernel
theorem md_N_wholeResult_79 : decode mc_N_wholeResult 79 = .ok (.lreturn, 1) := by decide +kernel
theorem md_N_wholeResult_80 : decode mc_N_wholeResult 80 = .ok (.lload_n 1, 1) := by decide +kernel
theorem md_N_wholeResult_81 : decode mc_N_wholeResult 81 = .ok (.lload_n 3, 1) := by decide +kernel
theorem md_N_wholeResult_82 : decode mc_N_wholeResult 82 = .ok (.lmul, 1) := by decide +kernel
theorem md_N_wholeResult_83 : decode mc_N_wholeResult 83 = .ok (.lreturn, 1) := by decide +kernel
theorem md_N_wholeResult_84 : decode mc_N_wholeResult 84 = .ok (.lload_n 1, 1) := by decide +kernel
theorem md_N_wholeResult_85 : decode mc_N_wholeResult 85 = .ok (.lload_n 3, 1) := by decide +kernel
theorem md_N_wholeResult_86 : decode mc_N_wholeResult 86 = .ok (.ldiv, 1) := by decide +kernel
theorem md_N_wholeResult_87 : decode mc_N_wholeResult 87 = .ok (.lreturn, 1) := by decide +kernel
theorem md_N_wholeResult_88 : decode mc_N_wholeResult 88 = .ok (.lload_n 1, 1) := by decide +kernel
theorem md_N_wholeResult_89 : decode mc_N_wholeResult 89 = .ok (.lload_n 3, 1) := by decide +kernel
theorem md_N_wholeResult_90 : decode mc_N_wholeResult 90 = .ok (.lrem, 1) := by decide +kernel
theorem md_N_wholeResult_91 : decode mc_N_wholeResult 91 = .ok (.lreturn, 1) := by decide +kernel
theorem md_N_wholeResult_92 : decode mc_N_wholeResult 92 = .ok (.lload_n 1, 1) := by decide +kernel
theorem md_N_wholeResult_93 : decode mc_N_wholeResult 93 = .ok (.lload_n 3, 1) := by decide +kernel
theorem md_N_wholeResult_94 : decode mc_N_wholeResult 94 = .ok (.invokestatic 122, 3) := by decide +kernel
theorem md_N_wholeResult_97 : decode mc_N_wholeResult 97 = .ok (.lreturn, 1) := by decide +kernel
theorem md_N_wholeResult_98 : decode mc_N_wholeResult 98 = .ok (.lload_n 1, 1) := by decide +kernel
theorem md_N_wholeResult_99 : decode mc_N_wholeResult 99 = .ok (.lload_n 3, 1) := by decide +kernel
theorem md_N_wholeResult_100 : decode mc_N_wholeResult 100 = .ok (.invokestatic 127, 3) := by decide +kernel
theorem md_N_wholeResult_103 : decode mc_N_wholeResult 103 = .ok (.lreturn, 1) := by decide +kernel
theorem md_N_wholeResult_104 : decode mc_N_wholeResult 104 = .ok (.lload_n 1, 1) := by decide +kernel
theorem md_N_wholeResult_105 : decode mc_N_wholeResult 105 = .ok (.lneg, 1) := by decide +kernel
theorem md_N_wholeResult_106 : decode mc_N_wholeResult 106 = .ok (.lreturn, 1) := by decide +kernel
theorem md_N_wholeResult_107 : decode mc_N_wholeResult 107 = .ok (.lload_n 1, 1) := by decide +kernel
theorem md_N_wholeResult_108 : decode mc_N_wholeResult 108 = .ok (.lconst 0, 1) := by decide +kernel
theorem md_N_wholeResult_109 : decode mc_N_wholeResult 109 = .ok (.lcmp, 1) := by decide +kernel
theorem md_N_wholeResult_110 : decode mc_N_wholeResult 110 = .ok (.ifCond .ge 8, 3) := by decide +kernel
theorem md_N_wholeResult_113 : decode mc_N_wholeResult 113 = .ok (.lload_n 1, 1) := by decide +kernel
theorem md_N_wholeResult_114 : decode mc_N_wholeResult 114 = .ok (.lneg, 1) := by decide +kernel
theorem md_N_wholeResult_115 : decode mc_N_wholeResult 115 = .ok (.goto 4, 3) := by decide +kernel
theorem md_N_wholeResult_118 : decode mc_N_wholeResult 118 = .ok (.lload_n 1, 1) := by decide +kernel
theorem md_N_wholeResult_119 : decode mc_N_wholeResult 119 = .ok (.lreturn, 1) := by decide +kernel
theorem md_N_wholeResult_120 : decode mc_N_wholeResult 120 = .ok (.lload_n 1, 1) := by decide +kernel
theorem md_N_wholeResult_121 : decode mc_N_wholeResult 121 = .ok (.lload_n 3, 1) := by decide +kernel
theorem md_N_wholeResult_122 : decode mc_N_wholeResult 122 = .ok (.land, 1) := by decide +kernel
theorem md_N_wholeResult_123 : decode mc_N_wholeResult 123 = .ok (.lreturn, 1) := by decide +kernel
theorem md_N_wholeResult_124 : decode mc_N_wholeResult 124 = .ok (.lload_n 1, 1) := by decide +kernel
theorem md_N_wholeResult_125 : decode mc_N_wholeResult 125 = .ok (.lload_n 3, 1) := by decide +kernel
theorem md_N_wholeResult_126 : decode mc_N_wholeResult 126 = .ok (.lor, 1) := by decide +kernel
theorem md_N_wholeResult_127 : decode mc_N_wholeResult 127 = .ok (.lreturn, 1) := by decide +kernel
theorem md_N_wholeResult_128 : decode mc_N_wholeResult 128 = .ok (.lload_n 1, 1) := by decide +kernel
theorem md_N_wholeResult_129 : decode mc_N_wholeResult 129 = .ok (.lload_n 3, 1) := by decide +kernel
theorem md_N_wholeResult_130 : decode mc_N_wholeResult 130 = .ok (.lxor, 1) := by decide +kernel
theorem md_N_wholeResult_131 : decode mc_N_wholeResult 131 = .ok (.lreturn, 1) := by decide +kernel
abbrev mc_N_shifted : ByteArray := prog_1_method_26_code
def my_N_shifted : MethodName := ⟨"NumberProbe", "shifted", "(IIJJ)J"⟩
abbrev mw_N_shifted : List Cond := Cond.code my_N_shifted mc_N_shifted 8 (some .long) :: gw_tbl
theorem md_N_shifted_0 : decode mc_N_shifted 0 = .ok (.iload_n 0, 1) := by decide +kernel
theorem md_N_shifted_1 : decode mc_N_shifted 1 = .ok (.iconst 2, 1) := by decide +kernel
theorem md_N_shifted_2 : decode mc_N_shifted 2 = .ok (.if_icmp .ne 50, 3) := by decide +kernel
theorem md_N_shifted_5 : decode mc_N_shifted 5 = .ok (.lload_n 2, 1) := by decide +kernel
theorem md_N_shifted_6 : decode mc_N_shifted 6 = .ok (.l2i, 1) := by decide +kernel
theorem md_N_shifted_7 : decode mc_N_shifted 7 = .ok (.istore 6, 2) := by decide +kernel
theorem md_N_shifted_9 : decode mc_N_shifted 9 = .ok (.lload 4, 2) := by decide +kernel
theorem md_N_shifted_11 : decode mc_N_shifted 11 = .ok (.l2i, 1) := by decide +kernel
theorem md_N_shifted_12 : decode mc_N_shifted 12 = .ok (.bipush 31, 2) := by decide +kernel
theorem md_N_shifted_14 : decode mc_N_shifted 14 = .ok (.iand, 1) := by decide +kernel
theorem md_N_shifted_15 : decode mc_N_shifted 15 = .ok (.istore 7, 2) := by decide +kernel
theorem md_N_shifted_17 : decode mc_N_shifted 17 = .ok (.iload_n 1, 1) := by decide +kernel
theorem md_N_shifted_18 : decode mc_N_shifted 18 = .ok (.bipush 9, 2) := by decide +kernel
theorem md_N_shifted_20 : decode mc_N_shifted 20 = .ok (.if_icmp .ne 10, 3) := by decide +kernel
theorem md_N_shifted_23 : decode mc_N_shifted 23 = .ok (.iload 6, 2) := by decide +kernel
theorem md_N_shifted_25 : decode mc_N_shifted 25 = .ok (.iload 7, 2) := by decide +kernel
theorem md_N_shifted_27 : decode mc_N_shifted 27 = .ok (.ishl, 1) := by decide +kernel
theorem md_N_shifted_28 : decode mc_N_shifted 28 = .ok (.i2l, 1) := by decide +kernel
theorem md_N_shifted_29 : decode mc_N_shifted 29 = .ok (.lreturn, 1) := by decide +kernel
theorem md_N_shifted_30 : decode mc_N_shifted 30 = .ok (.iload_n 1, 1) := by decide +kernel
theorem md_N_shifted_31 : decode mc_N_shifted 31 = .ok (.bipush 10, 2) := by decide +kernel
theorem md_N_shifted_33 : decode mc_N_shifted 33 = .ok (.if_icmp .ne 12, 3) := by decide +kernel
theorem md_N_shifted_36 : decode mc_N_shifted 36 = .ok (.iload 6, 2) := by decide +kernel
theorem md_N_shifted_38 : decode mc_N_shifted 38 = .ok (.iload 7, 2) := by decide +kernel
theorem md_N_shifted_40 : decode mc_N_shifted 40 = .ok (.ishr, 1) := by decide +kernel
theorem md_N_shifted_41 : decode mc_N_shifted 41 = .ok (.i2l, 1) := by decide +kernel
theorem md_N_shifted_42 : decode mc_N_shifted 42 = .ok (.goto 9, 3) := by decide +kernel
theorem md_N_shifted_45 : decode mc_N_shifted 45 = .ok (.iload 6, 2) := by decide +kernel
theorem md_N_shifted_47 : decode mc_N_shifted 47 = .ok (.iload 7, 2) := by decide +kernel
theorem md_N_shifted_49 : decode mc_N_shifted 49 = .ok (.iushr, 1) := by decide +kernel
theorem md_N_shifted_50 : decode mc_N_shifted 50 = .ok (.i2l, 1) := by decide +kernel
theorem md_N_shifted_51 : decode mc_N_shifted 51 = .ok (.lreturn, 1) := by decide +kernel
theorem md_N_shifted_52 : decode mc_N_shifted 52 = .ok (.lload 4, 2) := by decide +kernel
theorem md_N_shifted_54 : decode mc_N_shifted 54 = .ok (.l2i, 1) := by decide +kernel
theorem md_N_shifted_55 : decode mc_N_shifted 55 = .ok (.bipush 63, 2) := by decide +kernel
theorem md_N_shifted_57 : decode mc_N_shifted 57 = .ok (.iand, 1) := by decide +kernel
theorem md_N_shifted_58 : decode mc_N_shifted 58 = .ok (.istore 6, 2) := by decide +kernel
theorem md_N_shifted_60 : decode mc_N_shifted 60 = .ok (.iload_n 1, 1) := by decide +kernel
theorem md_N_shifted_61 : decode mc_N_shifted 61 = .ok (.bipush 9, 2) := by decide +kernel
theorem md_N_shifted_63 : decode mc_N_shifted 63 = .ok (.if_icmp .ne 8, 3) := by decide +kernel
theorem md_N_shifted_66 : decode mc_N_shifted 66 = .ok (.lload_n 2, 1) := by decide +kernel
theorem md_N_shifted_67 : decode mc_N_shifted 67 = .ok (.iload 6, 2) := by decide +kernel
theorem md_N_shifted_69 : decode mc_N_shifted 69 = .ok (.lshl, 1) := by decide +kernel
theorem md_N_shifted_70 : decode mc_N_shifted 70 = .ok (.lreturn, 1) := by decide +kernel
theorem md_N_shifted_71 : decode mc_N_shifted 71 = .ok (.iload_n 1, 1) := by decide +kernel
theorem md_N_shifted_72 : decode mc_N_shifted 72 = .ok (.bipush 10, 2) := by decide +kernel
theorem md_N_shifted_74 : decode mc_N_shifted 74 = .ok (.if_icmp .ne 10, 3) := by decide +kernel
theorem md_N_shifted_77 : decode mc_N_shifted 77 = .ok (.lload_n 2, 1) := by decide +kernel
theorem md_N_shifted_78 : decode mc_N_shifted 78 = .ok (.iload 6, 2) := by decide +kernel
theorem md_N_shifted_80 : decode mc_N_shifted 80 = .ok (.lshr, 1) := by decide +kernel
theorem md_N_shifted_81 : decode mc_N_shifted 81 = .ok (.goto 7, 3) := by decide +kernel
theorem md_N_shifted_84 : decode mc_N_shifted 84 = .ok (.lload_n 2, 1) := by decide +kernel
theorem md_N_shifted_85 : decode mc_N_shifted 85 = .ok (.iload 6, 2) := by decide +kernel
theorem md_N_shifted_87 : decode mc_N_shifted 87 = .ok (.lushr, 1) := by decide +kernel
theorem md_N_shifted_88 : decode mc_N_shifted 88 = .ok (.lreturn, 1) := by decide +kernel
end
section
abbrev mc_M_init : ByteArray := prog_4_method_1_code
def my_M_init : MethodName := ⟨"NumberProbeModel", "<init>", "()V"⟩
abbrev mw_M_init : List Cond := Cond.code my_M_init mc_M_init 1 none :: gw_tbl
theorem md_M_init_0 : decode mc_M_init 0 = .ok (.aload_n 0, 1) := by decide +kernel
theorem md_M_init_1 : decode mc_M_init 1 = .ok (.invokespecial 1, 3) := by decide +kernel
theorem md_M_init_4 : decode mc_M_init 4 = .ok (.aload_n 0, 1) := by decide +kernel
theorem md_M_init_5 : decode mc_M_init 5 = .ok (.bipush 24, 2) := by decide +kernel
theorem md_M_init_7 : decode mc_M_init 7 = .ok (.newarray .long, 2) := by decide +kernel
theorem md_M_init_9 : decode mc_M_init 9 = .ok (.putfield 7, 3) := by decide +kernel
theorem md_M_init_12 : decode mc_M_init 12 = .ok (.return_, 1) := by decide +kernel
abbrev mc_M_in : ByteArray := prog_4_method_2_code
def my_M_in : MethodName := ⟨"NumberProbeModel", "in", "(II)Z"⟩
abbrev mw_M_in : List Cond := Cond.code my_M_in mc_M_in 2 (some .boolean) :: gw_tbl
theorem md_M_in_0 : decode mc_M_in 0 = .ok (.iload_n 0, 1) := by decide +kernel
theorem md_M_in_1 : decode mc_M_in 1 = .ok (.ifCond .lt 12, 3) := by decide +kernel
theorem md_M_in_4 : decode mc_M_in 4 = .ok (.iload_n 0, 1) := by decide +kernel
theorem md_M_in_5 : decode mc_M_in 5 = .ok (.iload_n 1, 1) := by decide +kernel
theorem md_M_in_6 : decode mc_M_in 6 = .ok (.if_icmp .ge 7, 3) := by decide +kernel
theorem md_M_in_9 : decode mc_M_in 9 = .ok (.iconst 1, 1) := by decide +kernel
theorem md_M_in_10 : decode mc_M_in 10 = .ok (.goto 4, 3) := by decide +kernel
theorem md_M_in_13 : decode mc_M_in 13 = .ok (.iconst 0, 1) := by decide +kernel
theorem md_M_in_14 : decode mc_M_in 14 = .ok (.ireturn, 1) := by decide +kernel
abbrev mc_M_fraction : ByteArray := prog_4_method_3_code
def my_M_fraction : MethodName := ⟨"NumberProbeModel", "fraction", "(I)I"⟩
abbrev mw_M_fraction : List Cond := Cond.code my_M_fraction mc_M_fraction 1 (some .int) :: gw_tbl
theorem md_M_fraction_0 : decode mc_M_fraction 0 = .ok (.iload_n 0, 1) := by decide +kernel
theorem md_M_fraction_1 : decode mc_M_fraction 1 = .ok (.ifCond .ne 8, 3) := by decide +kernel
theorem md_M_fraction_4 : decode mc_M_fraction 4 = .ok (.bipush 23, 2) := by decide +kernel
theorem md_M_fraction_6 : decode mc_M_fraction 6 = .ok (.goto 5, 3) := by decide +kernel
theorem md_M_fraction_9 : decode mc_M_fraction 9 = .ok (.bipush 52, 2) := by decide +kernel
theorem md_M_fraction_11 : decode mc_M_fraction 11 = .ok (.ireturn, 1) := by decide +kernel
abbrev mc_M_least : ByteArray := prog_4_method_4_code
def my_M_least : MethodName := ⟨"NumberProbeModel", "least", "(I)I"⟩
abbrev mw_M_least : List Cond := Cond.code my_M_least mc_M_least 1 (some .int) :: gw_tbl
theorem md_M_least_0 : decode mc_M_least 0 = .ok (.iload_n 0, 1) := by decide +kernel
theorem md_M_least_1 : decode mc_M_least 1 = .ok (.ifCond .ne 9, 3) := by decide +kernel
theorem md_M_least_4 : decode mc_M_least 4 = .ok (.sipush (-149), 3) := by decide +kernel
theorem md_M_least_7 : decode mc_M_least 7 = .ok (.goto 6, 3) := by decide +kernel
theorem md_M_least_10 : decode mc_M_least 10 = .ok (.sipush (-1074), 3) := by decide +kernel
theorem md_M_least_13 : decode mc_M_least 13 = .ok (.ireturn, 1) := by decide +kernel
abbrev mc_M_signBit : ByteArray := prog_4_method_5_code
def my_M_signBit : MethodName := ⟨"NumberProbeModel", "signBit", "(I)J"⟩
abbrev mw_M_signBit : List Cond := Cond.code my_M_signBit mc_M_signBit 1 (some .long) :: gw_tbl
theorem md_M_signBit_0 : decode mc_M_signBit 0 = .ok (.iload_n 0, 1) := by decide +kernel
theorem md_M_signBit_1 : decode mc_M_signBit 1 = .ok (.ifCond .ne 9, 3) := by decide +kernel
theorem md_M_signBit_4 : decode mc_M_signBit 4 = .ok (.ldc2_w 13, 3) := by decide +kernel
theorem md_M_signBit_7 : decode mc_M_signBit 7 = .ok (.goto 6, 3) := by decide +kernel
theorem md_M_signBit_10 : decode mc_M_signBit 10 = .ok (.ldc2_w 15, 3) := by decide +kernel
theorem md_M_signBit_13 : decode mc_M_signBit 13 = .ok (.lreturn, 1) := by decide +kernel
abbrev mc_M_infinity : ByteArray := prog_4_method_6_code
def my_M_infinity : MethodName := ⟨"NumberProbeModel", "infinity", "(I)J"⟩
abbrev mw_M_infinity : List Cond := Cond.code my_M_infinity mc_M_infinity 1 (some .long) :: gw_tbl
theorem md_M_infinity_0 : decode mc_M_infinity 0 = .ok (.iload_n 0, 1) := by decide +kernel
theorem md_M_infinity_1 : decode mc_M_infinity 1 = .ok (.ifCond .ne 9, 3) := by decide +kernel
theorem md_M_infinity_4 : decode mc_M_infinity 4 = .ok (.ldc2_w 17, 3) := by decide +kernel
theorem md_M_infinity_7 : decode mc_M_infinity 7 = .ok (.goto 6, 3) := by decide +kernel
theorem md_M_infinity_10 : decode mc_M_infinity 10 = .ok (.ldc2_w 19, 3) := by decide +kernel
theorem md_M_infinity_13 : decode mc_M_infinity 13 = .ok (.lreturn, 1) := by decide +kernel
abbrev mc_M_nan : ByteArray := prog_4_method_7_code
def my_M_nan : MethodName := ⟨"NumberProbeModel", "nan", "(I)J"⟩
abbrev mw_M_nan : List Cond := Cond.code my_M_nan mc_M_nan 1 (some .long) :: gw_tbl
theorem md_M_nan_0 : decode mc_M_nan 0 = .ok (.iload_n 0, 1) := by decide +kernel
theorem md_M_nan_1 : decode mc_M_nan 1 = .ok (.ifCond .ne 9, 3) := by decide +kernel
theorem md_M_nan_4 : decode mc_M_nan 4 = .ok (.ldc2_w 21, 3) := by decide +kernel
theorem md_M_nan_7 : decode mc_M_nan 7 = .ok (.goto 6, 3) := by decide +kernel
theorem md_M_nan_10 : decode mc_M_nan 10 = .ok (.ldc2_w 23, 3) := by decide +kernel
theorem md_M_nan_13 : decode mc_M_nan 13 = .ok (.lreturn, 1) := by decide +kernel
abbrev mc_M_isSign : ByteArray := prog_4_method_8_code
def my_M_isSign : MethodName := ⟨"NumberProbeModel", "isSign", "(IJ)Z"⟩
abbrev mw_M_isSign : List Cond := Cond.code my_M_isSign mc_M_isSign 3 (some .boolean) :: gw_tbl
theorem md_M_isSign_0 : decode mc_M_isSign 0 = .ok (.lload_n 1, 1) := by decide +kernel
theorem md_M_isSign_1 : decode mc_M_isSign 1 = .ok (.iload_n 0, 1) := by decide +kernel
theorem md_M_isSign_2 : decode mc_M_isSign 2 = .ok (.invokestatic 25, 3) := by decide +kernel
theorem md_M_isSign_5 : decode mc_M_isSign 5 = .ok (.land, 1) := by decide +kernel
theorem md_M_isSign_6 : decode mc_M_isSign 6 = .ok (.lconst 0, 1) := by decide +kernel
theorem md_M_isSign_7 : decode mc_M_isSign 7 = .ok (.lcmp, 1) := by decide +kernel
theorem md_M_isSign_8 : decode mc_M_isSign 8 = .ok (.ifCond .eq 7, 3) := by decide +kernel
theorem md_M_isSign_11 : decode mc_M_isSign 11 = .ok (.iconst 1, 1) := by decide +kernel
theorem md_M_isSign_12 : decode mc_M_isSign 12 = .ok (.goto 4, 3) := by decide +kernel
theorem md_M_isSign_15 : decode mc_M_isSign 15 = .ok (.iconst 0, 1) := by decide +kernel
theorem md_M_isSign_16 : decode mc_M_isSign 16 = .ok (.ireturn, 1) := by decide +kernel
abbrev mc_M_size : ByteArray := prog_4_method_9_code
def my_M_size : MethodName := ⟨"NumberProbeModel", "size", "(IJ)J"⟩
abbrev mw_M_size : List Cond := Cond.code my_M_size mc_M_size 3 (some .long) :: gw_tbl
theorem md_M_size_0 : decode mc_M_size 0 = .ok (.lload_n 1, 1) := by decide +kernel
theorem md_M_size_1 : decode mc_M_size 1 = .ok (.iload_n 0, 1) := by decide +kernel
theorem md_M_size_2 : decode mc_M_size 2 = .ok (.invokestatic 25, 3) := by decide +kernel
theorem md_M_size_5 : decode mc_M_size 5 = .ok (.lconst 1, 1) := by decide +kernel
theorem md_M_size_6 : decode mc_M_size 6 = .ok (.lsub, 1) := by decide +kernel
theorem md_M_size_7 : decode mc_M_size 7 = .ok (.land, 1) := by decide +kernel
theorem md_M_size_8 : decode mc_M_size 8 = .ok (.lreturn, 1) := by decide +kernel
abbrev mc_M_isNan : ByteArray := prog_4_method_10_code
def my_M_isNan : MethodName := ⟨"NumberProbeModel", "isNan", "(IJ)Z"⟩
abbrev mw_M_isNan : List Cond := Cond.code my_M_isNan mc_M_isNan 3 (some .boolean) :: gw_tbl
theorem md_M_isNan_0 : decode mc_M_isNan 0 = .ok (.iload_n 0, 1) := by decide +kernel
theorem md_M_isNan_1 : decode mc_M_isNan 1 = .ok (.lload_n 1, 1) := by decide +kernel
theorem md_M_isNan_2 : decode mc_M_isNan 2 = .ok (.invokestatic 29, 3) := by decide +kernel
theorem md_M_isNan_5 : decode mc_M_isNan 5 = .ok (.iload_n 0, 1) := by decide +kernel
theorem md_M_isNan_6 : decode mc_M_isNan 6 = .ok (.invokestatic 33, 3) := by decide +kernel
theorem md_M_isNan_9 : decode mc_M_isNan 9 = .ok (.lcmp, 1) := by decide +kernel
theorem md_M_isNan_10 : decode mc_M_isNan 10 = .ok (.ifCond .le 7, 3) := by decide +kernel
theorem md_M_isNan_13 : decode mc_M_isNan 13 = .ok (.iconst 1, 1) := by decide +kernel
theorem md_M_isNan_14 : decode mc_M_isNan 14 = .ok (.goto 4, 3) := by decide +kernel
theorem md_M_isNan_17 : decode mc_M_isNan 17 = .ok (.iconst 0, 1) := by decide +kernel
theorem md_M_isNan_18 : decode mc_M_isNan 18 = .ok (.ireturn, 1) := by decide +kernel
abbrev mc_M_length : ByteArray := prog_4_method_11_code
def my_M_length : MethodName := ⟨"NumberProbeModel", "length", "(J)I"⟩
abbrev mw_M_length : List Cond := Cond.code my_M_length mc_M_length 4 (some .int) :: gw_tbl
theorem md_M_length_0 : decode mc_M_length 0 = .ok (.iconst 0, 1) := by decide +kernel
theorem md_M_length_1 : decode mc_M_length 1 = .ok (.istore_n 2, 1) := by decide +kernel
theorem md_M_length_2 : decode mc_M_length 2 = .ok (.bipush 32, 2) := by decide +kernel
theorem md_M_length_4 : decode mc_M_length 4 = .ok (.istore_n 3, 1) := by decide +kernel
theorem md_M_length_5 : decode mc_M_length 5 = .ok (.iload_n 3, 1) := by decide +kernel
theorem md_M_length_6 : decode mc_M_length 6 = .ok (.ifCond .le 24, 3) := by decide +kernel
theorem md_M_length_9 : decode mc_M_length 9 = .ok (.lload_n 0, 1) := by decide +kernel
theorem md_M_length_10 : decode mc_M_length 10 = .ok (.iload_n 2, 1) := by decide +kernel
theorem md_M_length_11 : decode mc_M_length 11 = .ok (.iload_n 3, 1) := by decide +kernel
theorem md_M_length_12 : decode mc_M_length 12 = .ok (.iadd, 1) := by decide +kernel
theorem md_M_length_13 : decode mc_M_length 13 = .ok (.lushr, 1) := by decide +kernel
theorem md_M_length_14 : decode mc_M_length 14 = .ok (.lconst 0, 1) := by decide +kernel
theorem md_M_length_15 : decode mc_M_length 15 = .ok (.lcmp, 1) := by decide +kernel
theorem md_M_length_16 : decode mc_M_length 16 = .ok (.ifCond .eq 7, 3) := by decide +kernel
theorem md_M_length_19 : decode mc_M_length 19 = .ok (.iload_n 2, 1) := by decide +kernel
theorem md_M_length_20 : decode mc_M_length 20 = .ok (.iload_n 3, 1) := by decide +kernel
theorem md_M_length_21 : decode mc_M_length 21 = .ok (.iadd, 1) := by decide +kernel
theorem md_M_length_22 : decode mc_M_length 22 = .ok (.istore_n 2, 1) := by decide +kernel
theorem md_M_length_23 : decode mc_M_length 23 = .ok (.iload_n 3, 1) := by decide +kernel
theorem md_M_length_24 : decode mc_M_length 24 = .ok (.iconst 2, 1) := by decide +kernel
theorem md_M_length_25 : decode mc_M_length 25 = .ok (.idiv, 1) := by decide +kernel
theorem md_M_length_26 : decode mc_M_length 26 = .ok (.istore_n 3, 1) := by decide +kernel
theorem md_M_length_27 : decode mc_M_length 27 = .ok (.goto (-22), 3) := by decide +kernel
theorem md_M_length_30 : decode mc_M_length 30 = .ok (.lload_n 0, 1) := by decide +kernel
theorem md_M_length_31 : decode mc_M_length 31 = .ok (.lconst 0, 1) := by decide +kernel
theorem md_M_length_32 : decode mc_M_length 32 = .ok (.lcmp, 1) := by decide +kernel
theorem md_M_length_33 : decode mc_M_length 33 = .ok (.ifCond .ne 7, 3) := by decide +kernel
theorem md_M_length_36 : decode mc_M_length 36 = .ok (.iconst 0, 1) := by decide +kernel
theorem md_M_length_37 : decode mc_M_length 37 = .ok (.goto 6, 3) := by decide +kernel
theorem md_M_length_40 : decode mc_M_length 40 = .ok (.iload_n 2, 1) := by decide +kernel
theorem md_M_length_41 : decode mc_M_length 41 = .ok (.iconst 1, 1) := by decide +kernel
theorem md_M_length_42 : decode mc_M_length 42 = .ok (.iadd, 1) := by decide +kernel
theorem md_M_length_43 : decode mc_M_length 43 = .ok (.ireturn, 1) := by decide +kernel
abbrev mc_M_signed : ByteArray := prog_4_method_12_code
def my_M_signed : MethodName := ⟨"NumberProbeModel", "signed", "(IZJ)J"⟩
abbrev mw_M_signed : List Cond := Cond.code my_M_signed mc_M_signed 4 (some .long) :: gw_tbl
theorem md_M_signed_0 : decode mc_M_signed 0 = .ok (.iload_n 1, 1) := by decide +kernel
theorem md_M_signed_1 : decode mc_M_signed 1 = .ok (.ifCond .eq 12, 3) := by decide +kernel
theorem md_M_signed_4 : decode mc_M_signed 4 = .ok (.lload_n 2, 1) := by decide +kernel
theorem md_M_signed_5 : decode mc_M_signed 5 = .ok (.iload_n 0, 1) := by decide +kernel
theorem md_M_signed_6 : decode mc_M_signed 6 = .ok (.invokestatic 25, 3) := by decide +kernel
theorem md_M_signed_9 : decode mc_M_signed 9 = .ok (.lor, 1) := by decide +kernel
theorem md_M_signed_10 : decode mc_M_signed 10 = .ok (.goto 4, 3) := by decide +kernel
theorem md_M_signed_13 : decode mc_M_signed 13 = .ok (.lload_n 2, 1) := by decide +kernel
theorem md_M_signed_14 : decode mc_M_signed 14 = .ok (.lreturn, 1) := by decide +kernel
abbrev mc_M_mantissa : ByteArray := prog_4_method_13_code
def my_M_mantissa : MethodName := ⟨"NumberProbeModel", "mantissa", "(IJ)J"⟩
abbrev mw_M_mantissa : List Cond := Cond.code my_M_mantissa mc_M_mantissa 7 (some .long) :: gw_tbl
theorem md_M_mantissa_0 : decode mc_M_mantissa 0 = .ok (.lconst 1, 1) := by decide +kernel
theorem md_M_mantissa_1 : decode mc_M_mantissa 1 = .ok (.iload_n 0, 1) := by decide +kernel
theorem md_M_mantissa_2 : decode mc_M_mantissa 2 = .ok (.invokestatic 36, 3) := by decide +kernel
theorem md_M_mantissa_5 : decode mc_M_mantissa 5 = .ok (.lshl, 1) := by decide +kernel
theorem md_M_mantissa_6 : decode mc_M_mantissa 6 = .ok (.lstore_n 3, 1) := by decide +kernel
theorem md_M_mantissa_7 : decode mc_M_mantissa 7 = .ok (.iload_n 0, 1) := by decide +kernel
theorem md_M_mantissa_8 : decode mc_M_mantissa 8 = .ok (.lload_n 1, 1) := by decide +kernel
theorem md_M_mantissa_9 : decode mc_M_mantissa 9 = .ok (.invokestatic 29, 3) := by decide +kernel
theorem md_M_mantissa_12 : decode mc_M_mantissa 12 = .ok (.lstore 5, 2) := by decide +kernel
theorem md_M_mantissa_14 : decode mc_M_mantissa 14 = .ok (.lload 5, 2) := by decide +kernel
theorem md_M_mantissa_16 : decode mc_M_mantissa 16 = .ok (.lload_n 3, 1) := by decide +kernel
theorem md_M_mantissa_17 : decode mc_M_mantissa 17 = .ok (.lcmp, 1) := by decide +kernel
theorem md_M_mantissa_18 : decode mc_M_mantissa 18 = .ok (.ifCond .ge 8, 3) := by decide +kernel
theorem md_M_mantissa_21 : decode mc_M_mantissa 21 = .ok (.lload 5, 2) := by decide +kernel
theorem md_M_mantissa_23 : decode mc_M_mantissa 23 = .ok (.goto 11, 3) := by decide +kernel
theorem md_M_mantissa_26 : decode mc_M_mantissa 26 = .ok (.lload 5, 2) := by decide +kernel
theorem md_M_mantissa_28 : decode mc_M_mantissa 28 = .ok (.lload_n 3, 1) := by decide +kernel
theorem md_M_mantissa_29 : decode mc_M_mantissa 29 = .ok (.lconst 1, 1) := by decide +kernel
theorem md_M_mantissa_30 : decode mc_M_mantissa 30 = .ok (.lsub, 1) := by decide +kernel
theorem md_M_mantissa_31 : decode mc_M_mantissa 31 = .ok (.land, 1) := by decide +kernel
theorem md_M_mantissa_32 : decode mc_M_mantissa 32 = .ok (.lload_n 3, 1) := by decide +kernel
theorem md_M_mantissa_33 : decode mc_M_mantissa 33 = .ok (.lor, 1) := by decide +kernel
theorem md_M_mantissa_34 : decode mc_M_mantissa 34 = .ok (.lreturn, 1) := by decide +kernel
abbrev mc_M_power : ByteArray := prog_4_method_14_code
def my_M_power : MethodName := ⟨"NumberProbeModel", "power", "(IJ)I"⟩
abbrev mw_M_power : List Cond := Cond.code my_M_power mc_M_power 4 (some .int) :: gw_tbl
theorem md_M_power_0 : decode mc_M_power 0 = .ok (.iload_n 0, 1) := by decide +kernel
theorem md_M_power_1 : decode mc_M_power 1 = .ok (.lload_n 1, 1) := by decide +kernel
theorem md_M_power_2 : decode mc_M_power 2 = .ok (.invokestatic 29, 3) := by decide +kernel
theorem md_M_power_5 : decode mc_M_power 5 = .ok (.iload_n 0, 1) := by decide +kernel
theorem md_M_power_6 : decode mc_M_power 6 = .ok (.invokestatic 36, 3) := by decide +kernel
theorem md_M_power_9 : decode mc_M_power 9 = .ok (.lushr, 1) := by decide +kernel
theorem md_M_power_10 : decode mc_M_power 10 = .ok (.l2i, 1) := by decide +kernel
theorem md_M_power_11 : decode mc_M_power 11 = .ok (.istore_n 3, 1) := by decide +kernel
theorem md_M_power_12 : decode mc_M_power 12 = .ok (.iload_n 0, 1) := by decide +kernel
theorem md_M_power_13 : decode mc_M_power 13 = .ok (.invokestatic 40, 3) := by decide +kernel
theorem md_M_power_16 : decode mc_M_power 16 = .ok (.iload_n 3, 1) := by decide +kernel
theorem md_M_power_17 : decode mc_M_power 17 = .ok (.ifCond .ne 7, 3) := by decide +kernel
theorem md_M_power_20 : decode mc_M_power 20 = .ok (.iconst 0, 1) := by decide +kernel
theorem md_M_power_21 : decode mc_M_power 21 = .ok (.goto 6, 3) := by decide +kernel
theorem md_M_power_24 : decode mc_M_power 24 = .ok (.iload_n 3, 1) := by decide +kernel
theorem md_M_power_25 : decode mc_M_power 25 = .ok (.iconst 1, 1) := by decide +kernel
theorem md_M_power_26 : decode mc_M_power 26 = .ok (.isub, 1) := by decide +kernel
theorem md_M_power_27 : decode mc_M_power 27 = .ok (.iadd, 1) := by decide +kernel
theorem md_M_power_28 : decode mc_M_power 28 = .ok (.ireturn, 1) := by decide +kernel
abbrev mc_M_takeX : ByteArray := prog_4_method_15_code
def my_M_takeX : MethodName := ⟨"NumberProbeModel", "takeX", "(IJ)V"⟩
abbrev mw_M_takeX : List Cond := Cond.code my_M_takeX mc_M_takeX 4 none :: gw_tbl
theorem md_M_takeX_0 : decode mc_M_takeX 0 = .ok (.aload_n 0, 1) := by decide +kernel
theorem md_M_takeX_1 : decode mc_M_takeX 1 = .ok (.iload_n 1, 1) := by decide +kernel
theorem md_M_takeX_2 : decode mc_M_takeX 2 = .ok (.lload_n 2, 1) := by decide +kernel
theorem md_M_takeX_3 : decode mc_M_takeX 3 = .ok (.invokestatic 43, 3) := by decide +kernel
theorem md_M_takeX_6 : decode mc_M_takeX 6 = .ok (.putfield 47, 3) := by decide +kernel
theorem md_M_takeX_9 : decode mc_M_takeX 9 = .ok (.aload_n 0, 1) := by decide +kernel
theorem md_M_takeX_10 : decode mc_M_takeX 10 = .ok (.iload_n 1, 1) := by decide +kernel
theorem md_M_takeX_11 : decode mc_M_takeX 11 = .ok (.lload_n 2, 1) := by decide +kernel
theorem md_M_takeX_12 : decode mc_M_takeX 12 = .ok (.invokestatic 51, 3) := by decide +kernel
theorem md_M_takeX_15 : decode mc_M_takeX 15 = .ok (.putfield 54, 3) := by decide +kernel
theorem md_M_takeX_18 : decode mc_M_takeX 18 = .ok (.aload_n 0, 1) := by decide +kernel
theorem md_M_takeX_19 : decode mc_M_takeX 19 = .ok (.iload_n 1, 1) := by decide +kernel
theorem md_M_takeX_20 : decode mc_M_takeX 20 = .ok (.lload_n 2, 1) := by decide +kernel
theorem md_M_takeX_21 : decode mc_M_takeX 21 = .ok (.invokestatic 29, 3) := by decide +kernel
theorem md_M_takeX_24 : decode mc_M_takeX 24 = .ok (.iload_n 1, 1) := by decide +kernel
theorem md_M_takeX_25 : decode mc_M_takeX 25 = .ok (.invokestatic 33, 3) := by decide +kernel
theorem md_M_takeX_28 : decode mc_M_takeX 28 = .ok (.lcmp, 1) := by decide +kernel
theorem md_M_takeX_29 : decode mc_M_takeX 29 = .ok (.ifCond .ne 7, 3) := by decide +kernel
theorem md_M_takeX_32 : decode mc_M_takeX 32 = .ok (.iconst 1, 1) := by decide +kernel
theorem md_M_takeX_33 : decode mc_M_takeX 33 = .ok (.goto 4, 3) := by decide +kernel
theorem md_M_takeX_36 : decode mc_M_takeX 36 = .ok (.iconst 0, 1) := by decide +kernel
theorem md_M_takeX_37 : decode mc_M_takeX 37 = .ok (.putfield 57, 3) := by decide +kernel
theorem md_M_takeX_40 : decode mc_M_takeX 40 = .ok (.aload_n 0, 1) := by decide +kernel
theorem md_M_takeX_41 : decode mc_M_takeX 41 = .ok (.iload_n 1, 1) := by decide +kernel
theorem md_M_takeX_42 : decode mc_M_takeX 42 = .ok (.lload_n 2, 1) := by decide +kernel
theorem md_M_takeX_43 : decode mc_M_takeX 43 = .ok (.invokestatic 60, 3) := by decide +kernel
theorem md_M_takeX_46 : decode mc_M_takeX 46 = .ok (.putfield 63, 3) := by decide +kernel
theorem md_M_takeX_49 : decode mc_M_takeX 49 = .ok (.aload_n 0, 1) := by decide +kernel
theorem md_M_takeX_50 : decode mc_M_takeX 50 = .ok (.iload_n 1, 1) := by decide +kernel
theorem md_M_takeX_51 : decode mc_M_takeX 51 = .ok (.lload_n 2, 1) := by decide +kernel
theorem md_M_takeX_52 : decode mc_M_takeX 52 = .ok (.invokestatic 67, 3) := by decide +kernel
theorem md_M_takeX_55 : decode mc_M_takeX 55 = .ok (.putfield 71, 3) := by decide +kernel
theorem md_M_takeX_58 : decode mc_M_takeX 58 = .ok (.return_, 1) := by decide +kernel
abbrev mc_M_takeY : ByteArray := prog_4_method_16_code
def my_M_takeY : MethodName := ⟨"NumberProbeModel", "takeY", "(IJ)V"⟩
abbrev mw_M_takeY : List Cond := Cond.code my_M_takeY mc_M_takeY 4 none :: gw_tbl
theorem md_M_takeY_0 : decode mc_M_takeY 0 = .ok (.aload_n 0, 1) := by decide +kernel
theorem md_M_takeY_1 : decode mc_M_takeY 1 = .ok (.iload_n 1, 1) := by decide +kernel
theorem md_M_takeY_2 : decode mc_M_takeY 2 = .ok (.lload_n 2, 1) := by decide +kernel
theorem md_M_takeY_3 : decode mc_M_takeY 3 = .ok (.invokestatic 43, 3) := by decide +kernel
theorem md_M_takeY_6 : decode mc_M_takeY 6 = .ok (.putfield 75, 3) := by decide +kernel
theorem md_M_takeY_9 : decode mc_M_takeY 9 = .ok (.aload_n 0, 1) := by decide +kernel
theorem md_M_takeY_10 : decode mc_M_takeY 10 = .ok (.iload_n 1, 1) := by decide +kernel
theorem md_M_takeY_11 : decode mc_M_takeY 11 = .ok (.lload_n 2, 1) := by decide +kernel
theorem md_M_takeY_12 : decode mc_M_takeY 12 = .ok (.invokestatic 51, 3) := by decide +kernel
theorem md_M_takeY_15 : decode mc_M_takeY 15 = .ok (.putfield 78, 3) := by decide +kernel
theorem md_M_takeY_18 : decode mc_M_takeY 18 = .ok (.aload_n 0, 1) := by decide +kernel
theorem md_M_takeY_19 : decode mc_M_takeY 19 = .ok (.iload_n 1, 1) := by decide +kernel
theorem md_M_takeY_20 : decode mc_M_takeY 20 = .ok (.lload_n 2, 1) := by decide +kernel
theorem md_M_takeY_21 : decode mc_M_takeY 21 = .ok (.invokestatic 29, 3) := by decide +kernel
theorem md_M_takeY_24 : decode mc_M_takeY 24 = .ok (.iload_n 1, 1) := by decide +kernel
theorem md_M_takeY_25 : decode mc_M_takeY 25 = .ok (.invokestatic 33, 3) := by decide +kernel
theorem md_M_takeY_28 : decode mc_M_takeY 28 = .ok (.lcmp, 1) := by decide +kernel
theorem md_M_takeY_29 : decode mc_M_takeY 29 = .ok (.ifCond .ne 7, 3) := by decide +kernel
theorem md_M_takeY_32 : decode mc_M_takeY 32 = .ok (.iconst 1, 1) := by decide +kernel
theorem md_M_takeY_33 : decode mc_M_takeY 33 = .ok (.goto 4, 3) := by decide +kernel
theorem md_M_takeY_36 : decode mc_M_takeY 36 = .ok (.iconst 0, 1) := by decide +kernel
theorem md_M_takeY_37 : decode mc_M_takeY 37 = .ok (.putfield 81, 3) := by decide +kernel
theorem md_M_takeY_40 : decode mc_M_takeY 40 = .ok (.aload_n 0, 1) := by decide +kernel
theorem md_M_takeY_41 : decode mc_M_takeY 41 = .ok (.iload_n 1, 1) := by decide +kernel
theorem md_M_takeY_42 : decode mc_M_takeY 42 = .ok (.lload_n 2, 1) := by decide +kernel
theorem md_M_takeY_43 : decode mc_M_takeY 43 = .ok (.invokestatic 60, 3) := by decide +kernel
theorem md_M_takeY_46 : decode mc_M_takeY 46 = .ok (.putfield 84, 3) := by decide +kernel
theorem md_M_takeY_49 : decode mc_M_takeY 49 = .ok (.aload_n 0, 1) := by decide +kernel
theorem md_M_takeY_50 : decode mc_M_takeY 50 = .ok (.iload_n 1, 1) := by decide +kernel
theorem md_M_takeY_51 : decode mc_M_takeY 51 = .ok (.lload_n 2, 1) := by decide +kernel
theorem md_M_takeY_52 : decode mc_M_takeY 52 = .ok (.invokestatic 67, 3) := by decide +kernel
theorem md_M_takeY_55 : decode mc_M_takeY 55 = .ok (.putfield 87, 3) := by decide +kernel
theorem md_M_takeY_58 : decode mc_M_takeY 58 = .ok (.return_, 1) := by decide +kernel
abbrev mc_M_round : ByteArray := prog_4_method_17_code
def my_M_round : MethodName := ⟨"NumberProbeModel", "round", "(IZJI)J"⟩
abbrev mw_M_round : List Cond := Cond.code my_M_round mc_M_round 13 (some .long) :: gw_tbl
theorem md_M_round_0 : decode mc_M_round 0 = .ok (.lload_n 2, 1) := by decide +kernel
theorem md_M_round_1 : decode mc_M_round 1 = .ok (.lconst 0, 1) := by decide +kernel
theorem md_M_round_2 : decode mc_M_round 2 = .ok (.lcmp, 1) := by decide +kernel
theorem md_M_round_3 : decode mc_M_round 3 = .ok (.ifCond .ne 10, 3) := by decide +kernel
theorem md_M_round_6 : decode mc_M_round 6 = .ok (.iload_n 0, 1) := by decide +kernel
theorem md_M_round_7 : decode mc_M_round 7 = .ok (.iload_n 1, 1) := by decide +kernel
theorem md_M_round_8 : decode mc_M_round 8 = .ok (.lconst 0, 1) := by decide +kernel
theorem md_M_round_9 : decode mc_M_round 9 = .ok (.invokestatic 90, 3) := by decide +kernel
theorem md_M_round_12 : decode mc_M_round 12 = .ok (.lreturn, 1) := by decide +kernel
theorem md_M_round_13 : decode mc_M_round 13 = .ok (.lload_n 2, 1) := by decide +kernel
theorem md_M_round_14 : decode mc_M_round 14 = .ok (.invokestatic 94, 3) := by decide +kernel
theorem md_M_round_17 : decode mc_M_round 17 = .ok (.iload_n 0, 1) := by decide +kernel
theorem md_M_round_18 : decode mc_M_round 18 = .ok (.invokestatic 36, 3) := by decide +kernel
theorem md_M_round_21 : decode mc_M_round 21 = .ok (.isub, 1) := by decide +kernel
theorem md_M_round_22 : decode mc_M_round 22 = .ok (.iconst 1, 1) := by decide +kernel
theorem md_M_round_23 : decode mc_M_round 23 = .ok (.isub, 1) := by decide +kernel
theorem md_M_round_24 : decode mc_M_round 24 = .ok (.istore 5, 2) := by decide +kernel
theorem md_M_round_26 : decode mc_M_round 26 = .ok (.iload 5, 2) := by decide +kernel
theorem md_M_round_28 : decode mc_M_round 28 = .ok (.iload_n 0, 1) := by decide +kernel
theorem md_M_round_29 : decode mc_M_round 29 = .ok (.invokestatic 40, 3) := by decide +kernel
theorem md_M_round_32 : decode mc_M_round 32 = .ok (.iload 4, 2) := by decide +kernel
theorem md_M_round_34 : decode mc_M_round 34 = .ok (.isub, 1) := by decide +kernel
theorem md_M_round_35 : decode mc_M_round 35 = .ok (.if_icmp .ge 12, 3) := by decide +kernel
theorem md_M_round_38 : decode mc_M_round 38 = .ok (.iload_n 0, 1) := by decide +kernel
theorem md_M_round_39 : decode mc_M_round 39 = .ok (.invokestatic 40, 3) := by decide +kernel
theorem md_M_round_42 : decode mc_M_round 42 = .ok (.iload 4, 2) := by decide +kernel
theorem md_M_round_44 : decode mc_M_round 44 = .ok (.isub, 1) := by decide +kernel
theorem md_M_round_45 : decode mc_M_round 45 = .ok (.istore 5, 2) := by decide +kernel
theorem md_M_round_47 : decode mc_M_round 47 = .ok (.iload 5, 2) := by decide +kernel
theorem md_M_round_49 : decode mc_M_round 49 = .ok (.bipush 63, 2) := by decide +kernel
theorem md_M_round_51 : decode mc_M_round 51 = .ok (.if_icmp .le 10, 3) := by decide +kernel
theorem md_M_round_54 : decode mc_M_round 54 = .ok (.iload_n 0, 1) := by decide +kernel
theorem md_M_round_55 : decode mc_M_round 55 = .ok (.iload_n 1, 1) := by decide +kernel
theorem md_M_round_56 : decode mc_M_round 56 = .ok (.lconst 0, 1) := by decide +kernel
theorem md_M_round_57 : decode mc_M_round 57 = .ok (.invokestatic 90, 3) := by decide +kernel
theorem md_M_round_60 : decode mc_M_round 60 = .ok (.lreturn, 1) := by decide +kernel
theorem md_M_round_61 : decode mc_M_round 61 = .ok (.lload_n 2, 1) := by decide +kernel
theorem md_M_round_62 : decode mc_M_round 62 = .ok (.lstore 6, 2) := by decide +kernel
theorem md_M_round_64 : decode mc_M_round 64 = .ok (.iload 5, 2) := by decide +kernel
theorem md_M_round_66 : decode mc_M_round 66 = .ok (.ifCond .gt 13, 3) := by decide +kernel
theorem md_M_round_69 : decode mc_M_round 69 = .ok (.lload_n 2, 1) := by decide +kernel
theorem md_M_round_70 : decode mc_M_round 70 = .ok (.iload 5, 2) := by decide +kernel
theorem md_M_round_72 : decode mc_M_round 72 = .ok (.ineg, 1) := by decide +kernel
theorem md_M_round_73 : decode mc_M_round 73 = .ok (.lshl, 1) := by decide +kernel
theorem md_M_round_74 : decode mc_M_round 74 = .ok (.lstore 6, 2) := by decide +kernel
theorem md_M_round_76 : decode mc_M_round 76 = .ok (.goto 57, 3) := by decide +kernel
theorem md_M_round_79 : decode mc_M_round 79 = .ok (.lload_n 2, 1) := by decide +kernel
theorem md_M_round_80 : decode mc_M_round 80 = .ok (.iload 5, 2) := by decide +kernel
theorem md_M_round_82 : decode mc_M_round 82 = .ok (.lushr, 1) := by decide +kernel
theorem md_M_round_83 : decode mc_M_round 83 = .ok (.lstore 6, 2) := by decide +kernel
theorem md_M_round_85 : decode mc_M_round 85 = .ok (.lload_n 2, 1) := by decide +kernel
theorem md_M_round_86 : decode mc_M_round 86 = .ok (.lload 6, 2) := by decide +kernel
theorem md_M_round_88 : decode mc_M_round 88 = .ok (.iload 5, 2) := by decide +kernel
theorem md_M_round_90 : decode mc_M_round 90 = .ok (.lshl, 1) := by decide +kernel
theorem md_M_round_91 : decode mc_M_round 91 = .ok (.lsub, 1) := by decide +kernel
theorem md_M_round_92 : decode mc_M_round 92 = .ok (.lstore 8, 2) := by decide +kernel
theorem md_M_round_94 : decode mc_M_round 94 = .ok (.lconst 1, 1) := by decide +kernel
theorem md_M_round_95 : decode mc_M_round 95 = .ok (.iload 5, 2) := by decide +kernel
theorem md_M_round_97 : decode mc_M_round 97 = .ok (.iconst 1, 1) := by decide +kernel
theorem md_M_round_98 : decode mc_M_round 98 = .ok (.isub, 1) := by decide +kernel
theorem md_M_round_99 : decode mc_M_round 99 = .ok (.lshl, 1) := by decide +kernel
theorem md_M_round_100 : decode mc_M_round 100 = .ok (.lstore 10, 2) := by decide +kernel
theorem md_M_round_102 : decode mc_M_round 102 = .ok (.lload 8, 2) := by decide +kernel
theorem md_M_round_104 : decode mc_M_round 104 = .ok (.lload 10, 2) := by decide +kernel
theorem md_M_round_106 : decode mc_M_round 106 = .ok (.lcmp, 1) := by decide +kernel
theorem md_M_round_107 : decode mc_M_round 107 = .ok (.ifCond .gt 20, 3) := by decide +kernel
theorem md_M_round_110 : decode mc_M_round 110 = .ok (.lload 8, 2) := by decide +kernel
theorem md_M_round_112 : decode mc_M_round 112 = .ok (.lload 10, 2) := by decide +kernel
theorem md_M_round_114 : decode mc_M_round 114 = .ok (.lcmp, 1) := by decide +kernel
theorem md_M_round_115 : decode mc_M_round 115 = .ok (.ifCond .ne 18, 3) := by decide +kernel
theorem md_M_round_118 : decode mc_M_round 118 = .ok (.lload 6, 2) := by decide +kernel
theorem md_M_round_120 : decode mc_M_round 120 = .ok (.lconst 1, 1) := by decide +kernel
theorem md_M_round_121 : decode mc_M_round 121 = .ok (.land, 1) := by decide +kernel
theorem md_M_round_122 : decode mc_M_round 122 = .ok (.lconst 0, 1) := by decide +kernel
theorem md_M_round_123 : decode mc_M_round 123 = .ok (.lcmp, 1) := by decide +kernel
theorem md_M_round_124 : decode mc_M_round 124 = .ok (.ifCond .eq 9, 3) := by decide +kernel
theorem md_M_round_127 : decode mc_M_round 127 = .ok (.lload 6, 2) := by decide +kernel
theorem md_M_round_129 : decode mc_M_round 129 = .ok (.lconst 1, 1) := by decide +kernel
theorem md_M_round_130 : decode mc_M_round 130 = .ok (.ladd, 1) := by decide +kernel
theorem md_M_round_131 : decode mc_M_round 131 = .ok (.lstore 6, 2) := by decide +kernel
theorem md_M_round_133 : decode mc_M_round 133 = .ok (.iload 4, 2) := by decide +kernel
theorem md_M_round_135 : decode mc_M_round 135 = .ok (.iload 5, 2) := by decide +kernel
theorem md_M_round_137 : decode mc_M_round 137 = .ok (.iadd, 1) := by decide +kernel
theorem md_M_round_138 : decode mc_M_round 138 = .ok (.iload_n 0, 1) := by decide +kernel
theorem md_M_round_139 : decode mc_M_round 139 = .ok (.invokestatic 40, 3) := by decide +kernel
theorem md_M_round_142 : decode mc_M_round 142 = .ok (.isub, 1) := by decide +kernel
theorem md_M_round_143 : decode mc_M_round 143 = .ok (.istore 8, 2) := by decide +kernel
theorem md_M_round_145 : decode mc_M_round 145 = .ok (.iload 8, 2) := by decide +kernel
theorem md_M_round_147 : decode mc_M_round 147 = .ok (.sipush 3000, 3) := by decide +kernel
theorem md_M_round_150 : decode mc_M_round 150 = .ok (.if_icmp .le 13, 3) := by decide +kernel
theorem md_M_round_153 : decode mc_M_round 153 = .ok (.iload_n 0, 1) := by decide +kernel
theorem md_M_round_154 : decode mc_M_round 154 = .ok (.iload_n 1, 1) := by decide +kernel
theorem md_M_round_155 : decode mc_M_round 155 = .ok (.iload_n 0, 1) := by decide +kernel
theorem md_M_round_156 : decode mc_M_round 156 = .ok (.invokestatic 33, 3) := by decide +kernel
theorem md_M_round_159 : decode mc_M_round 159 = .ok (.invokestatic 90, 3) := by decide +kernel
theorem md_M_round_162 : decode mc_M_round 162 = .ok (.lreturn, 1) := by decide +kernel
theorem md_M_round_163 : decode mc_M_round 163 = .ok (.iload_n 0, 1) := by decide +kernel
theorem md_M_round_164 : decode mc_M_round 164 = .ok (.invokestatic 33, 3) := by decide +kernel
theorem md_M_round_167 : decode mc_M_round 167 = .ok (.iload_n 0, 1) := by decide +kernel
theorem md_M_round_168 : decode mc_M_round 168 = .ok (.invokestatic 36, 3) := by decide +kernel
theorem md_M_round_171 : decode mc_M_round 171 = .ok (.lushr, 1) := by decide +kernel
theorem md_M_round_172 : decode mc_M_round 172 = .ok (.lstore 9, 2) := by decide +kernel
theorem md_M_round_174 : decode mc_M_round 174 = .ok (.iload 8, 2) := by decide +kernel
theorem md_M_round_176 : decode mc_M_round 176 = .ok (.i2l, 1) := by decide +kernel
theorem md_M_round_177 : decode mc_M_round 177 = .ok (.lload 9, 2) := by decide +kernel
theorem md_M_round_179 : decode mc_M_round 179 = .ok (.lcmp, 1) := by decide +kernel
theorem md_M_round_180 : decode mc_M_round 180 = .ok (.ifCond .lt 13, 3) := by decide +kernel
theorem md_M_round_183 : decode mc_M_round 183 = .ok (.iload_n 0, 1) := by decide +kernel
theorem md_M_round_184 : decode mc_M_round 184 = .ok (.iload_n 1, 1) := by decide +kernel
theorem md_M_round_185 : decode mc_M_round 185 = .ok (.iload_n 0, 1) := by decide +kernel
theorem md_M_round_186 : decode mc_M_round 186 = .ok (.invokestatic 33, 3) := by decide +kernel
theorem md_M_round_189 : decode mc_M_round 189 = .ok (.invokestatic 90, 3) := by decide +kernel
theorem md_M_round_192 : decode mc_M_round 192 = .ok (.lreturn, 1) := by decide +kernel
theorem md_M_round_193 : decode mc_M_round 193 = .ok (.iload 8, 2) := by decide +kernel
theorem md_M_round_195 : decode mc_M_round 195 = .ok (.i2l, 1) := by decide +kernel
theorem md_M_round_196 : decode mc_M_round 196 = .ok (.iload_n 0, 1) := by decide +kernel
theorem md_M_round_197 : decode mc_M_round 197 = .ok (.invokestatic 36, 3) := by decide +kernel
theorem md_M_round_200 : decode mc_M_round 200 = .ok (.lshl, 1) := by decide +kernel
theorem md_M_round_201 : decode mc_M_round 201 = .ok (.lload 6, 2) := by decide +kernel
theorem md_M_round_203 : decode mc_M_round 203 = .ok (.ladd, 1) := by decide +kernel
theorem md_M_round_204 : decode mc_M_round 204 = .ok (.lstore 11, 2) := by decide +kernel
theorem md_M_round_206 : decode mc_M_round 206 = .ok (.iload_n 0, 1) := by decide +kernel
theorem md_M_round_207 : decode mc_M_round 207 = .ok (.iload_n 1, 1) := by decide +kernel
theorem md_M_round_208 : decode mc_M_round 208 = .ok (.lload 11, 2) := by decide +kernel
theorem md_M_round_210 : decode mc_M_round 210 = .ok (.iload_n 0, 1) := by decide +kernel
theorem md_M_round_211 : decode mc_M_round 211 = .ok (.invokestatic 33, 3) := by decide +kernel
theorem md_M_round_214 : decode mc_M_round 214 = .ok (.lcmp, 1) := by decide +kernel
theorem md_M_round_215 : decode mc_M_round 215 = .ok (.ifCond .le 10, 3) := by decide +kernel
theorem md_M_round_218 : decode mc_M_round 218 = .ok (.iload_n 0, 1) := by decide +kernel
theorem md_M_round_219 : decode mc_M_round 219 = .ok (.invokestatic 33, 3) := by decide +kernel
theorem md_M_round_222 : decode mc_M_round 222 = .ok (.goto 5, 3) := by decide +kernel
theorem md_M_round_225 : decode mc_M_round 225 = .ok (.lload 11, 2) := by decide +kernel
theorem md_M_round_227 : decode mc_M_round 227 = .ok (.invokestatic 90, 3) := by decide +kernel
theorem md_M_round_230 : decode mc_M_round 230 = .ok (.lreturn, 1) := by decide +kernel
abbrev mc_M_shiftedDown : ByteArray := prog_4_method_18_code
def my_M_shiftedDown : MethodName := ⟨"NumberProbeModel", "shiftedDown", "(JI)J"⟩
abbrev mw_M_shiftedDown : List Cond := Cond.code my_M_shiftedDown mc_M_shiftedDown 5 (some .long) :: gw_tbl
theorem md_M_shiftedDown_0 : decode mc_M_shiftedDown 0 = .ok (.iload_n 2, 1) := by decide +kernel
theorem md_M_shiftedDown_1 : decode mc_M_shiftedDown 1 = .ok (.bipush 62, 2) := by decide +kernel
theorem md_M_shiftedDown_3 : decode mc_M_shiftedDown 3 = .ok (.if_icmp .le 15, 3) := by decide +kernel
theorem md_M_shiftedDown_6 : decode mc_M_shiftedDown 6 = .ok (.lload_n 0, 1) := by decide +kernel
theorem md_M_shiftedDown_7 : decode mc_M_shiftedDown 7 = .ok (.lconst 0, 1) := by decide +kernel
theorem md_M_shiftedDown_8 : decode mc_M_shiftedDown 8 = .ok (.lcmp, 1) := by decide +kernel
theorem md_M_shiftedDown_9 : decode mc_M_shiftedDown 9 = .ok (.ifCond .ne 7, 3) := by decide +kernel
theorem md_M_shiftedDown_12 : decode mc_M_shiftedDown 12 = .ok (.lconst 0, 1) := by decide +kernel
theorem md_M_shiftedDown_13 : decode mc_M_shiftedDown 13 = .ok (.goto 4, 3) := by decide +kernel
theorem md_M_shiftedDown_16 : decode mc_M_shiftedDown 16 = .ok (.lconst 1, 1) := by decide +kernel
theorem md_M_shiftedDown_17 : decode mc_M_shiftedDown 17 = .ok (.lreturn, 1) := by decide +kernel
theorem md_M_shiftedDown_18 : decode mc_M_shiftedDown 18 = .ok (.lload_n 0, 1) := by decide +kernel
theorem md_M_shiftedDown_19 : decode mc_M_shiftedDown 19 = .ok (.iload_n 2, 1) := by decide +kernel
theorem md_M_shiftedDown_20 : decode mc_M_shiftedDown 20 = .ok (.lushr, 1) := by decide +kernel
theorem md_M_shiftedDown_21 : decode mc_M_shiftedDown 21 = .ok (.lstore_n 3, 1) := by decide +kernel
theorem md_M_shiftedDown_22 : decode mc_M_shiftedDown 22 = .ok (.lload_n 3, 1) := by decide +kernel
theorem md_M_shiftedDown_23 : decode mc_M_shiftedDown 23 = .ok (.iload_n 2, 1) := by decide +kernel
theorem md_M_shiftedDown_24 : decode mc_M_shiftedDown 24 = .ok (.lshl, 1) := by decide +kernel
theorem md_M_shiftedDown_25 : decode mc_M_shiftedDown 25 = .ok (.lload_n 0, 1) := by decide +kernel
theorem md_M_shiftedDown_26 : decode mc_M_shiftedDown 26 = .ok (.lcmp, 1) := by decide +kernel
theorem md_M_shiftedDown_27 : decode mc_M_shiftedDown 27 = .ok (.ifCond .ne 7, 3) := by decide +kernel
theorem md_M_shiftedDown_30 : decode mc_M_shiftedDown 30 = .ok (.lload_n 3, 1) := by decide +kernel
theorem md_M_shiftedDown_31 : decode mc_M_shiftedDown 31 = .ok (.goto 6, 3) := by decide +kernel
theorem md_M_shiftedDown_34 : decode mc_M_shiftedDown 34 = .ok (.lload_n 3, 1) := by decide +kernel
theorem md_M_shiftedDown_35 : decode mc_M_shiftedDown 35 = .ok (.lconst 1, 1) := by decide +kernel
theorem md_M_shiftedDown_36 : decode mc_M_shiftedDown 36 = .ok (.lor, 1) := by decide +kernel
theorem md_M_shiftedDown_37 : decode mc_M_shiftedDown 37 = .ok (.lreturn, 1) := by decide +kernel
abbrev mc_M_add : ByteArray := prog_4_method_19_code
def my_M_add : MethodName := ⟨"NumberProbeModel", "add", "(IJJ)J"⟩
abbrev mw_M_add : List Cond := Cond.code my_M_add mc_M_add 13 (some .long) :: gw_tbl
theorem md_M_add_0 : decode mc_M_add 0 = .ok (.aload_n 0, 1) := by decide +kernel
theorem md_M_add_1 : decode mc_M_add 1 = .ok (.iload_n 1, 1) := by decide +kernel
theorem md_M_add_2 : decode mc_M_add 2 = .ok (.lload_n 2, 1) := by decide +kernel
theorem md_M_add_3 : decode mc_M_add 3 = .ok (.invokevirtual 98, 3) := by decide +kernel
theorem md_M_add_6 : decode mc_M_add 6 = .ok (.aload_n 0, 1) := by decide +kernel
theorem md_M_add_7 : decode mc_M_add 7 = .ok (.iload_n 1, 1) := by decide +kernel
theorem md_M_add_8 : decode mc_M_add 8 = .ok (.lload 4, 2) := by decide +kernel
theorem md_M_add_10 : decode mc_M_add 10 = .ok (.invokevirtual 102, 3) := by decide +kernel
theorem md_M_add_13 : decode mc_M_add 13 = .ok (.aload_n 0, 1) := by decide +kernel
theorem md_M_add_14 : decode mc_M_add 14 = .ok (.getfield 54, 3) := by decide +kernel
theorem md_M_add_17 : decode mc_M_add 17 = .ok (.ifCond .ne 35, 3) := by decide +kernel
theorem md_M_add_20 : decode mc_M_add 20 = .ok (.aload_n 0, 1) := by decide +kernel
theorem md_M_add_21 : decode mc_M_add 21 = .ok (.getfield 78, 3) := by decide +kernel
theorem md_M_add_24 : decode mc_M_add 24 = .ok (.ifCond .ne 28, 3) := by decide +kernel
theorem md_M_add_27 : decode mc_M_add 27 = .ok (.aload_n 0, 1) := by decide +kernel
theorem md_M_add_28 : decode mc_M_add 28 = .ok (.getfield 57, 3) := by decide +kernel
theorem md_M_add_31 : decode mc_M_add 31 = .ok (.ifCond .eq 26, 3) := by decide +kernel
theorem md_M_add_34 : decode mc_M_add 34 = .ok (.aload_n 0, 1) := by decide +kernel
theorem md_M_add_35 : decode mc_M_add 35 = .ok (.getfield 81, 3) := by decide +kernel
theorem md_M_add_38 : decode mc_M_add 38 = .ok (.ifCond .eq 19, 3) := by decide +kernel
theorem md_M_add_41 : decode mc_M_add 41 = .ok (.aload_n 0, 1) := by decide +kernel
theorem md_M_add_42 : decode mc_M_add 42 = .ok (.getfield 47, 3) := by decide +kernel
theorem md_M_add_45 : decode mc_M_add 45 = .ok (.aload_n 0, 1) := by decide +kernel
theorem md_M_add_46 : decode mc_M_add 46 = .ok (.getfield 75, 3) := by decide +kernel
theorem md_M_add_49 : decode mc_M_add 49 = .ok (.if_icmp .eq 8, 3) := by decide +kernel
theorem md_M_add_52 : decode mc_M_add 52 = .ok (.iload_n 1, 1) := by decide +kernel
theorem md_M_add_53 : decode mc_M_add 53 = .ok (.invokestatic 105, 3) := by decide +kernel
theorem md_M_add_56 : decode mc_M_add 56 = .ok (.lreturn, 1) := by decide +kernel
theorem md_M_add_57 : decode mc_M_add 57 = .ok (.aload_n 0, 1) := by decide +kernel
theorem md_M_add_58 : decode mc_M_add 58 = .ok (.getfield 57, 3) := by decide +kernel
theorem md_M_add_61 : decode mc_M_add 61 = .ok (.ifCond .eq 5, 3) := by decide +kernel
theorem md_M_add_64 : decode mc_M_add 64 = .ok (.lload_n 2, 1) := by decide +kernel
theorem md_M_add_65 : decode mc_M_add 65 = .ok (.lreturn, 1) := by decide +kernel
theorem md_M_add_66 : decode mc_M_add 66 = .ok (.aload_n 0, 1) := by decide +kernel
theorem md_M_add_67 : decode mc_M_add 67 = .ok (.getfield 81, 3) := by decide +kernel
theorem md_M_add_70 : decode mc_M_add 70 = .ok (.ifCond .eq 6, 3) := by decide +kernel
theorem md_M_add_73 : decode mc_M_add 73 = .ok (.lload 4, 2) := by decide +kernel
theorem md_M_add_75 : decode mc_M_add 75 = .ok (.lreturn, 1) := by decide +kernel
theorem md_M_add_76 : decode mc_M_add 76 = .ok (.aload_n 0, 1) := by decide +kernel
theorem md_M_add_77 : decode mc_M_add 77 = .ok (.getfield 63, 3) := by decide +kernel
theorem md_M_add_80 : decode mc_M_add 80 = .ok (.lconst 0, 1) := by decide +kernel
theorem md_M_add_81 : decode mc_M_add 81 = .ok (.lcmp, 1) := by decide +kernel
theorem md_M_add_82 : decode mc_M_add 82 = .ok (.ifCond .ne 32, 3) := by decide +kernel
theorem md_M_add_85 : decode mc_M_add 85 = .ok (.aload_n 0, 1) := by decide +kernel
theorem md_M_add_86 : decode mc_M_add 86 = .ok (.getfield 84, 3) := by decide +kernel
theorem md_M_add_89 : decode mc_M_add 89 = .ok (.lconst 0, 1) := by decide +kernel
theorem md_M_add_90 : decode mc_M_add 90 = .ok (.lcmp, 1) := by decide +kernel
theorem md_M_add_91 : decode mc_M_add 91 = .ok (.ifCond .ne 23, 3) := by decide +kernel
theorem md_M_add_94 : decode mc_M_add 94 = .ok (.aload_n 0, 1) := by decide +kernel
theorem md_M_add_95 : decode mc_M_add 95 = .ok (.getfield 47, 3) := by decide +kernel
theorem md_M_add_98 : decode mc_M_add 98 = .ok (.ifCond .eq 14, 3) := by decide +kernel
theorem md_M_add_101 : decode mc_M_add 101 = .ok (.aload_n 0, 1) := by decide +kernel
theorem md_M_add_102 : decode mc_M_add 102 = .ok (.getfield 75, 3) := by decide +kernel
theorem md_M_add_105 : decode mc_M_add 105 = .ok (.ifCond .eq 7, 3) := by decide +kernel
theorem md_M_add_108 : decode mc_M_add 108 = .ok (.lload_n 2, 1) := by decide +kernel
theorem md_M_add_109 : decode mc_M_add 109 = .ok (.goto 4, 3) := by decide +kernel
theorem md_M_add_112 : decode mc_M_add 112 = .ok (.lconst 0, 1) := by decide +kernel
theorem md_M_add_113 : decode mc_M_add 113 = .ok (.lreturn, 1) := by decide +kernel
theorem md_M_add_114 : decode mc_M_add 114 = .ok (.aload_n 0, 1) := by decide +kernel
theorem md_M_add_115 : decode mc_M_add 115 = .ok (.getfield 71, 3) := by decide +kernel
theorem md_M_add_118 : decode mc_M_add 118 = .ok (.aload_n 0, 1) := by decide +kernel
theorem md_M_add_119 : decode mc_M_add 119 = .ok (.getfield 87, 3) := by decide +kernel
theorem md_M_add_122 : decode mc_M_add 122 = .ok (.if_icmp .le 10, 3) := by decide +kernel
theorem md_M_add_125 : decode mc_M_add 125 = .ok (.aload_n 0, 1) := by decide +kernel
theorem md_M_add_126 : decode mc_M_add 126 = .ok (.getfield 71, 3) := by decide +kernel
theorem md_M_add_129 : decode mc_M_add 129 = .ok (.goto 7, 3) := by decide +kernel
theorem md_M_add_132 : decode mc_M_add 132 = .ok (.aload_n 0, 1) := by decide +kernel
theorem md_M_add_133 : decode mc_M_add 133 = .ok (.getfield 87, 3) := by decide +kernel
theorem md_M_add_136 : decode mc_M_add 136 = .ok (.istore 6, 2) := by decide +kernel
theorem md_M_add_138 : decode mc_M_add 138 = .ok (.aload_n 0, 1) := by decide +kernel
theorem md_M_add_139 : decode mc_M_add 139 = .ok (.getfield 63, 3) := by decide +kernel
theorem md_M_add_142 : decode mc_M_add 142 = .ok (.bipush 8, 2) := by decide +kernel
theorem md_M_add_144 : decode mc_M_add 144 = .ok (.lshl, 1) := by decide +kernel
theorem md_M_add_145 : decode mc_M_add 145 = .ok (.iload 6, 2) := by decide +kernel
theorem md_M_add_147 : decode mc_M_add 147 = .ok (.aload_n 0, 1) := by decide +kernel
theorem md_M_add_148 : decode mc_M_add 148 = .ok (.getfield 71, 3) := by decide +kernel
theorem md_M_add_151 : decode mc_M_add 151 = .ok (.isub, 1) := by decide +kernel
theorem md_M_add_152 : decode mc_M_add 152 = .ok (.invokestatic 108, 3) := by decide +kernel
theorem md_M_add_155 : decode mc_M_add 155 = .ok (.lstore 7, 2) := by decide +kernel
theorem md_M_add_157 : decode mc_M_add 157 = .ok (.aload_n 0, 1) := by decide +kernel
theorem md_M_add_158 : decode mc_M_add 158 = .ok (.getfield 84, 3) := by decide +kernel
theorem md_M_add_161 : decode mc_M_add 161 = .ok (.bipush 8, 2) := by decide +kernel
theorem md_M_add_163 : decode mc_M_add 163 = .ok (.lshl, 1) := by decide +kernel
theorem md_M_add_164 : decode mc_M_add 164 = .ok (.iload 6, 2) := by decide +kernel
theorem md_M_add_166 : decode mc_M_add 166 = .ok (.aload_n 0, 1) := by decide +kernel
theorem md_M_add_167 : decode mc_M_add 167 = .ok (.getfield 87, 3) := by decide +kernel
theorem md_M_add_170 : decode mc_M_add 170 = .ok (.isub, 1) := by decide +kernel
theorem md_M_add_171 : decode mc_M_add 171 = .ok (.invokestatic 108, 3) := by decide +kernel
theorem md_M_add_174 : decode mc_M_add 174 = .ok (.lstore 9, 2) := by decide +kernel
theorem md_M_add_176 : decode mc_M_add 176 = .ok (.aload_n 0, 1) := by decide +kernel
theorem md_M_add_177 : decode mc_M_add 177 = .ok (.getfield 47, 3) := by decide +kernel
theorem md_M_add_180 : decode mc_M_add 180 = .ok (.ifCond .eq 9, 3) := by decide +kernel
theorem md_M_add_183 : decode mc_M_add 183 = .ok (.lload 7, 2) := by decide +kernel
theorem md_M_add_185 : decode mc_M_add 185 = .ok (.lneg, 1) := by decide +kernel
theorem md_M_add_186 : decode mc_M_add 186 = .ok (.goto 5, 3) := by decide +kernel
theorem md_M_add_189 : decode mc_M_add 189 = .ok (.lload 7, 2) := by decide +kernel
theorem md_M_add_191 : decode mc_M_add 191 = .ok (.aload_n 0, 1) := by decide +kernel
theorem md_M_add_192 : decode mc_M_add 192 = .ok (.getfield 75, 3) := by decide +kernel
theorem md_M_add_195 : decode mc_M_add 195 = .ok (.ifCond .eq 9, 3) := by decide +kernel
theorem md_M_add_198 : decode mc_M_add 198 = .ok (.lload 9, 2) := by decide +kernel
theorem md_M_add_200 : decode mc_M_add 200 = .ok (.lneg, 1) := by decide +kernel
theorem md_M_add_201 : decode mc_M_add 201 = .ok (.goto 5, 3) := by decide +kernel
theorem md_M_add_204 : decode mc_M_add 204 = .ok (.lload 9, 2) := by decide +kernel
theorem md_M_add_206 : decode mc_M_add 206 = .ok (.ladd, 1) := by decide +kernel
theorem md_M_add_207 : decode mc_M_add 207 = .ok (.lstore 11, 2) := by decide +kernel
theorem md_M_add_209 : decode mc_M_add 209 = .ok (.lload 11, 2) := by decide +kernel
theorem md_M_add_211 : decode mc_M_add 211 = .ok (.lconst 0, 1) := by decide +kernel
theorem md_M_add_212 : decode mc_M_add 212 = .ok (.lcmp, 1) := by decide +kernel
theorem md_M_add_213 : decode mc_M_add 213 = .ok (.ifCond .ne 5, 3) := by decide +kernel
theorem md_M_add_216 : decode mc_M_add 216 = .ok (.lconst 0, 1) := by decide +kernel
theorem md_M_add_217 : decode mc_M_add 217 = .ok (.lreturn, 1) := by decide +kernel
theorem md_M_add_218 : decode mc_M_add 218 = .ok (.iload_n 1, 1) := by decide +kernel
theorem md_M_add_219 : decode mc_M_add 219 = .ok (.lload 11, 2) := by decide +kernel
theorem md_M_add_221 : decode mc_M_add 221 = .ok (.lconst 0, 1) := by decide +kernel
theorem md_M_add_222 : decode mc_M_add 222 = .ok (.lcmp, 1) := by decide +kernel
theorem md_M_add_223 : decode mc_M_add 223 = .ok (.ifCond .ge 7, 3) := by decide +kernel
theorem md_M_add_226 : decode mc_M_add 226 = .ok (.iconst 1, 1) := by decide +kernel
theorem md_M_add_227 : decode mc_M_add 227 = .ok (.goto 4, 3) := by decide +kernel
theorem md_M_add_230 : decode mc_M_add 230 = .ok (.iconst 0, 1) := by decide +kernel
theorem md_M_add_231 : decode mc_M_add 231 = .ok (.lload 11, 2) := by decide +kernel
theorem md_M_add_233 : decode mc_M_add 233 = .ok (.lconst 0, 1) := by decide +kernel
theorem md_M_add_234 : decode mc_M_add 234 = .ok (.lcmp, 1) := by decide +kernel
theorem md_M_add_235 : decode mc_M_add 235 = .ok (.ifCond .ge 9, 3) := by decide +kernel
theorem md_M_add_238 : decode mc_M_add 238 = .ok (.lload 11, 2) := by decide +kernel
theorem md_M_add_240 : decode mc_M_add 240 = .ok (.lneg, 1) := by decide +kernel
theorem md_M_add_241 : decode mc_M_add 241 = .ok (.goto 5, 3) := by decide +kernel
theorem md_M_add_244 : decode mc_M_add 244 = .ok (.lload 11, 2) := by decide +kernel
theorem md_M_add_246 : decode mc_M_add 246 = .ok (.iload 6, 2) := by decide +kernel
theorem md_M_add_248 : decode mc_M_add 248 = .ok (.bipush 8, 2) := by decide +kernel
theorem md_M_add_250 : decode mc_M_add 250 = .ok (.isub, 1) := by decide +kernel
theorem md_M_add_251 : decode mc_M_add 251 = .ok (.invokestatic 112, 3) := by decide +kernel
theorem md_M_add_254 : decode mc_M_add 254 = .ok (.lreturn, 1) := by decide +kernel
abbrev mc_M_flipped : ByteArray := prog_4_method_20_code
def my_M_flipped : MethodName := ⟨"NumberProbeModel", "flipped", "(IJ)J"⟩
abbrev mw_M_flipped : List Cond := Cond.code my_M_flipped mc_M_flipped 4 (some .long) :: gw_tbl
theorem md_M_flipped_0 : decode mc_M_flipped 0 = .ok (.iload_n 1, 1) := by decide +kernel
theorem md_M_flipped_1 : decode mc_M_flipped 1 = .ok (.lload_n 2, 1) := by decide +kernel
theorem md_M_flipped_2 : decode mc_M_flipped 2 = .ok (.invokestatic 51, 3) := by decide +kernel
theorem md_M_flipped_5 : decode mc_M_flipped 5 = .ok (.ifCond .eq 7, 3) := by decide +kernel
theorem md_M_flipped_8 : decode mc_M_flipped 8 = .ok (.lload_n 2, 1) := by decide +kernel
theorem md_M_flipped_9 : decode mc_M_flipped 9 = .ok (.goto 9, 3) := by decide +kernel
theorem md_M_flipped_12 : decode mc_M_flipped 12 = .ok (.lload_n 2, 1) := by decide +kernel
theorem md_M_flipped_13 : decode mc_M_flipped 13 = .ok (.iload_n 1, 1) := by decide +kernel
theorem md_M_flipped_14 : decode mc_M_flipped 14 = .ok (.invokestatic 25, 3) := by decide +kernel
theorem md_M_flipped_17 : decode mc_M_flipped 17 = .ok (.lxor, 1) := by decide +kernel
theorem md_M_flipped_18 : decode mc_M_flipped 18 = .ok (.lreturn, 1) := by decide +kernel
abbrev mc_M_product : ByteArray := prog_4_method_21_code
def my_M_product : MethodName := ⟨"NumberProbeModel", "product", "(JJ)J"⟩
abbrev mw_M_product : List Cond := Cond.code my_M_product mc_M_product 19 (some .long) :: gw_tbl
theorem md_M_product_0 : decode mc_M_product 0 = .ok (.lload_n 1, 1) := by decide +kernel
theorem md_M_product_1 : decode mc_M_product 1 = .ok (.bipush 32, 2) := by decide +kernel
theorem md_M_product_3 : decode mc_M_product 3 = .ok (.lushr, 1) := by decide +kernel
theorem md_M_product_4 : decode mc_M_product 4 = .ok (.lstore 5, 2) := by decide +kernel
theorem md_M_product_6 : decode mc_M_product 6 = .ok (.lload_n 1, 1) := by decide +kernel
theorem md_M_product_7 : decode mc_M_product 7 = .ok (.ldc2_w 116, 3) := by decide +kernel
theorem md_M_product_10 : decode mc_M_product 10 = .ok (.land, 1) := by decide +kernel
theorem md_M_product_11 : decode mc_M_product 11 = .ok (.lstore 7, 2) := by decide +kernel
theorem md_M_product_13 : decode mc_M_product 13 = .ok (.lload_n 3, 1) := by decide +kernel
theorem md_M_product_14 : decode mc_M_product 14 = .ok (.bipush 32, 2) := by decide +kernel
theorem md_M_product_16 : decode mc_M_product 16 = .ok (.lushr, 1) := by decide +kernel
theorem md_M_product_17 : decode mc_M_product 17 = .ok (.lstore 9, 2) := by decide +kernel
theorem md_M_product_19 : decode mc_M_product 19 = .ok (.lload_n 3, 1) := by decide +kernel
theorem md_M_product_20 : decode mc_M_product 20 = .ok (.ldc2_w 116, 3) := by decide +kernel
theorem md_M_product_23 : decode mc_M_product 23 = .ok (.land, 1) := by decide +kernel
theorem md_M_product_24 : decode mc_M_product 24 = .ok (.lstore 11, 2) := by decide +kernel
theorem md_M_product_26 : decode mc_M_product 26 = .ok (.lload 7, 2) := by decide +kernel
theorem md_M_product_28 : decode mc_M_product 28 = .ok (.lload 11, 2) := by decide +kernel
theorem md_M_product_30 : decode mc_M_product 30 = .ok (.lmul, 1) := by decide +kernel
theorem md_M_product_31 : decode mc_M_product 31 = .ok (.lstore 13, 2) := by decide +kernel
theorem md_M_product_33 : decode mc_M_product 33 = .ok (.lload 5, 2) := by decide +kernel
theorem md_M_product_35 : decode mc_M_product 35 = .ok (.lload 11, 2) := by decide +kernel
theorem md_M_product_37 : decode mc_M_product 37 = .ok (.lmul, 1) := by decide +kernel
theorem md_M_product_38 : decode mc_M_product 38 = .ok (.lload 13, 2) := by decide +kernel
theorem md_M_product_40 : decode mc_M_product 40 = .ok (.bipush 32, 2) := by decide +kernel
theorem md_M_product_42 : decode mc_M_product 42 = .ok (.lushr, 1) := by decide +kernel
theorem md_M_product_43 : decode mc_M_product 43 = .ok (.ladd, 1) := by decide +kernel
theorem md_M_product_44 : decode mc_M_product 44 = .ok (.lstore 15, 2) := by decide +kernel
theorem md_M_product_46 : decode mc_M_product 46 = .ok (.lload 7, 2) := by decide +kernel
theorem md_M_product_48 : decode mc_M_product 48 = .ok (.lload 9, 2) := by decide +kernel
theorem md_M_product_50 : decode mc_M_product 50 = .ok (.lmul, 1) := by decide +kernel
theorem md_M_product_51 : decode mc_M_product 51 = .ok (.lload 15, 2) := by decide +kernel
theorem md_M_product_53 : decode mc_M_product 53 = .ok (.ldc2_w 116, 3) := by decide +kernel
theorem md_M_product_56 : decode mc_M_product 56 = .ok (.land, 1) := by decide +kernel
theorem md_M_product_57 : decode mc_M_product 57 = .ok (.ladd, 1) := by decide +kernel
theorem md_M_product_58 : decode mc_M_product 58 = .ok (.lstore 17, 2) := by decide +kernel
theorem md_M_product_60 : decode mc_M_product 60 = .ok (.aload_n 0, 1) := by decide +kernel
theorem md_M_product_61 : decode mc_M_product 61 = .ok (.lload 5, 2) := by decide +kernel
theorem md_M_product_63 : decode mc_M_product 63 = .ok (.lload 9, 2) := by decide +kernel
theorem md_M_product_65 : decode mc_M_product 65 = .ok (.lmul, 1) := by decide +kernel
theorem md_M_product_66 : decode mc_M_product 66 = .ok (.lload 15, 2) := by decide +kernel
theorem md_M_product_68 : decode mc_M_product 68 = .ok (.bipush 32, 2) := by decide +kernel
theorem md_M_product_70 : decode mc_M_product 70 = .ok (.lushr, 1) := by decide +kernel
theorem md_M_product_71 : decode mc_M_product 71 = .ok (.ladd, 1) := by decide +kernel
theorem md_M_product_72 : decode mc_M_product 72 = .ok (.lload 17, 2) := by decide +kernel
theorem md_M_product_74 : decode mc_M_product 74 = .ok (.bipush 32, 2) := by decide +kernel
theorem md_M_product_76 : decode mc_M_product 76 = .ok (.lushr, 1) := by decide +kernel
theorem md_M_product_77 : decode mc_M_product 77 = .ok (.ladd, 1) := by decide +kernel
theorem md_M_product_78 : decode mc_M_product 78 = .ok (.putfield 118, 3) := by decide +kernel
theorem md_M_product_81 : decode mc_M_product 81 = .ok (.lload 17, 2) := by decide +kernel
theorem md_M_product_83 : decode mc_M_product 83 = .ok (.bipush 32, 2) := by decide +kernel
theorem md_M_product_85 : decode mc_M_product 85 = .ok (.lshl, 1) := by decide +kernel
theorem md_M_product_86 : decode mc_M_product 86 = .ok (.lload 13, 2) := by decide +kernel
theorem md_M_product_88 : decode mc_M_product 88 = .ok (.ldc2_w 116, 3) := by decide +kernel
theorem md_M_product_91 : decode mc_M_product 91 = .ok (.land, 1) := by decide +kernel
theorem md_M_product_92 : decode mc_M_product 92 = .ok (.lor, 1) := by decide +kernel
theorem md_M_product_93 : decode mc_M_product 93 = .ok (.lreturn, 1) := by decide +kernel
abbrev mc_M_multiply : ByteArray := prog_4_method_22_code
def my_M_multiply : MethodName := ⟨"NumberProbeModel", "multiply", "(IJJ)J"⟩
abbrev mw_M_multiply : List Cond := Cond.code my_M_multiply mc_M_multiply 12 (some .long) :: gw_tbl
theorem md_M_multiply_0 : decode mc_M_multiply 0 = .ok (.aload_n 0, 1) := by decide +kernel
theorem md_M_multiply_1 : decode mc_M_multiply 1 = .ok (.iload_n 1, 1) := by decide +kernel
theorem md_M_multiply_2 : decode mc_M_multiply 2 = .ok (.lload_n 2, 1) := by decide +kernel
theorem md_M_multiply_3 : decode mc_M_multiply 3 = .ok (.invokevirtual 98, 3) := by decide +kernel
theorem md_M_multiply_6 : decode mc_M_multiply 6 = .ok (.aload_n 0, 1) := by decide +kernel
theorem md_M_multiply_7 : decode mc_M_multiply 7 = .ok (.iload_n 1, 1) := by decide +kernel
theorem md_M_multiply_8 : decode mc_M_multiply 8 = .ok (.lload 4, 2) := by decide +kernel
theorem md_M_multiply_10 : decode mc_M_multiply 10 = .ok (.invokevirtual 102, 3) := by decide +kernel
theorem md_M_multiply_13 : decode mc_M_multiply 13 = .ok (.aload_n 0, 1) := by decide +kernel
theorem md_M_multiply_14 : decode mc_M_multiply 14 = .ok (.getfield 47, 3) := by decide +kernel
theorem md_M_multiply_17 : decode mc_M_multiply 17 = .ok (.aload_n 0, 1) := by decide +kernel
theorem md_M_multiply_18 : decode mc_M_multiply 18 = .ok (.getfield 75, 3) := by decide +kernel
theorem md_M_multiply_21 : decode mc_M_multiply 21 = .ok (.if_icmp .eq 7, 3) := by decide +kernel
theorem md_M_multiply_24 : decode mc_M_multiply 24 = .ok (.iconst 1, 1) := by decide +kernel
theorem md_M_multiply_25 : decode mc_M_multiply 25 = .ok (.goto 4, 3) := by decide +kernel
theorem md_M_multiply_28 : decode mc_M_multiply 28 = .ok (.iconst 0, 1) := by decide +kernel
theorem md_M_multiply_29 : decode mc_M_multiply 29 = .ok (.istore 6, 2) := by decide +kernel
theorem md_M_multiply_31 : decode mc_M_multiply 31 = .ok (.aload_n 0, 1) := by decide +kernel
theorem md_M_multiply_32 : decode mc_M_multiply 32 = .ok (.getfield 54, 3) := by decide +kernel
theorem md_M_multiply_35 : decode mc_M_multiply 35 = .ok (.ifCond .ne 42, 3) := by decide +kernel
theorem md_M_multiply_38 : decode mc_M_multiply 38 = .ok (.aload_n 0, 1) := by decide +kernel
theorem md_M_multiply_39 : decode mc_M_multiply 39 = .ok (.getfield 78, 3) := by decide +kernel
theorem md_M_multiply_42 : decode mc_M_multiply 42 = .ok (.ifCond .ne 35, 3) := by decide +kernel
theorem md_M_multiply_45 : decode mc_M_multiply 45 = .ok (.aload_n 0, 1) := by decide +kernel
theorem md_M_multiply_46 : decode mc_M_multiply 46 = .ok (.getfield 57, 3) := by decide +kernel
theorem md_M_multiply_49 : decode mc_M_multiply 49 = .ok (.ifCond .eq 12, 3) := by decide +kernel
theorem md_M_multiply_52 : decode mc_M_multiply 52 = .ok (.aload_n 0, 1) := by decide +kernel
theorem md_M_multiply_53 : decode mc_M_multiply 53 = .ok (.getfield 84, 3) := by decide +kernel
theorem md_M_multiply_56 : decode mc_M_multiply 56 = .ok (.lconst 0, 1) := by decide +kernel
theorem md_M_multiply_57 : decode mc_M_multiply 57 = .ok (.lcmp, 1) := by decide +kernel
theorem md_M_multiply_58 : decode mc_M_multiply 58 = .ok (.ifCond .eq 19, 3) := by decide +kernel
theorem md_M_multiply_61 : decode mc_M_multiply 61 = .ok (.aload_n 0, 1) := by decide +kernel
theorem md_M_multiply_62 : decode mc_M_multiply 62 = .ok (.getfield 81, 3) := by decide +kernel
theorem md_M_multiply_65 : decode mc_M_multiply 65 = .ok (.ifCond .eq 17, 3) := by decide +kernel
theorem md_M_multiply_68 : decode mc_M_multiply 68 = .ok (.aload_n 0, 1) := by decide +kernel
theorem md_M_multiply_69 : decode mc_M_multiply 69 = .ok (.getfield 63, 3) := by decide +kernel
theorem md_M_multiply_72 : decode mc_M_multiply 72 = .ok (.lconst 0, 1) := by decide +kernel
theorem md_M_multiply_73 : decode mc_M_multiply 73 = .ok (.lcmp, 1) := by decide +kernel
theorem md_M_multiply_74 : decode mc_M_multiply 74 = .ok (.ifCond .ne 8, 3) := by decide +kernel
theorem md_M_multiply_77 : decode mc_M_multiply 77 = .ok (.iload_n 1, 1) := by decide +kernel
theorem md_M_multiply_78 : decode mc_M_multiply 78 = .ok (.invokestatic 105, 3) := by decide +kernel
theorem md_M_multiply_81 : decode mc_M_multiply 81 = .ok (.lreturn, 1) := by decide +kernel
theorem md_M_multiply_82 : decode mc_M_multiply 82 = .ok (.aload_n 0, 1) := by decide +kernel
theorem md_M_multiply_83 : decode mc_M_multiply 83 = .ok (.getfield 57, 3) := by decide +kernel
theorem md_M_multiply_86 : decode mc_M_multiply 86 = .ok (.ifCond .ne 10, 3) := by decide +kernel
theorem md_M_multiply_89 : decode mc_M_multiply 89 = .ok (.aload_n 0, 1) := by decide +kernel
theorem md_M_multiply_90 : decode mc_M_multiply 90 = .ok (.getfield 81, 3) := by decide +kernel
theorem md_M_multiply_93 : decode mc_M_multiply 93 = .ok (.ifCond .eq 14, 3) := by decide +kernel
theorem md_M_multiply_96 : decode mc_M_multiply 96 = .ok (.iload_n 1, 1) := by decide +kernel
theorem md_M_multiply_97 : decode mc_M_multiply 97 = .ok (.iload 6, 2) := by decide +kernel
theorem md_M_multiply_99 : decode mc_M_multiply 99 = .ok (.iload_n 1, 1) := by decide +kernel
theorem md_M_multiply_100 : decode mc_M_multiply 100 = .ok (.invokestatic 33, 3) := by decide +kernel
theorem md_M_multiply_103 : decode mc_M_multiply 103 = .ok (.invokestatic 90, 3) := by decide +kernel
theorem md_M_multiply_106 : decode mc_M_multiply 106 = .ok (.lreturn, 1) := by decide +kernel
theorem md_M_multiply_107 : decode mc_M_multiply 107 = .ok (.aload_n 0, 1) := by decide +kernel
theorem md_M_multiply_108 : decode mc_M_multiply 108 = .ok (.aload_n 0, 1) := by decide +kernel
theorem md_M_multiply_109 : decode mc_M_multiply 109 = .ok (.getfield 63, 3) := by decide +kernel
theorem md_M_multiply_112 : decode mc_M_multiply 112 = .ok (.aload_n 0, 1) := by decide +kernel
theorem md_M_multiply_113 : decode mc_M_multiply 113 = .ok (.getfield 84, 3) := by decide +kernel
theorem md_M_multiply_116 : decode mc_M_multiply 116 = .ok (.invokevirtual 121, 3) := by decide +kernel
theorem md_M_multiply_119 : decode mc_M_multiply 119 = .ok (.lstore 7, 2) := by decide +kernel
theorem md_M_multiply_121 : decode mc_M_multiply 121 = .ok (.aload_n 0, 1) := by decide +kernel
theorem md_M_multiply_122 : decode mc_M_multiply 122 = .ok (.getfield 118, 3) := by decide +kernel
theorem md_M_multiply_125 : decode mc_M_multiply 125 = .ok (.lconst 0, 1) := by decide +kernel
theorem md_M_multiply_126 : decode mc_M_multiply 126 = .ok (.lcmp, 1) := by decide +kernel
theorem md_M_multiply_127 : decode mc_M_multiply 127 = .ok (.ifCond .ne 31, 3) := by decide +kernel
theorem md_M_multiply_130 : decode mc_M_multiply 130 = .ok (.lload 7, 2) := by decide +kernel
theorem md_M_multiply_132 : decode mc_M_multiply 132 = .ok (.bipush 62, 2) := by decide +kernel
theorem md_M_multiply_134 : decode mc_M_multiply 134 = .ok (.lushr, 1) := by decide +kernel
theorem md_M_multiply_135 : decode mc_M_multiply 135 = .ok (.lconst 0, 1) := by decide +kernel
theorem md_M_multiply_136 : decode mc_M_multiply 136 = .ok (.lcmp, 1) := by decide +kernel
theorem md_M_multiply_137 : decode mc_M_multiply 137 = .ok (.ifCond .ne 21, 3) := by decide +kernel
theorem md_M_multiply_140 : decode mc_M_multiply 140 = .ok (.iload_n 1, 1) := by decide +kernel
theorem md_M_multiply_141 : decode mc_M_multiply 141 = .ok (.iload 6, 2) := by decide +kernel
theorem md_M_multiply_143 : decode mc_M_multiply 143 = .ok (.lload 7, 2) := by decide +kernel
theorem md_M_multiply_145 : decode mc_M_multiply 145 = .ok (.aload_n 0, 1) := by decide +kernel
theorem md_M_multiply_146 : decode mc_M_multiply 146 = .ok (.getfield 71, 3) := by decide +kernel
theorem md_M_multiply_149 : decode mc_M_multiply 149 = .ok (.aload_n 0, 1) := by decide +kernel
theorem md_M_multiply_150 : decode mc_M_multiply 150 = .ok (.getfield 87, 3) := by decide +kernel
theorem md_M_multiply_153 : decode mc_M_multiply 153 = .ok (.iadd, 1) := by decide +kernel
theorem md_M_multiply_154 : decode mc_M_multiply 154 = .ok (.invokestatic 112, 3) := by decide +kernel
theorem md_M_multiply_157 : decode mc_M_multiply 157 = .ok (.lreturn, 1) := by decide +kernel
theorem md_M_multiply_158 : decode mc_M_multiply 158 = .ok (.aload_n 0, 1) := by decide +kernel
theorem md_M_multiply_159 : decode mc_M_multiply 159 = .ok (.getfield 118, 3) := by decide +kernel
theorem md_M_multiply_162 : decode mc_M_multiply 162 = .ok (.invokestatic 94, 3) := by decide +kernel
theorem md_M_multiply_165 : decode mc_M_multiply 165 = .ok (.iconst 2, 1) := by decide +kernel
theorem md_M_multiply_166 : decode mc_M_multiply 166 = .ok (.iadd, 1) := by decide +kernel
theorem md_M_multiply_167 : decode mc_M_multiply 167 = .ok (.istore 9, 2) := by decide +kernel
theorem md_M_multiply_169 : decode mc_M_multiply 169 = .ok (.lload 7, 2) := by decide +kernel
theorem md_M_multiply_171 : decode mc_M_multiply 171 = .ok (.iconst 1, 1) := by decide +kernel
theorem md_M_multiply_172 : decode mc_M_multiply 172 = .ok (.lushr, 1) := by decide +kernel
theorem md_M_multiply_173 : decode mc_M_multiply 173 = .ok (.iload 9, 2) := by decide +kernel
theorem md_M_multiply_175 : decode mc_M_multiply 175 = .ok (.iconst 1, 1) := by decide +kernel
theorem md_M_multiply_176 : decode mc_M_multiply 176 = .ok (.isub, 1) := by decide +kernel
theorem md_M_multiply_177 : decode mc_M_multiply 177 = .ok (.invokestatic 108, 3) := by decide +kernel
theorem md_M_multiply_180 : decode mc_M_multiply 180 = .ok (.aload_n 0, 1) := by decide +kernel
theorem md_M_multiply_181 : decode mc_M_multiply 181 = .ok (.getfield 118, 3) := by decide +kernel
theorem md_M_multiply_184 : decode mc_M_multiply 184 = .ok (.bipush 64, 2) := by decide +kernel
theorem md_M_multiply_186 : decode mc_M_multiply 186 = .ok (.iload 9, 2) := by decide +kernel
theorem md_M_multiply_188 : decode mc_M_multiply 188 = .ok (.isub, 1) := by decide +kernel
theorem md_M_multiply_189 : decode mc_M_multiply 189 = .ok (.lshl, 1) := by decide +kernel
theorem md_M_multiply_190 : decode mc_M_multiply 190 = .ok (.lor, 1) := by decide +kernel
theorem md_M_multiply_191 : decode mc_M_multiply 191 = .ok (.lstore 10, 2) := by decide +kernel
theorem md_M_multiply_193 : decode mc_M_multiply 193 = .ok (.lload 7, 2) := by decide +kernel
theorem md_M_multiply_195 : decode mc_M_multiply 195 = .ok (.lconst 1, 1) := by decide +kernel
theorem md_M_multiply_196 : decode mc_M_multiply 196 = .ok (.land, 1) := by decide +kernel
theorem md_M_multiply_197 : decode mc_M_multiply 197 = .ok (.lconst 0, 1) := by decide +kernel
theorem md_M_multiply_198 : decode mc_M_multiply 198 = .ok (.lcmp, 1) := by decide +kernel
theorem md_M_multiply_199 : decode mc_M_multiply 199 = .ok (.ifCond .eq 9, 3) := by decide +kernel
theorem md_M_multiply_202 : decode mc_M_multiply 202 = .ok (.lload 10, 2) := by decide +kernel
theorem md_M_multiply_204 : decode mc_M_multiply 204 = .ok (.lconst 1, 1) := by decide +kernel
theorem md_M_multiply_205 : decode mc_M_multiply 205 = .ok (.lor, 1) := by decide +kernel
theorem md_M_multiply_206 : decode mc_M_multiply 206 = .ok (.lstore 10, 2) := by decide +kernel
theorem md_M_multiply_208 : decode mc_M_multiply 208 = .ok (.iload_n 1, 1) := by decide +kernel
theorem md_M_multiply_209 : decode mc_M_multiply 209 = .ok (.iload 6, 2) := by decide +kernel
theorem md_M_multiply_211 : decode mc_M_multiply 211 = .ok (.lload 10, 2) := by decide +kernel
theorem md_M_multiply_213 : decode mc_M_multiply 213 = .ok (.aload_n 0, 1) := by decide +kernel
theorem md_M_multiply_214 : decode mc_M_multiply 214 = .ok (.getfield 71, 3) := by decide +kernel
theorem md_M_multiply_217 : decode mc_M_multiply 217 = .ok (.aload_n 0, 1) := by decide +kernel
theorem md_M_multiply_218 : decode mc_M_multiply 218 = .ok (.getfield 87, 3) := by decide +kernel
theorem md_M_multiply_221 : decode mc_M_multiply 221 = .ok (.iadd, 1) := by decide +kernel
theorem md_M_multiply_222 : decode mc_M_multiply 222 = .ok (.iload 9, 2) := by decide +kernel
theorem md_M_multiply_224 : decode mc_M_multiply 224 = .ok (.iadd, 1) := by decide +kernel
theorem md_M_multiply_225 : decode mc_M_multiply 225 = .ok (.invokestatic 112, 3) := by decide +kernel
theorem md_M_multiply_228 : decode mc_M_multiply 228 = .ok (.lreturn, 1) := by decide +kernel
abbrev mc_M_divide : ByteArray := prog_4_method_23_code
def my_M_divide : MethodName := ⟨"NumberProbeModel", "divide", "(IJJ)J"⟩
abbrev mw_M_divide : List Cond := Cond.code my_M_divide mc_M_divide 17 (some .long) :: gw_tbl
theorem md_M_divide_0 : decode mc_M_divide 0 = .ok (.aload_n 0, 1) := by decide +kernel
theorem md_M_divide_1 : decode mc_M_divide 1 = .ok (.iload_n 1, 1) := by decide +kernel
theorem md_M_divide_2 : decode mc_M_divide 2 = .ok (.lload_n 2, 1) := by decide +kernel
theorem md_M_divide_3 : decode mc_M_divide 3 = .ok (.invokevirtual 98, 3) := by decide +kernel
theorem md_M_divide_6 : decode mc_M_divide 6 = .ok (.aload_n 0, 1) := by decide +kernel
theorem md_M_divide_7 : decode mc_M_divide 7 = .ok (.iload_n 1, 1) := by decide +kernel
theorem md_M_divide_8 : decode mc_M_divide 8 = .ok (.lload 4, 2) := by decide +kernel
theorem md_M_divide_10 : decode mc_M_divide 10 = .ok (.invokevirtual 102, 3) := by decide +kernel
theorem md_M_divide_13 : decode mc_M_divide 13 = .ok (.aload_n 0, 1) := by decide +kernel
theorem md_M_divide_14 : decode mc_M_divide 14 = .ok (.getfield 47, 3) := by decide +kernel
theorem md_M_divide_17 : decode mc_M_divide 17 = .ok (.aload_n 0, 1) := by decide +kernel
theorem md_M_divide_18 : decode mc_M_divide 18 = .ok (.getfield 75, 3) := by decide +kernel
theorem md_M_divide_21 : decode mc_M_divide 21 = .ok (.if_icmp .eq 7, 3) := by decide +kernel
theorem md_M_divide_24 : decode mc_M_divide 24 = .ok (.iconst 1, 1) := by decide +kernel
theorem md_M_divide_25 : decode mc_M_divide 25 = .ok (.goto 4, 3) := by decide +kernel
theorem md_M_divide_28 : decode mc_M_divide 28 = .ok (.iconst 0, 1) := by decide +kernel
theorem md_M_divide_29 : decode mc_M_divide 29 = .ok (.istore 6, 2) := by decide +kernel
theorem md_M_divide_31 : decode mc_M_divide 31 = .ok (.aload_n 0, 1) := by decide +kernel
theorem md_M_divide_32 : decode mc_M_divide 32 = .ok (.getfield 84, 3) := by decide +kernel
theorem md_M_divide_35 : decode mc_M_divide 35 = .ok (.lconst 0, 1) := by decide +kernel
theorem md_M_divide_36 : decode mc_M_divide 36 = .ok (.lcmp, 1) := by decide +kernel
theorem md_M_divide_37 : decode mc_M_divide 37 = .ok (.ifCond .ne 14, 3) := by decide +kernel
theorem md_M_divide_40 : decode mc_M_divide 40 = .ok (.aload_n 0, 1) := by decide +kernel
theorem md_M_divide_41 : decode mc_M_divide 41 = .ok (.getfield 81, 3) := by decide +kernel
theorem md_M_divide_44 : decode mc_M_divide 44 = .ok (.ifCond .ne 7, 3) := by decide +kernel
theorem md_M_divide_47 : decode mc_M_divide 47 = .ok (.iconst 1, 1) := by decide +kernel
theorem md_M_divide_48 : decode mc_M_divide 48 = .ok (.goto 4, 3) := by decide +kernel
theorem md_M_divide_51 : decode mc_M_divide 51 = .ok (.iconst 0, 1) := by decide +kernel
theorem md_M_divide_52 : decode mc_M_divide 52 = .ok (.istore 7, 2) := by decide +kernel
theorem md_M_divide_54 : decode mc_M_divide 54 = .ok (.aload_n 0, 1) := by decide +kernel
theorem md_M_divide_55 : decode mc_M_divide 55 = .ok (.getfield 54, 3) := by decide +kernel
theorem md_M_divide_58 : decode mc_M_divide 58 = .ok (.ifCond .ne 38, 3) := by decide +kernel
theorem md_M_divide_61 : decode mc_M_divide 61 = .ok (.aload_n 0, 1) := by decide +kernel
theorem md_M_divide_62 : decode mc_M_divide 62 = .ok (.getfield 78, 3) := by decide +kernel
theorem md_M_divide_65 : decode mc_M_divide 65 = .ok (.ifCond .ne 31, 3) := by decide +kernel
theorem md_M_divide_68 : decode mc_M_divide 68 = .ok (.aload_n 0, 1) := by decide +kernel
theorem md_M_divide_69 : decode mc_M_divide 69 = .ok (.getfield 57, 3) := by decide +kernel
theorem md_M_divide_72 : decode mc_M_divide 72 = .ok (.ifCond .eq 10, 3) := by decide +kernel
theorem md_M_divide_75 : decode mc_M_divide 75 = .ok (.aload_n 0, 1) := by decide +kernel
theorem md_M_divide_76 : decode mc_M_divide 76 = .ok (.getfield 81, 3) := by decide +kernel
theorem md_M_divide_79 : decode mc_M_divide 79 = .ok (.ifCond .ne 17, 3) := by decide +kernel
theorem md_M_divide_82 : decode mc_M_divide 82 = .ok (.iload 7, 2) := by decide +kernel
theorem md_M_divide_84 : decode mc_M_divide 84 = .ok (.ifCond .eq 17, 3) := by decide +kernel
theorem md_M_divide_87 : decode mc_M_divide 87 = .ok (.aload_n 0, 1) := by decide +kernel
theorem md_M_divide_88 : decode mc_M_divide 88 = .ok (.getfield 63, 3) := by decide +kernel
theorem md_M_divide_91 : decode mc_M_divide 91 = .ok (.lconst 0, 1) := by decide +kernel
theorem md_M_divide_92 : decode mc_M_divide 92 = .ok (.lcmp, 1) := by decide +kernel
theorem md_M_divide_93 : decode mc_M_divide 93 = .ok (.ifCond .ne 8, 3) := by decide +kernel
theorem md_M_divide_96 : decode mc_M_divide 96 = .ok (.iload_n 1, 1) := by decide +kernel
theorem md_M_divide_97 : decode mc_M_divide 97 = .ok (.invokestatic 105, 3) := by decide +kernel
theorem md_M_divide_100 : decode mc_M_divide 100 = .ok (.lreturn, 1) := by decide +kernel
theorem md_M_divide_101 : decode mc_M_divide 101 = .ok (.aload_n 0, 1) := by decide +kernel
theorem md_M_divide_102 : decode mc_M_divide 102 = .ok (.getfield 57, 3) := by decide +kernel
theorem md_M_divide_105 : decode mc_M_divide 105 = .ok (.ifCond .ne 8, 3) := by decide +kernel
theorem md_M_divide_108 : decode mc_M_divide 108 = .ok (.iload 7, 2) := by decide +kernel
theorem md_M_divide_110 : decode mc_M_divide 110 = .ok (.ifCond .eq 14, 3) := by decide +kernel
theorem md_M_divide_113 : decode mc_M_divide 113 = .ok (.iload_n 1, 1) := by decide +kernel
theorem md_M_divide_114 : decode mc_M_divide 114 = .ok (.iload 6, 2) := by decide +kernel
theorem md_M_divide_116 : decode mc_M_divide 116 = .ok (.iload_n 1, 1) := by decide +kernel
theorem md_M_divide_117 : decode mc_M_divide 117 = .ok (.invokestatic 33, 3) := by decide +kernel
theorem md_M_divide_120 : decode mc_M_divide 120 = .ok (.invokestatic 90, 3) := by decide +kernel
theorem md_M_divide_123 : decode mc_M_divide 123 = .ok (.lreturn, 1) := by decide +kernel
theorem md_M_divide_124 : decode mc_M_divide 124 = .ok (.aload_n 0, 1) := by decide +kernel
theorem md_M_divide_125 : decode mc_M_divide 125 = .ok (.getfield 81, 3) := by decide +kernel
theorem md_M_divide_128 : decode mc_M_divide 128 = .ok (.ifCond .ne 12, 3) := by decide +kernel
theorem md_M_divide_131 : decode mc_M_divide 131 = .ok (.aload_n 0, 1) := by decide +kernel
theorem md_M_divide_132 : decode mc_M_divide 132 = .ok (.getfield 63, 3) := by decide +kernel
theorem md_M_divide_135 : decode mc_M_divide 135 = .ok (.lconst 0, 1) := by decide +kernel
theorem md_M_divide_136 : decode mc_M_divide 136 = .ok (.lcmp, 1) := by decide +kernel
theorem md_M_divide_137 : decode mc_M_divide 137 = .ok (.ifCond .ne 11, 3) := by decide +kernel
theorem md_M_divide_140 : decode mc_M_divide 140 = .ok (.iload_n 1, 1) := by decide +kernel
theorem md_M_divide_141 : decode mc_M_divide 141 = .ok (.iload 6, 2) := by decide +kernel
theorem md_M_divide_143 : decode mc_M_divide 143 = .ok (.lconst 0, 1) := by decide +kernel
theorem md_M_divide_144 : decode mc_M_divide 144 = .ok (.invokestatic 90, 3) := by decide +kernel
theorem md_M_divide_147 : decode mc_M_divide 147 = .ok (.lreturn, 1) := by decide +kernel
theorem md_M_divide_148 : decode mc_M_divide 148 = .ok (.bipush 53, 2) := by decide +kernel
theorem md_M_divide_150 : decode mc_M_divide 150 = .ok (.aload_n 0, 1) := by decide +kernel
theorem md_M_divide_151 : decode mc_M_divide 151 = .ok (.getfield 63, 3) := by decide +kernel
theorem md_M_divide_154 : decode mc_M_divide 154 = .ok (.invokestatic 94, 3) := by decide +kernel
theorem md_M_divide_157 : decode mc_M_divide 157 = .ok (.isub, 1) := by decide +kernel
theorem md_M_divide_158 : decode mc_M_divide 158 = .ok (.istore 8, 2) := by decide +kernel
theorem md_M_divide_160 : decode mc_M_divide 160 = .ok (.bipush 53, 2) := by decide +kernel
theorem md_M_divide_162 : decode mc_M_divide 162 = .ok (.aload_n 0, 1) := by decide +kernel
theorem md_M_divide_163 : decode mc_M_divide 163 = .ok (.getfield 84, 3) := by decide +kernel
theorem md_M_divide_166 : decode mc_M_divide 166 = .ok (.invokestatic 94, 3) := by decide +kernel
theorem md_M_divide_169 : decode mc_M_divide 169 = .ok (.isub, 1) := by decide +kernel
theorem md_M_divide_170 : decode mc_M_divide 170 = .ok (.istore 9, 2) := by decide +kernel
theorem md_M_divide_172 : decode mc_M_divide 172 = .ok (.aload_n 0, 1) := by decide +kernel
theorem md_M_divide_173 : decode mc_M_divide 173 = .ok (.getfield 63, 3) := by decide +kernel
theorem md_M_divide_176 : decode mc_M_divide 176 = .ok (.iload 8, 2) := by decide +kernel
theorem md_M_divide_178 : decode mc_M_divide 178 = .ok (.lshl, 1) := by decide +kernel
theorem md_M_divide_179 : decode mc_M_divide 179 = .ok (.lstore 10, 2) := by decide +kernel
theorem md_M_divide_181 : decode mc_M_divide 181 = .ok (.aload_n 0, 1) := by decide +kernel
theorem md_M_divide_182 : decode mc_M_divide 182 = .ok (.getfield 84, 3) := by decide +kernel
theorem md_M_divide_185 : decode mc_M_divide 185 = .ok (.iload 9, 2) := by decide +kernel
theorem md_M_divide_187 : decode mc_M_divide 187 = .ok (.lshl, 1) := by decide +kernel
theorem md_M_divide_188 : decode mc_M_divide 188 = .ok (.lstore 12, 2) := by decide +kernel
theorem md_M_divide_190 : decode mc_M_divide 190 = .ok (.lconst 0, 1) := by decide +kernel
theorem md_M_divide_191 : decode mc_M_divide 191 = .ok (.lstore 14, 2) := by decide +kernel
theorem md_M_divide_193 : decode mc_M_divide 193 = .ok (.iconst 0, 1) := by decide +kernel
theorem md_M_divide_194 : decode mc_M_divide 194 = .ok (.istore 16, 2) := by decide +kernel
theorem md_M_divide_196 : decode mc_M_divide 196 = .ok (.iload 16, 2) := by decide +kernel
theorem md_M_divide_198 : decode mc_M_divide 198 = .ok (.bipush 58, 2) := by decide +kernel
theorem md_M_divide_200 : decode mc_M_divide 200 = .ok (.if_icmp .ge 42, 3) := by decide +kernel
theorem md_M_divide_203 : decode mc_M_divide 203 = .ok (.lload 14, 2) := by decide +kernel
theorem md_M_divide_205 : decode mc_M_divide 205 = .ok (.iconst 1, 1) := by decide +kernel
theorem md_M_divide_206 : decode mc_M_divide 206 = .ok (.lshl, 1) := by decide +kernel
theorem md_M_divide_207 : decode mc_M_divide 207 = .ok (.lstore 14, 2) := by decide +kernel
theorem md_M_divide_209 : decode mc_M_divide 209 = .ok (.lload 10, 2) := by decide +kernel
theorem md_M_divide_211 : decode mc_M_divide 211 = .ok (.lload 12, 2) := by decide +kernel
theorem md_M_divide_213 : decode mc_M_divide 213 = .ok (.lcmp, 1) := by decide +kernel
theorem md_M_divide_214 : decode mc_M_divide 214 = .ok (.ifCond .lt 16, 3) := by decide +kernel
theorem md_M_divide_217 : decode mc_M_divide 217 = .ok (.lload 10, 2) := by decide +kernel
theorem md_M_divide_219 : decode mc_M_divide 219 = .ok (.lload 12, 2) := by decide +kernel
theorem md_M_divide_221 : decode mc_M_divide 221 = .ok (.lsub, 1) := by decide +kernel
theorem md_M_divide_222 : decode mc_M_divide 222 = .ok (.lstore 10, 2) := by decide +kernel
theorem md_M_divide_224 : decode mc_M_divide 224 = .ok (.lload 14, 2) := by decide +kernel
theorem md_M_divide_226 : decode mc_M_divide 226 = .ok (.lconst 1, 1) := by decide +kernel
theorem md_M_divide_227 : decode mc_M_divide 227 = .ok (.ladd, 1) := by decide +kernel
theorem md_M_divide_228 : decode mc_M_divide 228 = .ok (.lstore 14, 2) := by decide +kernel
theorem md_M_divide_230 : decode mc_M_divide 230 = .ok (.lload 10, 2) := by decide +kernel
theorem md_M_divide_232 : decode mc_M_divide 232 = .ok (.iconst 1, 1) := by decide +kernel
theorem md_M_divide_233 : decode mc_M_divide 233 = .ok (.lshl, 1) := by decide +kernel
theorem md_M_divide_234 : decode mc_M_divide 234 = .ok (.lstore 10, 2) := by decide +kernel
theorem md_M_divide_236 : decode mc_M_divide 236 = .ok (.iinc 16 1, 3) := by decide +kernel
theorem md_M_divide_239 : decode mc_M_divide 239 = .ok (.goto (-43), 3) := by decide +kernel
theorem md_M_divide_242 : decode mc_M_divide 242 = .ok (.lload 10, 2) := by decide +kernel
theorem md_M_divide_244 : decode mc_M_divide 244 = .ok (.lconst 0, 1) := by decide +kernel
theorem md_M_divide_245 : decode mc_M_divide 245 = .ok (.lcmp, 1) := by decide +kernel
theorem md_M_divide_246 : decode mc_M_divide 246 = .ok (.ifCond .eq 9, 3) := by decide +kernel
theorem md_M_divide_249 : decode mc_M_divide 249 = .ok (.lload 14, 2) := by decide +kernel
theorem md_M_divide_251 : decode mc_M_divide 251 = .ok (.lconst 1, 1) := by decide +kernel
theorem md_M_divide_252 : decode mc_M_divide 252 = .ok (.lor, 1) := by decide +kernel
theorem md_M_divide_253 : decode mc_M_divide 253 = .ok (.lstore 14, 2) := by decide +kernel
theorem md_M_divide_255 : decode mc_M_divide 255 = .ok (.iload_n 1, 1) := by decide +kernel
theorem md_M_divide_256 : decode mc_M_divide 256 = .ok (.iload 6, 2) := by decide +kernel
theorem md_M_divide_258 : decode mc_M_divide 258 = .ok (.lload 14, 2) := by decide +kernel
theorem md_M_divide_260 : decode mc_M_divide 260 = .ok (.aload_n 0, 1) := by decide +kernel
theorem md_M_divide_261 : decode mc_M_divide 261 = .ok (.getfield 71, 3) := by decide +kernel
theorem md_M_divide_264 : decode mc_M_divide 264 = .ok (.iload 8, 2) := by decide +kernel
theorem md_M_divide_266 : decode mc_M_divide 266 = .ok (.isub, 1) := by decide +kernel
theorem md_M_divide_267 : decode mc_M_divide 267 = .ok (.aload_n 0, 1) := by decide +kernel
theorem md_M_divide_268 : decode mc_M_divide 268 = .ok (.getfield 87, 3) := by decide +kernel
theorem md_M_divide_271 : decode mc_M_divide 271 = .ok (.isub, 1) := by decide +kernel
theorem md_M_divide_272 : decode mc_M_divide 272 = .ok (.iload 9, 2) := by decide +kernel
theorem md_M_divide_274 : decode mc_M_divide 274 = .ok (.iadd, 1) := by decide +kernel
theorem md_M_divide_275 : decode mc_M_divide 275 = .ok (.bipush 57, 2) := by decide +kernel
theorem md_M_divide_277 : decode mc_M_divide 277 = .ok (.isub, 1) := by decide +kernel
theorem md_M_divide_278 : decode mc_M_divide 278 = .ok (.invokestatic 112, 3) := by decide +kernel
theorem md_M_divide_281 : decode mc_M_divide 281 = .ok (.lreturn, 1) := by decide +kernel
abbrev mc_M_remainder : ByteArray := prog_4_method_24_code
def my_M_remainder : MethodName := ⟨"NumberProbeModel", "remainder", "(IJJ)J"⟩
abbrev mw_M_remainder : List Cond := Cond.code my_M_remainder mc_M_remainder 10 (some .long) :: gw_tbl
theorem md_M_remainder_0 : decode mc_M_remainder 0 = .ok (.aload_n 0, 1) := by decide +kernel
theorem md_M_remainder_1 : decode mc_M_remainder 1 = .ok (.iload_n 1, 1) := by decide +kernel
theorem md_M_remainder_2 : decode mc_M_remainder 2 = .ok (.lload_n 2, 1) := by decide +kernel
theorem md_M_remainder_3 : decode mc_M_remainder 3 = .ok (.invokevirtual 98, 3) := by decide +kernel
theorem md_M_remainder_6 : decode mc_M_remainder 6 = .ok (.aload_n 0, 1) := by decide +kernel
theorem md_M_remainder_7 : decode mc_M_remainder 7 = .ok (.iload_n 1, 1) := by decide +kernel
theorem md_M_remainder_8 : decode mc_M_remainder 8 = .ok (.lload 4, 2) := by decide +kernel
theorem md_M_remainder_10 : decode mc_M_remainder 10 = .ok (.invokevirtual 102, 3) := by decide +kernel
theorem md_M_remainder_13 : decode mc_M_remainder 13 = .ok (.aload_n 0, 1) := by decide +kernel
theorem md_M_remainder_14 : decode mc_M_remainder 14 = .ok (.getfield 54, 3) := by decide +kernel
theorem md_M_remainder_17 : decode mc_M_remainder 17 = .ok (.ifCond .ne 26, 3) := by decide +kernel
theorem md_M_remainder_20 : decode mc_M_remainder 20 = .ok (.aload_n 0, 1) := by decide +kernel
theorem md_M_remainder_21 : decode mc_M_remainder 21 = .ok (.getfield 78, 3) := by decide +kernel
theorem md_M_remainder_24 : decode mc_M_remainder 24 = .ok (.ifCond .ne 19, 3) := by decide +kernel
theorem md_M_remainder_27 : decode mc_M_remainder 27 = .ok (.aload_n 0, 1) := by decide +kernel
theorem md_M_remainder_28 : decode mc_M_remainder 28 = .ok (.getfield 57, 3) := by decide +kernel
theorem md_M_remainder_31 : decode mc_M_remainder 31 = .ok (.ifCond .ne 12, 3) := by decide +kernel
theorem md_M_remainder_34 : decode mc_M_remainder 34 = .ok (.aload_n 0, 1) := by decide +kernel
theorem md_M_remainder_35 : decode mc_M_remainder 35 = .ok (.getfield 84, 3) := by decide +kernel
theorem md_M_remainder_38 : decode mc_M_remainder 38 = .ok (.lconst 0, 1) := by decide +kernel
theorem md_M_remainder_39 : decode mc_M_remainder 39 = .ok (.lcmp, 1) := by decide +kernel
theorem md_M_remainder_40 : decode mc_M_remainder 40 = .ok (.ifCond .ne 8, 3) := by decide +kernel
theorem md_M_remainder_43 : decode mc_M_remainder 43 = .ok (.iload_n 1, 1) := by decide +kernel
theorem md_M_remainder_44 : decode mc_M_remainder 44 = .ok (.invokestatic 105, 3) := by decide +kernel
theorem md_M_remainder_47 : decode mc_M_remainder 47 = .ok (.lreturn, 1) := by decide +kernel
theorem md_M_remainder_48 : decode mc_M_remainder 48 = .ok (.aload_n 0, 1) := by decide +kernel
theorem md_M_remainder_49 : decode mc_M_remainder 49 = .ok (.getfield 81, 3) := by decide +kernel
theorem md_M_remainder_52 : decode mc_M_remainder 52 = .ok (.ifCond .ne 12, 3) := by decide +kernel
theorem md_M_remainder_55 : decode mc_M_remainder 55 = .ok (.aload_n 0, 1) := by decide +kernel
theorem md_M_remainder_56 : decode mc_M_remainder 56 = .ok (.getfield 63, 3) := by decide +kernel
theorem md_M_remainder_59 : decode mc_M_remainder 59 = .ok (.lconst 0, 1) := by decide +kernel
theorem md_M_remainder_60 : decode mc_M_remainder 60 = .ok (.lcmp, 1) := by decide +kernel
theorem md_M_remainder_61 : decode mc_M_remainder 61 = .ok (.ifCond .ne 5, 3) := by decide +kernel
theorem md_M_remainder_64 : decode mc_M_remainder 64 = .ok (.lload_n 2, 1) := by decide +kernel
theorem md_M_remainder_65 : decode mc_M_remainder 65 = .ok (.lreturn, 1) := by decide +kernel
theorem md_M_remainder_66 : decode mc_M_remainder 66 = .ok (.aload_n 0, 1) := by decide +kernel
theorem md_M_remainder_67 : decode mc_M_remainder 67 = .ok (.getfield 87, 3) := by decide +kernel
theorem md_M_remainder_70 : decode mc_M_remainder 70 = .ok (.aload_n 0, 1) := by decide +kernel
theorem md_M_remainder_71 : decode mc_M_remainder 71 = .ok (.getfield 71, 3) := by decide +kernel
theorem md_M_remainder_74 : decode mc_M_remainder 74 = .ok (.isub, 1) := by decide +kernel
theorem md_M_remainder_75 : decode mc_M_remainder 75 = .ok (.istore 6, 2) := by decide +kernel
theorem md_M_remainder_77 : decode mc_M_remainder 77 = .ok (.iload 6, 2) := by decide +kernel
theorem md_M_remainder_79 : decode mc_M_remainder 79 = .ok (.bipush 10, 2) := by decide +kernel
theorem md_M_remainder_81 : decode mc_M_remainder 81 = .ok (.if_icmp .le 5, 3) := by decide +kernel
theorem md_M_remainder_84 : decode mc_M_remainder 84 = .ok (.lload_n 2, 1) := by decide +kernel
theorem md_M_remainder_85 : decode mc_M_remainder 85 = .ok (.lreturn, 1) := by decide +kernel
theorem md_M_remainder_86 : decode mc_M_remainder 86 = .ok (.iload 6, 2) := by decide +kernel
theorem md_M_remainder_88 : decode mc_M_remainder 88 = .ok (.ifCond .lt 28, 3) := by decide +kernel
theorem md_M_remainder_91 : decode mc_M_remainder 91 = .ok (.iload_n 1, 1) := by decide +kernel
theorem md_M_remainder_92 : decode mc_M_remainder 92 = .ok (.aload_n 0, 1) := by decide +kernel
theorem md_M_remainder_93 : decode mc_M_remainder 93 = .ok (.getfield 47, 3) := by decide +kernel
theorem md_M_remainder_96 : decode mc_M_remainder 96 = .ok (.aload_n 0, 1) := by decide +kernel
theorem md_M_remainder_97 : decode mc_M_remainder 97 = .ok (.getfield 63, 3) := by decide +kernel
theorem md_M_remainder_100 : decode mc_M_remainder 100 = .ok (.aload_n 0, 1) := by decide +kernel
theorem md_M_remainder_101 : decode mc_M_remainder 101 = .ok (.getfield 84, 3) := by decide +kernel
theorem md_M_remainder_104 : decode mc_M_remainder 104 = .ok (.iload 6, 2) := by decide +kernel
theorem md_M_remainder_106 : decode mc_M_remainder 106 = .ok (.lshl, 1) := by decide +kernel
theorem md_M_remainder_107 : decode mc_M_remainder 107 = .ok (.lrem, 1) := by decide +kernel
theorem md_M_remainder_108 : decode mc_M_remainder 108 = .ok (.aload_n 0, 1) := by decide +kernel
theorem md_M_remainder_109 : decode mc_M_remainder 109 = .ok (.getfield 71, 3) := by decide +kernel
theorem md_M_remainder_112 : decode mc_M_remainder 112 = .ok (.invokestatic 112, 3) := by decide +kernel
theorem md_M_remainder_115 : decode mc_M_remainder 115 = .ok (.lreturn, 1) := by decide +kernel
theorem md_M_remainder_116 : decode mc_M_remainder 116 = .ok (.aload_n 0, 1) := by decide +kernel
theorem md_M_remainder_117 : decode mc_M_remainder 117 = .ok (.getfield 63, 3) := by decide +kernel
theorem md_M_remainder_120 : decode mc_M_remainder 120 = .ok (.aload_n 0, 1) := by decide +kernel
theorem md_M_remainder_121 : decode mc_M_remainder 121 = .ok (.getfield 84, 3) := by decide +kernel
theorem md_M_remainder_124 : decode mc_M_remainder 124 = .ok (.lrem, 1) := by decide +kernel
theorem md_M_remainder_125 : decode mc_M_remainder 125 = .ok (.lstore 7, 2) := by decide +kernel
theorem md_M_remainder_127 : decode mc_M_remainder 127 = .ok (.iconst 0, 1) := by decide +kernel
theorem md_M_remainder_128 : decode mc_M_remainder 128 = .ok (.istore 9, 2) := by decide +kernel
theorem md_M_remainder_130 : decode mc_M_remainder 130 = .ok (.iload 9, 2) := by decide +kernel
theorem md_M_remainder_132 : decode mc_M_remainder 132 = .ok (.iload 6, 2) := by decide +kernel
theorem md_M_remainder_134 : decode mc_M_remainder 134 = .ok (.ineg, 1) := by decide +kernel
theorem md_M_remainder_135 : decode mc_M_remainder 135 = .ok (.if_icmp .ge 20, 3) := by decide +kernel
theorem md_M_remainder_138 : decode mc_M_remainder 138 = .ok (.lload 7, 2) := by decide +kernel
theorem md_M_remainder_140 : decode mc_M_remainder 140 = .ok (.iconst 1, 1) := by decide +kernel
theorem md_M_remainder_141 : decode mc_M_remainder 141 = .ok (.lshl, 1) := by decide +kernel
theorem md_M_remainder_142 : decode mc_M_remainder 142 = .ok (.aload_n 0, 1) := by decide +kernel
theorem md_M_remainder_143 : decode mc_M_remainder 143 = .ok (.getfield 84, 3) := by decide +kernel
theorem md_M_remainder_146 : decode mc_M_remainder 146 = .ok (.lrem, 1) := by decide +kernel
theorem md_M_remainder_147 : decode mc_M_remainder 147 = .ok (.lstore 7, 2) := by decide +kernel
theorem md_M_remainder_149 : decode mc_M_remainder 149 = .ok (.iinc 9 1, 3) := by decide +kernel
theorem md_M_remainder_152 : decode mc_M_remainder 152 = .ok (.goto (-22), 3) := by decide +kernel
theorem md_M_remainder_155 : decode mc_M_remainder 155 = .ok (.iload_n 1, 1) := by decide +kernel
theorem md_M_remainder_156 : decode mc_M_remainder 156 = .ok (.aload_n 0, 1) := by decide +kernel
theorem md_M_remainder_157 : decode mc_M_remainder 157 = .ok (.getfield 47, 3) := by decide +kernel
theorem md_M_remainder_160 : decode mc_M_remainder 160 = .ok (.lload 7, 2) := by decide +kernel
theorem md_M_remainder_162 : decode mc_M_remainder 162 = .ok (.aload_n 0, 1) := by decide +kernel
theorem md_M_remainder_163 : decode mc_M_remainder 163 = .ok (.getfield 87, 3) := by decide +kernel
theorem md_M_remainder_166 : decode mc_M_remainder 166 = .ok (.invokestatic 112, 3) := by decide +kernel
theorem md_M_remainder_169 : decode mc_M_remainder 169 = .ok (.lreturn, 1) := by decide +kernel
abbrev mc_M_place : ByteArray := prog_4_method_25_code
def my_M_place : MethodName := ⟨"NumberProbeModel", "place", "(IJ)J"⟩
abbrev mw_M_place : List Cond := Cond.code my_M_place mc_M_place 3 (some .long) :: gw_tbl
theorem md_M_place_0 : decode mc_M_place 0 = .ok (.iload_n 0, 1) := by decide +kernel
theorem md_M_place_1 : decode mc_M_place 1 = .ok (.lload_n 1, 1) := by decide +kernel
theorem md_M_place_2 : decode mc_M_place 2 = .ok (.invokestatic 51, 3) := by decide +kernel
theorem md_M_place_5 : decode mc_M_place 5 = .ok (.ifCond .eq 8, 3) := by decide +kernel
theorem md_M_place_8 : decode mc_M_place 8 = .ok (.iconst 1, 1) := by decide +kernel
theorem md_M_place_9 : decode mc_M_place 9 = .ok (.invokestatic 105, 3) := by decide +kernel
theorem md_M_place_12 : decode mc_M_place 12 = .ok (.lreturn, 1) := by decide +kernel
theorem md_M_place_13 : decode mc_M_place 13 = .ok (.iload_n 0, 1) := by decide +kernel
theorem md_M_place_14 : decode mc_M_place 14 = .ok (.lload_n 1, 1) := by decide +kernel
theorem md_M_place_15 : decode mc_M_place 15 = .ok (.invokestatic 43, 3) := by decide +kernel
theorem md_M_place_18 : decode mc_M_place 18 = .ok (.ifCond .eq 15, 3) := by decide +kernel
theorem md_M_place_21 : decode mc_M_place 21 = .ok (.ldc2_w 125, 3) := by decide +kernel
theorem md_M_place_24 : decode mc_M_place 24 = .ok (.iload_n 0, 1) := by decide +kernel
theorem md_M_place_25 : decode mc_M_place 25 = .ok (.lload_n 1, 1) := by decide +kernel
theorem md_M_place_26 : decode mc_M_place 26 = .ok (.invokestatic 29, 3) := by decide +kernel
theorem md_M_place_29 : decode mc_M_place 29 = .ok (.lsub, 1) := by decide +kernel
theorem md_M_place_30 : decode mc_M_place 30 = .ok (.goto 8, 3) := by decide +kernel
theorem md_M_place_33 : decode mc_M_place 33 = .ok (.iload_n 0, 1) := by decide +kernel
theorem md_M_place_34 : decode mc_M_place 34 = .ok (.lload_n 1, 1) := by decide +kernel
theorem md_M_place_35 : decode mc_M_place 35 = .ok (.invokestatic 29, 3) := by decide +kernel
theorem md_M_place_38 : decode mc_M_place 38 = .ok (.lreturn, 1) := by decide +kernel
abbrev mc_M_operateReal : ByteArray := prog_4_method_26_code
def my_M_operateReal : MethodName := ⟨"NumberProbeModel", "operateReal", "(IIJJ)J"⟩
abbrev mw_M_operateReal : List Cond := Cond.code my_M_operateReal mc_M_operateReal 8 (some .long) :: gw_tbl
theorem md_M_operateReal_0 : decode mc_M_operateReal 0 = .ok (.iload_n 1, 1) := by decide +kernel
theorem md_M_operateReal_1 : decode mc_M_operateReal 1 = .ok (.lload_n 3, 1) := by decide +kernel
theorem md_M_operateReal_2 : decode mc_M_operateReal 2 = .ok (.invokestatic 51, 3) := by decide +kernel
theorem md_M_operateReal_5 : decode mc_M_operateReal 5 = .ok (.ifCond .ne 12, 3) := by decide +kernel
theorem md_M_operateReal_8 : decode mc_M_operateReal 8 = .ok (.iload_n 1, 1) := by decide +kernel
theorem md_M_operateReal_9 : decode mc_M_operateReal 9 = .ok (.lload 5, 2) := by decide +kernel
theorem md_M_operateReal_11 : decode mc_M_operateReal 11 = .ok (.invokestatic 51, 3) := by decide +kernel
theorem md_M_operateReal_14 : decode mc_M_operateReal 14 = .ok (.ifCond .eq 7, 3) := by decide +kernel
theorem md_M_operateReal_17 : decode mc_M_operateReal 17 = .ok (.iconst 1, 1) := by decide +kernel
theorem md_M_operateReal_18 : decode mc_M_operateReal 18 = .ok (.goto 4, 3) := by decide +kernel
theorem md_M_operateReal_21 : decode mc_M_operateReal 21 = .ok (.iconst 0, 1) := by decide +kernel
theorem md_M_operateReal_22 : decode mc_M_operateReal 22 = .ok (.istore 7, 2) := by decide +kernel
theorem md_M_operateReal_24 : decode mc_M_operateReal 24 = .ok (.iload_n 2, 1) := by decide +kernel
theorem md_M_operateReal_25 : decode mc_M_operateReal 25 = .ok (.tableswitch 172 0 7 #[47, 56, 70, 79, 88, 97, 131, 165], 47) := by decide +kernel
theorem md_M_operateReal_72 : decode mc_M_operateReal 72 = .ok (.aload_n 0, 1) := by decide +kernel
theorem md_M_operateReal_73 : decode mc_M_operateReal 73 = .ok (.iload_n 1, 1) := by decide +kernel
theorem md_M_operateReal_74 : decode mc_M_operateReal 74 = .ok (.lload_n 3, 1) := by decide +kernel
theorem md_M_operateReal_75 : decode mc_M_operateReal 75 = .ok (.lload 5, 2) := by decide +kernel
theorem md_M_operateReal_77 : decode mc_M_operateReal 77 = .ok (.invokevirtual 127, 3) := by decide +kernel
theorem md_M_operateReal_80 : decode mc_M_operateReal 80 = .ok (.lreturn, 1) := by decide +kernel
theorem md_M_operateReal_81 : decode mc_M_operateReal 81 = .ok (.aload_n 0, 1) := by decide +kernel
theorem md_M_operateReal_82 : decode mc_M_operateReal 82 = .ok (.iload_n 1, 1) := by decide +kernel
theorem md_M_operateReal_83 : decode mc_M_operateReal 83 = .ok (.lload_n 3, 1) := by decide +kernel
theorem md_M_operateReal_84 : decode mc_M_operateReal 84 = .ok (.aload_n 0, 1) := by decide +kernel
theorem md_M_operateReal_85 : decode mc_M_operateReal 85 = .ok (.iload_n 1, 1) := by decide +kernel
theorem md_M_operateReal_86 : decode mc_M_operateReal 86 = .ok (.lload 5, 2) := by decide +kernel
theorem md_M_operateReal_88 : decode mc_M_operateReal 88 = .ok (.invokevirtual 131, 3) := by decide +kernel
theorem md_M_operateReal_91 : decode mc_M_operateReal 91 = .ok (.invokevirtual 127, 3) := by decide +kernel
theorem md_M_operateReal_94 : decode mc_M_operateReal 94 = .ok (.lreturn, 1) := by decide +kernel
theorem md_M_operateReal_95 : decode mc_M_operateReal 95 = .ok (.aload_n 0, 1) := by decide +kernel
theorem md_M_operateReal_96 : decode mc_M_operateReal 96 = .ok (.iload_n 1, 1) := by decide +kernel
theorem md_M_operateReal_97 : decode mc_M_operateReal 97 = .ok (.lload_n 3, 1) := by decide +kernel
theorem md_M_operateReal_98 : decode mc_M_operateReal 98 = .ok (.lload 5, 2) := by decide +kernel
theorem md_M_operateReal_100 : decode mc_M_operateReal 100 = .ok (.invokevirtual 134, 3) := by decide +kernel
theorem md_M_operateReal_103 : decode mc_M_operateReal 103 = .ok (.lreturn, 1) := by decide +kernel
theorem md_M_operateReal_104 : decode mc_M_operateReal 104 = .ok (.aload_n 0, 1) := by decide +kernel
theorem md_M_operateReal_105 : decode mc_M_operateReal 105 = .ok (.iload_n 1, 1) := by decide +kernel
theorem md_M_operateReal_106 : decode mc_M_operateReal 106 = .ok (.lload_n 3, 1) := by decide +kernel
theorem md_M_operateReal_107 : decode mc_M_operateReal 107 = .ok (.lload 5, 2) := by decide +kernel
theorem md_M_operateReal_109 : decode mc_M_operateReal 109 = .ok (.invokevirtual 137, 3) := by decide +kernel
theorem md_M_operateReal_112 : decode mc_M_operateReal 112 = .ok (.lreturn, 1) := by decide +kernel
theorem md_M_operateReal_113 : decode mc_M_operateReal 113 = .ok (.aload_n 0, 1) := by decide +kernel
theorem md_M_operateReal_114 : decode mc_M_operateReal 114 = .ok (.iload_n 1, 1) := by decide +kernel
theorem md_M_operateReal_115 : decode mc_M_operateReal 115 = .ok (.lload_n 3, 1) := by decide +kernel
theorem md_M_operateReal_116 : decode mc_M_operateReal 116 = .ok (.lload 5, 2) := by decide +kernel
theorem md_M_operateReal_118 : decode mc_M_operateReal 118 = .ok (.invokevirtual 140, 3) := by decide +kernel
theorem md_M_operateReal_121 : decode mc_M_operateReal 121 = .ok (.lreturn, 1) := by decide +kernel
theorem md_M_operateReal_122 : decode mc_M_operateReal 122 = .ok (.iload 7, 2) := by decide +kernel
theorem md_M_operateReal_124 : decode mc_M_operateReal 124 = .ok (.ifCond .eq 10, 3) := by decide +kernel
theorem md_M_operateReal_127 : decode mc_M_operateReal 127 = .ok (.iload_n 1, 1) := by decide +kernel
theorem md_M_operateReal_128 : decode mc_M_operateReal 128 = .ok (.invokestatic 105, 3) := by decide +kernel
theorem md_M_operateReal_131 : decode mc_M_operateReal 131 = .ok (.goto 24, 3) := by decide +kernel
theorem md_M_operateReal_134 : decode mc_M_operateReal 134 = .ok (.iload_n 1, 1) := by decide +kernel
theorem md_M_operateReal_135 : decode mc_M_operateReal 135 = .ok (.lload_n 3, 1) := by decide +kernel
theorem md_M_operateReal_136 : decode mc_M_operateReal 136 = .ok (.invokestatic 143, 3) := by decide +kernel
theorem md_M_operateReal_139 : decode mc_M_operateReal 139 = .ok (.iload_n 1, 1) := by decide +kernel
theorem md_M_operateReal_140 : decode mc_M_operateReal 140 = .ok (.lload 5, 2) := by decide +kernel
theorem md_M_operateReal_142 : decode mc_M_operateReal 142 = .ok (.invokestatic 143, 3) := by decide +kernel
theorem md_M_operateReal_145 : decode mc_M_operateReal 145 = .ok (.lcmp, 1) := by decide +kernel
theorem md_M_operateReal_146 : decode mc_M_operateReal 146 = .ok (.ifCond .gt 7, 3) := by decide +kernel
theorem md_M_operateReal_149 : decode mc_M_operateReal 149 = .ok (.lload_n 3, 1) := by decide +kernel
theorem md_M_operateReal_150 : decode mc_M_operateReal 150 = .ok (.goto 5, 3) := by decide +kernel
theorem md_M_operateReal_153 : decode mc_M_operateReal 153 = .ok (.lload 5, 2) := by decide +kernel
theorem md_M_operateReal_155 : decode mc_M_operateReal 155 = .ok (.lreturn, 1) := by decide +kernel
theorem md_M_operateReal_156 : decode mc_M_operateReal 156 = .ok (.iload 7, 2) := by decide +kernel
theorem md_M_operateReal_158 : decode mc_M_operateReal 158 = .ok (.ifCond .eq 10, 3) := by decide +kernel
theorem md_M_operateReal_161 : decode mc_M_operateReal 161 = .ok (.iload_n 1, 1) := by decide +kernel
theorem md_M_operateReal_162 : decode mc_M_operateReal 162 = .ok (.invokestatic 105, 3) := by decide +kernel
theorem md_M_operateReal_165 : decode mc_M_operateReal 165 = .ok (.goto 24, 3) := by decide +kernel
theorem md_M_operateReal_168 : decode mc_M_operateReal 168 = .ok (.iload_n 1, 1) := by decide +kernel
theorem md_M_operateReal_169 : decode mc_M_operateReal 169 = .ok (.lload_n 3, 1) := by decide +kernel
theorem md_M_operateReal_170 : decode mc_M_operateReal 170 = .ok (.invokestatic 143, 3) := by decide +kernel
theorem md_M_operateReal_173 : decode mc_M_operateReal 173 = .ok (.iload_n 1, 1) := by decide +kernel
theorem md_M_operateReal_174 : decode mc_M_operateReal 174 = .ok (.lload 5, 2) := by decide +kernel
theorem md_M_operateReal_176 : decode mc_M_operateReal 176 = .ok (.invokestatic 143, 3) := by decide +kernel
theorem md_M_operateReal_179 : decode mc_M_operateReal 179 = .ok (.lcmp, 1) := by decide +kernel
theorem md_M_operateReal_180 : decode mc_M_operateReal 180 = .ok (.ifCond .lt 7, 3) := by decide +kernel
theorem md_M_operateReal_183 : decode mc_M_operateReal 183 = .ok (.lload_n 3, 1) := by decide +kernel
theorem md_M_operateReal_184 : decode mc_M_operateReal 184 = .ok (.goto 5, 3) := by decide +kernel
theorem md_M_operateReal_187 : decode mc_M_operateReal 187 = .ok (.lload 5, 2) := by decide +kernel
theorem md_M_operateReal_189 : decode mc_M_operateReal 189 = .ok (.lreturn, 1) := by decide +kernel
theorem md_M_operateReal_190 : decode mc_M_operateReal 190 = .ok (.aload_n 0, 1) := by decide +kernel
theorem md_M_operateReal_191 : decode mc_M_operateReal 191 = .ok (.iload_n 1, 1) := by decide +kernel
theorem md_M_operateReal_192 : decode mc_M_operateReal 192 = .ok (.lload_n 3, 1) := by decide +kernel
theorem md_M_operateReal_193 : decode mc_M_operateReal 193 = .ok (.invokevirtual 131, 3) := by decide +kernel
theorem md_M_operateReal_196 : decode mc_M_operateReal 196 = .ok (.lreturn, 1) := by decide +kernel
theorem md_M_operateReal_197 : decode mc_M_operateReal 197 = .ok (.iload_n 1, 1) := by decide +kernel
theorem md_M_operateReal_198 : decode mc_M_operateReal 198 = .ok (.lload_n 3, 1) := by decide +kernel
theorem md_M_operateReal_199 : decode mc_M_operateReal 199 = .ok (.invokestatic 51, 3) := by decide +kernel
theorem md_M_operateReal_202 : decode mc_M_operateReal 202 = .ok (.ifCond .eq 7, 3) := by decide +kernel
theorem md_M_operateReal_205 : decode mc_M_operateReal 205 = .ok (.lload_n 3, 1) := by decide +kernel
theorem md_M_operateReal_206 : decode mc_M_operateReal 206 = .ok (.goto 8, 3) := by decide +kernel
theorem md_M_operateReal_209 : decode mc_M_operateReal 209 = .ok (.iload_n 1, 1) := by decide +kernel
theorem md_M_operateReal_210 : decode mc_M_operateReal 210 = .ok (.lload_n 3, 1) := by decide +kernel
theorem md_M_operateReal_211 : decode mc_M_operateReal 211 = .ok (.invokestatic 29, 3) := by decide +kernel
theorem md_M_operateReal_214 : decode mc_M_operateReal 214 = .ok (.lreturn, 1) := by decide +kernel
abbrev mc_M_operateWhole : ByteArray := prog_4_method_27_code
def my_M_operateWhole : MethodName := ⟨"NumberProbeModel", "operateWhole", "(IIJJ)J"⟩
abbrev mw_M_operateWhole : List Cond := Cond.code my_M_operateWhole mc_M_operateWhole 8 (some .long) :: gw_tbl
theorem md_M_operateWhole_0 : decode mc_M_operateWhole 0 = .ok (.iload_n 0, 1) := by decide +kernel
theorem md_M_operateWhole_1 : decode mc_M_operateWhole 1 = .ok (.iconst 3, 1) := by decide +kernel
theorem md_M_operateWhole_2 : decode mc_M_operateWhole 2 = .ok (.if_icmp .ne 7, 3) := by decide +kernel
theorem md_M_operateWhole_5 : decode mc_M_operateWhole 5 = .ok (.iconst 1, 1) := by decide +kernel
theorem md_M_operateWhole_6 : decode mc_M_operateWhole 6 = .ok (.goto 4, 3) := by decide +kernel
theorem md_M_operateWhole_9 : decode mc_M_operateWhole 9 = .ok (.iconst 0, 1) := by decide +kernel
theorem md_M_operateWhole_10 : decode mc_M_operateWhole 10 = .ok (.istore 6, 2) := by decide +kernel
theorem md_M_operateWhole_12 : decode mc_M_operateWhole 12 = .ok (.lload 4, 2) := by decide +kernel
theorem md_M_operateWhole_14 : decode mc_M_operateWhole 14 = .ok (.l2i, 1) := by decide +kernel
theorem md_M_operateWhole_15 : decode mc_M_operateWhole 15 = .ok (.iload 6, 2) := by decide +kernel
theorem md_M_operateWhole_17 : decode mc_M_operateWhole 17 = .ok (.ifCond .eq 8, 3) := by decide +kernel
theorem md_M_operateWhole_20 : decode mc_M_operateWhole 20 = .ok (.bipush 63, 2) := by decide +kernel
theorem md_M_operateWhole_22 : decode mc_M_operateWhole 22 = .ok (.goto 5, 3) := by decide +kernel
theorem md_M_operateWhole_25 : decode mc_M_operateWhole 25 = .ok (.bipush 31, 2) := by decide +kernel
theorem md_M_operateWhole_27 : decode mc_M_operateWhole 27 = .ok (.iand, 1) := by decide +kernel
theorem md_M_operateWhole_28 : decode mc_M_operateWhole 28 = .ok (.istore 7, 2) := by decide +kernel
theorem md_M_operateWhole_30 : decode mc_M_operateWhole 30 = .ok (.iload_n 1, 1) := by decide +kernel
theorem md_M_operateWhole_31 : decode mc_M_operateWhole 31 = .ok (.tableswitch 179 0 13 #[69, 74, 79, 84, 89, 94, 108, 122, 125, 138, 143, 148, 169, 174], 69) := by decide +kernel
theorem md_M_operateWhole_100 : decode mc_M_operateWhole 100 = .ok (.lload_n 2, 1) := by decide +kernel
theorem md_M_operateWhole_101 : decode mc_M_operateWhole 101 = .ok (.lload 4, 2) := by decide +kernel
theorem md_M_operateWhole_103 : decode mc_M_operateWhole 103 = .ok (.ladd, 1) := by decide +kernel
theorem md_M_operateWhole_104 : decode mc_M_operateWhole 104 = .ok (.lreturn, 1) := by decide +kernel
theorem md_M_operateWhole_105 : decode mc_M_operateWhole 105 = .ok (.lload_n 2, 1) := by decide +kernel
theorem md_M_operateWhole_106 : decode mc_M_operateWhole 106 = .ok (.lload 4, 2) := by decide +kernel
theorem md_M_operateWhole_108 : decode mc_M_operateWhole 108 = .ok (.lsub, 1) := by decide +kernel
theorem md_M_operateWhole_109 : decode mc_M_operateWhole 109 = .ok (.lreturn, 1) := by decide +kernel
theorem md_M_operateWhole_110 : decode mc_M_operateWhole 110 = .ok (.lload_n 2, 1) := by decide +kernel
theorem md_M_operateWhole_111 : decode mc_M_operateWhole 111 = .ok (.lload 4, 2) := by decide +kernel
theorem md_M_operateWhole_113 : decode mc_M_operateWhole 113 = .ok (.lmul, 1) := by decide +kernel
theorem md_M_operateWhole_114 : decode mc_M_operateWhole 114 = .ok (.lreturn, 1) := by decide +kernel
theorem md_M_operateWhole_115 : decode mc_M_operateWhole 115 = .ok (.lload_n 2, 1) := by decide +kernel
theorem md_M_operateWhole_116 : decode mc_M_operateWhole 116 = .ok (.lload 4, 2) := by decide +kernel
theorem md_M_operateWhole_118 : decode mc_M_operateWhole 118 = .ok (.ldiv, 1) := by decide +kernel
theorem md_M_operateWhole_119 : decode mc_M_operateWhole 119 = .ok (.lreturn, 1) := by decide +kernel
theorem md_M_operateWhole_120 : decode mc_M_operateWhole 120 = .ok (.lload_n 2, 1) := by decide +kernel
theorem md_M_operateWhole_121 : decode mc_M_operateWhole 121 = .ok (.lload 4, 2) := by decide +kernel
theorem md_M_operateWhole_123 : decode mc_M_operateWhole 123 = .ok (.lrem, 1) := by decide +kernel
theorem md_M_operateWhole_124 : decode mc_M_operateWhole 124 = .ok (.lreturn, 1) := by decide +kernel
theorem md_M_operateWhole_125 : decode mc_M_operateWhole 125 = .ok (.lload_n 2, 1) := by decide +kernel
theorem md_M_operateWhole_126 : decode mc_M_operateWhole 126 = .ok (.lload 4, 2) := by decide +kernel
theorem md_M_operateWhole_128 : decode mc_M_operateWhole 128 = .ok (.lcmp, 1) := by decide +kernel
theorem md_M_operateWhole_129 : decode mc_M_operateWhole 129 = .ok (.ifCond .ge 7, 3) := by decide +kernel
theorem md_M_operateWhole_132 : decode mc_M_operateWhole 132 = .ok (.lload_n 2, 1) := by decide +kernel
theorem md_M_operateWhole_133 : decode mc_M_operateWhole 133 = .ok (.goto 5, 3) := by decide +kernel
theorem md_M_operateWhole_136 : decode mc_M_operateWhole 136 = .ok (.lload 4, 2) := by decide +kernel
theorem md_M_operateWhole_138 : decode mc_M_operateWhole 138 = .ok (.lreturn, 1) := by decide +kernel
theorem md_M_operateWhole_139 : decode mc_M_operateWhole 139 = .ok (.lload_n 2, 1) := by decide +kernel
theorem md_M_operateWhole_140 : decode mc_M_operateWhole 140 = .ok (.lload 4, 2) := by decide +kernel
theorem md_M_operateWhole_142 : decode mc_M_operateWhole 142 = .ok (.lcmp, 1) := by decide +kernel
theorem md_M_operateWhole_143 : decode mc_M_operateWhole 143 = .ok (.ifCond .le 7, 3) := by decide +kernel
theorem md_M_operateWhole_146 : decode mc_M_operateWhole 146 = .ok (.lload_n 2, 1) := by decide +kernel
theorem md_M_operateWhole_147 : decode mc_M_operateWhole 147 = .ok (.goto 5, 3) := by decide +kernel
theorem md_M_operateWhole_150 : decode mc_M_operateWhole 150 = .ok (.lload 4, 2) := by decide +kernel
theorem md_M_operateWhole_152 : decode mc_M_operateWhole 152 = .ok (.lreturn, 1) := by decide +kernel
theorem md_M_operateWhole_153 : decode mc_M_operateWhole 153 = .ok (.lload_n 2, 1) := by decide +kernel
theorem md_M_operateWhole_154 : decode mc_M_operateWhole 154 = .ok (.lneg, 1) := by decide +kernel
theorem md_M_operateWhole_155 : decode mc_M_operateWhole 155 = .ok (.lreturn, 1) := by decide +kernel
theorem md_M_operateWhole_156 : decode mc_M_operateWhole 156 = .ok (.lload_n 2, 1) := by decide +kernel
theorem md_M_operateWhole_157 : decode mc_M_operateWhole 157 = .ok (.lconst 0, 1) := by decide +kernel
theorem md_M_operateWhole_158 : decode mc_M_operateWhole 158 = .ok (.lcmp, 1) := by decide +kernel
theorem md_M_operateWhole_159 : decode mc_M_operateWhole 159 = .ok (.ifCond .ge 8, 3) := by decide +kernel
theorem md_M_operateWhole_162 : decode mc_M_operateWhole 162 = .ok (.lload_n 2, 1) := by decide +kernel
theorem md_M_operateWhole_163 : decode mc_M_operateWhole 163 = .ok (.lneg, 1) := by decide +kernel
theorem md_M_operateWhole_164 : decode mc_M_operateWhole 164 = .ok (.goto 4, 3) := by decide +kernel
theorem md_M_operateWhole_167 : decode mc_M_operateWhole 167 = .ok (.lload_n 2, 1) := by decide +kernel
theorem md_M_operateWhole_168 : decode mc_M_operateWhole 168 = .ok (.lreturn, 1) := by decide +kernel
theorem md_M_operateWhole_169 : decode mc_M_operateWhole 169 = .ok (.lload_n 2, 1) := by decide +kernel
theorem md_M_operateWhole_170 : decode mc_M_operateWhole 170 = .ok (.iload 7, 2) := by decide +kernel
theorem md_M_operateWhole_172 : decode mc_M_operateWhole 172 = .ok (.lshl, 1) := by decide +kernel
theorem md_M_operateWhole_173 : decode mc_M_operateWhole 173 = .ok (.lreturn, 1) := by decide +kernel
theorem md_M_operateWhole_174 : decode mc_M_operateWhole 174 = .ok (.lload_n 2, 1) := by decide +kernel
theorem md_M_operateWhole_175 : decode mc_M_operateWhole 175 = .ok (.iload 7, 2) := by decide +kernel
theorem md_M_operateWhole_177 : decode mc_M_operateWhole 177 = .ok (.lshr, 1) := by decide +kernel
theorem md_M_operateWhole_178 : decode mc_M_operateWhole 178 = .ok (.lreturn, 1) := by decide +kernel
theorem md_M_operateWhole_179 : decode mc_M_operateWhole 179 = .ok (.iload 6, 2) := by decide +kernel
theorem md_M_operateWhole_181 : decode mc_M_operateWhole 181 = .ok (.ifCond .eq 10, 3) := by decide +kernel
theorem md_M_operateWhole_184 : decode mc_M_operateWhole 184 = .ok (.lload_n 2, 1) := by decide +kernel
theorem md_M_operateWhole_185 : decode mc_M_operateWhole 185 = .ok (.iload 7, 2) := by decide +kernel
theorem md_M_operateWhole_187 : decode mc_M_operateWhole 187 = .ok (.lushr, 1) := by decide +kernel
theorem md_M_operateWhole_188 : decode mc_M_operateWhole 188 = .ok (.goto 11, 3) := by decide +kernel
theorem md_M_operateWhole_191 : decode mc_M_operateWhole 191 = .ok (.lload_n 2, 1) := by decide +kernel
theorem md_M_operateWhole_192 : decode mc_M_operateWhole 192 = .ok (.ldc2_w 116, 3) := by decide +kernel
theorem md_M_operateWhole_195 : decode mc_M_operateWhole 195 = .ok (.land, 1) := by decide +kernel
theorem md_M_operateWhole_196 : decode mc_M_operateWhole 196 = .ok (.iload 7, 2) := by decide +kernel
theorem md_M_operateWhole_198 : decode mc_M_operateWhole 198 = .ok (.lushr, 1) := by decide +kernel
theorem md_M_operateWhole_199 : decode mc_M_operateWhole 199 = .ok (.lreturn, 1) := by decide +kernel
theorem md_M_operateWhole_200 : decode mc_M_operateWhole 200 = .ok (.lload_n 2, 1) := by decide +kernel
theorem md_M_operateWhole_201 : decode mc_M_operateWhole 201 = .ok (.lload 4, 2) := by decide +kernel
theorem md_M_operateWhole_203 : decode mc_M_operateWhole 203 = .ok (.land, 1) := by decide +kernel
theorem md_M_operateWhole_204 : decode mc_M_operateWhole 204 = .ok (.lreturn, 1) := by decide +kernel
theorem md_M_operateWhole_205 : decode mc_M_operateWhole 205 = .ok (.lload_n 2, 1) := by decide +kernel
theorem md_M_operateWhole_206 : decode mc_M_operateWhole 206 = .ok (.lload 4, 2) := by decide +kernel
theorem md_M_operateWhole_208 : decode mc_M_operateWhole 208 = .ok (.lor, 1) := by decide +kernel
theorem md_M_operateWhole_209 : decode mc_M_operateWhole 209 = .ok (.lreturn, 1) := by decide +kernel
theorem md_M_operateWhole_210 : decode mc_M_operateWhole 210 = .ok (.lload_n 2, 1) := by decide +kernel
theorem md_M_operateWhole_211 : decode mc_M_operateWhole 211 = .ok (.lload 4, 2) := by decide +kernel
theorem md_M_operateWhole_213 : decode mc_M_operateWhole 213 = .ok (.lxor, 1) := by decide +kernel
theorem md_M_operateWhole_214 : decode mc_M_operateWhole 214 = .ok (.lreturn, 1) := by decide +kernel
abbrev mc_M_normal : ByteArray := prog_4_method_28_code
def my_M_normal : MethodName := ⟨"NumberProbeModel", "normal", "(IJ)J"⟩
abbrev mw_M_normal : List Cond := Cond.code my_M_normal mc_M_normal 5 (some .long) :: gw_tbl
theorem md_M_normal_0 : decode mc_M_normal 0 = .ok (.iload_n 0, 1) := by decide +kernel
theorem md_M_normal_1 : decode mc_M_normal 1 = .ok (.iconst 3, 1) := by decide +kernel
theorem md_M_normal_2 : decode mc_M_normal 2 = .ok (.if_icmp .ne 5, 3) := by decide +kernel
theorem md_M_normal_5 : decode mc_M_normal 5 = .ok (.lload_n 1, 1) := by decide +kernel
theorem md_M_normal_6 : decode mc_M_normal 6 = .ok (.lreturn, 1) := by decide +kernel
theorem md_M_normal_7 : decode mc_M_normal 7 = .ok (.iload_n 0, 1) := by decide +kernel
theorem md_M_normal_8 : decode mc_M_normal 8 = .ok (.iconst 2, 1) := by decide +kernel
theorem md_M_normal_9 : decode mc_M_normal 9 = .ok (.if_icmp .ne 7, 3) := by decide +kernel
theorem md_M_normal_12 : decode mc_M_normal 12 = .ok (.lload_n 1, 1) := by decide +kernel
theorem md_M_normal_13 : decode mc_M_normal 13 = .ok (.l2i, 1) := by decide +kernel
theorem md_M_normal_14 : decode mc_M_normal 14 = .ok (.i2l, 1) := by decide +kernel
theorem md_M_normal_15 : decode mc_M_normal 15 = .ok (.lreturn, 1) := by decide +kernel
theorem md_M_normal_16 : decode mc_M_normal 16 = .ok (.iload_n 0, 1) := by decide +kernel
theorem md_M_normal_17 : decode mc_M_normal 17 = .ok (.ifCond .ne 11, 3) := by decide +kernel
theorem md_M_normal_20 : decode mc_M_normal 20 = .ok (.lload_n 1, 1) := by decide +kernel
theorem md_M_normal_21 : decode mc_M_normal 21 = .ok (.ldc2_w 116, 3) := by decide +kernel
theorem md_M_normal_24 : decode mc_M_normal 24 = .ok (.land, 1) := by decide +kernel
theorem md_M_normal_25 : decode mc_M_normal 25 = .ok (.goto 4, 3) := by decide +kernel
theorem md_M_normal_28 : decode mc_M_normal 28 = .ok (.lload_n 1, 1) := by decide +kernel
theorem md_M_normal_29 : decode mc_M_normal 29 = .ok (.lstore_n 3, 1) := by decide +kernel
theorem md_M_normal_30 : decode mc_M_normal 30 = .ok (.iload_n 0, 1) := by decide +kernel
theorem md_M_normal_31 : decode mc_M_normal 31 = .ok (.lload_n 3, 1) := by decide +kernel
theorem md_M_normal_32 : decode mc_M_normal 32 = .ok (.invokestatic 51, 3) := by decide +kernel
theorem md_M_normal_35 : decode mc_M_normal 35 = .ok (.ifCond .eq 10, 3) := by decide +kernel
theorem md_M_normal_38 : decode mc_M_normal 38 = .ok (.iload_n 0, 1) := by decide +kernel
theorem md_M_normal_39 : decode mc_M_normal 39 = .ok (.invokestatic 105, 3) := by decide +kernel
theorem md_M_normal_42 : decode mc_M_normal 42 = .ok (.goto 4, 3) := by decide +kernel
theorem md_M_normal_45 : decode mc_M_normal 45 = .ok (.lload_n 3, 1) := by decide +kernel
theorem md_M_normal_46 : decode mc_M_normal 46 = .ok (.lreturn, 1) := by decide +kernel
abbrev mc_M_ofWhole : ByteArray := prog_4_method_29_code
def my_M_ofWhole : MethodName := ⟨"NumberProbeModel", "ofWhole", "(IJ)J"⟩
abbrev mw_M_ofWhole : List Cond := Cond.code my_M_ofWhole mc_M_ofWhole 3 (some .long) :: gw_tbl
theorem md_M_ofWhole_0 : decode mc_M_ofWhole 0 = .ok (.lload_n 1, 1) := by decide +kernel
theorem md_M_ofWhole_1 : decode mc_M_ofWhole 1 = .ok (.ldc2_w 15, 3) := by decide +kernel
theorem md_M_ofWhole_4 : decode mc_M_ofWhole 4 = .ok (.lcmp, 1) := by decide +kernel
theorem md_M_ofWhole_5 : decode mc_M_ofWhole 5 = .ok (.ifCond .ne 13, 3) := by decide +kernel
theorem md_M_ofWhole_8 : decode mc_M_ofWhole 8 = .ok (.iload_n 0, 1) := by decide +kernel
theorem md_M_ofWhole_9 : decode mc_M_ofWhole 9 = .ok (.iconst 1, 1) := by decide +kernel
theorem md_M_ofWhole_10 : decode mc_M_ofWhole 10 = .ok (.ldc2_w 146, 3) := by decide +kernel
theorem md_M_ofWhole_13 : decode mc_M_ofWhole 13 = .ok (.iconst 1, 1) := by decide +kernel
theorem md_M_ofWhole_14 : decode mc_M_ofWhole 14 = .ok (.invokestatic 112, 3) := by decide +kernel
theorem md_M_ofWhole_17 : decode mc_M_ofWhole 17 = .ok (.lreturn, 1) := by decide +kernel
theorem md_M_ofWhole_18 : decode mc_M_ofWhole 18 = .ok (.iload_n 0, 1) := by decide +kernel
theorem md_M_ofWhole_19 : decode mc_M_ofWhole 19 = .ok (.lload_n 1, 1) := by decide +kernel
theorem md_M_ofWhole_20 : decode mc_M_ofWhole 20 = .ok (.lconst 0, 1) := by decide +kernel
theorem md_M_ofWhole_21 : decode mc_M_ofWhole 21 = .ok (.lcmp, 1) := by decide +kernel
theorem md_M_ofWhole_22 : decode mc_M_ofWhole 22 = .ok (.ifCond .ge 7, 3) := by decide +kernel
theorem md_M_ofWhole_25 : decode mc_M_ofWhole 25 = .ok (.iconst 1, 1) := by decide +kernel
theorem md_M_ofWhole_26 : decode mc_M_ofWhole 26 = .ok (.goto 4, 3) := by decide +kernel
theorem md_M_ofWhole_29 : decode mc_M_ofWhole 29 = .ok (.iconst 0, 1) := by decide +kernel
theorem md_M_ofWhole_30 : decode mc_M_ofWhole 30 = .ok (.lload_n 1, 1) := by decide +kernel
theorem md_M_ofWhole_31 : decode mc_M_ofWhole 31 = .ok (.lconst 0, 1) := by decide +kernel
theorem md_M_ofWhole_32 : decode mc_M_ofWhole 32 = .ok (.lcmp, 1) := by decide +kernel
theorem md_M_ofWhole_33 : decode mc_M_ofWhole 33 = .ok (.ifCond .ge 8, 3) := by decide +kernel
theorem md_M_ofWhole_36 : decode mc_M_ofWhole 36 = .ok (.lload_n 1, 1) := by decide +kernel
theorem md_M_ofWhole_37 : decode mc_M_ofWhole 37 = .ok (.lneg, 1) := by decide +kernel
theorem md_M_ofWhole_38 : decode mc_M_ofWhole 38 = .ok (.goto 4, 3) := by decide +kernel
theorem md_M_ofWhole_41 : decode mc_M_ofWhole 41 = .ok (.lload_n 1, 1) := by decide +kernel
theorem md_M_ofWhole_42 : decode mc_M_ofWhole 42 = .ok (.iconst 0, 1) := by decide +kernel
theorem md_M_ofWhole_43 : decode mc_M_ofWhole 43 = .ok (.invokestatic 112, 3) := by decide +kernel
theorem md_M_ofWhole_46 : decode mc_M_ofWhole 46 = .ok (.lreturn, 1) := by decide +kernel
abbrev mc_M_toWhole : ByteArray := prog_4_method_30_code
def my_M_toWhole : MethodName := ⟨"NumberProbeModel", "toWhole", "(IJ)J"⟩
abbrev mw_M_toWhole : List Cond := Cond.code my_M_toWhole mc_M_toWhole 6 (some .long) :: gw_tbl
theorem md_M_toWhole_0 : decode mc_M_toWhole 0 = .ok (.aload_n 0, 1) := by decide +kernel
theorem md_M_toWhole_1 : decode mc_M_toWhole 1 = .ok (.iload_n 1, 1) := by decide +kernel
theorem md_M_toWhole_2 : decode mc_M_toWhole 2 = .ok (.lload_n 2, 1) := by decide +kernel
theorem md_M_toWhole_3 : decode mc_M_toWhole 3 = .ok (.invokevirtual 98, 3) := by decide +kernel
theorem md_M_toWhole_6 : decode mc_M_toWhole 6 = .ok (.aload_n 0, 1) := by decide +kernel
theorem md_M_toWhole_7 : decode mc_M_toWhole 7 = .ok (.getfield 54, 3) := by decide +kernel
theorem md_M_toWhole_10 : decode mc_M_toWhole 10 = .ok (.ifCond .eq 5, 3) := by decide +kernel
theorem md_M_toWhole_13 : decode mc_M_toWhole 13 = .ok (.lconst 0, 1) := by decide +kernel
theorem md_M_toWhole_14 : decode mc_M_toWhole 14 = .ok (.lreturn, 1) := by decide +kernel
theorem md_M_toWhole_15 : decode mc_M_toWhole 15 = .ok (.aload_n 0, 1) := by decide +kernel
theorem md_M_toWhole_16 : decode mc_M_toWhole 16 = .ok (.getfield 57, 3) := by decide +kernel
theorem md_M_toWhole_19 : decode mc_M_toWhole 19 = .ok (.ifCond .ne 20, 3) := by decide +kernel
theorem md_M_toWhole_22 : decode mc_M_toWhole 22 = .ok (.aload_n 0, 1) := by decide +kernel
theorem md_M_toWhole_23 : decode mc_M_toWhole 23 = .ok (.getfield 71, 3) := by decide +kernel
theorem md_M_toWhole_26 : decode mc_M_toWhole 26 = .ok (.aload_n 0, 1) := by decide +kernel
theorem md_M_toWhole_27 : decode mc_M_toWhole 27 = .ok (.getfield 63, 3) := by decide +kernel
theorem md_M_toWhole_30 : decode mc_M_toWhole 30 = .ok (.invokestatic 94, 3) := by decide +kernel
theorem md_M_toWhole_33 : decode mc_M_toWhole 33 = .ok (.iadd, 1) := by decide +kernel
theorem md_M_toWhole_34 : decode mc_M_toWhole 34 = .ok (.bipush 63, 2) := by decide +kernel
theorem md_M_toWhole_36 : decode mc_M_toWhole 36 = .ok (.if_icmp .le 20, 3) := by decide +kernel
theorem md_M_toWhole_39 : decode mc_M_toWhole 39 = .ok (.aload_n 0, 1) := by decide +kernel
theorem md_M_toWhole_40 : decode mc_M_toWhole 40 = .ok (.getfield 47, 3) := by decide +kernel
theorem md_M_toWhole_43 : decode mc_M_toWhole 43 = .ok (.ifCond .eq 9, 3) := by decide +kernel
theorem md_M_toWhole_46 : decode mc_M_toWhole 46 = .ok (.ldc2_w 15, 3) := by decide +kernel
theorem md_M_toWhole_49 : decode mc_M_toWhole 49 = .ok (.goto 6, 3) := by decide +kernel
theorem md_M_toWhole_52 : decode mc_M_toWhole 52 = .ok (.ldc2_w 148, 3) := by decide +kernel
theorem md_M_toWhole_55 : decode mc_M_toWhole 55 = .ok (.lreturn, 1) := by decide +kernel
theorem md_M_toWhole_56 : decode mc_M_toWhole 56 = .ok (.aload_n 0, 1) := by decide +kernel
theorem md_M_toWhole_57 : decode mc_M_toWhole 57 = .ok (.getfield 71, 3) := by decide +kernel
theorem md_M_toWhole_60 : decode mc_M_toWhole 60 = .ok (.ifCond .lt 15, 3) := by decide +kernel
theorem md_M_toWhole_63 : decode mc_M_toWhole 63 = .ok (.aload_n 0, 1) := by decide +kernel
theorem md_M_toWhole_64 : decode mc_M_toWhole 64 = .ok (.getfield 63, 3) := by decide +kernel
theorem md_M_toWhole_67 : decode mc_M_toWhole 67 = .ok (.aload_n 0, 1) := by decide +kernel
theorem md_M_toWhole_68 : decode mc_M_toWhole 68 = .ok (.getfield 71, 3) := by decide +kernel
theorem md_M_toWhole_71 : decode mc_M_toWhole 71 = .ok (.lshl, 1) := by decide +kernel
theorem md_M_toWhole_72 : decode mc_M_toWhole 72 = .ok (.goto 26, 3) := by decide +kernel
theorem md_M_toWhole_75 : decode mc_M_toWhole 75 = .ok (.aload_n 0, 1) := by decide +kernel
theorem md_M_toWhole_76 : decode mc_M_toWhole 76 = .ok (.getfield 71, 3) := by decide +kernel
theorem md_M_toWhole_79 : decode mc_M_toWhole 79 = .ok (.bipush (-62), 2) := by decide +kernel
theorem md_M_toWhole_81 : decode mc_M_toWhole 81 = .ok (.if_icmp .ge 7, 3) := by decide +kernel
theorem md_M_toWhole_84 : decode mc_M_toWhole 84 = .ok (.lconst 0, 1) := by decide +kernel
theorem md_M_toWhole_85 : decode mc_M_toWhole 85 = .ok (.goto 13, 3) := by decide +kernel
theorem md_M_toWhole_88 : decode mc_M_toWhole 88 = .ok (.aload_n 0, 1) := by decide +kernel
theorem md_M_toWhole_89 : decode mc_M_toWhole 89 = .ok (.getfield 63, 3) := by decide +kernel
theorem md_M_toWhole_92 : decode mc_M_toWhole 92 = .ok (.aload_n 0, 1) := by decide +kernel
theorem md_M_toWhole_93 : decode mc_M_toWhole 93 = .ok (.getfield 71, 3) := by decide +kernel
theorem md_M_toWhole_96 : decode mc_M_toWhole 96 = .ok (.ineg, 1) := by decide +kernel
theorem md_M_toWhole_97 : decode mc_M_toWhole 97 = .ok (.lushr, 1) := by decide +kernel
theorem md_M_toWhole_98 : decode mc_M_toWhole 98 = .ok (.lstore 4, 2) := by decide +kernel
theorem md_M_toWhole_100 : decode mc_M_toWhole 100 = .ok (.aload_n 0, 1) := by decide +kernel
theorem md_M_toWhole_101 : decode mc_M_toWhole 101 = .ok (.getfield 47, 3) := by decide +kernel
theorem md_M_toWhole_104 : decode mc_M_toWhole 104 = .ok (.ifCond .eq 9, 3) := by decide +kernel
theorem md_M_toWhole_107 : decode mc_M_toWhole 107 = .ok (.lload 4, 2) := by decide +kernel
theorem md_M_toWhole_109 : decode mc_M_toWhole 109 = .ok (.lneg, 1) := by decide +kernel
theorem md_M_toWhole_110 : decode mc_M_toWhole 110 = .ok (.goto 5, 3) := by decide +kernel
theorem md_M_toWhole_113 : decode mc_M_toWhole 113 = .ok (.lload 4, 2) := by decide +kernel
theorem md_M_toWhole_115 : decode mc_M_toWhole 115 = .ok (.lreturn, 1) := by decide +kernel
abbrev mc_M_bounded : ByteArray := prog_4_method_31_code
def my_M_bounded : MethodName := ⟨"NumberProbeModel", "bounded", "(J)J"⟩
abbrev mw_M_bounded : List Cond := Cond.code my_M_bounded mc_M_bounded 2 (some .long) :: gw_tbl
theorem md_M_bounded_0 : decode mc_M_bounded 0 = .ok (.lload_n 0, 1) := by decide +kernel
theorem md_M_bounded_1 : decode mc_M_bounded 1 = .ok (.ldc2_w 150, 3) := by decide +kernel
theorem md_M_bounded_4 : decode mc_M_bounded 4 = .ok (.lcmp, 1) := by decide +kernel
theorem md_M_bounded_5 : decode mc_M_bounded 5 = .ok (.ifCond .le 9, 3) := by decide +kernel
theorem md_M_bounded_8 : decode mc_M_bounded 8 = .ok (.ldc2_w 150, 3) := by decide +kernel
theorem md_M_bounded_11 : decode mc_M_bounded 11 = .ok (.goto 18, 3) := by decide +kernel
theorem md_M_bounded_14 : decode mc_M_bounded 14 = .ok (.lload_n 0, 1) := by decide +kernel
theorem md_M_bounded_15 : decode mc_M_bounded 15 = .ok (.ldc2_w 152, 3) := by decide +kernel
theorem md_M_bounded_18 : decode mc_M_bounded 18 = .ok (.lcmp, 1) := by decide +kernel
theorem md_M_bounded_19 : decode mc_M_bounded 19 = .ok (.ifCond .ge 9, 3) := by decide +kernel
theorem md_M_bounded_22 : decode mc_M_bounded 22 = .ok (.ldc2_w 152, 3) := by decide +kernel
theorem md_M_bounded_25 : decode mc_M_bounded 25 = .ok (.goto 4, 3) := by decide +kernel
theorem md_M_bounded_28 : decode mc_M_bounded 28 = .ok (.lload_n 0, 1) := by decide +kernel
theorem md_M_bounded_29 : decode mc_M_bounded 29 = .ok (.lreturn, 1) := by decide +kernel
abbrev mc_M_converted : ByteArray := prog_4_method_32_code
def my_M_converted : MethodName := ⟨"NumberProbeModel", "converted", "(IJI)J"⟩
abbrev mw_M_converted : List Cond := Cond.code my_M_converted mc_M_converted 5 (some .long) :: gw_tbl
theorem md_M_converted_0 : decode mc_M_converted 0 = .ok (.iload_n 1, 1) := by decide +kernel
theorem md_M_converted_1 : decode mc_M_converted 1 = .ok (.iload 4, 2) := by decide +kernel
theorem md_M_converted_3 : decode mc_M_converted 3 = .ok (.if_icmp .ne 5, 3) := by decide +kernel
theorem md_M_converted_6 : decode mc_M_converted 6 = .ok (.lload_n 2, 1) := by decide +kernel
theorem md_M_converted_7 : decode mc_M_converted 7 = .ok (.lreturn, 1) := by decide +kernel
theorem md_M_converted_8 : decode mc_M_converted 8 = .ok (.iload_n 1, 1) := by decide +kernel
theorem md_M_converted_9 : decode mc_M_converted 9 = .ok (.iconst 1, 1) := by decide +kernel
theorem md_M_converted_10 : decode mc_M_converted 10 = .ok (.if_icmp .le 25, 3) := by decide +kernel
theorem md_M_converted_13 : decode mc_M_converted 13 = .ok (.iload 4, 2) := by decide +kernel
theorem md_M_converted_15 : decode mc_M_converted 15 = .ok (.iconst 1, 1) := by decide +kernel
theorem md_M_converted_16 : decode mc_M_converted 16 = .ok (.if_icmp .le 12, 3) := by decide +kernel
theorem md_M_converted_19 : decode mc_M_converted 19 = .ok (.iload 4, 2) := by decide +kernel
theorem md_M_converted_21 : decode mc_M_converted 21 = .ok (.lload_n 2, 1) := by decide +kernel
theorem md_M_converted_22 : decode mc_M_converted 22 = .ok (.invokestatic 154, 3) := by decide +kernel
theorem md_M_converted_25 : decode mc_M_converted 25 = .ok (.goto 9, 3) := by decide +kernel
theorem md_M_converted_28 : decode mc_M_converted 28 = .ok (.iload 4, 2) := by decide +kernel
theorem md_M_converted_30 : decode mc_M_converted 30 = .ok (.lload_n 2, 1) := by decide +kernel
theorem md_M_converted_31 : decode mc_M_converted 31 = .ok (.invokestatic 157, 3) := by decide +kernel
theorem md_M_converted_34 : decode mc_M_converted 34 = .ok (.lreturn, 1) := by decide +kernel
theorem md_M_converted_35 : decode mc_M_converted 35 = .ok (.iload 4, 2) := by decide +kernel
theorem md_M_converted_37 : decode mc_M_converted 37 = .ok (.iconst 3, 1) := by decide +kernel
theorem md_M_converted_38 : decode mc_M_converted 38 = .ok (.if_icmp .ne 10, 3) := by decide +kernel
theorem md_M_converted_41 : decode mc_M_converted 41 = .ok (.aload_n 0, 1) := by decide +kernel
theorem md_M_converted_42 : decode mc_M_converted 42 = .ok (.iload_n 1, 1) := by decide +kernel
theorem md_M_converted_43 : decode mc_M_converted 43 = .ok (.lload_n 2, 1) := by decide +kernel
theorem md_M_converted_44 : decode mc_M_converted 44 = .ok (.invokevirtual 160, 3) := by decide +kernel
theorem md_M_converted_47 : decode mc_M_converted 47 = .ok (.lreturn, 1) := by decide +kernel
theorem md_M_converted_48 : decode mc_M_converted 48 = .ok (.iload 4, 2) := by decide +kernel
theorem md_M_converted_50 : decode mc_M_converted 50 = .ok (.iconst 2, 1) := by decide +kernel
theorem md_M_converted_51 : decode mc_M_converted 51 = .ok (.if_icmp .ne 13, 3) := by decide +kernel
theorem md_M_converted_54 : decode mc_M_converted 54 = .ok (.aload_n 0, 1) := by decide +kernel
theorem md_M_converted_55 : decode mc_M_converted 55 = .ok (.iload_n 1, 1) := by decide +kernel
theorem md_M_converted_56 : decode mc_M_converted 56 = .ok (.lload_n 2, 1) := by decide +kernel
theorem md_M_converted_57 : decode mc_M_converted 57 = .ok (.invokevirtual 160, 3) := by decide +kernel
theorem md_M_converted_60 : decode mc_M_converted 60 = .ok (.invokestatic 163, 3) := by decide +kernel
theorem md_M_converted_63 : decode mc_M_converted 63 = .ok (.lreturn, 1) := by decide +kernel
theorem md_M_converted_64 : decode mc_M_converted 64 = .ok (.iload_n 1, 1) := by decide +kernel
theorem md_M_converted_65 : decode mc_M_converted 65 = .ok (.lload_n 2, 1) := by decide +kernel
theorem md_M_converted_66 : decode mc_M_converted 66 = .ok (.invokestatic 51, 3) := by decide +kernel
theorem md_M_converted_69 : decode mc_M_converted 69 = .ok (.ifCond .eq 9, 3) := by decide +kernel
theorem md_M_converted_72 : decode mc_M_converted 72 = .ok (.iload 4, 2) := by decide +kernel
theorem md_M_converted_74 : decode mc_M_converted 74 = .ok (.invokestatic 105, 3) := by decide +kernel
theorem md_M_converted_77 : decode mc_M_converted 77 = .ok (.lreturn, 1) := by decide +kernel
theorem md_M_converted_78 : decode mc_M_converted 78 = .ok (.iload_n 1, 1) := by decide +kernel
theorem md_M_converted_79 : decode mc_M_converted 79 = .ok (.lload_n 2, 1) := by decide +kernel
theorem md_M_converted_80 : decode mc_M_converted 80 = .ok (.invokestatic 29, 3) := by decide +kernel
theorem md_M_converted_83 : decode mc_M_converted 83 = .ok (.iload_n 1, 1) := by decide +kernel
theorem md_M_converted_84 : decode mc_M_converted 84 = .ok (.invokestatic 33, 3) := by decide +kernel
theorem md_M_converted_87 : decode mc_M_converted 87 = .ok (.lcmp, 1) := by decide +kernel
theorem md_M_converted_88 : decode mc_M_converted 88 = .ok (.ifCond .ne 19, 3) := by decide +kernel
theorem md_M_converted_91 : decode mc_M_converted 91 = .ok (.iload 4, 2) := by decide +kernel
theorem md_M_converted_93 : decode mc_M_converted 93 = .ok (.iload_n 1, 1) := by decide +kernel
theorem md_M_converted_94 : decode mc_M_converted 94 = .ok (.lload_n 2, 1) := by decide +kernel
theorem md_M_converted_95 : decode mc_M_converted 95 = .ok (.invokestatic 43, 3) := by decide +kernel
theorem md_M_converted_98 : decode mc_M_converted 98 = .ok (.iload 4, 2) := by decide +kernel
theorem md_M_converted_100 : decode mc_M_converted 100 = .ok (.invokestatic 33, 3) := by decide +kernel
theorem md_M_converted_103 : decode mc_M_converted 103 = .ok (.invokestatic 90, 3) := by decide +kernel
theorem md_M_converted_106 : decode mc_M_converted 106 = .ok (.lreturn, 1) := by decide +kernel
theorem md_M_converted_107 : decode mc_M_converted 107 = .ok (.iload 4, 2) := by decide +kernel
theorem md_M_converted_109 : decode mc_M_converted 109 = .ok (.iload_n 1, 1) := by decide +kernel
theorem md_M_converted_110 : decode mc_M_converted 110 = .ok (.lload_n 2, 1) := by decide +kernel
theorem md_M_converted_111 : decode mc_M_converted 111 = .ok (.invokestatic 43, 3) := by decide +kernel
theorem md_M_converted_114 : decode mc_M_converted 114 = .ok (.iload_n 1, 1) := by decide +kernel
theorem md_M_converted_115 : decode mc_M_converted 115 = .ok (.lload_n 2, 1) := by decide +kernel
theorem md_M_converted_116 : decode mc_M_converted 116 = .ok (.invokestatic 60, 3) := by decide +kernel
theorem md_M_converted_119 : decode mc_M_converted 119 = .ok (.iload_n 1, 1) := by decide +kernel
theorem md_M_converted_120 : decode mc_M_converted 120 = .ok (.lload_n 2, 1) := by decide +kernel
theorem md_M_converted_121 : decode mc_M_converted 121 = .ok (.invokestatic 67, 3) := by decide +kernel
theorem md_M_converted_124 : decode mc_M_converted 124 = .ok (.invokestatic 112, 3) := by decide +kernel
theorem md_M_converted_127 : decode mc_M_converted 127 = .ok (.lreturn, 1) := by decide +kernel
abbrev mc_M_put : ByteArray := prog_4_method_33_code
def my_M_put : MethodName := ⟨"NumberProbeModel", "put", "(IIJ)I"⟩
abbrev mw_M_put : List Cond := Cond.code my_M_put mc_M_put 5 (some .int) :: gw_tbl
theorem md_M_put_0 : decode mc_M_put 0 = .ok (.iload_n 1, 1) := by decide +kernel
theorem md_M_put_1 : decode mc_M_put 1 = .ok (.iconst 4, 1) := by decide +kernel
theorem md_M_put_2 : decode mc_M_put 2 = .ok (.invokestatic 167, 3) := by decide +kernel
theorem md_M_put_5 : decode mc_M_put 5 = .ok (.ifCond .eq 12, 3) := by decide +kernel
theorem md_M_put_8 : decode mc_M_put 8 = .ok (.iload_n 2, 1) := by decide +kernel
theorem md_M_put_9 : decode mc_M_put 9 = .ok (.bipush 6, 2) := by decide +kernel
theorem md_M_put_11 : decode mc_M_put 11 = .ok (.invokestatic 167, 3) := by decide +kernel
theorem md_M_put_14 : decode mc_M_put 14 = .ok (.ifCond .ne 5, 3) := by decide +kernel
theorem md_M_put_17 : decode mc_M_put 17 = .ok (.iconst (-1), 1) := by decide +kernel
theorem md_M_put_18 : decode mc_M_put 18 = .ok (.ireturn, 1) := by decide +kernel
theorem md_M_put_19 : decode mc_M_put 19 = .ok (.aload_n 0, 1) := by decide +kernel
theorem md_M_put_20 : decode mc_M_put 20 = .ok (.getfield 7, 3) := by decide +kernel
theorem md_M_put_23 : decode mc_M_put 23 = .ok (.iload_n 1, 1) := by decide +kernel
theorem md_M_put_24 : decode mc_M_put 24 = .ok (.bipush 6, 2) := by decide +kernel
theorem md_M_put_26 : decode mc_M_put 26 = .ok (.imul, 1) := by decide +kernel
theorem md_M_put_27 : decode mc_M_put 27 = .ok (.iload_n 2, 1) := by decide +kernel
theorem md_M_put_28 : decode mc_M_put 28 = .ok (.iadd, 1) := by decide +kernel
theorem md_M_put_29 : decode mc_M_put 29 = .ok (.iload_n 1, 1) := by decide +kernel
theorem md_M_put_30 : decode mc_M_put 30 = .ok (.lload_n 3, 1) := by decide +kernel
theorem md_M_put_31 : decode mc_M_put 31 = .ok (.invokestatic 154, 3) := by decide +kernel
theorem md_M_put_34 : decode mc_M_put 34 = .ok (.lastore, 1) := by decide +kernel
theorem md_M_put_35 : decode mc_M_put 35 = .ok (.iconst 0, 1) := by decide +kernel
theorem md_M_put_36 : decode mc_M_put 36 = .ok (.ireturn, 1) := by decide +kernel
abbrev mc_M_realBoundary : ByteArray := prog_4_method_34_code
def my_M_realBoundary : MethodName := ⟨"NumberProbeModel", "realBoundary", "(II)J"⟩
abbrev mw_M_realBoundary : List Cond := Cond.code my_M_realBoundary mc_M_realBoundary 4 (some .long) :: gw_tbl
theorem md_M_realBoundary_0 : decode mc_M_realBoundary 0 = .ok (.iload_n 0, 1) := by decide +kernel
theorem md_M_realBoundary_1 : decode mc_M_realBoundary 1 = .ok (.lconst 1, 1) := by decide +kernel
theorem md_M_realBoundary_2 : decode mc_M_realBoundary 2 = .ok (.invokestatic 157, 3) := by decide +kernel
theorem md_M_realBoundary_5 : decode mc_M_realBoundary 5 = .ok (.lstore_n 2, 1) := by decide +kernel
theorem md_M_realBoundary_6 : decode mc_M_realBoundary 6 = .ok (.iload_n 1, 1) := by decide +kernel
theorem md_M_realBoundary_7 : decode mc_M_realBoundary 7 = .ok (.tableswitch 222 0 19 #[93, 95, 100, 102, 109, 111, 120, 127, 134, 139, 149, 154, 158, 162, 170, 178, 186, 194, 204, 214], 93) := by decide +kernel
theorem md_M_realBoundary_100 : decode mc_M_realBoundary 100 = .ok (.lconst 0, 1) := by decide +kernel
theorem md_M_realBoundary_101 : decode mc_M_realBoundary 101 = .ok (.lreturn, 1) := by decide +kernel
theorem md_M_realBoundary_102 : decode mc_M_realBoundary 102 = .ok (.iload_n 0, 1) := by decide +kernel
theorem md_M_realBoundary_103 : decode mc_M_realBoundary 103 = .ok (.invokestatic 25, 3) := by decide +kernel
theorem md_M_realBoundary_106 : decode mc_M_realBoundary 106 = .ok (.lreturn, 1) := by decide +kernel
theorem md_M_realBoundary_107 : decode mc_M_realBoundary 107 = .ok (.lload_n 2, 1) := by decide +kernel
theorem md_M_realBoundary_108 : decode mc_M_realBoundary 108 = .ok (.lreturn, 1) := by decide +kernel
theorem md_M_realBoundary_109 : decode mc_M_realBoundary 109 = .ok (.lload_n 2, 1) := by decide +kernel
theorem md_M_realBoundary_110 : decode mc_M_realBoundary 110 = .ok (.iload_n 0, 1) := by decide +kernel
theorem md_M_realBoundary_111 : decode mc_M_realBoundary 111 = .ok (.invokestatic 25, 3) := by decide +kernel
theorem md_M_realBoundary_114 : decode mc_M_realBoundary 114 = .ok (.lor, 1) := by decide +kernel
theorem md_M_realBoundary_115 : decode mc_M_realBoundary 115 = .ok (.lreturn, 1) := by decide +kernel
theorem md_M_realBoundary_116 : decode mc_M_realBoundary 116 = .ok (.lconst 1, 1) := by decide +kernel
theorem md_M_realBoundary_117 : decode mc_M_realBoundary 117 = .ok (.lreturn, 1) := by decide +kernel
theorem md_M_realBoundary_118 : decode mc_M_realBoundary 118 = .ok (.lconst 1, 1) := by decide +kernel
theorem md_M_realBoundary_119 : decode mc_M_realBoundary 119 = .ok (.iload_n 0, 1) := by decide +kernel
theorem md_M_realBoundary_120 : decode mc_M_realBoundary 120 = .ok (.invokestatic 36, 3) := by decide +kernel
theorem md_M_realBoundary_123 : decode mc_M_realBoundary 123 = .ok (.lshl, 1) := by decide +kernel
theorem md_M_realBoundary_124 : decode mc_M_realBoundary 124 = .ok (.lconst 1, 1) := by decide +kernel
theorem md_M_realBoundary_125 : decode mc_M_realBoundary 125 = .ok (.lsub, 1) := by decide +kernel
theorem md_M_realBoundary_126 : decode mc_M_realBoundary 126 = .ok (.lreturn, 1) := by decide +kernel
theorem md_M_realBoundary_127 : decode mc_M_realBoundary 127 = .ok (.lconst 1, 1) := by decide +kernel
theorem md_M_realBoundary_128 : decode mc_M_realBoundary 128 = .ok (.iload_n 0, 1) := by decide +kernel
theorem md_M_realBoundary_129 : decode mc_M_realBoundary 129 = .ok (.invokestatic 36, 3) := by decide +kernel
theorem md_M_realBoundary_132 : decode mc_M_realBoundary 132 = .ok (.lshl, 1) := by decide +kernel
theorem md_M_realBoundary_133 : decode mc_M_realBoundary 133 = .ok (.lreturn, 1) := by decide +kernel
theorem md_M_realBoundary_134 : decode mc_M_realBoundary 134 = .ok (.iload_n 0, 1) := by decide +kernel
theorem md_M_realBoundary_135 : decode mc_M_realBoundary 135 = .ok (.invokestatic 33, 3) := by decide +kernel
theorem md_M_realBoundary_138 : decode mc_M_realBoundary 138 = .ok (.lconst 1, 1) := by decide +kernel
theorem md_M_realBoundary_139 : decode mc_M_realBoundary 139 = .ok (.lsub, 1) := by decide +kernel
theorem md_M_realBoundary_140 : decode mc_M_realBoundary 140 = .ok (.lreturn, 1) := by decide +kernel
theorem md_M_realBoundary_141 : decode mc_M_realBoundary 141 = .ok (.iload_n 0, 1) := by decide +kernel
theorem md_M_realBoundary_142 : decode mc_M_realBoundary 142 = .ok (.invokestatic 33, 3) := by decide +kernel
theorem md_M_realBoundary_145 : decode mc_M_realBoundary 145 = .ok (.lreturn, 1) := by decide +kernel
theorem md_M_realBoundary_146 : decode mc_M_realBoundary 146 = .ok (.iload_n 0, 1) := by decide +kernel
theorem md_M_realBoundary_147 : decode mc_M_realBoundary 147 = .ok (.invokestatic 33, 3) := by decide +kernel
theorem md_M_realBoundary_150 : decode mc_M_realBoundary 150 = .ok (.iload_n 0, 1) := by decide +kernel
theorem md_M_realBoundary_151 : decode mc_M_realBoundary 151 = .ok (.invokestatic 25, 3) := by decide +kernel
theorem md_M_realBoundary_154 : decode mc_M_realBoundary 154 = .ok (.lor, 1) := by decide +kernel
theorem md_M_realBoundary_155 : decode mc_M_realBoundary 155 = .ok (.lreturn, 1) := by decide +kernel
theorem md_M_realBoundary_156 : decode mc_M_realBoundary 156 = .ok (.iload_n 0, 1) := by decide +kernel
theorem md_M_realBoundary_157 : decode mc_M_realBoundary 157 = .ok (.invokestatic 105, 3) := by decide +kernel
theorem md_M_realBoundary_160 : decode mc_M_realBoundary 160 = .ok (.lreturn, 1) := by decide +kernel
theorem md_M_realBoundary_161 : decode mc_M_realBoundary 161 = .ok (.lload_n 2, 1) := by decide +kernel
theorem md_M_realBoundary_162 : decode mc_M_realBoundary 162 = .ok (.lconst 1, 1) := by decide +kernel
theorem md_M_realBoundary_163 : decode mc_M_realBoundary 163 = .ok (.ladd, 1) := by decide +kernel
theorem md_M_realBoundary_164 : decode mc_M_realBoundary 164 = .ok (.lreturn, 1) := by decide +kernel
theorem md_M_realBoundary_165 : decode mc_M_realBoundary 165 = .ok (.lload_n 2, 1) := by decide +kernel
theorem md_M_realBoundary_166 : decode mc_M_realBoundary 166 = .ok (.lconst 1, 1) := by decide +kernel
theorem md_M_realBoundary_167 : decode mc_M_realBoundary 167 = .ok (.lsub, 1) := by decide +kernel
theorem md_M_realBoundary_168 : decode mc_M_realBoundary 168 = .ok (.lreturn, 1) := by decide +kernel
theorem md_M_realBoundary_169 : decode mc_M_realBoundary 169 = .ok (.iload_n 0, 1) := by decide +kernel
theorem md_M_realBoundary_170 : decode mc_M_realBoundary 170 = .ok (.ldc2_w 171, 3) := by decide +kernel
theorem md_M_realBoundary_173 : decode mc_M_realBoundary 173 = .ok (.invokestatic 157, 3) := by decide +kernel
theorem md_M_realBoundary_176 : decode mc_M_realBoundary 176 = .ok (.lreturn, 1) := by decide +kernel
theorem md_M_realBoundary_177 : decode mc_M_realBoundary 177 = .ok (.iload_n 0, 1) := by decide +kernel
theorem md_M_realBoundary_178 : decode mc_M_realBoundary 178 = .ok (.ldc2_w 173, 3) := by decide +kernel
theorem md_M_realBoundary_181 : decode mc_M_realBoundary 181 = .ok (.invokestatic 157, 3) := by decide +kernel
theorem md_M_realBoundary_184 : decode mc_M_realBoundary 184 = .ok (.lreturn, 1) := by decide +kernel
theorem md_M_realBoundary_185 : decode mc_M_realBoundary 185 = .ok (.iload_n 0, 1) := by decide +kernel
theorem md_M_realBoundary_186 : decode mc_M_realBoundary 186 = .ok (.ldc2_w 13, 3) := by decide +kernel
theorem md_M_realBoundary_189 : decode mc_M_realBoundary 189 = .ok (.invokestatic 157, 3) := by decide +kernel
theorem md_M_realBoundary_192 : decode mc_M_realBoundary 192 = .ok (.lreturn, 1) := by decide +kernel
theorem md_M_realBoundary_193 : decode mc_M_realBoundary 193 = .ok (.iload_n 0, 1) := by decide +kernel
theorem md_M_realBoundary_194 : decode mc_M_realBoundary 194 = .ok (.ldc2_w 152, 3) := by decide +kernel
theorem md_M_realBoundary_197 : decode mc_M_realBoundary 197 = .ok (.invokestatic 157, 3) := by decide +kernel
theorem md_M_realBoundary_200 : decode mc_M_realBoundary 200 = .ok (.lreturn, 1) := by decide +kernel
theorem md_M_realBoundary_201 : decode mc_M_realBoundary 201 = .ok (.iload_n 0, 1) := by decide +kernel
theorem md_M_realBoundary_202 : decode mc_M_realBoundary 202 = .ok (.iconst 0, 1) := by decide +kernel
theorem md_M_realBoundary_203 : decode mc_M_realBoundary 203 = .ok (.ldc2_w 146, 3) := by decide +kernel
theorem md_M_realBoundary_206 : decode mc_M_realBoundary 206 = .ok (.iconst 1, 1) := by decide +kernel
theorem md_M_realBoundary_207 : decode mc_M_realBoundary 207 = .ok (.invokestatic 112, 3) := by decide +kernel
theorem md_M_realBoundary_210 : decode mc_M_realBoundary 210 = .ok (.lreturn, 1) := by decide +kernel
theorem md_M_realBoundary_211 : decode mc_M_realBoundary 211 = .ok (.iload_n 0, 1) := by decide +kernel
theorem md_M_realBoundary_212 : decode mc_M_realBoundary 212 = .ok (.iconst 1, 1) := by decide +kernel
theorem md_M_realBoundary_213 : decode mc_M_realBoundary 213 = .ok (.ldc2_w 146, 3) := by decide +kernel
theorem md_M_realBoundary_216 : decode mc_M_realBoundary 216 = .ok (.iconst 1, 1) := by decide +kernel
theorem md_M_realBoundary_217 : decode mc_M_realBoundary 217 = .ok (.invokestatic 112, 3) := by decide +kernel
theorem md_M_realBoundary_220 : decode mc_M_realBoundary 220 = .ok (.lreturn, 1) := by decide +kernel
theorem md_M_realBoundary_221 : decode mc_M_realBoundary 221 = .ok (.iload_n 0, 1) := by decide +kernel
theorem md_M_realBoundary_222 : decode mc_M_realBoundary 222 = .ok (.ldc2_w 150, 3) := by decide +kernel
theorem md_M_realBoundary_225 : decode mc_M_realBoundary 225 = .ok (.invokestatic 157, 3) := by decide +kernel
theorem md_M_realBoundary_228 : decode mc_M_realBoundary 228 = .ok (.lreturn, 1) := by decide +kernel
theorem md_M_realBoundary_229 : decode mc_M_realBoundary 229 = .ok (.iload_n 0, 1) := by decide +kernel
theorem md_M_realBoundary_230 : decode mc_M_realBoundary 230 = .ok (.ldc2_w 148, 3) := by decide +kernel
theorem md_M_realBoundary_233 : decode mc_M_realBoundary 233 = .ok (.invokestatic 157, 3) := by decide +kernel
theorem md_M_realBoundary_236 : decode mc_M_realBoundary 236 = .ok (.lreturn, 1) := by decide +kernel
abbrev mc_M_wholeBoundary : ByteArray := prog_4_method_35_code
def my_M_wholeBoundary : MethodName := ⟨"NumberProbeModel", "wholeBoundary", "(II)J"⟩
abbrev mw_M_wholeBoundary : List Cond := Cond.code my_M_wholeBoundary mc_M_wholeBoundary 2 (some .long) :: gw_tbl
theorem md_M_wholeBoundary_0 : decode mc_M_wholeBoundary 0 = .ok (.iload_n 1, 1) := by decide +kernel
theorem md_M_wholeBoundary_1 : decode mc_M_wholeBoundary 1 = .ok (.tableswitch 193 0 19 #[95, 97, 101, 103, 118, 133, 137, 141, 145, 149, 153, 157, 161, 165, 169, 173, 177, 181, 185, 189], 95) := by decide +kernel
theorem md_M_wholeBoundary_96 : decode mc_M_wholeBoundary 96 = .ok (.lconst 0, 1) := by decide +kernel
theorem md_M_wholeBoundary_97 : decode mc_M_wholeBoundary 97 = .ok (.lreturn, 1) := by decide +kernel
theorem md_M_wholeBoundary_98 : decode mc_M_wholeBoundary 98 = .ok (.ldc2_w 125, 3) := by decide +kernel
theorem md_M_wholeBoundary_101 : decode mc_M_wholeBoundary 101 = .ok (.lreturn, 1) := by decide +kernel
theorem md_M_wholeBoundary_102 : decode mc_M_wholeBoundary 102 = .ok (.lconst 1, 1) := by decide +kernel
theorem md_M_wholeBoundary_103 : decode mc_M_wholeBoundary 103 = .ok (.lreturn, 1) := by decide +kernel
theorem md_M_wholeBoundary_104 : decode mc_M_wholeBoundary 104 = .ok (.iload_n 0, 1) := by decide +kernel
theorem md_M_wholeBoundary_105 : decode mc_M_wholeBoundary 105 = .ok (.iconst 2, 1) := by decide +kernel
theorem md_M_wholeBoundary_106 : decode mc_M_wholeBoundary 106 = .ok (.if_icmp .ne 9, 3) := by decide +kernel
theorem md_M_wholeBoundary_109 : decode mc_M_wholeBoundary 109 = .ok (.ldc2_w 152, 3) := by decide +kernel
theorem md_M_wholeBoundary_112 : decode mc_M_wholeBoundary 112 = .ok (.goto 6, 3) := by decide +kernel
theorem md_M_wholeBoundary_115 : decode mc_M_wholeBoundary 115 = .ok (.ldc2_w 15, 3) := by decide +kernel
theorem md_M_wholeBoundary_118 : decode mc_M_wholeBoundary 118 = .ok (.lreturn, 1) := by decide +kernel
theorem md_M_wholeBoundary_119 : decode mc_M_wholeBoundary 119 = .ok (.iload_n 0, 1) := by decide +kernel
theorem md_M_wholeBoundary_120 : decode mc_M_wholeBoundary 120 = .ok (.iconst 2, 1) := by decide +kernel
theorem md_M_wholeBoundary_121 : decode mc_M_wholeBoundary 121 = .ok (.if_icmp .ne 9, 3) := by decide +kernel
theorem md_M_wholeBoundary_124 : decode mc_M_wholeBoundary 124 = .ok (.ldc2_w 150, 3) := by decide +kernel
theorem md_M_wholeBoundary_127 : decode mc_M_wholeBoundary 127 = .ok (.goto 6, 3) := by decide +kernel
theorem md_M_wholeBoundary_130 : decode mc_M_wholeBoundary 130 = .ok (.ldc2_w 148, 3) := by decide +kernel
theorem md_M_wholeBoundary_133 : decode mc_M_wholeBoundary 133 = .ok (.lreturn, 1) := by decide +kernel
theorem md_M_wholeBoundary_134 : decode mc_M_wholeBoundary 134 = .ok (.ldc2_w 175, 3) := by decide +kernel
theorem md_M_wholeBoundary_137 : decode mc_M_wholeBoundary 137 = .ok (.lreturn, 1) := by decide +kernel
theorem md_M_wholeBoundary_138 : decode mc_M_wholeBoundary 138 = .ok (.ldc2_w 177, 3) := by decide +kernel
theorem md_M_wholeBoundary_141 : decode mc_M_wholeBoundary 141 = .ok (.lreturn, 1) := by decide +kernel
theorem md_M_wholeBoundary_142 : decode mc_M_wholeBoundary 142 = .ok (.ldc2_w 179, 3) := by decide +kernel
theorem md_M_wholeBoundary_145 : decode mc_M_wholeBoundary 145 = .ok (.lreturn, 1) := by decide +kernel
theorem md_M_wholeBoundary_146 : decode mc_M_wholeBoundary 146 = .ok (.ldc2_w 181, 3) := by decide +kernel
theorem md_M_wholeBoundary_149 : decode mc_M_wholeBoundary 149 = .ok (.lreturn, 1) := by decide +kernel
theorem md_M_wholeBoundary_150 : decode mc_M_wholeBoundary 150 = .ok (.ldc2_w 183, 3) := by decide +kernel
theorem md_M_wholeBoundary_153 : decode mc_M_wholeBoundary 153 = .ok (.lreturn, 1) := by decide +kernel
theorem md_M_wholeBoundary_154 : decode mc_M_wholeBoundary 154 = .ok (.ldc2_w 185, 3) := by decide +kernel
theorem md_M_wholeBoundary_157 : decode mc_M_wholeBoundary 157 = .ok (.lreturn, 1) := by decide +kernel
theorem md_M_wholeBoundary_158 : decode mc_M_wholeBoundary 158 = .ok (.ldc2_w 187, 3) := by decide +kernel
theorem md_M_wholeBoundary_161 : decode mc_M_wholeBoundary 161 = .ok (.lreturn, 1) := by decide +kernel
theorem md_M_wholeBoundary_162 : decode mc_M_wholeBoundary 162 = .ok (.ldc2_w 189, 3) := by decide +kernel
theorem md_M_wholeBoundary_165 : decode mc_M_wholeBoundary 165 = .ok (.lreturn, 1) := by decide +kernel
theorem md_M_wholeBoundary_166 : decode mc_M_wholeBoundary 166 = .ok (.ldc2_w 191, 3) := by decide +kernel
theorem md_M_wholeBoundary_169 : decode mc_M_wholeBoundary 169 = .ok (.lreturn, 1) := by decide +kernel
theorem md_M_wholeBoundary_170 : decode mc_M_wholeBoundary 170 = .ok (.ldc2_w 171, 3) := by decide +kernel
theorem md_M_wholeBoundary_173 : decode mc_M_wholeBoundary 173 = .ok (.lreturn, 1) := by decide +kernel
theorem md_M_wholeBoundary_174 : decode mc_M_wholeBoundary 174 = .ok (.ldc2_w 13, 3) := by decide +kernel
theorem md_M_wholeBoundary_177 : decode mc_M_wholeBoundary 177 = .ok (.lreturn, 1) := by decide +kernel
theorem md_M_wholeBoundary_178 : decode mc_M_wholeBoundary 178 = .ok (.ldc2_w 193, 3) := by decide +kernel
theorem md_M_wholeBoundary_181 : decode mc_M_wholeBoundary 181 = .ok (.lreturn, 1) := by decide +kernel
theorem md_M_wholeBoundary_182 : decode mc_M_wholeBoundary 182 = .ok (.ldc2_w 195, 3) := by decide +kernel
theorem md_M_wholeBoundary_185 : decode mc_M_wholeBoundary 185 = .ok (.lreturn, 1) := by decide +kernel
theorem md_M_wholeBoundary_186 : decode mc_M_wholeBoundary 186 = .ok (.ldc2_w 173, 3) := by decide +kernel
theorem md_M_wholeBoundary_189 : decode mc_M_wholeBoundary 189 = .ok (.lreturn, 1) := by decide +kernel
theorem md_M_wholeBoundary_190 : decode mc_M_wholeBoundary 190 = .ok (.ldc2_w 197, 3) := by decide +kernel
theorem md_M_wholeBoundary_193 : decode mc_M_wholeBoundary 193 = .ok (.lreturn, 1) := by decide +kernel
theorem md_M_wholeBoundary_194 : decode mc_M_wholeBoundary 194 = .ok (.ldc2_w 199, 3) := by decide +kernel
theorem md_M_wholeBoundary_197 : decode mc_M_wholeBoundary 197 = .ok (.lreturn, 1) := by decide +kernel
abbrev mc_M_boundary : ByteArray := prog_4_method_36_code
def my_M_boundary : MethodName := ⟨"NumberProbeModel", "boundary", "(III)I"⟩
abbrev mw_M_boundary : List Cond := Cond.code my_M_boundary mc_M_boundary 4 (some .int) :: gw_tbl
theorem md_M_boundary_0 : decode mc_M_boundary 0 = .ok (.iload_n 1, 1) := by decide +kernel
theorem md_M_boundary_1 : decode mc_M_boundary 1 = .ok (.iconst 4, 1) := by decide +kernel
theorem md_M_boundary_2 : decode mc_M_boundary 2 = .ok (.invokestatic 167, 3) := by decide +kernel
theorem md_M_boundary_5 : decode mc_M_boundary 5 = .ok (.ifCond .eq 31, 3) := by decide +kernel
theorem md_M_boundary_8 : decode mc_M_boundary 8 = .ok (.iload_n 2, 1) := by decide +kernel
theorem md_M_boundary_9 : decode mc_M_boundary 9 = .ok (.bipush 6, 2) := by decide +kernel
theorem md_M_boundary_11 : decode mc_M_boundary 11 = .ok (.invokestatic 167, 3) := by decide +kernel
theorem md_M_boundary_14 : decode mc_M_boundary 14 = .ok (.ifCond .eq 22, 3) := by decide +kernel
theorem md_M_boundary_17 : decode mc_M_boundary 17 = .ok (.iload_n 3, 1) := by decide +kernel
theorem md_M_boundary_18 : decode mc_M_boundary 18 = .ok (.iload_n 1, 1) := by decide +kernel
theorem md_M_boundary_19 : decode mc_M_boundary 19 = .ok (.iconst 2, 1) := by decide +kernel
theorem md_M_boundary_20 : decode mc_M_boundary 20 = .ok (.if_icmp .ne 8, 3) := by decide +kernel
theorem md_M_boundary_23 : decode mc_M_boundary 23 = .ok (.bipush 15, 2) := by decide +kernel
theorem md_M_boundary_25 : decode mc_M_boundary 25 = .ok (.goto 5, 3) := by decide +kernel
theorem md_M_boundary_28 : decode mc_M_boundary 28 = .ok (.bipush 21, 2) := by decide +kernel
theorem md_M_boundary_30 : decode mc_M_boundary 30 = .ok (.invokestatic 167, 3) := by decide +kernel
theorem md_M_boundary_33 : decode mc_M_boundary 33 = .ok (.ifCond .ne 5, 3) := by decide +kernel
theorem md_M_boundary_36 : decode mc_M_boundary 36 = .ok (.iconst (-1), 1) := by decide +kernel
theorem md_M_boundary_37 : decode mc_M_boundary 37 = .ok (.ireturn, 1) := by decide +kernel
theorem md_M_boundary_38 : decode mc_M_boundary 38 = .ok (.aload_n 0, 1) := by decide +kernel
theorem md_M_boundary_39 : decode mc_M_boundary 39 = .ok (.getfield 7, 3) := by decide +kernel
theorem md_M_boundary_42 : decode mc_M_boundary 42 = .ok (.iload_n 1, 1) := by decide +kernel
theorem md_M_boundary_43 : decode mc_M_boundary 43 = .ok (.bipush 6, 2) := by decide +kernel
theorem md_M_boundary_45 : decode mc_M_boundary 45 = .ok (.imul, 1) := by decide +kernel
theorem md_M_boundary_46 : decode mc_M_boundary 46 = .ok (.iload_n 2, 1) := by decide +kernel
theorem md_M_boundary_47 : decode mc_M_boundary 47 = .ok (.iadd, 1) := by decide +kernel
theorem md_M_boundary_48 : decode mc_M_boundary 48 = .ok (.iload_n 1, 1) := by decide +kernel
theorem md_M_boundary_49 : decode mc_M_boundary 49 = .ok (.iconst 2, 1) := by decide +kernel
theorem md_M_boundary_50 : decode mc_M_boundary 50 = .ok (.if_icmp .ge 11, 3) := by decide +kernel
theorem md_M_boundary_53 : decode mc_M_boundary 53 = .ok (.iload_n 1, 1) := by decide +kernel
theorem md_M_boundary_54 : decode mc_M_boundary 54 = .ok (.iload_n 3, 1) := by decide +kernel
theorem md_M_boundary_55 : decode mc_M_boundary 55 = .ok (.invokestatic 201, 3) := by decide +kernel
theorem md_M_boundary_58 : decode mc_M_boundary 58 = .ok (.goto 8, 3) := by decide +kernel
theorem md_M_boundary_61 : decode mc_M_boundary 61 = .ok (.iload_n 1, 1) := by decide +kernel
theorem md_M_boundary_62 : decode mc_M_boundary 62 = .ok (.iload_n 3, 1) := by decide +kernel
theorem md_M_boundary_63 : decode mc_M_boundary 63 = .ok (.invokestatic 205, 3) := by decide +kernel
theorem md_M_boundary_66 : decode mc_M_boundary 66 = .ok (.lastore, 1) := by decide +kernel
theorem md_M_boundary_67 : decode mc_M_boundary 67 = .ok (.iconst 0, 1) := by decide +kernel
theorem md_M_boundary_68 : decode mc_M_boundary 68 = .ok (.ireturn, 1) := by decide +kernel
abbrev mc_M_bits : ByteArray := prog_4_method_37_code
def my_M_bits : MethodName := ⟨"NumberProbeModel", "bits", "(II)J"⟩
abbrev mw_M_bits : List Cond := Cond.code my_M_bits mc_M_bits 3 (some .long) :: gw_tbl
theorem md_M_bits_0 : decode mc_M_bits 0 = .ok (.iload_n 1, 1) := by decide +kernel
theorem md_M_bits_1 : decode mc_M_bits 1 = .ok (.iconst 4, 1) := by decide +kernel
theorem md_M_bits_2 : decode mc_M_bits 2 = .ok (.invokestatic 167, 3) := by decide +kernel
theorem md_M_bits_5 : decode mc_M_bits 5 = .ok (.ifCond .eq 12, 3) := by decide +kernel
theorem md_M_bits_8 : decode mc_M_bits 8 = .ok (.iload_n 2, 1) := by decide +kernel
theorem md_M_bits_9 : decode mc_M_bits 9 = .ok (.bipush 6, 2) := by decide +kernel
theorem md_M_bits_11 : decode mc_M_bits 11 = .ok (.invokestatic 167, 3) := by decide +kernel
theorem md_M_bits_14 : decode mc_M_bits 14 = .ok (.ifCond .ne 5, 3) := by decide +kernel
theorem md_M_bits_17 : decode mc_M_bits 17 = .ok (.lconst 0, 1) := by decide +kernel
theorem md_M_bits_18 : decode mc_M_bits 18 = .ok (.lreturn, 1) := by decide +kernel
theorem md_M_bits_19 : decode mc_M_bits 19 = .ok (.iload_n 1, 1) := by decide +kernel
theorem md_M_bits_20 : decode mc_M_bits 20 = .ok (.ifCond .ne 14, 3) := by decide +kernel
theorem md_M_bits_23 : decode mc_M_bits 23 = .ok (.aload_n 0, 1) := by decide +kernel
theorem md_M_bits_24 : decode mc_M_bits 24 = .ok (.getfield 7, 3) := by decide +kernel
theorem md_M_bits_27 : decode mc_M_bits 27 = .ok (.iload_n 2, 1) := by decide +kernel
theorem md_M_bits_28 : decode mc_M_bits 28 = .ok (.laload, 1) := by decide +kernel
theorem md_M_bits_29 : decode mc_M_bits 29 = .ok (.l2i, 1) := by decide +kernel
theorem md_M_bits_30 : decode mc_M_bits 30 = .ok (.i2l, 1) := by decide +kernel
theorem md_M_bits_31 : decode mc_M_bits 31 = .ok (.goto 14, 3) := by decide +kernel
theorem md_M_bits_34 : decode mc_M_bits 34 = .ok (.aload_n 0, 1) := by decide +kernel
theorem md_M_bits_35 : decode mc_M_bits 35 = .ok (.getfield 7, 3) := by decide +kernel
theorem md_M_bits_38 : decode mc_M_bits 38 = .ok (.iload_n 1, 1) := by decide +kernel
theorem md_M_bits_39 : decode mc_M_bits 39 = .ok (.bipush 6, 2) := by decide +kernel
theorem md_M_bits_41 : decode mc_M_bits 41 = .ok (.imul, 1) := by decide +kernel
theorem md_M_bits_42 : decode mc_M_bits 42 = .ok (.iload_n 2, 1) := by decide +kernel
theorem md_M_bits_43 : decode mc_M_bits 43 = .ok (.iadd, 1) := by decide +kernel
theorem md_M_bits_44 : decode mc_M_bits 44 = .ok (.laload, 1) := by decide +kernel
theorem md_M_bits_45 : decode mc_M_bits 45 = .ok (.lreturn, 1) := by decide +kernel
abbrev mc_M_operate : ByteArray := prog_4_method_38_code
def my_M_operate : MethodName := ⟨"NumberProbeModel", "operate", "(IIIII)I"⟩
abbrev mw_M_operate : List Cond := Cond.code my_M_operate mc_M_operate 10 (some .int) :: gw_tbl
theorem md_M_operate_0 : decode mc_M_operate 0 = .ok (.iload_n 1, 1) := by decide +kernel
theorem md_M_operate_1 : decode mc_M_operate 1 = .ok (.iconst 4, 1) := by decide +kernel
theorem md_M_operate_2 : decode mc_M_operate 2 = .ok (.invokestatic 167, 3) := by decide +kernel
theorem md_M_operate_5 : decode mc_M_operate 5 = .ok (.ifCond .eq 51, 3) := by decide +kernel
theorem md_M_operate_8 : decode mc_M_operate 8 = .ok (.iload_n 2, 1) := by decide +kernel
theorem md_M_operate_9 : decode mc_M_operate 9 = .ok (.iload_n 1, 1) := by decide +kernel
theorem md_M_operate_10 : decode mc_M_operate 10 = .ok (.iconst 2, 1) := by decide +kernel
theorem md_M_operate_11 : decode mc_M_operate 11 = .ok (.if_icmp .ge 8, 3) := by decide +kernel
theorem md_M_operate_14 : decode mc_M_operate 14 = .ok (.bipush 9, 2) := by decide +kernel
theorem md_M_operate_16 : decode mc_M_operate 16 = .ok (.goto 5, 3) := by decide +kernel
theorem md_M_operate_19 : decode mc_M_operate 19 = .ok (.bipush 15, 2) := by decide +kernel
theorem md_M_operate_21 : decode mc_M_operate 21 = .ok (.invokestatic 167, 3) := by decide +kernel
theorem md_M_operate_24 : decode mc_M_operate 24 = .ok (.ifCond .eq 32, 3) := by decide +kernel
theorem md_M_operate_27 : decode mc_M_operate 27 = .ok (.iload_n 3, 1) := by decide +kernel
theorem md_M_operate_28 : decode mc_M_operate 28 = .ok (.bipush 6, 2) := by decide +kernel
theorem md_M_operate_30 : decode mc_M_operate 30 = .ok (.invokestatic 167, 3) := by decide +kernel
theorem md_M_operate_33 : decode mc_M_operate 33 = .ok (.ifCond .eq 23, 3) := by decide +kernel
theorem md_M_operate_36 : decode mc_M_operate 36 = .ok (.iload 4, 2) := by decide +kernel
theorem md_M_operate_38 : decode mc_M_operate 38 = .ok (.bipush 6, 2) := by decide +kernel
theorem md_M_operate_40 : decode mc_M_operate 40 = .ok (.invokestatic 167, 3) := by decide +kernel
theorem md_M_operate_43 : decode mc_M_operate 43 = .ok (.ifCond .eq 13, 3) := by decide +kernel
theorem md_M_operate_46 : decode mc_M_operate 46 = .ok (.iload 5, 2) := by decide +kernel
theorem md_M_operate_48 : decode mc_M_operate 48 = .ok (.bipush 6, 2) := by decide +kernel
theorem md_M_operate_50 : decode mc_M_operate 50 = .ok (.invokestatic 167, 3) := by decide +kernel
theorem md_M_operate_53 : decode mc_M_operate 53 = .ok (.ifCond .ne 5, 3) := by decide +kernel
theorem md_M_operate_56 : decode mc_M_operate 56 = .ok (.iconst (-1), 1) := by decide +kernel
theorem md_M_operate_57 : decode mc_M_operate 57 = .ok (.ireturn, 1) := by decide +kernel
theorem md_M_operate_58 : decode mc_M_operate 58 = .ok (.aload_n 0, 1) := by decide +kernel
theorem md_M_operate_59 : decode mc_M_operate 59 = .ok (.getfield 7, 3) := by decide +kernel
theorem md_M_operate_62 : decode mc_M_operate 62 = .ok (.iload_n 1, 1) := by decide +kernel
theorem md_M_operate_63 : decode mc_M_operate 63 = .ok (.bipush 6, 2) := by decide +kernel
theorem md_M_operate_65 : decode mc_M_operate 65 = .ok (.imul, 1) := by decide +kernel
theorem md_M_operate_66 : decode mc_M_operate 66 = .ok (.iload_n 3, 1) := by decide +kernel
theorem md_M_operate_67 : decode mc_M_operate 67 = .ok (.iadd, 1) := by decide +kernel
theorem md_M_operate_68 : decode mc_M_operate 68 = .ok (.laload, 1) := by decide +kernel
theorem md_M_operate_69 : decode mc_M_operate 69 = .ok (.lstore 6, 2) := by decide +kernel
theorem md_M_operate_71 : decode mc_M_operate 71 = .ok (.aload_n 0, 1) := by decide +kernel
theorem md_M_operate_72 : decode mc_M_operate 72 = .ok (.getfield 7, 3) := by decide +kernel
theorem md_M_operate_75 : decode mc_M_operate 75 = .ok (.iload_n 1, 1) := by decide +kernel
theorem md_M_operate_76 : decode mc_M_operate 76 = .ok (.bipush 6, 2) := by decide +kernel
theorem md_M_operate_78 : decode mc_M_operate 78 = .ok (.imul, 1) := by decide +kernel
theorem md_M_operate_79 : decode mc_M_operate 79 = .ok (.iload 4, 2) := by decide +kernel
theorem md_M_operate_81 : decode mc_M_operate 81 = .ok (.iadd, 1) := by decide +kernel
theorem md_M_operate_82 : decode mc_M_operate 82 = .ok (.laload, 1) := by decide +kernel
theorem md_M_operate_83 : decode mc_M_operate 83 = .ok (.lstore 8, 2) := by decide +kernel
theorem md_M_operate_85 : decode mc_M_operate 85 = .ok (.iload_n 1, 1) := by decide +kernel
theorem md_M_operate_86 : decode mc_M_operate 86 = .ok (.iconst 1, 1) := by decide +kernel
theorem md_M_operate_87 : decode mc_M_operate 87 = .ok (.if_icmp .le 23, 3) := by decide +kernel
theorem md_M_operate_90 : decode mc_M_operate 90 = .ok (.iload_n 2, 1) := by decide +kernel
theorem md_M_operate_91 : decode mc_M_operate 91 = .ok (.iconst 3, 1) := by decide +kernel
theorem md_M_operate_92 : decode mc_M_operate 92 = .ok (.if_icmp .eq 8, 3) := by decide +kernel
theorem md_M_operate_95 : decode mc_M_operate 95 = .ok (.iload_n 2, 1) := by decide +kernel
theorem md_M_operate_96 : decode mc_M_operate 96 = .ok (.iconst 4, 1) := by decide +kernel
theorem md_M_operate_97 : decode mc_M_operate 97 = .ok (.if_icmp .ne 13, 3) := by decide +kernel
theorem md_M_operate_100 : decode mc_M_operate 100 = .ok (.lload 8, 2) := by decide +kernel
theorem md_M_operate_102 : decode mc_M_operate 102 = .ok (.lconst 0, 1) := by decide +kernel
theorem md_M_operate_103 : decode mc_M_operate 103 = .ok (.lcmp, 1) := by decide +kernel
theorem md_M_operate_104 : decode mc_M_operate 104 = .ok (.ifCond .ne 6, 3) := by decide +kernel
theorem md_M_operate_107 : decode mc_M_operate 107 = .ok (.bipush (-2), 2) := by decide +kernel
theorem md_M_operate_109 : decode mc_M_operate 109 = .ok (.ireturn, 1) := by decide +kernel
theorem md_M_operate_110 : decode mc_M_operate 110 = .ok (.aload_n 0, 1) := by decide +kernel
theorem md_M_operate_111 : decode mc_M_operate 111 = .ok (.getfield 7, 3) := by decide +kernel
theorem md_M_operate_114 : decode mc_M_operate 114 = .ok (.iload_n 1, 1) := by decide +kernel
theorem md_M_operate_115 : decode mc_M_operate 115 = .ok (.bipush 6, 2) := by decide +kernel
theorem md_M_operate_117 : decode mc_M_operate 117 = .ok (.imul, 1) := by decide +kernel
theorem md_M_operate_118 : decode mc_M_operate 118 = .ok (.iload 5, 2) := by decide +kernel
theorem md_M_operate_120 : decode mc_M_operate 120 = .ok (.iadd, 1) := by decide +kernel
theorem md_M_operate_121 : decode mc_M_operate 121 = .ok (.iload_n 1, 1) := by decide +kernel
theorem md_M_operate_122 : decode mc_M_operate 122 = .ok (.iconst 2, 1) := by decide +kernel
theorem md_M_operate_123 : decode mc_M_operate 123 = .ok (.if_icmp .ge 16, 3) := by decide +kernel
theorem md_M_operate_126 : decode mc_M_operate 126 = .ok (.aload_n 0, 1) := by decide +kernel
theorem md_M_operate_127 : decode mc_M_operate 127 = .ok (.iload_n 1, 1) := by decide +kernel
theorem md_M_operate_128 : decode mc_M_operate 128 = .ok (.iload_n 2, 1) := by decide +kernel
theorem md_M_operate_129 : decode mc_M_operate 129 = .ok (.lload 6, 2) := by decide +kernel
theorem md_M_operate_131 : decode mc_M_operate 131 = .ok (.lload 8, 2) := by decide +kernel
theorem md_M_operate_133 : decode mc_M_operate 133 = .ok (.invokevirtual 208, 3) := by decide +kernel
theorem md_M_operate_136 : decode mc_M_operate 136 = .ok (.goto 16, 3) := by decide +kernel
theorem md_M_operate_139 : decode mc_M_operate 139 = .ok (.iload_n 1, 1) := by decide +kernel
theorem md_M_operate_140 : decode mc_M_operate 140 = .ok (.iload_n 1, 1) := by decide +kernel
theorem md_M_operate_141 : decode mc_M_operate 141 = .ok (.iload_n 2, 1) := by decide +kernel
theorem md_M_operate_142 : decode mc_M_operate 142 = .ok (.lload 6, 2) := by decide +kernel
theorem md_M_operate_144 : decode mc_M_operate 144 = .ok (.lload 8, 2) := by decide +kernel
theorem md_M_operate_146 : decode mc_M_operate 146 = .ok (.invokestatic 212, 3) := by decide +kernel
theorem md_M_operate_149 : decode mc_M_operate 149 = .ok (.invokestatic 154, 3) := by decide +kernel
theorem md_M_operate_152 : decode mc_M_operate 152 = .ok (.lastore, 1) := by decide +kernel
theorem md_M_operate_153 : decode mc_M_operate 153 = .ok (.iconst 0, 1) := by decide +kernel
theorem md_M_operate_154 : decode mc_M_operate 154 = .ok (.ireturn, 1) := by decide +kernel
abbrev mc_M_rank : ByteArray := prog_4_method_39_code
def my_M_rank : MethodName := ⟨"NumberProbeModel", "rank", "(I)I"⟩
abbrev mw_M_rank : List Cond := Cond.code my_M_rank mc_M_rank 1 (some .int) :: gw_tbl
theorem md_M_rank_0 : decode mc_M_rank 0 = .ok (.iload_n 0, 1) := by decide +kernel
theorem md_M_rank_1 : decode mc_M_rank 1 = .ok (.iconst 2, 1) := by decide +kernel
theorem md_M_rank_2 : decode mc_M_rank 2 = .ok (.iadd, 1) := by decide +kernel
theorem md_M_rank_3 : decode mc_M_rank 3 = .ok (.iconst 4, 1) := by decide +kernel
theorem md_M_rank_4 : decode mc_M_rank 4 = .ok (.irem, 1) := by decide +kernel
theorem md_M_rank_5 : decode mc_M_rank 5 = .ok (.ireturn, 1) := by decide +kernel
abbrev mc_M_assign : ByteArray := prog_4_method_40_code
def my_M_assign : MethodName := ⟨"NumberProbeModel", "assign", "(IIIII)I"⟩
abbrev mw_M_assign : List Cond := Cond.code my_M_assign mc_M_assign 13 (some .int) :: gw_tbl
theorem md_M_assign_0 : decode mc_M_assign 0 = .ok (.iload_n 1, 1) := by decide +kernel
theorem md_M_assign_1 : decode mc_M_assign 1 = .ok (.iconst 4, 1) := by decide +kernel
theorem md_M_assign_2 : decode mc_M_assign 2 = .ok (.invokestatic 167, 3) := by decide +kernel
theorem md_M_assign_5 : decode mc_M_assign 5 = .ok (.ifCond .eq 39, 3) := by decide +kernel
theorem md_M_assign_8 : decode mc_M_assign 8 = .ok (.iload_n 2, 1) := by decide +kernel
theorem md_M_assign_9 : decode mc_M_assign 9 = .ok (.bipush 6, 2) := by decide +kernel
theorem md_M_assign_11 : decode mc_M_assign 11 = .ok (.invokestatic 167, 3) := by decide +kernel
theorem md_M_assign_14 : decode mc_M_assign 14 = .ok (.ifCond .eq 30, 3) := by decide +kernel
theorem md_M_assign_17 : decode mc_M_assign 17 = .ok (.iload_n 3, 1) := by decide +kernel
theorem md_M_assign_18 : decode mc_M_assign 18 = .ok (.iconst 4, 1) := by decide +kernel
theorem md_M_assign_19 : decode mc_M_assign 19 = .ok (.invokestatic 167, 3) := by decide +kernel
theorem md_M_assign_22 : decode mc_M_assign 22 = .ok (.ifCond .eq 22, 3) := by decide +kernel
theorem md_M_assign_25 : decode mc_M_assign 25 = .ok (.iload 4, 2) := by decide +kernel
theorem md_M_assign_27 : decode mc_M_assign 27 = .ok (.iconst 4, 1) := by decide +kernel
theorem md_M_assign_28 : decode mc_M_assign 28 = .ok (.invokestatic 167, 3) := by decide +kernel
theorem md_M_assign_31 : decode mc_M_assign 31 = .ok (.ifCond .eq 13, 3) := by decide +kernel
theorem md_M_assign_34 : decode mc_M_assign 34 = .ok (.iload 5, 2) := by decide +kernel
theorem md_M_assign_36 : decode mc_M_assign 36 = .ok (.bipush 6, 2) := by decide +kernel
theorem md_M_assign_38 : decode mc_M_assign 38 = .ok (.invokestatic 167, 3) := by decide +kernel
theorem md_M_assign_41 : decode mc_M_assign 41 = .ok (.ifCond .ne 5, 3) := by decide +kernel
theorem md_M_assign_44 : decode mc_M_assign 44 = .ok (.iconst (-1), 1) := by decide +kernel
theorem md_M_assign_45 : decode mc_M_assign 45 = .ok (.ireturn, 1) := by decide +kernel
theorem md_M_assign_46 : decode mc_M_assign 46 = .ok (.iload_n 1, 1) := by decide +kernel
theorem md_M_assign_47 : decode mc_M_assign 47 = .ok (.invokestatic 215, 3) := by decide +kernel
theorem md_M_assign_50 : decode mc_M_assign 50 = .ok (.iload 4, 2) := by decide +kernel
theorem md_M_assign_52 : decode mc_M_assign 52 = .ok (.invokestatic 215, 3) := by decide +kernel
theorem md_M_assign_55 : decode mc_M_assign 55 = .ok (.if_icmp .le 7, 3) := by decide +kernel
theorem md_M_assign_58 : decode mc_M_assign 58 = .ok (.iload_n 1, 1) := by decide +kernel
theorem md_M_assign_59 : decode mc_M_assign 59 = .ok (.goto 5, 3) := by decide +kernel
theorem md_M_assign_62 : decode mc_M_assign 62 = .ok (.iload 4, 2) := by decide +kernel
theorem md_M_assign_64 : decode mc_M_assign 64 = .ok (.istore 6, 2) := by decide +kernel
theorem md_M_assign_66 : decode mc_M_assign 66 = .ok (.aload_n 0, 1) := by decide +kernel
theorem md_M_assign_67 : decode mc_M_assign 67 = .ok (.iload_n 1, 1) := by decide +kernel
theorem md_M_assign_68 : decode mc_M_assign 68 = .ok (.aload_n 0, 1) := by decide +kernel
theorem md_M_assign_69 : decode mc_M_assign 69 = .ok (.getfield 7, 3) := by decide +kernel
theorem md_M_assign_72 : decode mc_M_assign 72 = .ok (.iload_n 1, 1) := by decide +kernel
theorem md_M_assign_73 : decode mc_M_assign 73 = .ok (.bipush 6, 2) := by decide +kernel
theorem md_M_assign_75 : decode mc_M_assign 75 = .ok (.imul, 1) := by decide +kernel
theorem md_M_assign_76 : decode mc_M_assign 76 = .ok (.iload_n 2, 1) := by decide +kernel
theorem md_M_assign_77 : decode mc_M_assign 77 = .ok (.iadd, 1) := by decide +kernel
theorem md_M_assign_78 : decode mc_M_assign 78 = .ok (.laload, 1) := by decide +kernel
theorem md_M_assign_79 : decode mc_M_assign 79 = .ok (.iload 6, 2) := by decide +kernel
theorem md_M_assign_81 : decode mc_M_assign 81 = .ok (.invokevirtual 218, 3) := by decide +kernel
theorem md_M_assign_84 : decode mc_M_assign 84 = .ok (.lstore 7, 2) := by decide +kernel
theorem md_M_assign_86 : decode mc_M_assign 86 = .ok (.aload_n 0, 1) := by decide +kernel
theorem md_M_assign_87 : decode mc_M_assign 87 = .ok (.iload 4, 2) := by decide +kernel
theorem md_M_assign_89 : decode mc_M_assign 89 = .ok (.aload_n 0, 1) := by decide +kernel
theorem md_M_assign_90 : decode mc_M_assign 90 = .ok (.getfield 7, 3) := by decide +kernel
theorem md_M_assign_93 : decode mc_M_assign 93 = .ok (.iload 4, 2) := by decide +kernel
theorem md_M_assign_95 : decode mc_M_assign 95 = .ok (.bipush 6, 2) := by decide +kernel
theorem md_M_assign_97 : decode mc_M_assign 97 = .ok (.imul, 1) := by decide +kernel
theorem md_M_assign_98 : decode mc_M_assign 98 = .ok (.iload 5, 2) := by decide +kernel
theorem md_M_assign_100 : decode mc_M_assign 100 = .ok (.iadd, 1) := by decide +kernel
theorem md_M_assign_101 : decode mc_M_assign 101 = .ok (.laload, 1) := by decide +kernel
theorem md_M_assign_102 : decode mc_M_assign 102 = .ok (.iload 6, 2) := by decide +kernel
theorem md_M_assign_104 : decode mc_M_assign 104 = .ok (.invokevirtual 218, 3) := by decide +kernel
theorem md_M_assign_107 : decode mc_M_assign 107 = .ok (.lstore 9, 2) := by decide +kernel
theorem md_M_assign_109 : decode mc_M_assign 109 = .ok (.iload 6, 2) := by decide +kernel
theorem md_M_assign_111 : decode mc_M_assign 111 = .ok (.iconst 1, 1) := by decide +kernel
theorem md_M_assign_112 : decode mc_M_assign 112 = .ok (.if_icmp .le 18, 3) := by decide +kernel
theorem md_M_assign_115 : decode mc_M_assign 115 = .ok (.iload_n 3, 1) := by decide +kernel
theorem md_M_assign_116 : decode mc_M_assign 116 = .ok (.iconst 3, 1) := by decide +kernel
theorem md_M_assign_117 : decode mc_M_assign 117 = .ok (.if_icmp .ne 13, 3) := by decide +kernel
theorem md_M_assign_120 : decode mc_M_assign 120 = .ok (.lload 9, 2) := by decide +kernel
theorem md_M_assign_122 : decode mc_M_assign 122 = .ok (.lconst 0, 1) := by decide +kernel
theorem md_M_assign_123 : decode mc_M_assign 123 = .ok (.lcmp, 1) := by decide +kernel
theorem md_M_assign_124 : decode mc_M_assign 124 = .ok (.ifCond .ne 6, 3) := by decide +kernel
theorem md_M_assign_127 : decode mc_M_assign 127 = .ok (.bipush (-2), 2) := by decide +kernel
theorem md_M_assign_129 : decode mc_M_assign 129 = .ok (.ireturn, 1) := by decide +kernel
theorem md_M_assign_130 : decode mc_M_assign 130 = .ok (.iload 6, 2) := by decide +kernel
theorem md_M_assign_132 : decode mc_M_assign 132 = .ok (.iconst 2, 1) := by decide +kernel
theorem md_M_assign_133 : decode mc_M_assign 133 = .ok (.if_icmp .ge 17, 3) := by decide +kernel
theorem md_M_assign_136 : decode mc_M_assign 136 = .ok (.aload_n 0, 1) := by decide +kernel
theorem md_M_assign_137 : decode mc_M_assign 137 = .ok (.iload 6, 2) := by decide +kernel
theorem md_M_assign_139 : decode mc_M_assign 139 = .ok (.iload_n 3, 1) := by decide +kernel
theorem md_M_assign_140 : decode mc_M_assign 140 = .ok (.lload 7, 2) := by decide +kernel
theorem md_M_assign_142 : decode mc_M_assign 142 = .ok (.lload 9, 2) := by decide +kernel
theorem md_M_assign_144 : decode mc_M_assign 144 = .ok (.invokevirtual 208, 3) := by decide +kernel
theorem md_M_assign_147 : decode mc_M_assign 147 = .ok (.goto 18, 3) := by decide +kernel
theorem md_M_assign_150 : decode mc_M_assign 150 = .ok (.iload 6, 2) := by decide +kernel
theorem md_M_assign_152 : decode mc_M_assign 152 = .ok (.iload 6, 2) := by decide +kernel
theorem md_M_assign_154 : decode mc_M_assign 154 = .ok (.iload_n 3, 1) := by decide +kernel
theorem md_M_assign_155 : decode mc_M_assign 155 = .ok (.lload 7, 2) := by decide +kernel
theorem md_M_assign_157 : decode mc_M_assign 157 = .ok (.lload 9, 2) := by decide +kernel
theorem md_M_assign_159 : decode mc_M_assign 159 = .ok (.invokestatic 212, 3) := by decide +kernel
theorem md_M_assign_162 : decode mc_M_assign 162 = .ok (.invokestatic 154, 3) := by decide +kernel
theorem md_M_assign_165 : decode mc_M_assign 165 = .ok (.lstore 11, 2) := by decide +kernel
theorem md_M_assign_167 : decode mc_M_assign 167 = .ok (.aload_n 0, 1) := by decide +kernel
theorem md_M_assign_168 : decode mc_M_assign 168 = .ok (.getfield 7, 3) := by decide +kernel
theorem md_M_assign_171 : decode mc_M_assign 171 = .ok (.iload_n 1, 1) := by decide +kernel
theorem md_M_assign_172 : decode mc_M_assign 172 = .ok (.bipush 6, 2) := by decide +kernel
theorem md_M_assign_174 : decode mc_M_assign 174 = .ok (.imul, 1) := by decide +kernel
theorem md_M_assign_175 : decode mc_M_assign 175 = .ok (.iload_n 2, 1) := by decide +kernel
theorem md_M_assign_176 : decode mc_M_assign 176 = .ok (.iadd, 1) := by decide +kernel
theorem md_M_assign_177 : decode mc_M_assign 177 = .ok (.aload_n 0, 1) := by decide +kernel
theorem md_M_assign_178 : decode mc_M_assign 178 = .ok (.iload 6, 2) := by decide +kernel
theorem md_M_assign_180 : decode mc_M_assign 180 = .ok (.lload 11, 2) := by decide +kernel
theorem md_M_assign_182 : decode mc_M_assign 182 = .ok (.iload_n 1, 1) := by decide +kernel
theorem md_M_assign_183 : decode mc_M_assign 183 = .ok (.invokevirtual 218, 3) := by decide +kernel
theorem md_M_assign_186 : decode mc_M_assign 186 = .ok (.lastore, 1) := by decide +kernel
theorem md_M_assign_187 : decode mc_M_assign 187 = .ok (.iconst 0, 1) := by decide +kernel
theorem md_M_assign_188 : decode mc_M_assign 188 = .ok (.ireturn, 1) := by decide +kernel
abbrev mc_M_convert : ByteArray := prog_4_method_41_code
def my_M_convert : MethodName := ⟨"NumberProbeModel", "convert", "(IIII)I"⟩
abbrev mw_M_convert : List Cond := Cond.code my_M_convert mc_M_convert 5 (some .int) :: gw_tbl
theorem md_M_convert_0 : decode mc_M_convert 0 = .ok (.iload_n 1, 1) := by decide +kernel
theorem md_M_convert_1 : decode mc_M_convert 1 = .ok (.iconst 4, 1) := by decide +kernel
theorem md_M_convert_2 : decode mc_M_convert 2 = .ok (.invokestatic 167, 3) := by decide +kernel
theorem md_M_convert_5 : decode mc_M_convert 5 = .ok (.ifCond .eq 30, 3) := by decide +kernel
theorem md_M_convert_8 : decode mc_M_convert 8 = .ok (.iload_n 2, 1) := by decide +kernel
theorem md_M_convert_9 : decode mc_M_convert 9 = .ok (.bipush 6, 2) := by decide +kernel
theorem md_M_convert_11 : decode mc_M_convert 11 = .ok (.invokestatic 167, 3) := by decide +kernel
theorem md_M_convert_14 : decode mc_M_convert 14 = .ok (.ifCond .eq 21, 3) := by decide +kernel
theorem md_M_convert_17 : decode mc_M_convert 17 = .ok (.iload_n 3, 1) := by decide +kernel
theorem md_M_convert_18 : decode mc_M_convert 18 = .ok (.iconst 4, 1) := by decide +kernel
theorem md_M_convert_19 : decode mc_M_convert 19 = .ok (.invokestatic 167, 3) := by decide +kernel
theorem md_M_convert_22 : decode mc_M_convert 22 = .ok (.ifCond .eq 13, 3) := by decide +kernel
theorem md_M_convert_25 : decode mc_M_convert 25 = .ok (.iload 4, 2) := by decide +kernel
theorem md_M_convert_27 : decode mc_M_convert 27 = .ok (.bipush 6, 2) := by decide +kernel
theorem md_M_convert_29 : decode mc_M_convert 29 = .ok (.invokestatic 167, 3) := by decide +kernel
theorem md_M_convert_32 : decode mc_M_convert 32 = .ok (.ifCond .ne 5, 3) := by decide +kernel
theorem md_M_convert_35 : decode mc_M_convert 35 = .ok (.iconst (-1), 1) := by decide +kernel
theorem md_M_convert_36 : decode mc_M_convert 36 = .ok (.ireturn, 1) := by decide +kernel
theorem md_M_convert_37 : decode mc_M_convert 37 = .ok (.aload_n 0, 1) := by decide +kernel
theorem md_M_convert_38 : decode mc_M_convert 38 = .ok (.getfield 7, 3) := by decide +kernel
theorem md_M_convert_41 : decode mc_M_convert 41 = .ok (.iload_n 3, 1) := by decide +kernel
theorem md_M_convert_42 : decode mc_M_convert 42 = .ok (.bipush 6, 2) := by decide +kernel
theorem md_M_convert_44 : decode mc_M_convert 44 = .ok (.imul, 1) := by decide +kernel
theorem md_M_convert_45 : decode mc_M_convert 45 = .ok (.iload 4, 2) := by decide +kernel
theorem md_M_convert_47 : decode mc_M_convert 47 = .ok (.iadd, 1) := by decide +kernel
theorem md_M_convert_48 : decode mc_M_convert 48 = .ok (.aload_n 0, 1) := by decide +kernel
theorem md_M_convert_49 : decode mc_M_convert 49 = .ok (.iload_n 1, 1) := by decide +kernel
theorem md_M_convert_50 : decode mc_M_convert 50 = .ok (.aload_n 0, 1) := by decide +kernel
theorem md_M_convert_51 : decode mc_M_convert 51 = .ok (.getfield 7, 3) := by decide +kernel
theorem md_M_convert_54 : decode mc_M_convert 54 = .ok (.iload_n 1, 1) := by decide +kernel
theorem md_M_convert_55 : decode mc_M_convert 55 = .ok (.bipush 6, 2) := by decide +kernel
theorem md_M_convert_57 : decode mc_M_convert 57 = .ok (.imul, 1) := by decide +kernel
theorem md_M_convert_58 : decode mc_M_convert 58 = .ok (.iload_n 2, 1) := by decide +kernel
theorem md_M_convert_59 : decode mc_M_convert 59 = .ok (.iadd, 1) := by decide +kernel
theorem md_M_convert_60 : decode mc_M_convert 60 = .ok (.laload, 1) := by decide +kernel
theorem md_M_convert_61 : decode mc_M_convert 61 = .ok (.iload_n 3, 1) := by decide +kernel
theorem md_M_convert_62 : decode mc_M_convert 62 = .ok (.invokevirtual 218, 3) := by decide +kernel
theorem md_M_convert_65 : decode mc_M_convert 65 = .ok (.lastore, 1) := by decide +kernel
theorem md_M_convert_66 : decode mc_M_convert 66 = .ok (.iconst 0, 1) := by decide +kernel
theorem md_M_convert_67 : decode mc_M_convert 67 = .ok (.ireturn, 1) := by decide +kernel
abbrev mc_M_narrow : ByteArray := prog_4_method_42_code
def my_M_narrow : MethodName := ⟨"NumberProbeModel", "narrow", "(III)I"⟩
abbrev mw_M_narrow : List Cond := Cond.code my_M_narrow mc_M_narrow 5 (some .int) :: gw_tbl
theorem md_M_narrow_0 : decode mc_M_narrow 0 = .ok (.iload_n 1, 1) := by decide +kernel
theorem md_M_narrow_1 : decode mc_M_narrow 1 = .ok (.iconst 4, 1) := by decide +kernel
theorem md_M_narrow_2 : decode mc_M_narrow 2 = .ok (.invokestatic 167, 3) := by decide +kernel
theorem md_M_narrow_5 : decode mc_M_narrow 5 = .ok (.ifCond .eq 20, 3) := by decide +kernel
theorem md_M_narrow_8 : decode mc_M_narrow 8 = .ok (.iload_n 2, 1) := by decide +kernel
theorem md_M_narrow_9 : decode mc_M_narrow 9 = .ok (.bipush 6, 2) := by decide +kernel
theorem md_M_narrow_11 : decode mc_M_narrow 11 = .ok (.invokestatic 167, 3) := by decide +kernel
theorem md_M_narrow_14 : decode mc_M_narrow 14 = .ok (.ifCond .eq 11, 3) := by decide +kernel
theorem md_M_narrow_17 : decode mc_M_narrow 17 = .ok (.iload_n 3, 1) := by decide +kernel
theorem md_M_narrow_18 : decode mc_M_narrow 18 = .ok (.iconst 4, 1) := by decide +kernel
theorem md_M_narrow_19 : decode mc_M_narrow 19 = .ok (.invokestatic 167, 3) := by decide +kernel
theorem md_M_narrow_22 : decode mc_M_narrow 22 = .ok (.ifCond .ne 5, 3) := by decide +kernel
theorem md_M_narrow_25 : decode mc_M_narrow 25 = .ok (.iconst 0, 1) := by decide +kernel
theorem md_M_narrow_26 : decode mc_M_narrow 26 = .ok (.ireturn, 1) := by decide +kernel
theorem md_M_narrow_27 : decode mc_M_narrow 27 = .ok (.aload_n 0, 1) := by decide +kernel
theorem md_M_narrow_28 : decode mc_M_narrow 28 = .ok (.iload_n 1, 1) := by decide +kernel
theorem md_M_narrow_29 : decode mc_M_narrow 29 = .ok (.aload_n 0, 1) := by decide +kernel
theorem md_M_narrow_30 : decode mc_M_narrow 30 = .ok (.getfield 7, 3) := by decide +kernel
theorem md_M_narrow_33 : decode mc_M_narrow 33 = .ok (.iload_n 1, 1) := by decide +kernel
theorem md_M_narrow_34 : decode mc_M_narrow 34 = .ok (.bipush 6, 2) := by decide +kernel
theorem md_M_narrow_36 : decode mc_M_narrow 36 = .ok (.imul, 1) := by decide +kernel
theorem md_M_narrow_37 : decode mc_M_narrow 37 = .ok (.iload_n 2, 1) := by decide +kernel
theorem md_M_narrow_38 : decode mc_M_narrow 38 = .ok (.iadd, 1) := by decide +kernel
theorem md_M_narrow_39 : decode mc_M_narrow 39 = .ok (.laload, 1) := by decide +kernel
theorem md_M_narrow_40 : decode mc_M_narrow 40 = .ok (.iconst 2, 1) := by decide +kernel
theorem md_M_narrow_41 : decode mc_M_narrow 41 = .ok (.invokevirtual 218, 3) := by decide +kernel
theorem md_M_narrow_44 : decode mc_M_narrow 44 = .ok (.l2i, 1) := by decide +kernel
theorem md_M_narrow_45 : decode mc_M_narrow 45 = .ok (.istore 4, 2) := by decide +kernel
theorem md_M_narrow_47 : decode mc_M_narrow 47 = .ok (.iload_n 3, 1) := by decide +kernel
theorem md_M_narrow_48 : decode mc_M_narrow 48 = .ok (.ifCond .ne 9, 3) := by decide +kernel
theorem md_M_narrow_51 : decode mc_M_narrow 51 = .ok (.iload 4, 2) := by decide +kernel
theorem md_M_narrow_53 : decode mc_M_narrow 53 = .ok (.i2b, 1) := by decide +kernel
theorem md_M_narrow_54 : decode mc_M_narrow 54 = .ok (.goto 27, 3) := by decide +kernel
theorem md_M_narrow_57 : decode mc_M_narrow 57 = .ok (.iload_n 3, 1) := by decide +kernel
theorem md_M_narrow_58 : decode mc_M_narrow 58 = .ok (.iconst 1, 1) := by decide +kernel
theorem md_M_narrow_59 : decode mc_M_narrow 59 = .ok (.if_icmp .ne 9, 3) := by decide +kernel
theorem md_M_narrow_62 : decode mc_M_narrow 62 = .ok (.iload 4, 2) := by decide +kernel
theorem md_M_narrow_64 : decode mc_M_narrow 64 = .ok (.i2c, 1) := by decide +kernel
theorem md_M_narrow_65 : decode mc_M_narrow 65 = .ok (.goto 16, 3) := by decide +kernel
theorem md_M_narrow_68 : decode mc_M_narrow 68 = .ok (.iload_n 3, 1) := by decide +kernel
theorem md_M_narrow_69 : decode mc_M_narrow 69 = .ok (.iconst 2, 1) := by decide +kernel
theorem md_M_narrow_70 : decode mc_M_narrow 70 = .ok (.if_icmp .ne 9, 3) := by decide +kernel
theorem md_M_narrow_73 : decode mc_M_narrow 73 = .ok (.iload 4, 2) := by decide +kernel
theorem md_M_narrow_75 : decode mc_M_narrow 75 = .ok (.i2s, 1) := by decide +kernel
theorem md_M_narrow_76 : decode mc_M_narrow 76 = .ok (.goto 5, 3) := by decide +kernel
theorem md_M_narrow_79 : decode mc_M_narrow 79 = .ok (.iload 4, 2) := by decide +kernel
theorem md_M_narrow_81 : decode mc_M_narrow 81 = .ok (.ireturn, 1) := by decide +kernel
abbrev mc_M_placeOf : ByteArray := prog_4_method_43_code
def my_M_placeOf : MethodName := ⟨"NumberProbeModel", "placeOf", "(II)J"⟩
abbrev mw_M_placeOf : List Cond := Cond.code my_M_placeOf mc_M_placeOf 3 (some .long) :: gw_tbl
theorem md_M_placeOf_0 : decode mc_M_placeOf 0 = .ok (.iload_n 1, 1) := by decide +kernel
theorem md_M_placeOf_1 : decode mc_M_placeOf 1 = .ok (.iconst 2, 1) := by decide +kernel
theorem md_M_placeOf_2 : decode mc_M_placeOf 2 = .ok (.if_icmp .ge 21, 3) := by decide +kernel
theorem md_M_placeOf_5 : decode mc_M_placeOf 5 = .ok (.iload_n 1, 1) := by decide +kernel
theorem md_M_placeOf_6 : decode mc_M_placeOf 6 = .ok (.aload_n 0, 1) := by decide +kernel
theorem md_M_placeOf_7 : decode mc_M_placeOf 7 = .ok (.getfield 7, 3) := by decide +kernel
theorem md_M_placeOf_10 : decode mc_M_placeOf 10 = .ok (.iload_n 1, 1) := by decide +kernel
theorem md_M_placeOf_11 : decode mc_M_placeOf 11 = .ok (.bipush 6, 2) := by decide +kernel
theorem md_M_placeOf_13 : decode mc_M_placeOf 13 = .ok (.imul, 1) := by decide +kernel
theorem md_M_placeOf_14 : decode mc_M_placeOf 14 = .ok (.iload_n 2, 1) := by decide +kernel
theorem md_M_placeOf_15 : decode mc_M_placeOf 15 = .ok (.iadd, 1) := by decide +kernel
theorem md_M_placeOf_16 : decode mc_M_placeOf 16 = .ok (.laload, 1) := by decide +kernel
theorem md_M_placeOf_17 : decode mc_M_placeOf 17 = .ok (.invokestatic 143, 3) := by decide +kernel
theorem md_M_placeOf_20 : decode mc_M_placeOf 20 = .ok (.goto 14, 3) := by decide +kernel
theorem md_M_placeOf_23 : decode mc_M_placeOf 23 = .ok (.aload_n 0, 1) := by decide +kernel
theorem md_M_placeOf_24 : decode mc_M_placeOf 24 = .ok (.getfield 7, 3) := by decide +kernel
theorem md_M_placeOf_27 : decode mc_M_placeOf 27 = .ok (.iload_n 1, 1) := by decide +kernel
theorem md_M_placeOf_28 : decode mc_M_placeOf 28 = .ok (.bipush 6, 2) := by decide +kernel
theorem md_M_placeOf_30 : decode mc_M_placeOf 30 = .ok (.imul, 1) := by decide +kernel
theorem md_M_placeOf_31 : decode mc_M_placeOf 31 = .ok (.iload_n 2, 1) := by decide +kernel
theorem md_M_placeOf_32 : decode mc_M_placeOf 32 = .ok (.iadd, 1) := by decide +kernel
theorem md_M_placeOf_33 : decode mc_M_placeOf 33 = .ok (.laload, 1) := by decide +kernel
theorem md_M_placeOf_34 : decode mc_M_placeOf 34 = .ok (.lreturn, 1) := by decide +kernel
abbrev mc_M_compare : ByteArray := prog_4_method_44_code
def my_M_compare : MethodName := ⟨"NumberProbeModel", "compare", "(III)I"⟩
abbrev mw_M_compare : List Cond := Cond.code my_M_compare mc_M_compare 8 (some .int) :: gw_tbl
theorem md_M_compare_0 : decode mc_M_compare 0 = .ok (.iload_n 1, 1) := by decide +kernel
theorem md_M_compare_1 : decode mc_M_compare 1 = .ok (.iconst 4, 1) := by decide +kernel
theorem md_M_compare_2 : decode mc_M_compare 2 = .ok (.invokestatic 167, 3) := by decide +kernel
theorem md_M_compare_5 : decode mc_M_compare 5 = .ok (.ifCond .eq 21, 3) := by decide +kernel
theorem md_M_compare_8 : decode mc_M_compare 8 = .ok (.iload_n 2, 1) := by decide +kernel
theorem md_M_compare_9 : decode mc_M_compare 9 = .ok (.bipush 6, 2) := by decide +kernel
theorem md_M_compare_11 : decode mc_M_compare 11 = .ok (.invokestatic 167, 3) := by decide +kernel
theorem md_M_compare_14 : decode mc_M_compare 14 = .ok (.ifCond .eq 12, 3) := by decide +kernel
theorem md_M_compare_17 : decode mc_M_compare 17 = .ok (.iload_n 3, 1) := by decide +kernel
theorem md_M_compare_18 : decode mc_M_compare 18 = .ok (.bipush 6, 2) := by decide +kernel
theorem md_M_compare_20 : decode mc_M_compare 20 = .ok (.invokestatic 167, 3) := by decide +kernel
theorem md_M_compare_23 : decode mc_M_compare 23 = .ok (.ifCond .ne 5, 3) := by decide +kernel
theorem md_M_compare_26 : decode mc_M_compare 26 = .ok (.iconst (-1), 1) := by decide +kernel
theorem md_M_compare_27 : decode mc_M_compare 27 = .ok (.ireturn, 1) := by decide +kernel
theorem md_M_compare_28 : decode mc_M_compare 28 = .ok (.aload_n 0, 1) := by decide +kernel
theorem md_M_compare_29 : decode mc_M_compare 29 = .ok (.iload_n 1, 1) := by decide +kernel
theorem md_M_compare_30 : decode mc_M_compare 30 = .ok (.iload_n 2, 1) := by decide +kernel
theorem md_M_compare_31 : decode mc_M_compare 31 = .ok (.invokevirtual 222, 3) := by decide +kernel
theorem md_M_compare_34 : decode mc_M_compare 34 = .ok (.lstore 4, 2) := by decide +kernel
theorem md_M_compare_36 : decode mc_M_compare 36 = .ok (.aload_n 0, 1) := by decide +kernel
theorem md_M_compare_37 : decode mc_M_compare 37 = .ok (.iload_n 1, 1) := by decide +kernel
theorem md_M_compare_38 : decode mc_M_compare 38 = .ok (.iload_n 3, 1) := by decide +kernel
theorem md_M_compare_39 : decode mc_M_compare 39 = .ok (.invokevirtual 222, 3) := by decide +kernel
theorem md_M_compare_42 : decode mc_M_compare 42 = .ok (.lstore 6, 2) := by decide +kernel
theorem md_M_compare_44 : decode mc_M_compare 44 = .ok (.iload_n 1, 1) := by decide +kernel
theorem md_M_compare_45 : decode mc_M_compare 45 = .ok (.iconst 2, 1) := by decide +kernel
theorem md_M_compare_46 : decode mc_M_compare 46 = .ok (.if_icmp .ge 43, 3) := by decide +kernel
theorem md_M_compare_49 : decode mc_M_compare 49 = .ok (.iload_n 1, 1) := by decide +kernel
theorem md_M_compare_50 : decode mc_M_compare 50 = .ok (.aload_n 0, 1) := by decide +kernel
theorem md_M_compare_51 : decode mc_M_compare 51 = .ok (.getfield 7, 3) := by decide +kernel
theorem md_M_compare_54 : decode mc_M_compare 54 = .ok (.iload_n 1, 1) := by decide +kernel
theorem md_M_compare_55 : decode mc_M_compare 55 = .ok (.bipush 6, 2) := by decide +kernel
theorem md_M_compare_57 : decode mc_M_compare 57 = .ok (.imul, 1) := by decide +kernel
theorem md_M_compare_58 : decode mc_M_compare 58 = .ok (.iload_n 2, 1) := by decide +kernel
theorem md_M_compare_59 : decode mc_M_compare 59 = .ok (.iadd, 1) := by decide +kernel
theorem md_M_compare_60 : decode mc_M_compare 60 = .ok (.laload, 1) := by decide +kernel
theorem md_M_compare_61 : decode mc_M_compare 61 = .ok (.invokestatic 51, 3) := by decide +kernel
theorem md_M_compare_64 : decode mc_M_compare 64 = .ok (.ifCond .ne 21, 3) := by decide +kernel
theorem md_M_compare_67 : decode mc_M_compare 67 = .ok (.iload_n 1, 1) := by decide +kernel
theorem md_M_compare_68 : decode mc_M_compare 68 = .ok (.aload_n 0, 1) := by decide +kernel
theorem md_M_compare_69 : decode mc_M_compare 69 = .ok (.getfield 7, 3) := by decide +kernel
theorem md_M_compare_72 : decode mc_M_compare 72 = .ok (.iload_n 1, 1) := by decide +kernel
theorem md_M_compare_73 : decode mc_M_compare 73 = .ok (.bipush 6, 2) := by decide +kernel
theorem md_M_compare_75 : decode mc_M_compare 75 = .ok (.imul, 1) := by decide +kernel
theorem md_M_compare_76 : decode mc_M_compare 76 = .ok (.iload_n 3, 1) := by decide +kernel
theorem md_M_compare_77 : decode mc_M_compare 77 = .ok (.iadd, 1) := by decide +kernel
theorem md_M_compare_78 : decode mc_M_compare 78 = .ok (.laload, 1) := by decide +kernel
theorem md_M_compare_79 : decode mc_M_compare 79 = .ok (.invokestatic 51, 3) := by decide +kernel
theorem md_M_compare_82 : decode mc_M_compare 82 = .ok (.ifCond .eq 7, 3) := by decide +kernel
theorem md_M_compare_85 : decode mc_M_compare 85 = .ok (.sipush 224, 3) := by decide +kernel
theorem md_M_compare_88 : decode mc_M_compare 88 = .ok (.ireturn, 1) := by decide +kernel
theorem md_M_compare_89 : decode mc_M_compare 89 = .ok (.iload_n 1, 1) := by decide +kernel
theorem md_M_compare_90 : decode mc_M_compare 90 = .ok (.iconst 2, 1) := by decide +kernel
theorem md_M_compare_91 : decode mc_M_compare 91 = .ok (.if_icmp .ge 15, 3) := by decide +kernel
theorem md_M_compare_94 : decode mc_M_compare 94 = .ok (.lload 4, 2) := by decide +kernel
theorem md_M_compare_96 : decode mc_M_compare 96 = .ok (.ldc2_w 125, 3) := by decide +kernel
theorem md_M_compare_99 : decode mc_M_compare 99 = .ok (.lcmp, 1) := by decide +kernel
theorem md_M_compare_100 : decode mc_M_compare 100 = .ok (.ifCond .ne 6, 3) := by decide +kernel
theorem md_M_compare_103 : decode mc_M_compare 103 = .ok (.lconst 0, 1) := by decide +kernel
theorem md_M_compare_104 : decode mc_M_compare 104 = .ok (.lstore 4, 2) := by decide +kernel
theorem md_M_compare_106 : decode mc_M_compare 106 = .ok (.iload_n 1, 1) := by decide +kernel
theorem md_M_compare_107 : decode mc_M_compare 107 = .ok (.iconst 2, 1) := by decide +kernel
theorem md_M_compare_108 : decode mc_M_compare 108 = .ok (.if_icmp .ge 15, 3) := by decide +kernel
theorem md_M_compare_111 : decode mc_M_compare 111 = .ok (.lload 6, 2) := by decide +kernel
theorem md_M_compare_113 : decode mc_M_compare 113 = .ok (.ldc2_w 125, 3) := by decide +kernel
theorem md_M_compare_116 : decode mc_M_compare 116 = .ok (.lcmp, 1) := by decide +kernel
theorem md_M_compare_117 : decode mc_M_compare 117 = .ok (.ifCond .ne 6, 3) := by decide +kernel
theorem md_M_compare_120 : decode mc_M_compare 120 = .ok (.lconst 0, 1) := by decide +kernel
theorem md_M_compare_121 : decode mc_M_compare 121 = .ok (.lstore 6, 2) := by decide +kernel
theorem md_M_compare_123 : decode mc_M_compare 123 = .ok (.lload 4, 2) := by decide +kernel
theorem md_M_compare_125 : decode mc_M_compare 125 = .ok (.lload 6, 2) := by decide +kernel
theorem md_M_compare_127 : decode mc_M_compare 127 = .ok (.lcmp, 1) := by decide +kernel
theorem md_M_compare_128 : decode mc_M_compare 128 = .ok (.ifCond .ge 9, 3) := by decide +kernel
theorem md_M_compare_131 : decode mc_M_compare 131 = .ok (.sipush 163, 3) := by decide +kernel
theorem md_M_compare_134 : decode mc_M_compare 134 = .ok (.goto 18, 3) := by decide +kernel
theorem md_M_compare_137 : decode mc_M_compare 137 = .ok (.lload 4, 2) := by decide +kernel
theorem md_M_compare_139 : decode mc_M_compare 139 = .ok (.lload 6, 2) := by decide +kernel
theorem md_M_compare_141 : decode mc_M_compare 141 = .ok (.lcmp, 1) := by decide +kernel
theorem md_M_compare_142 : decode mc_M_compare 142 = .ok (.ifCond .le 8, 3) := by decide +kernel
theorem md_M_compare_145 : decode mc_M_compare 145 = .ok (.bipush 108, 2) := by decide +kernel
theorem md_M_compare_147 : decode mc_M_compare 147 = .ok (.goto 5, 3) := by decide +kernel
theorem md_M_compare_150 : decode mc_M_compare 150 = .ok (.bipush 90, 2) := by decide +kernel
theorem md_M_compare_152 : decode mc_M_compare 152 = .ok (.ireturn, 1) := by decide +kernel
abbrev mc_M_order : ByteArray := prog_4_method_45_code
def my_M_order : MethodName := ⟨"NumberProbeModel", "order", "(III)I"⟩
abbrev mw_M_order : List Cond := Cond.code my_M_order mc_M_order 8 (some .int) :: gw_tbl
theorem md_M_order_0 : decode mc_M_order 0 = .ok (.iload_n 1, 1) := by decide +kernel
theorem md_M_order_1 : decode mc_M_order 1 = .ok (.iconst 4, 1) := by decide +kernel
theorem md_M_order_2 : decode mc_M_order 2 = .ok (.invokestatic 167, 3) := by decide +kernel
theorem md_M_order_5 : decode mc_M_order 5 = .ok (.ifCond .eq 21, 3) := by decide +kernel
theorem md_M_order_8 : decode mc_M_order 8 = .ok (.iload_n 2, 1) := by decide +kernel
theorem md_M_order_9 : decode mc_M_order 9 = .ok (.bipush 6, 2) := by decide +kernel
theorem md_M_order_11 : decode mc_M_order 11 = .ok (.invokestatic 167, 3) := by decide +kernel
theorem md_M_order_14 : decode mc_M_order 14 = .ok (.ifCond .eq 12, 3) := by decide +kernel
theorem md_M_order_17 : decode mc_M_order 17 = .ok (.iload_n 3, 1) := by decide +kernel
theorem md_M_order_18 : decode mc_M_order 18 = .ok (.bipush 6, 2) := by decide +kernel
theorem md_M_order_20 : decode mc_M_order 20 = .ok (.invokestatic 167, 3) := by decide +kernel
theorem md_M_order_23 : decode mc_M_order 23 = .ok (.ifCond .ne 5, 3) := by decide +kernel
theorem md_M_order_26 : decode mc_M_order 26 = .ok (.iconst (-1), 1) := by decide +kernel
theorem md_M_order_27 : decode mc_M_order 27 = .ok (.ireturn, 1) := by decide +kernel
theorem md_M_order_28 : decode mc_M_order 28 = .ok (.aload_n 0, 1) := by decide +kernel
theorem md_M_order_29 : decode mc_M_order 29 = .ok (.iload_n 1, 1) := by decide +kernel
theorem md_M_order_30 : decode mc_M_order 30 = .ok (.iload_n 2, 1) := by decide +kernel
theorem md_M_order_31 : decode mc_M_order 31 = .ok (.invokevirtual 222, 3) := by decide +kernel
theorem md_M_order_34 : decode mc_M_order 34 = .ok (.lstore 4, 2) := by decide +kernel
theorem md_M_order_36 : decode mc_M_order 36 = .ok (.aload_n 0, 1) := by decide +kernel
theorem md_M_order_37 : decode mc_M_order 37 = .ok (.iload_n 1, 1) := by decide +kernel
theorem md_M_order_38 : decode mc_M_order 38 = .ok (.iload_n 3, 1) := by decide +kernel
theorem md_M_order_39 : decode mc_M_order 39 = .ok (.invokevirtual 222, 3) := by decide +kernel
theorem md_M_order_42 : decode mc_M_order 42 = .ok (.lstore 6, 2) := by decide +kernel
theorem md_M_order_44 : decode mc_M_order 44 = .ok (.lload 4, 2) := by decide +kernel
theorem md_M_order_46 : decode mc_M_order 46 = .ok (.lload 6, 2) := by decide +kernel
theorem md_M_order_48 : decode mc_M_order 48 = .ok (.lcmp, 1) := by decide +kernel
theorem md_M_order_49 : decode mc_M_order 49 = .ok (.ifCond .ge 7, 3) := by decide +kernel
theorem md_M_order_52 : decode mc_M_order 52 = .ok (.iconst (-1), 1) := by decide +kernel
theorem md_M_order_53 : decode mc_M_order 53 = .ok (.goto 16, 3) := by decide +kernel
theorem md_M_order_56 : decode mc_M_order 56 = .ok (.lload 4, 2) := by decide +kernel
theorem md_M_order_58 : decode mc_M_order 58 = .ok (.lload 6, 2) := by decide +kernel
theorem md_M_order_60 : decode mc_M_order 60 = .ok (.lcmp, 1) := by decide +kernel
theorem md_M_order_61 : decode mc_M_order 61 = .ok (.ifCond .le 7, 3) := by decide +kernel
theorem md_M_order_64 : decode mc_M_order 64 = .ok (.iconst 1, 1) := by decide +kernel
theorem md_M_order_65 : decode mc_M_order 65 = .ok (.goto 4, 3) := by decide +kernel
theorem md_M_order_68 : decode mc_M_order 68 = .ok (.iconst 0, 1) := by decide +kernel
theorem md_M_order_69 : decode mc_M_order 69 = .ok (.ireturn, 1) := by decide +kernel
abbrev mc_M_sort : ByteArray := prog_4_method_46_code
def my_M_sort : MethodName := ⟨"NumberProbeModel", "sort", "(II)I"⟩
abbrev mw_M_sort : List Cond := Cond.code my_M_sort mc_M_sort 5 (some .int) :: gw_tbl
theorem md_M_sort_0 : decode mc_M_sort 0 = .ok (.iload_n 1, 1) := by decide +kernel
theorem md_M_sort_1 : decode mc_M_sort 1 = .ok (.iconst 4, 1) := by decide +kernel
theorem md_M_sort_2 : decode mc_M_sort 2 = .ok (.invokestatic 167, 3) := by decide +kernel
theorem md_M_sort_5 : decode mc_M_sort 5 = .ok (.ifCond .eq 12, 3) := by decide +kernel
theorem md_M_sort_8 : decode mc_M_sort 8 = .ok (.iload_n 2, 1) := by decide +kernel
theorem md_M_sort_9 : decode mc_M_sort 9 = .ok (.bipush 6, 2) := by decide +kernel
theorem md_M_sort_11 : decode mc_M_sort 11 = .ok (.invokestatic 167, 3) := by decide +kernel
theorem md_M_sort_14 : decode mc_M_sort 14 = .ok (.ifCond .ne 5, 3) := by decide +kernel
theorem md_M_sort_17 : decode mc_M_sort 17 = .ok (.iconst (-1), 1) := by decide +kernel
theorem md_M_sort_18 : decode mc_M_sort 18 = .ok (.ireturn, 1) := by decide +kernel
theorem md_M_sort_19 : decode mc_M_sort 19 = .ok (.iload_n 1, 1) := by decide +kernel
theorem md_M_sort_20 : decode mc_M_sort 20 = .ok (.iconst 1, 1) := by decide +kernel
theorem md_M_sort_21 : decode mc_M_sort 21 = .ok (.if_icmp .le 5, 3) := by decide +kernel
theorem md_M_sort_24 : decode mc_M_sort 24 = .ok (.iconst 0, 1) := by decide +kernel
theorem md_M_sort_25 : decode mc_M_sort 25 = .ok (.ireturn, 1) := by decide +kernel
theorem md_M_sort_26 : decode mc_M_sort 26 = .ok (.aload_n 0, 1) := by decide +kernel
theorem md_M_sort_27 : decode mc_M_sort 27 = .ok (.iload_n 1, 1) := by decide +kernel
theorem md_M_sort_28 : decode mc_M_sort 28 = .ok (.aload_n 0, 1) := by decide +kernel
theorem md_M_sort_29 : decode mc_M_sort 29 = .ok (.getfield 7, 3) := by decide +kernel
theorem md_M_sort_32 : decode mc_M_sort 32 = .ok (.iload_n 1, 1) := by decide +kernel
theorem md_M_sort_33 : decode mc_M_sort 33 = .ok (.bipush 6, 2) := by decide +kernel
theorem md_M_sort_35 : decode mc_M_sort 35 = .ok (.imul, 1) := by decide +kernel
theorem md_M_sort_36 : decode mc_M_sort 36 = .ok (.iload_n 2, 1) := by decide +kernel
theorem md_M_sort_37 : decode mc_M_sort 37 = .ok (.iadd, 1) := by decide +kernel
theorem md_M_sort_38 : decode mc_M_sort 38 = .ok (.laload, 1) := by decide +kernel
theorem md_M_sort_39 : decode mc_M_sort 39 = .ok (.invokevirtual 98, 3) := by decide +kernel
theorem md_M_sort_42 : decode mc_M_sort 42 = .ok (.aload_n 0, 1) := by decide +kernel
theorem md_M_sort_43 : decode mc_M_sort 43 = .ok (.getfield 54, 3) := by decide +kernel
theorem md_M_sort_46 : decode mc_M_sort 46 = .ok (.ifCond .eq 5, 3) := by decide +kernel
theorem md_M_sort_49 : decode mc_M_sort 49 = .ok (.iconst 1, 1) := by decide +kernel
theorem md_M_sort_50 : decode mc_M_sort 50 = .ok (.ireturn, 1) := by decide +kernel
theorem md_M_sort_51 : decode mc_M_sort 51 = .ok (.aload_n 0, 1) := by decide +kernel
theorem md_M_sort_52 : decode mc_M_sort 52 = .ok (.getfield 57, 3) := by decide +kernel
theorem md_M_sort_55 : decode mc_M_sort 55 = .ok (.ifCond .eq 7, 3) := by decide +kernel
theorem md_M_sort_58 : decode mc_M_sort 58 = .ok (.iconst 2, 1) := by decide +kernel
theorem md_M_sort_59 : decode mc_M_sort 59 = .ok (.goto 4, 3) := by decide +kernel
theorem md_M_sort_62 : decode mc_M_sort 62 = .ok (.iconst 4, 1) := by decide +kernel
theorem md_M_sort_63 : decode mc_M_sort 63 = .ok (.istore_n 3, 1) := by decide +kernel
theorem md_M_sort_64 : decode mc_M_sort 64 = .ok (.aload_n 0, 1) := by decide +kernel
theorem md_M_sort_65 : decode mc_M_sort 65 = .ok (.getfield 47, 3) := by decide +kernel
theorem md_M_sort_68 : decode mc_M_sort 68 = .ok (.ifCond .eq 6, 3) := by decide +kernel
theorem md_M_sort_71 : decode mc_M_sort 71 = .ok (.iinc 3 32, 3) := by decide +kernel
theorem md_M_sort_74 : decode mc_M_sort 74 = .ok (.aload_n 0, 1) := by decide +kernel
theorem md_M_sort_75 : decode mc_M_sort 75 = .ok (.getfield 57, 3) := by decide +kernel
theorem md_M_sort_78 : decode mc_M_sort 78 = .ok (.ifCond .eq 5, 3) := by decide +kernel
theorem md_M_sort_81 : decode mc_M_sort 81 = .ok (.iload_n 3, 1) := by decide +kernel
theorem md_M_sort_82 : decode mc_M_sort 82 = .ok (.ireturn, 1) := by decide +kernel
theorem md_M_sort_83 : decode mc_M_sort 83 = .ok (.aload_n 0, 1) := by decide +kernel
theorem md_M_sort_84 : decode mc_M_sort 84 = .ok (.getfield 63, 3) := by decide +kernel
theorem md_M_sort_87 : decode mc_M_sort 87 = .ok (.lconst 0, 1) := by decide +kernel
theorem md_M_sort_88 : decode mc_M_sort 88 = .ok (.lcmp, 1) := by decide +kernel
theorem md_M_sort_89 : decode mc_M_sort 89 = .ok (.ifCond .ne 11, 3) := by decide +kernel
theorem md_M_sort_92 : decode mc_M_sort 92 = .ok (.iload_n 3, 1) := by decide +kernel
theorem md_M_sort_93 : decode mc_M_sort 93 = .ok (.bipush 8, 2) := by decide +kernel
theorem md_M_sort_95 : decode mc_M_sort 95 = .ok (.iadd, 1) := by decide +kernel
theorem md_M_sort_96 : decode mc_M_sort 96 = .ok (.bipush 64, 2) := by decide +kernel
theorem md_M_sort_98 : decode mc_M_sort 98 = .ok (.iadd, 1) := by decide +kernel
theorem md_M_sort_99 : decode mc_M_sort 99 = .ok (.ireturn, 1) := by decide +kernel
theorem md_M_sort_100 : decode mc_M_sort 100 = .ok (.aload_n 0, 1) := by decide +kernel
theorem md_M_sort_101 : decode mc_M_sort 101 = .ok (.getfield 63, 3) := by decide +kernel
theorem md_M_sort_104 : decode mc_M_sort 104 = .ok (.lconst 1, 1) := by decide +kernel
theorem md_M_sort_105 : decode mc_M_sort 105 = .ok (.iload_n 1, 1) := by decide +kernel
theorem md_M_sort_106 : decode mc_M_sort 106 = .ok (.invokestatic 36, 3) := by decide +kernel
theorem md_M_sort_109 : decode mc_M_sort 109 = .ok (.lshl, 1) := by decide +kernel
theorem md_M_sort_110 : decode mc_M_sort 110 = .ok (.lcmp, 1) := by decide +kernel
theorem md_M_sort_111 : decode mc_M_sort 111 = .ok (.ifCond .ge 6, 3) := by decide +kernel
theorem md_M_sort_114 : decode mc_M_sort 114 = .ok (.iinc 3 16, 3) := by decide +kernel
theorem md_M_sort_117 : decode mc_M_sort 117 = .ok (.iconst 0, 1) := by decide +kernel
theorem md_M_sort_118 : decode mc_M_sort 118 = .ok (.istore 4, 2) := by decide +kernel
theorem md_M_sort_120 : decode mc_M_sort 120 = .ok (.aload_n 0, 1) := by decide +kernel
theorem md_M_sort_121 : decode mc_M_sort 121 = .ok (.getfield 63, 3) := by decide +kernel
theorem md_M_sort_124 : decode mc_M_sort 124 = .ok (.iload 4, 2) := by decide +kernel
theorem md_M_sort_126 : decode mc_M_sort 126 = .ok (.lushr, 1) := by decide +kernel
theorem md_M_sort_127 : decode mc_M_sort 127 = .ok (.lconst 1, 1) := by decide +kernel
theorem md_M_sort_128 : decode mc_M_sort 128 = .ok (.land, 1) := by decide +kernel
theorem md_M_sort_129 : decode mc_M_sort 129 = .ok (.lconst 0, 1) := by decide +kernel
theorem md_M_sort_130 : decode mc_M_sort 130 = .ok (.lcmp, 1) := by decide +kernel
theorem md_M_sort_131 : decode mc_M_sort 131 = .ok (.ifCond .ne 9, 3) := by decide +kernel
theorem md_M_sort_134 : decode mc_M_sort 134 = .ok (.iinc 4 1, 3) := by decide +kernel
theorem md_M_sort_137 : decode mc_M_sort 137 = .ok (.goto (-17), 3) := by decide +kernel
theorem md_M_sort_140 : decode mc_M_sort 140 = .ok (.aload_n 0, 1) := by decide +kernel
theorem md_M_sort_141 : decode mc_M_sort 141 = .ok (.getfield 71, 3) := by decide +kernel
theorem md_M_sort_144 : decode mc_M_sort 144 = .ok (.iload 4, 2) := by decide +kernel
theorem md_M_sort_146 : decode mc_M_sort 146 = .ok (.iadd, 1) := by decide +kernel
theorem md_M_sort_147 : decode mc_M_sort 147 = .ok (.ifCond .lt 6, 3) := by decide +kernel
theorem md_M_sort_150 : decode mc_M_sort 150 = .ok (.iinc 3 64, 3) := by decide +kernel
theorem md_M_sort_153 : decode mc_M_sort 153 = .ok (.iload_n 3, 1) := by decide +kernel
theorem md_M_sort_154 : decode mc_M_sort 154 = .ok (.aload_n 0, 1) := by decide +kernel
theorem md_M_sort_155 : decode mc_M_sort 155 = .ok (.getfield 63, 3) := by decide +kernel
theorem md_M_sort_158 : decode mc_M_sort 158 = .ok (.iload 4, 2) := by decide +kernel
theorem md_M_sort_160 : decode mc_M_sort 160 = .ok (.lushr, 1) := by decide +kernel
theorem md_M_sort_161 : decode mc_M_sort 161 = .ok (.lconst 1, 1) := by decide +kernel
theorem md_M_sort_162 : decode mc_M_sort 162 = .ok (.lcmp, 1) := by decide +kernel
theorem md_M_sort_163 : decode mc_M_sort 163 = .ok (.ifCond .ne 16, 3) := by decide +kernel
theorem md_M_sort_166 : decode mc_M_sort 166 = .ok (.aload_n 0, 1) := by decide +kernel
theorem md_M_sort_167 : decode mc_M_sort 167 = .ok (.getfield 47, 3) := by decide +kernel
theorem md_M_sort_170 : decode mc_M_sort 170 = .ok (.ifCond .ne 9, 3) := by decide +kernel
theorem md_M_sort_173 : decode mc_M_sort 173 = .ok (.sipush 128, 3) := by decide +kernel
theorem md_M_sort_176 : decode mc_M_sort 176 = .ok (.goto 4, 3) := by decide +kernel
theorem md_M_sort_179 : decode mc_M_sort 179 = .ok (.iconst 0, 1) := by decide +kernel
theorem md_M_sort_180 : decode mc_M_sort 180 = .ok (.iadd, 1) := by decide +kernel
theorem md_M_sort_181 : decode mc_M_sort 181 = .ok (.ireturn, 1) := by decide +kernel
abbrev mc_M_series : ByteArray := prog_4_method_47_code
def my_M_series : MethodName := ⟨"NumberProbeModel", "series", "(IIII)I"⟩
abbrev mw_M_series : List Cond := Cond.code my_M_series mc_M_series 10 (some .int) :: gw_tbl
theorem md_M_series_0 : decode mc_M_series 0 = .ok (.iload_n 1, 1) := by decide +kernel
theorem md_M_series_1 : decode mc_M_series 1 = .ok (.bipush 6, 2) := by decide +kernel
theorem md_M_series_3 : decode mc_M_series 3 = .ok (.invokestatic 167, 3) := by decide +kernel
theorem md_M_series_6 : decode mc_M_series 6 = .ok (.ifCond .eq 31, 3) := by decide +kernel
theorem md_M_series_9 : decode mc_M_series 9 = .ok (.iload_n 2, 1) := by decide +kernel
theorem md_M_series_10 : decode mc_M_series 10 = .ok (.bipush 6, 2) := by decide +kernel
theorem md_M_series_12 : decode mc_M_series 12 = .ok (.invokestatic 167, 3) := by decide +kernel
theorem md_M_series_15 : decode mc_M_series 15 = .ok (.ifCond .eq 22, 3) := by decide +kernel
theorem md_M_series_18 : decode mc_M_series 18 = .ok (.iload_n 3, 1) := by decide +kernel
theorem md_M_series_19 : decode mc_M_series 19 = .ok (.bipush 41, 2) := by decide +kernel
theorem md_M_series_21 : decode mc_M_series 21 = .ok (.invokestatic 167, 3) := by decide +kernel
theorem md_M_series_24 : decode mc_M_series 24 = .ok (.ifCond .eq 13, 3) := by decide +kernel
theorem md_M_series_27 : decode mc_M_series 27 = .ok (.iload 4, 2) := by decide +kernel
theorem md_M_series_29 : decode mc_M_series 29 = .ok (.bipush 6, 2) := by decide +kernel
theorem md_M_series_31 : decode mc_M_series 31 = .ok (.invokestatic 167, 3) := by decide +kernel
theorem md_M_series_34 : decode mc_M_series 34 = .ok (.ifCond .ne 5, 3) := by decide +kernel
theorem md_M_series_37 : decode mc_M_series 37 = .ok (.iconst (-1), 1) := by decide +kernel
theorem md_M_series_38 : decode mc_M_series 38 = .ok (.ireturn, 1) := by decide +kernel
theorem md_M_series_39 : decode mc_M_series 39 = .ok (.aload_n 0, 1) := by decide +kernel
theorem md_M_series_40 : decode mc_M_series 40 = .ok (.getfield 7, 3) := by decide +kernel
theorem md_M_series_43 : decode mc_M_series 43 = .ok (.bipush 6, 2) := by decide +kernel
theorem md_M_series_45 : decode mc_M_series 45 = .ok (.iload_n 1, 1) := by decide +kernel
theorem md_M_series_46 : decode mc_M_series 46 = .ok (.iadd, 1) := by decide +kernel
theorem md_M_series_47 : decode mc_M_series 47 = .ok (.laload, 1) := by decide +kernel
theorem md_M_series_48 : decode mc_M_series 48 = .ok (.lstore 5, 2) := by decide +kernel
theorem md_M_series_50 : decode mc_M_series 50 = .ok (.lconst 0, 1) := by decide +kernel
theorem md_M_series_51 : decode mc_M_series 51 = .ok (.lstore 7, 2) := by decide +kernel
theorem md_M_series_53 : decode mc_M_series 53 = .ok (.iconst 0, 1) := by decide +kernel
theorem md_M_series_54 : decode mc_M_series 54 = .ok (.istore 9, 2) := by decide +kernel
theorem md_M_series_56 : decode mc_M_series 56 = .ok (.iload 9, 2) := by decide +kernel
theorem md_M_series_58 : decode mc_M_series 58 = .ok (.iload_n 3, 1) := by decide +kernel
theorem md_M_series_59 : decode mc_M_series 59 = .ok (.if_icmp .ge 48, 3) := by decide +kernel
theorem md_M_series_62 : decode mc_M_series 62 = .ok (.iload 9, 2) := by decide +kernel
theorem md_M_series_64 : decode mc_M_series 64 = .ok (.ifCond .ne 8, 3) := by decide +kernel
theorem md_M_series_67 : decode mc_M_series 67 = .ok (.lload 5, 2) := by decide +kernel
theorem md_M_series_69 : decode mc_M_series 69 = .ok (.goto 12, 3) := by decide +kernel
theorem md_M_series_72 : decode mc_M_series 72 = .ok (.aload_n 0, 1) := by decide +kernel
theorem md_M_series_73 : decode mc_M_series 73 = .ok (.iconst 1, 1) := by decide +kernel
theorem md_M_series_74 : decode mc_M_series 74 = .ok (.lload 7, 2) := by decide +kernel
theorem md_M_series_76 : decode mc_M_series 76 = .ok (.lload 5, 2) := by decide +kernel
theorem md_M_series_78 : decode mc_M_series 78 = .ok (.invokevirtual 127, 3) := by decide +kernel
theorem md_M_series_81 : decode mc_M_series 81 = .ok (.lstore 7, 2) := by decide +kernel
theorem md_M_series_83 : decode mc_M_series 83 = .ok (.aload_n 0, 1) := by decide +kernel
theorem md_M_series_84 : decode mc_M_series 84 = .ok (.iconst 1, 1) := by decide +kernel
theorem md_M_series_85 : decode mc_M_series 85 = .ok (.lload 5, 2) := by decide +kernel
theorem md_M_series_87 : decode mc_M_series 87 = .ok (.aload_n 0, 1) := by decide +kernel
theorem md_M_series_88 : decode mc_M_series 88 = .ok (.getfield 7, 3) := by decide +kernel
theorem md_M_series_91 : decode mc_M_series 91 = .ok (.bipush 6, 2) := by decide +kernel
theorem md_M_series_93 : decode mc_M_series 93 = .ok (.iload_n 2, 1) := by decide +kernel
theorem md_M_series_94 : decode mc_M_series 94 = .ok (.iadd, 1) := by decide +kernel
theorem md_M_series_95 : decode mc_M_series 95 = .ok (.laload, 1) := by decide +kernel
theorem md_M_series_96 : decode mc_M_series 96 = .ok (.invokevirtual 127, 3) := by decide +kernel
theorem md_M_series_99 : decode mc_M_series 99 = .ok (.lstore 5, 2) := by decide +kernel
theorem md_M_series_101 : decode mc_M_series 101 = .ok (.iinc 9 1, 3) := by decide +kernel
theorem md_M_series_104 : decode mc_M_series 104 = .ok (.goto (-48), 3) := by decide +kernel
theorem md_M_series_107 : decode mc_M_series 107 = .ok (.aload_n 0, 1) := by decide +kernel
theorem md_M_series_108 : decode mc_M_series 108 = .ok (.getfield 7, 3) := by decide +kernel
theorem md_M_series_111 : decode mc_M_series 111 = .ok (.bipush 6, 2) := by decide +kernel
theorem md_M_series_113 : decode mc_M_series 113 = .ok (.iload 4, 2) := by decide +kernel
theorem md_M_series_115 : decode mc_M_series 115 = .ok (.iadd, 1) := by decide +kernel
theorem md_M_series_116 : decode mc_M_series 116 = .ok (.lload 7, 2) := by decide +kernel
theorem md_M_series_118 : decode mc_M_series 118 = .ok (.lastore, 1) := by decide +kernel
theorem md_M_series_119 : decode mc_M_series 119 = .ok (.iconst 0, 1) := by decide +kernel
theorem md_M_series_120 : decode mc_M_series 120 = .ok (.ireturn, 1) := by decide +kernel
abbrev mc_M_polynomial : ByteArray := prog_4_method_48_code
def my_M_polynomial : MethodName := ⟨"NumberProbeModel", "polynomial", "(II)I"⟩
abbrev mw_M_polynomial : List Cond := Cond.code my_M_polynomial mc_M_polynomial 8 (some .int) :: gw_tbl
theorem md_M_polynomial_0 : decode mc_M_polynomial 0 = .ok (.iload_n 1, 1) := by decide +kernel
theorem md_M_polynomial_1 : decode mc_M_polynomial 1 = .ok (.bipush 6, 2) := by decide +kernel
theorem md_M_polynomial_3 : decode mc_M_polynomial 3 = .ok (.invokestatic 167, 3) := by decide +kernel
theorem md_M_polynomial_6 : decode mc_M_polynomial 6 = .ok (.ifCond .eq 12, 3) := by decide +kernel
theorem md_M_polynomial_9 : decode mc_M_polynomial 9 = .ok (.iload_n 2, 1) := by decide +kernel
theorem md_M_polynomial_10 : decode mc_M_polynomial 10 = .ok (.bipush 6, 2) := by decide +kernel
theorem md_M_polynomial_12 : decode mc_M_polynomial 12 = .ok (.invokestatic 167, 3) := by decide +kernel
theorem md_M_polynomial_15 : decode mc_M_polynomial 15 = .ok (.ifCond .ne 5, 3) := by decide +kernel
theorem md_M_polynomial_18 : decode mc_M_polynomial 18 = .ok (.iconst (-1), 1) := by decide +kernel
theorem md_M_polynomial_19 : decode mc_M_polynomial 19 = .ok (.ireturn, 1) := by decide +kernel
theorem md_M_polynomial_20 : decode mc_M_polynomial 20 = .ok (.aload_n 0, 1) := by decide +kernel
theorem md_M_polynomial_21 : decode mc_M_polynomial 21 = .ok (.getfield 7, 3) := by decide +kernel
theorem md_M_polynomial_24 : decode mc_M_polynomial 24 = .ok (.iload_n 1, 1) := by decide +kernel
theorem md_M_polynomial_25 : decode mc_M_polynomial 25 = .ok (.laload, 1) := by decide +kernel
theorem md_M_polynomial_26 : decode mc_M_polynomial 26 = .ok (.lstore_n 3, 1) := by decide +kernel
theorem md_M_polynomial_27 : decode mc_M_polynomial 27 = .ok (.aload_n 0, 1) := by decide +kernel
theorem md_M_polynomial_28 : decode mc_M_polynomial 28 = .ok (.getfield 7, 3) := by decide +kernel
theorem md_M_polynomial_31 : decode mc_M_polynomial 31 = .ok (.iconst 5, 1) := by decide +kernel
theorem md_M_polynomial_32 : decode mc_M_polynomial 32 = .ok (.laload, 1) := by decide +kernel
theorem md_M_polynomial_33 : decode mc_M_polynomial 33 = .ok (.lstore 5, 2) := by decide +kernel
theorem md_M_polynomial_35 : decode mc_M_polynomial 35 = .ok (.iconst 4, 1) := by decide +kernel
theorem md_M_polynomial_36 : decode mc_M_polynomial 36 = .ok (.istore 7, 2) := by decide +kernel
theorem md_M_polynomial_38 : decode mc_M_polynomial 38 = .ok (.iload 7, 2) := by decide +kernel
theorem md_M_polynomial_40 : decode mc_M_polynomial 40 = .ok (.ifCond .lt 31, 3) := by decide +kernel
theorem md_M_polynomial_43 : decode mc_M_polynomial 43 = .ok (.aload_n 0, 1) := by decide +kernel
theorem md_M_polynomial_44 : decode mc_M_polynomial 44 = .ok (.iconst 0, 1) := by decide +kernel
theorem md_M_polynomial_45 : decode mc_M_polynomial 45 = .ok (.aload_n 0, 1) := by decide +kernel
theorem md_M_polynomial_46 : decode mc_M_polynomial 46 = .ok (.iconst 0, 1) := by decide +kernel
theorem md_M_polynomial_47 : decode mc_M_polynomial 47 = .ok (.lload 5, 2) := by decide +kernel
theorem md_M_polynomial_49 : decode mc_M_polynomial 49 = .ok (.lload_n 3, 1) := by decide +kernel
theorem md_M_polynomial_50 : decode mc_M_polynomial 50 = .ok (.invokevirtual 134, 3) := by decide +kernel
theorem md_M_polynomial_53 : decode mc_M_polynomial 53 = .ok (.aload_n 0, 1) := by decide +kernel
theorem md_M_polynomial_54 : decode mc_M_polynomial 54 = .ok (.getfield 7, 3) := by decide +kernel
theorem md_M_polynomial_57 : decode mc_M_polynomial 57 = .ok (.iload 7, 2) := by decide +kernel
theorem md_M_polynomial_59 : decode mc_M_polynomial 59 = .ok (.laload, 1) := by decide +kernel
theorem md_M_polynomial_60 : decode mc_M_polynomial 60 = .ok (.invokevirtual 127, 3) := by decide +kernel
theorem md_M_polynomial_63 : decode mc_M_polynomial 63 = .ok (.lstore 5, 2) := by decide +kernel
theorem md_M_polynomial_65 : decode mc_M_polynomial 65 = .ok (.iinc 7 (-1), 3) := by decide +kernel
theorem md_M_polynomial_68 : decode mc_M_polynomial 68 = .ok (.goto (-30), 3) := by decide +kernel
theorem md_M_polynomial_71 : decode mc_M_polynomial 71 = .ok (.aload_n 0, 1) := by decide +kernel
theorem md_M_polynomial_72 : decode mc_M_polynomial 72 = .ok (.getfield 7, 3) := by decide +kernel
theorem md_M_polynomial_75 : decode mc_M_polynomial 75 = .ok (.iload_n 2, 1) := by decide +kernel
theorem md_M_polynomial_76 : decode mc_M_polynomial 76 = .ok (.lload 5, 2) := by decide +kernel
theorem md_M_polynomial_78 : decode mc_M_polynomial 78 = .ok (.lastore, 1) := by decide +kernel
theorem md_M_polynomial_79 : decode mc_M_polynomial 79 = .ok (.iconst 0, 1) := by decide +kernel
theorem md_M_polynomial_80 : decode mc_M_polynomial 80 = .ok (.ireturn, 1) := by decide +kernel
end
section
abbrev mc_JI_numberOfLeadingZeros : ByteArray := prog_6_method_47_code
def my_JI_numberOfLeadingZeros : MethodName := ⟨"java/lang/Integer", "numberOfLeadingZeros", "(I)I"⟩
abbrev mw_JI_numberOfLeadingZeros : List Cond := Cond.code my_JI_numberOfLeadingZeros mc_JI_numberOfLeadingZeros 2 (some .int) :: gw_tbl
theorem md_JI_numberOfLeadingZeros_0 : decode mc_JI_numberOfLeadingZeros 0 = .ok (.iload_n 0, 1) := by decide +kernel
theorem md_JI_numberOfLeadingZeros_1 : decode mc_JI_numberOfLeadingZeros 1 = .ok (.ifCond .gt 14, 3) := by decide +kernel
theorem md_JI_numberOfLeadingZeros_4 : decode mc_JI_numberOfLeadingZeros 4 = .ok (.iload_n 0, 1) := by decide +kernel
theorem md_JI_numberOfLeadingZeros_5 : decode mc_JI_numberOfLeadingZeros 5 = .ok (.ifCond .ne 8, 3) := by decide +kernel
theorem md_JI_numberOfLeadingZeros_8 : decode mc_JI_numberOfLeadingZeros 8 = .ok (.bipush 32, 2) := by decide +kernel
theorem md_JI_numberOfLeadingZeros_10 : decode mc_JI_numberOfLeadingZeros 10 = .ok (.goto 4, 3) := by decide +kernel
theorem md_JI_numberOfLeadingZeros_13 : decode mc_JI_numberOfLeadingZeros 13 = .ok (.iconst 0, 1) := by decide +kernel
theorem md_JI_numberOfLeadingZeros_14 : decode mc_JI_numberOfLeadingZeros 14 = .ok (.ireturn, 1) := by decide +kernel
theorem md_JI_numberOfLeadingZeros_15 : decode mc_JI_numberOfLeadingZeros 15 = .ok (.bipush 31, 2) := by decide +kernel
theorem md_JI_numberOfLeadingZeros_17 : decode mc_JI_numberOfLeadingZeros 17 = .ok (.istore_n 1, 1) := by decide +kernel
theorem md_JI_numberOfLeadingZeros_18 : decode mc_JI_numberOfLeadingZeros 18 = .ok (.iload_n 0, 1) := by decide +kernel
theorem md_JI_numberOfLeadingZeros_19 : decode mc_JI_numberOfLeadingZeros 19 = .ok (.ldc_w 264, 3) := by decide +kernel
theorem md_JI_numberOfLeadingZeros_22 : decode mc_JI_numberOfLeadingZeros 22 = .ok (.if_icmp .lt 11, 3) := by decide +kernel
theorem md_JI_numberOfLeadingZeros_25 : decode mc_JI_numberOfLeadingZeros 25 = .ok (.iinc 1 (-16), 3) := by decide +kernel
theorem md_JI_numberOfLeadingZeros_28 : decode mc_JI_numberOfLeadingZeros 28 = .ok (.iload_n 0, 1) := by decide +kernel
theorem md_JI_numberOfLeadingZeros_29 : decode mc_JI_numberOfLeadingZeros 29 = .ok (.bipush 16, 2) := by decide +kernel
theorem md_JI_numberOfLeadingZeros_31 : decode mc_JI_numberOfLeadingZeros 31 = .ok (.iushr, 1) := by decide +kernel
theorem md_JI_numberOfLeadingZeros_32 : decode mc_JI_numberOfLeadingZeros 32 = .ok (.istore_n 0, 1) := by decide +kernel
theorem md_JI_numberOfLeadingZeros_33 : decode mc_JI_numberOfLeadingZeros 33 = .ok (.iload_n 0, 1) := by decide +kernel
theorem md_JI_numberOfLeadingZeros_34 : decode mc_JI_numberOfLeadingZeros 34 = .ok (.sipush 256, 3) := by decide +kernel
theorem md_JI_numberOfLeadingZeros_37 : decode mc_JI_numberOfLeadingZeros 37 = .ok (.if_icmp .lt 11, 3) := by decide +kernel
theorem md_JI_numberOfLeadingZeros_40 : decode mc_JI_numberOfLeadingZeros 40 = .ok (.iinc 1 (-8), 3) := by decide +kernel
theorem md_JI_numberOfLeadingZeros_43 : decode mc_JI_numberOfLeadingZeros 43 = .ok (.iload_n 0, 1) := by decide +kernel
theorem md_JI_numberOfLeadingZeros_44 : decode mc_JI_numberOfLeadingZeros 44 = .ok (.bipush 8, 2) := by decide +kernel
theorem md_JI_numberOfLeadingZeros_46 : decode mc_JI_numberOfLeadingZeros 46 = .ok (.iushr, 1) := by decide +kernel
theorem md_JI_numberOfLeadingZeros_47 : decode mc_JI_numberOfLeadingZeros 47 = .ok (.istore_n 0, 1) := by decide +kernel
theorem md_JI_numberOfLeadingZeros_48 : decode mc_JI_numberOfLeadingZeros 48 = .ok (.iload_n 0, 1) := by decide +kernel
theorem md_JI_numberOfLeadingZeros_49 : decode mc_JI_numberOfLeadingZeros 49 = .ok (.bipush 16, 2) := by decide +kernel
theorem md_JI_numberOfLeadingZeros_51 : decode mc_JI_numberOfLeadingZeros 51 = .ok (.if_icmp .lt 10, 3) := by decide +kernel
theorem md_JI_numberOfLeadingZeros_54 : decode mc_JI_numberOfLeadingZeros 54 = .ok (.iinc 1 (-4), 3) := by decide +kernel
theorem md_JI_numberOfLeadingZeros_57 : decode mc_JI_numberOfLeadingZeros 57 = .ok (.iload_n 0, 1) := by decide +kernel
theorem md_JI_numberOfLeadingZeros_58 : decode mc_JI_numberOfLeadingZeros 58 = .ok (.iconst 4, 1) := by decide +kernel
theorem md_JI_numberOfLeadingZeros_59 : decode mc_JI_numberOfLeadingZeros 59 = .ok (.iushr, 1) := by decide +kernel
theorem md_JI_numberOfLeadingZeros_60 : decode mc_JI_numberOfLeadingZeros 60 = .ok (.istore_n 0, 1) := by decide +kernel
theorem md_JI_numberOfLeadingZeros_61 : decode mc_JI_numberOfLeadingZeros 61 = .ok (.iload_n 0, 1) := by decide +kernel
theorem md_JI_numberOfLeadingZeros_62 : decode mc_JI_numberOfLeadingZeros 62 = .ok (.iconst 4, 1) := by decide +kernel
theorem md_JI_numberOfLeadingZeros_63 : decode mc_JI_numberOfLeadingZeros 63 = .ok (.if_icmp .lt 10, 3) := by decide +kernel
theorem md_JI_numberOfLeadingZeros_66 : decode mc_JI_numberOfLeadingZeros 66 = .ok (.iinc 1 (-2), 3) := by decide +kernel
theorem md_JI_numberOfLeadingZeros_69 : decode mc_JI_numberOfLeadingZeros 69 = .ok (.iload_n 0, 1) := by decide +kernel
theorem md_JI_numberOfLeadingZeros_70 : decode mc_JI_numberOfLeadingZeros 70 = .ok (.iconst 2, 1) := by decide +kernel
theorem md_JI_numberOfLeadingZeros_71 : decode mc_JI_numberOfLeadingZeros 71 = .ok (.iushr, 1) := by decide +kernel
theorem md_JI_numberOfLeadingZeros_72 : decode mc_JI_numberOfLeadingZeros 72 = .ok (.istore_n 0, 1) := by decide +kernel
theorem md_JI_numberOfLeadingZeros_73 : decode mc_JI_numberOfLeadingZeros 73 = .ok (.iload_n 1, 1) := by decide +kernel
theorem md_JI_numberOfLeadingZeros_74 : decode mc_JI_numberOfLeadingZeros 74 = .ok (.iload_n 0, 1) := by decide +kernel
theorem md_JI_numberOfLeadingZeros_75 : decode mc_JI_numberOfLeadingZeros 75 = .ok (.iconst 1, 1) := by decide +kernel
theorem md_JI_numberOfLeadingZeros_76 : decode mc_JI_numberOfLeadingZeros 76 = .ok (.iushr, 1) := by decide +kernel
theorem md_JI_numberOfLeadingZeros_77 : decode mc_JI_numberOfLeadingZeros 77 = .ok (.isub, 1) := by decide +kernel
theorem md_JI_numberOfLeadingZeros_78 : decode mc_JI_numberOfLeadingZeros 78 = .ok (.ireturn, 1) := by decide +kernel
abbrev mc_JI_numberOfTrailingZeros : ByteArray := prog_6_method_48_code
def my_JI_numberOfTrailingZeros : MethodName := ⟨"java/lang/Integer", "numberOfTrailingZeros", "(I)I"⟩
abbrev mw_JI_numberOfTrailingZeros : List Cond := Cond.code my_JI_numberOfTrailingZeros mc_JI_numberOfTrailingZeros 2 (some .int) :: gw_tbl
theorem md_JI_numberOfTrailingZeros_0 : decode mc_JI_numberOfTrailingZeros 0 = .ok (.iload_n 0, 1) := by decide +kernel
theorem md_JI_numberOfTrailingZeros_1 : decode mc_JI_numberOfTrailingZeros 1 = .ok (.iconst (-1), 1) := by decide +kernel
theorem md_JI_numberOfTrailingZeros_2 : decode mc_JI_numberOfTrailingZeros 2 = .ok (.ixor, 1) := by decide +kernel
theorem md_JI_numberOfTrailingZeros_3 : decode mc_JI_numberOfTrailingZeros 3 = .ok (.iload_n 0, 1) := by decide +kernel
theorem md_JI_numberOfTrailingZeros_4 : decode mc_JI_numberOfTrailingZeros 4 = .ok (.iconst 1, 1) := by decide +kernel
theorem md_JI_numberOfTrailingZeros_5 : decode mc_JI_numberOfTrailingZeros 5 = .ok (.isub, 1) := by decide +kernel
theorem md_JI_numberOfTrailingZeros_6 : decode mc_JI_numberOfTrailingZeros 6 = .ok (.iand, 1) := by decide +kernel
theorem md_JI_numberOfTrailingZeros_7 : decode mc_JI_numberOfTrailingZeros 7 = .ok (.istore_n 0, 1) := by decide +kernel
theorem md_JI_numberOfTrailingZeros_8 : decode mc_JI_numberOfTrailingZeros 8 = .ok (.iload_n 0, 1) := by decide +kernel
theorem md_JI_numberOfTrailingZeros_9 : decode mc_JI_numberOfTrailingZeros 9 = .ok (.ifCond .gt 8, 3) := by decide +kernel
theorem md_JI_numberOfTrailingZeros_12 : decode mc_JI_numberOfTrailingZeros 12 = .ok (.iload_n 0, 1) := by decide +kernel
theorem md_JI_numberOfTrailingZeros_13 : decode mc_JI_numberOfTrailingZeros 13 = .ok (.bipush 32, 2) := by decide +kernel
theorem md_JI_numberOfTrailingZeros_15 : decode mc_JI_numberOfTrailingZeros 15 = .ok (.iand, 1) := by decide +kernel
theorem md_JI_numberOfTrailingZeros_16 : decode mc_JI_numberOfTrailingZeros 16 = .ok (.ireturn, 1) := by decide +kernel
theorem md_JI_numberOfTrailingZeros_17 : decode mc_JI_numberOfTrailingZeros 17 = .ok (.iconst 1, 1) := by decide +kernel
theorem md_JI_numberOfTrailingZeros_18 : decode mc_JI_numberOfTrailingZeros 18 = .ok (.istore_n 1, 1) := by decide +kernel
theorem md_JI_numberOfTrailingZeros_19 : decode mc_JI_numberOfTrailingZeros 19 = .ok (.iload_n 0, 1) := by decide +kernel
theorem md_JI_numberOfTrailingZeros_20 : decode mc_JI_numberOfTrailingZeros 20 = .ok (.ldc_w 264, 3) := by decide +kernel
theorem md_JI_numberOfTrailingZeros_23 : decode mc_JI_numberOfTrailingZeros 23 = .ok (.if_icmp .le 11, 3) := by decide +kernel
theorem md_JI_numberOfTrailingZeros_26 : decode mc_JI_numberOfTrailingZeros 26 = .ok (.iinc 1 16, 3) := by decide +kernel
theorem md_JI_numberOfTrailingZeros_29 : decode mc_JI_numberOfTrailingZeros 29 = .ok (.iload_n 0, 1) := by decide +kernel
theorem md_JI_numberOfTrailingZeros_30 : decode mc_JI_numberOfTrailingZeros 30 = .ok (.bipush 16, 2) := by decide +kernel
theorem md_JI_numberOfTrailingZeros_32 : decode mc_JI_numberOfTrailingZeros 32 = .ok (.iushr, 1) := by decide +kernel
theorem md_JI_numberOfTrailingZeros_33 : decode mc_JI_numberOfTrailingZeros 33 = .ok (.istore_n 0, 1) := by decide +kernel
theorem md_JI_numberOfTrailingZeros_34 : decode mc_JI_numberOfTrailingZeros 34 = .ok (.iload_n 0, 1) := by decide +kernel
theorem md_JI_numberOfTrailingZeros_35 : decode mc_JI_numberOfTrailingZeros 35 = .ok (.sipush 256, 3) := by decide +kernel
theorem md_JI_numberOfTrailingZeros_38 : decode mc_JI_numberOfTrailingZeros 38 = .ok (.if_icmp .le 11, 3) := by decide +kernel
theorem md_JI_numberOfTrailingZeros_41 : decode mc_JI_numberOfTrailingZeros 41 = .ok (.iinc 1 8, 3) := by decide +kernel
theorem md_JI_numberOfTrailingZeros_44 : decode mc_JI_numberOfTrailingZeros 44 = .ok (.iload_n 0, 1) := by decide +kernel
theorem md_JI_numberOfTrailingZeros_45 : decode mc_JI_numberOfTrailingZeros 45 = .ok (.bipush 8, 2) := by decide +kernel
theorem md_JI_numberOfTrailingZeros_47 : decode mc_JI_numberOfTrailingZeros 47 = .ok (.iushr, 1) := by decide +kernel
theorem md_JI_numberOfTrailingZeros_48 : decode mc_JI_numberOfTrailingZeros 48 = .ok (.istore_n 0, 1) := by decide +kernel
theorem md_JI_numberOfTrailingZeros_49 : decode mc_JI_numberOfTrailingZeros 49 = .ok (.iload_n 0, 1) := by decide +kernel
theorem md_JI_numberOfTrailingZeros_50 : decode mc_JI_numberOfTrailingZeros 50 = .ok (.bipush 16, 2) := by decide +kernel
theorem md_JI_numberOfTrailingZeros_52 : decode mc_JI_numberOfTrailingZeros 52 = .ok (.if_icmp .le 10, 3) := by decide +kernel
theorem md_JI_numberOfTrailingZeros_55 : decode mc_JI_numberOfTrailingZeros 55 = .ok (.iinc 1 4, 3) := by decide +kernel
theorem md_JI_numberOfTrailingZeros_58 : decode mc_JI_numberOfTrailingZeros 58 = .ok (.iload_n 0, 1) := by decide +kernel
theorem md_JI_numberOfTrailingZeros_59 : decode mc_JI_numberOfTrailingZeros 59 = .ok (.iconst 4, 1) := by decide +kernel
theorem md_JI_numberOfTrailingZeros_60 : decode mc_JI_numberOfTrailingZeros 60 = .ok (.iushr, 1) := by decide +kernel
theorem md_JI_numberOfTrailingZeros_61 : decode mc_JI_numberOfTrailingZeros 61 = .ok (.istore_n 0, 1) := by decide +kernel
theorem md_JI_numberOfTrailingZeros_62 : decode mc_JI_numberOfTrailingZeros 62 = .ok (.iload_n 0, 1) := by decide +kernel
theorem md_JI_numberOfTrailingZeros_63 : decode mc_JI_numberOfTrailingZeros 63 = .ok (.iconst 4, 1) := by decide +kernel
theorem md_JI_numberOfTrailingZeros_64 : decode mc_JI_numberOfTrailingZeros 64 = .ok (.if_icmp .le 10, 3) := by decide +kernel
theorem md_JI_numberOfTrailingZeros_67 : decode mc_JI_numberOfTrailingZeros 67 = .ok (.iinc 1 2, 3) := by decide +kernel
theorem md_JI_numberOfTrailingZeros_70 : decode mc_JI_numberOfTrailingZeros 70 = .ok (.iload_n 0, 1) := by decide +kernel
theorem md_JI_numberOfTrailingZeros_71 : decode mc_JI_numberOfTrailingZeros 71 = .ok (.iconst 2, 1) := by decide +kernel
theorem md_JI_numberOfTrailingZeros_72 : decode mc_JI_numberOfTrailingZeros 72 = .ok (.iushr, 1) := by decide +kernel
theorem md_JI_numberOfTrailingZeros_73 : decode mc_JI_numberOfTrailingZeros 73 = .ok (.istore_n 0, 1) := by decide +kernel
theorem md_JI_numberOfTrailingZeros_74 : decode mc_JI_numberOfTrailingZeros 74 = .ok (.iload_n 1, 1) := by decide +kernel
theorem md_JI_numberOfTrailingZeros_75 : decode mc_JI_numberOfTrailingZeros 75 = .ok (.iload_n 0, 1) := by decide +kernel
theorem md_JI_numberOfTrailingZeros_76 : decode mc_JI_numberOfTrailingZeros 76 = .ok (.iconst 1, 1) := by decide +kernel
theorem md_JI_numberOfTrailingZeros_77 : decode mc_JI_numberOfTrailingZeros 77 = .ok (.iushr, 1) := by decide +kernel
theorem md_JI_numberOfTrailingZeros_78 : decode mc_JI_numberOfTrailingZeros 78 = .ok (.iadd, 1) := by decide +kernel
theorem md_JI_numberOfTrailingZeros_79 : decode mc_JI_numberOfTrailingZeros 79 = .ok (.ireturn, 1) := by decide +kernel
abbrev mc_JL_bitCount : ByteArray := prog_7_method_50_code
def my_JL_bitCount : MethodName := ⟨"java/lang/Long", "bitCount", "(J)I"⟩
abbrev mw_JL_bitCount : List Cond := Cond.code my_JL_bitCount mc_JL_bitCount 2 (some .int) :: gw_tbl
theorem md_JL_bitCount_0 : decode mc_JL_bitCount 0 = .ok (.lload_n 0, 1) := by decide +kernel
theorem md_JL_bitCount_1 : decode mc_JL_bitCount 1 = .ok (.lload_n 0, 1) := by decide +kernel
theorem md_JL_bitCount_2 : decode mc_JL_bitCount 2 = .ok (.iconst 1, 1) := by decide +kernel
theorem md_JL_bitCount_3 : decode mc_JL_bitCount 3 = .ok (.lushr, 1) := by decide +kernel
theorem md_JL_bitCount_4 : decode mc_JL_bitCount 4 = .ok (.ldc2_w 314, 3) := by decide +kernel
theorem md_JL_bitCount_7 : decode mc_JL_bitCount 7 = .ok (.land, 1) := by decide +kernel
theorem md_JL_bitCount_8 : decode mc_JL_bitCount 8 = .ok (.lsub, 1) := by decide +kernel
theorem md_JL_bitCount_9 : decode mc_JL_bitCount 9 = .ok (.lstore_n 0, 1) := by decide +kernel
theorem md_JL_bitCount_10 : decode mc_JL_bitCount 10 = .ok (.lload_n 0, 1) := by decide +kernel
theorem md_JL_bitCount_11 : decode mc_JL_bitCount 11 = .ok (.ldc2_w 316, 3) := by decide +kernel
theorem md_JL_bitCount_14 : decode mc_JL_bitCount 14 = .ok (.land, 1) := by decide +kernel
theorem md_JL_bitCount_15 : decode mc_JL_bitCount 15 = .ok (.lload_n 0, 1) := by decide +kernel
theorem md_JL_bitCount_16 : decode mc_JL_bitCount 16 = .ok (.iconst 2, 1) := by decide +kernel
theorem md_JL_bitCount_17 : decode mc_JL_bitCount 17 = .ok (.lushr, 1) := by decide +kernel
theorem md_JL_bitCount_18 : decode mc_JL_bitCount 18 = .ok (.ldc2_w 316, 3) := by decide +kernel
theorem md_JL_bitCount_21 : decode mc_JL_bitCount 21 = .ok (.land, 1) := by decide +kernel
theorem md_JL_bitCount_22 : decode mc_JL_bitCount 22 = .ok (.ladd, 1) := by decide +kernel
theorem md_JL_bitCount_23 : decode mc_JL_bitCount 23 = .ok (.lstore_n 0, 1) := by decide +kernel
theorem md_JL_bitCount_24 : decode mc_JL_bitCount 24 = .ok (.lload_n 0, 1) := by decide +kernel
theorem md_JL_bitCount_25 : decode mc_JL_bitCount 25 = .ok (.lload_n 0, 1) := by decide +kernel
theorem md_JL_bitCount_26 : decode mc_JL_bitCount 26 = .ok (.iconst 4, 1) := by decide +kernel
theorem md_JL_bitCount_27 : decode mc_JL_bitCount 27 = .ok (.lushr, 1) := by decide +kernel
theorem md_JL_bitCount_28 : decode mc_JL_bitCount 28 = .ok (.ladd, 1) := by decide +kernel
theorem md_JL_bitCount_29 : decode mc_JL_bitCount 29 = .ok (.ldc2_w 318, 3) := by decide +kernel
theorem md_JL_bitCount_32 : decode mc_JL_bitCount 32 = .ok (.land, 1) := by decide +kernel
theorem md_JL_bitCount_33 : decode mc_JL_bitCount 33 = .ok (.lstore_n 0, 1) := by decide +kernel
theorem md_JL_bitCount_34 : decode mc_JL_bitCount 34 = .ok (.lload_n 0, 1) := by decide +kernel
theorem md_JL_bitCount_35 : decode mc_JL_bitCount 35 = .ok (.lload_n 0, 1) := by decide +kernel
theorem md_JL_bitCount_36 : decode mc_JL_bitCount 36 = .ok (.bipush 8, 2) := by decide +kernel
theorem md_JL_bitCount_38 : decode mc_JL_bitCount 38 = .ok (.lushr, 1) := by decide +kernel
theorem md_JL_bitCount_39 : decode mc_JL_bitCount 39 = .ok (.ladd, 1) := by decide +kernel
theorem md_JL_bitCount_40 : decode mc_JL_bitCount 40 = .ok (.lstore_n 0, 1) := by decide +kernel
theorem md_JL_bitCount_41 : decode mc_JL_bitCount 41 = .ok (.lload_n 0, 1) := by decide +kernel
theorem md_JL_bitCount_42 : decode mc_JL_bitCount 42 = .ok (.lload_n 0, 1) := by decide +kernel
theorem md_JL_bitCount_43 : decode mc_JL_bitCount 43 = .ok (.bipush 16, 2) := by decide +kernel
theorem md_JL_bitCount_45 : decode mc_JL_bitCount 45 = .ok (.lushr, 1) := by decide +kernel
theorem md_JL_bitCount_46 : decode mc_JL_bitCount 46 = .ok (.ladd, 1) := by decide +kernel
theorem md_JL_bitCount_47 : decode mc_JL_bitCount 47 = .ok (.lstore_n 0, 1) := by decide +kernel
theorem md_JL_bitCount_48 : decode mc_JL_bitCount 48 = .ok (.lload_n 0, 1) := by decide +kernel
theorem md_JL_bitCount_49 : decode mc_JL_bitCount 49 = .ok (.lload_n 0, 1) := by decide +kernel
theorem md_JL_bitCount_50 : decode mc_JL_bitCount 50 = .ok (.bipush 32, 2) := by decide +kernel
theorem md_JL_bitCount_52 : decode mc_JL_bitCount 52 = .ok (.lushr, 1) := by decide +kernel
theorem md_JL_bitCount_53 : decode mc_JL_bitCount 53 = .ok (.ladd, 1) := by decide +kernel
theorem md_JL_bitCount_54 : decode mc_JL_bitCount 54 = .ok (.lstore_n 0, 1) := by decide +kernel
theorem md_JL_bitCount_55 : decode mc_JL_bitCount 55 = .ok (.lload_n 0, 1) := by decide +kernel
theorem md_JL_bitCount_56 : decode mc_JL_bitCount 56 = .ok (.l2i, 1) := by decide +kernel
theorem md_JL_bitCount_57 : decode mc_JL_bitCount 57 = .ok (.bipush 127, 2) := by decide +kernel
theorem md_JL_bitCount_59 : decode mc_JL_bitCount 59 = .ok (.iand, 1) := by decide +kernel
theorem md_JL_bitCount_60 : decode mc_JL_bitCount 60 = .ok (.ireturn, 1) := by decide +kernel
abbrev mc_JL_compare : ByteArray := prog_7_method_42_code
def my_JL_compare : MethodName := ⟨"java/lang/Long", "compare", "(JJ)I"⟩
abbrev mw_JL_compare : List Cond := Cond.code my_JL_compare mc_JL_compare 4 (some .int) :: gw_tbl
theorem md_JL_compare_0 : decode mc_JL_compare 0 = .ok (.lload_n 0, 1) := by decide +kernel
theorem md_JL_compare_1 : decode mc_JL_compare 1 = .ok (.lload_n 2, 1) := by decide +kernel
theorem md_JL_compare_2 : decode mc_JL_compare 2 = .ok (.lcmp, 1) := by decide +kernel
theorem md_JL_compare_3 : decode mc_JL_compare 3 = .ok (.ifCond .ge 7, 3) := by decide +kernel
theorem md_JL_compare_6 : decode mc_JL_compare 6 = .ok (.iconst (-1), 1) := by decide +kernel
theorem md_JL_compare_7 : decode mc_JL_compare 7 = .ok (.goto 14, 3) := by decide +kernel
theorem md_JL_compare_10 : decode mc_JL_compare 10 = .ok (.lload_n 0, 1) := by decide +kernel
theorem md_JL_compare_11 : decode mc_JL_compare 11 = .ok (.lload_n 2, 1) := by decide +kernel
theorem md_JL_compare_12 : decode mc_JL_compare 12 = .ok (.lcmp, 1) := by decide +kernel
theorem md_JL_compare_13 : decode mc_JL_compare 13 = .ok (.ifCond .ne 7, 3) := by decide +kernel
theorem md_JL_compare_16 : decode mc_JL_compare 16 = .ok (.iconst 0, 1) := by decide +kernel
theorem md_JL_compare_17 : decode mc_JL_compare 17 = .ok (.goto 4, 3) := by decide +kernel
theorem md_JL_compare_20 : decode mc_JL_compare 20 = .ok (.iconst 1, 1) := by decide +kernel
theorem md_JL_compare_21 : decode mc_JL_compare 21 = .ok (.ireturn, 1) := by decide +kernel
abbrev mc_JL_numberOfLeadingZeros : ByteArray := prog_7_method_48_code
def my_JL_numberOfLeadingZeros : MethodName := ⟨"java/lang/Long", "numberOfLeadingZeros", "(J)I"⟩
abbrev mw_JL_numberOfLeadingZeros : List Cond := Cond.code my_JL_numberOfLeadingZeros mc_JL_numberOfLeadingZeros 3 (some .int) :: gw_tbl
theorem md_JL_numberOfLeadingZeros_0 : decode mc_JL_numberOfLeadingZeros 0 = .ok (.lload_n 0, 1) := by decide +kernel
theorem md_JL_numberOfLeadingZeros_1 : decode mc_JL_numberOfLeadingZeros 1 = .ok (.bipush 32, 2) := by decide +kernel
theorem md_JL_numberOfLeadingZeros_3 : decode mc_JL_numberOfLeadingZeros 3 = .ok (.lushr, 1) := by decide +kernel
theorem md_JL_numberOfLeadingZeros_4 : decode mc_JL_numberOfLeadingZeros 4 = .ok (.l2i, 1) := by decide +kernel
theorem md_JL_numberOfLeadingZeros_5 : decode mc_JL_numberOfLeadingZeros 5 = .ok (.istore_n 2, 1) := by decide +kernel
theorem md_JL_numberOfLeadingZeros_6 : decode mc_JL_numberOfLeadingZeros 6 = .ok (.iload_n 2, 1) := by decide +kernel
theorem md_JL_numberOfLeadingZeros_7 : decode mc_JL_numberOfLeadingZeros 7 = .ok (.ifCond .ne 14, 3) := by decide +kernel
theorem md_JL_numberOfLeadingZeros_10 : decode mc_JL_numberOfLeadingZeros 10 = .ok (.bipush 32, 2) := by decide +kernel
theorem md_JL_numberOfLeadingZeros_12 : decode mc_JL_numberOfLeadingZeros 12 = .ok (.lload_n 0, 1) := by decide +kernel
theorem md_JL_numberOfLeadingZeros_13 : decode mc_JL_numberOfLeadingZeros 13 = .ok (.l2i, 1) := by decide +kernel
theorem md_JL_numberOfLeadingZeros_14 : decode mc_JL_numberOfLeadingZeros 14 = .ok (.invokestatic 308, 3) := by decide +kernel
theorem md_JL_numberOfLeadingZeros_17 : decode mc_JL_numberOfLeadingZeros 17 = .ok (.iadd, 1) := by decide +kernel
theorem md_JL_numberOfLeadingZeros_18 : decode mc_JL_numberOfLeadingZeros 18 = .ok (.goto 7, 3) := by decide +kernel
theorem md_JL_numberOfLeadingZeros_21 : decode mc_JL_numberOfLeadingZeros 21 = .ok (.iload_n 2, 1) := by decide +kernel
theorem md_JL_numberOfLeadingZeros_22 : decode mc_JL_numberOfLeadingZeros 22 = .ok (.invokestatic 308, 3) := by decide +kernel
theorem md_JL_numberOfLeadingZeros_25 : decode mc_JL_numberOfLeadingZeros 25 = .ok (.ireturn, 1) := by decide +kernel
abbrev mc_JL_numberOfTrailingZeros : ByteArray := prog_7_method_49_code
def my_JL_numberOfTrailingZeros : MethodName := ⟨"java/lang/Long", "numberOfTrailingZeros", "(J)I"⟩
abbrev mw_JL_numberOfTrailingZeros : List Cond := Cond.code my_JL_numberOfTrailingZeros mc_JL_numberOfTrailingZeros 3 (some .int) :: gw_tbl
theorem md_JL_numberOfTrailingZeros_0 : decode mc_JL_numberOfTrailingZeros 0 = .ok (.lload_n 0, 1) := by decide +kernel
theorem md_JL_numberOfTrailingZeros_1 : decode mc_JL_numberOfTrailingZeros 1 = .ok (.l2i, 1) := by decide +kernel
theorem md_JL_numberOfTrailingZeros_2 : decode mc_JL_numberOfTrailingZeros 2 = .ok (.istore_n 2, 1) := by decide +kernel
theorem md_JL_numberOfTrailingZeros_3 : decode mc_JL_numberOfTrailingZeros 3 = .ok (.iload_n 2, 1) := by decide +kernel
theorem md_JL_numberOfTrailingZeros_4 : decode mc_JL_numberOfTrailingZeros 4 = .ok (.ifCond .ne 17, 3) := by decide +kernel
theorem md_JL_numberOfTrailingZeros_7 : decode mc_JL_numberOfTrailingZeros 7 = .ok (.bipush 32, 2) := by decide +kernel
theorem md_JL_numberOfTrailingZeros_9 : decode mc_JL_numberOfTrailingZeros 9 = .ok (.lload_n 0, 1) := by decide +kernel
theorem md_JL_numberOfTrailingZeros_10 : decode mc_JL_numberOfTrailingZeros 10 = .ok (.bipush 32, 2) := by decide +kernel
theorem md_JL_numberOfTrailingZeros_12 : decode mc_JL_numberOfTrailingZeros 12 = .ok (.lushr, 1) := by decide +kernel
theorem md_JL_numberOfTrailingZeros_13 : decode mc_JL_numberOfTrailingZeros 13 = .ok (.l2i, 1) := by decide +kernel
theorem md_JL_numberOfTrailingZeros_14 : decode mc_JL_numberOfTrailingZeros 14 = .ok (.invokestatic 311, 3) := by decide +kernel
theorem md_JL_numberOfTrailingZeros_17 : decode mc_JL_numberOfTrailingZeros 17 = .ok (.iadd, 1) := by decide +kernel
theorem md_JL_numberOfTrailingZeros_18 : decode mc_JL_numberOfTrailingZeros 18 = .ok (.goto 7, 3) := by decide +kernel
theorem md_JL_numberOfTrailingZeros_21 : decode mc_JL_numberOfTrailingZeros 21 = .ok (.iload_n 2, 1) := by decide +kernel
theorem md_JL_numberOfTrailingZeros_22 : decode mc_JL_numberOfTrailingZeros 22 = .ok (.invokestatic 311, 3) := by decide +kernel
theorem md_JL_numberOfTrailingZeros_25 : decode mc_JL_numberOfTrailingZeros 25 = .ok (.ireturn, 1) := by decide +kernel
abbrev mc_JM_max_I : ByteArray := prog_8_method_65_code
def my_JM_max_I : MethodName := ⟨"java/lang/Math", "max", "(II)I"⟩
abbrev mw_JM_max_I : List Cond := Cond.code my_JM_max_I mc_JM_max_I 2 (some .int) :: gw_tbl
theorem md_JM_max_I_0 : decode mc_JM_max_I 0 = .ok (.iload_n 0, 1) := by decide +kernel
theorem md_JM_max_I_1 : decode mc_JM_max_I 1 = .ok (.iload_n 1, 1) := by decide +kernel
theorem md_JM_max_I_2 : decode mc_JM_max_I 2 = .ok (.if_icmp .lt 7, 3) := by decide +kernel
theorem md_JM_max_I_5 : decode mc_JM_max_I 5 = .ok (.iload_n 0, 1) := by decide +kernel
theorem md_JM_max_I_6 : decode mc_JM_max_I 6 = .ok (.goto 4, 3) := by decide +kernel
theorem md_JM_max_I_9 : decode mc_JM_max_I 9 = .ok (.iload_n 1, 1) := by decide +kernel
theorem md_JM_max_I_10 : decode mc_JM_max_I 10 = .ok (.ireturn, 1) := by decide +kernel
abbrev mc_JM_max_J : ByteArray := prog_8_method_66_code
def my_JM_max_J : MethodName := ⟨"java/lang/Math", "max", "(JJ)J"⟩
abbrev mw_JM_max_J : List Cond := Cond.code my_JM_max_J mc_JM_max_J 4 (some .long) :: gw_tbl
theorem md_JM_max_J_0 : decode mc_JM_max_J 0 = .ok (.lload_n 0, 1) := by decide +kernel
theorem md_JM_max_J_1 : decode mc_JM_max_J 1 = .ok (.lload_n 2, 1) := by decide +kernel
theorem md_JM_max_J_2 : decode mc_JM_max_J 2 = .ok (.lcmp, 1) := by decide +kernel
theorem md_JM_max_J_3 : decode mc_JM_max_J 3 = .ok (.ifCond .lt 7, 3) := by decide +kernel
theorem md_JM_max_J_6 : decode mc_JM_max_J 6 = .ok (.lload_n 0, 1) := by decide +kernel
theorem md_JM_max_J_7 : decode mc_JM_max_J 7 = .ok (.goto 4, 3) := by decide +kernel
theorem md_JM_max_J_10 : decode mc_JM_max_J 10 = .ok (.lload_n 2, 1) := by decide +kernel
theorem md_JM_max_J_11 : decode mc_JM_max_J 11 = .ok (.lreturn, 1) := by decide +kernel
abbrev mc_JM_min_I : ByteArray := prog_8_method_69_code
def my_JM_min_I : MethodName := ⟨"java/lang/Math", "min", "(II)I"⟩
abbrev mw_JM_min_I : List Cond := Cond.code my_JM_min_I mc_JM_min_I 2 (some .int) :: gw_tbl
theorem md_JM_min_I_0 : decode mc_JM_min_I 0 = .ok (.iload_n 0, 1) := by decide +kernel
theorem md_JM_min_I_1 : decode mc_JM_min_I 1 = .ok (.iload_n 1, 1) := by decide +kernel
theorem md_JM_min_I_2 : decode mc_JM_min_I 2 = .ok (.if_icmp .gt 7, 3) := by decide +kernel
theorem md_JM_min_I_5 : decode mc_JM_min_I 5 = .ok (.iload_n 0, 1) := by decide +kernel
theorem md_JM_min_I_6 : decode mc_JM_min_I 6 = .ok (.goto 4, 3) := by decide +kernel
theorem md_JM_min_I_9 : decode mc_JM_min_I 9 = .ok (.iload_n 1, 1) := by decide +kernel
theorem md_JM_min_I_10 : decode mc_JM_min_I 10 = .ok (.ireturn, 1) := by decide +kernel
abbrev mc_JM_min_J : ByteArray := prog_8_method_70_code
def my_JM_min_J : MethodName := ⟨"java/lang/Math", "min", "(JJ)J"⟩
abbrev mw_JM_min_J : List Cond := Cond.code my_JM_min_J mc_JM_min_J 4 (some .long) :: gw_tbl
theorem md_JM_min_J_0 : decode mc_JM_min_J 0 = .ok (.lload_n 0, 1) := by decide +kernel
theorem md_JM_min_J_1 : decode mc_JM_min_J 1 = .ok (.lload_n 2, 1) := by decide +kernel
theorem md_JM_min_J_2 : decode mc_JM_min_J 2 = .ok (.lcmp, 1) := by decide +kernel
theorem md_JM_min_J_3 : decode mc_JM_min_J 3 = .ok (.ifCond .gt 7, 3) := by decide +kernel
theorem md_JM_min_J_6 : decode mc_JM_min_J 6 = .ok (.lload_n 0, 1) := by decide +kernel
theorem md_JM_min_J_7 : decode mc_JM_min_J 7 = .ok (.goto 4, 3) := by decide +kernel
theorem md_JM_min_J_10 : decode mc_JM_min_J 10 = .ok (.lload_n 2, 1) := by decide +kernel
theorem md_JM_min_J_11 : decode mc_JM_min_J 11 = .ok (.lreturn, 1) := by decide +kernel
end
section
/-! ROUNDING, over natural numbers: no machine here. rn_len: the length in bits; rn_rt n d: n / d to the nearest, ties to even; rn_st M k: M shifted right by k, its last bit standing for what was lost; rn_of: the magnitude bits of m * 2 ^ (least + d). -/
def rn_len (m : Nat) : Nat := if m = 0 then 0 else m.log2 + 1
theorem rn_len_0 : rn_len 0 = 0 := rfl
theorem rn_len_pos {m : Nat} (h : m ≠ 0) : 0 < rn_len m := by
  unfold rn_len; rw [if_neg h]; omega
theorem rn_len_lt (m : Nat) : m < 2 ^ rn_len m := by
  unfold rn_len
  by_cases h : m = 0
  · subst h; simp
  · rw [if_neg h]; exact Nat.lt_log2_self
theorem rn_len_le {m : Nat} (h : m ≠ 0) : 2 ^ (rn_len m - 1) ≤ m := by
  unfold rn_len
  rw [if_neg h, Nat.add_sub_cancel]
  exact Nat.log2_self_le h
theorem rn_len_eq {m k : Nat} (h1 : 2 ^ k ≤ m) (h2 : m < 2 ^ (k + 1)) : rn_len m = k + 1 := by
  have h0 : m ≠ 0 := by
    have : 0 < 2 ^ k := Nat.two_pow_pos k
    omega
  unfold rn_len
  rw [if_neg h0, (Nat.log2_eq_iff h0).mpr ⟨h1, h2⟩]
theorem rn_len_up {m k : Nat} (h : m < 2 ^ k) : rn_len m ≤ k := by
  by_cases h0 : m = 0
  · subst h0; rw [rn_len_0]; omega
  · unfold rn_len
    rw [if_neg h0]
    have := (Nat.log2_lt (k := k) h0).mpr h
    omega
theorem rn_len_lo {m k : Nat} (h : 2 ^ k ≤ m) : k < rn_len m := by
  have h0 : m ≠ 0 := by
    have : 0 < 2 ^ k := Nat.two_pow_pos k
    omega
  unfold rn_len
  rw [if_neg h0]
  have := (Nat.le_log2 (k := k) h0).mpr h
  omega
theorem rn_len_mul {m : Nat} (h : m ≠ 0) (k : Nat) : rn_len (m * 2 ^ k) = rn_len m + k := by
  have hp := rn_len_pos h
  have h1 := rn_len_le h
  have h2 := rn_len_lt m
  obtain ⟨j, hj⟩ : ∃ j, rn_len m = j + 1 := ⟨rn_len m - 1, by omega⟩
  rw [hj] at h1 h2 ⊢
  rw [Nat.add_sub_cancel] at h1
  rw [show j + 1 + k = (j + k) + 1 by omega]
  apply rn_len_eq
  · rw [Nat.pow_add]; exact Nat.mul_le_mul_right _ h1
  · rw [show j + k + 1 = (j + 1) + k by omega, Nat.pow_add]; exact Nat.mul_lt_mul_of_pos_right h2 (Nat.two_pow_pos k)
theorem rn_len_div {m k : Nat} (h : m / 2 ^ k ≠ 0) : rn_len m = rn_len (m / 2 ^ k) + k := by
  have hp := rn_len_pos h
  have h1 := rn_len_le h
  have h2 := rn_len_lt (m / 2 ^ k)
  obtain ⟨j, hj⟩ : ∃ j, rn_len (m / 2 ^ k) = j + 1 := ⟨rn_len (m / 2 ^ k) - 1, by omega⟩
  rw [hj] at h1 h2 ⊢
  rw [Nat.add_sub_cancel] at h1
  rw [show j + 1 + k = (j + k) + 1 by omega]
  apply rn_len_eq
  · rw [Nat.pow_add]; exact (Nat.le_div_iff_mul_le (Nat.two_pow_pos k)).mp h1
  · rw [show j + k + 1 = (j + 1) + k by omega, Nat.pow_add]; exact (Nat.div_lt_iff_lt_mul (Nat.two_pow_pos k)).mp h2
/-! THE TWO CLASSES AS FUNCTIONS: each method of the class (cf_: Format, cn_: NumberProbe) and of the reference (rf_) as a function of its arguments, in the machine's own operations. k: the format's place (0 SINGLE, 1 DOUBLE). -/
def jl_shl (x : Int64) (y : Int32) : Int64 := x <<< (y.toInt64 &&& 63)
def jl_shr (x : Int64) (y : Int32) : Int64 := x >>> (y.toInt64 &&& 63)
def jl_ush (x : Int64) (y : Int32) : Int64 := (x.toUInt64 >>> (y.toInt64.toUInt64 &&& Int64.toUInt64 63)).toInt64
def ji_shl (x y : Int32) : Int32 := x <<< (y &&& 31)
def ji_shr (x y : Int32) : Int32 := x >>> (y &&& 31)
def ji_ush (x y : Int32) : Int32 := (x.toUInt32 >>> (y.toUInt32 &&& Int32.toUInt32 31)).toInt32
def jl_rem (x y : Int64) : Int64 := x - x / y * y
def jb (b : Bool) : Int32 := if b then 1 else 0
theorem jb_0 {b : Bool} : jb b = 0 ↔ b = false := by cases b <;> decide
theorem jb_n0 {b : Bool} : ¬ jb b = 0 ↔ b = true := by cases b <;> decide
theorem jb_eq {a b : Bool} : jb a = jb b ↔ a = b := by cases a <;> cases b <;> decide
-- the fields of the two formats
def kf_b (k : Nat) : Int32 := match k with | 0 => 23 | _ => 52
def kf_s (k : Nat) : Int32 := match k with | 0 => 255 | _ => 2047
def kf_l (k : Nat) : Int32 := match k with | 0 => -149 | _ => -1074
def kf_m (k : Nat) : Int64 := match k with | 0 => 0x7FFFFFFF | _ => 0x7FFFFFFFFFFFFFFF
def kf_i (k : Nat) : Int64 := match k with | 0 => 0x7F800000 | _ => 0x7FF0000000000000
def kf_n (k : Nat) : Int64 := match k with | 0 => 0x7FC00000 | _ => 0x7FF8000000000000
-- Integer, Long
def jd_inlz4 (n i : Int32) : Int32 := n - ji_ush i 1
def jd_inlz3 (n i : Int32) : Int32 := if i < 4 then jd_inlz4 n i else jd_inlz4 (n + (-2)) (ji_ush i 2)
def jd_inlz2 (n i : Int32) : Int32 := if i < 16 then jd_inlz3 n i else jd_inlz3 (n + (-4)) (ji_ush i 4)
def jd_inlz1 (n i : Int32) : Int32 := if i < 256 then jd_inlz2 n i else jd_inlz2 (n + (-8)) (ji_ush i 8)
def jd_inlz (i : Int32) : Int32 := if 0 < i then (if i < 65536 then jd_inlz1 31 i else jd_inlz1 (31 + (-16)) (ji_ush i 16)) else if i = 0 then 32 else 0
def jd_nlz (x : Int64) : Int32 := if (jl_ush x 32).toInt32 = 0 then 32 + jd_inlz x.toInt32 else jd_inlz (jl_ush x 32).toInt32
-- Format
def cf_mag (k : Nat) (x : Int64) : Int64 := x &&& kf_m k
def cf_nan (k : Nat) (x : Int64) : Bool := decide (kf_i k < cf_mag k x)
def cf_inf (k : Nat) (x : Int64) : Bool := decide (cf_mag k x = kf_i k)
def cf_zer (k : Nat) (x : Int64) : Bool := decide (cf_mag k x = 0)
def cf_neg (k : Nat) (x : Int64) : Int64 := if cf_nan k x then x else x ^^^ (kf_m k ^^^ (-1))
def cf_sgn (k : Nat) (n : Bool) (m : Int64) : Int64 := if n then m ||| (kf_m k ^^^ (-1)) else m
def cf_num (k : Nat) (b : Int64) : Int64 := if cf_nan k b then kf_n k else cf_sgn k (decide (¬ (b &&& (kf_m k + 1)) = 0)) (cf_mag k b)
def cf_fld (k : Nat) (x : Int64) : Int32 := (jl_ush x (kf_b k)).toInt32 &&& kf_s k
def cf_sig (k : Nat) (x : Int64) : Int64 := if cf_fld k x = 0 then x &&& (jl_shl 1 (kf_b k) - 1) else (x &&& (jl_shl 1 (kf_b k) - 1)) ||| jl_shl 1 (kf_b k)
def cf_exp (k : Nat) (x : Int64) : Int32 := kf_l k + (if cf_fld k x < 1 then 1 else cf_fld k x) - 1
def cf_wid (s : Int64) : Int32 := jd_nlz s - 11
def cf_dig (v : Int64) (d : Int32) : Int64 := jl_ush v (d * 10) &&& 1023
def cf_ris (k : Nat) (x : Int64) : Int64 := if 0 ≤ x then x else x ^^^ kf_m k
def cf_rbv (k : Nat) (x : Int64) : Int64 := if cf_zer k x then 0 else cf_ris k x
def cf_les (k : Nat) (x y : Int64) : Int64 := if cf_nan k x ∨ cf_nan k y then kf_n k else if cf_ris k x ≤ cf_ris k y then x else y
def cf_gre (k : Nat) (x y : Int64) : Int64 := if cf_nan k x ∨ cf_nan k y then kf_n k else if cf_ris k y ≤ cf_ris k x then x else y
def cf_wre (v r : Int64) : Int64 := if r = 0 then v else v ||| 1
def cf_shr (v : Int64) (b : Int32) : Int64 := if 64 ≤ b then cf_wre 0 v else cf_wre (jl_ush v b) (v - jl_shl (jl_ush v b) b)
def cf_cut (v : Int64) (c : Int32) : Int64 := if 64 ≤ c then 0 else
  if jl_shl 1 (c - 1) < v - jl_shl (jl_ush v c) c ∨ (v - jl_shl (jl_ush v c) c = jl_shl 1 (c - 1) ∧ (jl_ush v c &&& 1) = 1) then jl_ush v c + 1 else jl_ush v c
/-- the end of rounded: the value m, shifted to the top, cut at c, its last place l -/
def cf_rn2 (k : Nat) (n : Bool) (m : Int64) (c l : Int32) : Int64 := if kf_s k - 1 ≤ l - kf_l k then cf_sgn k n (kf_i k) else cf_sgn k n (jl_shl (l - kf_l k).toInt64 (kf_b k) + cf_cut m c)
def cf_rnd (k : Nat) (n : Bool) (m : Int64) (e : Int32) : Int64 := if m = 0 then cf_sgn k n 0 else
  if e - (jd_nlz m - 1) + (62 - kf_b k) < kf_l k then cf_rn2 k n (jl_shl m (jd_nlz m - 1)) ((62 - kf_b k) + (kf_l k - (e - (jd_nlz m - 1) + (62 - kf_b k)))) (kf_l k)
  else cf_rn2 k n (jl_shl m (jd_nlz m - 1)) (62 - kf_b k) (e - (jd_nlz m - 1) + (62 - kf_b k))
/-- finiteSum -/
def cf_fsm (k : Nat) (g s : Int64) : Int64 :=
  let a := jl_shl (cf_sig k g) 9
  let b := cf_shr (jl_shl (cf_sig k s) 9) (cf_exp k g - cf_exp k s)
  let same := decide (g < 0) == decide (s < 0)
  let total := if same then a + b else a - b
  cf_rnd k (decide (g < 0) && (same || decide (¬ total = 0))) total (cf_exp k g - 9)
def cf_sum (k : Nat) (x y : Int64) : Int64 := if cf_nan k x ∨ cf_nan k y then kf_n k else
  if cf_inf k x then (if cf_inf k y ∧ ¬ x = y then kf_n k else x) else
  if cf_inf k y then y else
  if cf_mag k y ≤ cf_mag k x then cf_fsm k x y else cf_fsm k y x
def cf_pstep (a b : Int64) (d : Int32) (q : Int64 × Int64) : Int64 × Int64 := (jl_ush q.1 10 + a * cf_dig b d, q.2 ||| cf_dig q.1 0)
def cf_ploop (a b : Int64) : Nat → Int64 × Int64 → Int64 × Int64
  | 0, q => q
  | n + 1, q => cf_ploop a b n (cf_pstep a b (nI (5 - n)) q)
def cf_fpr (k : Nat) (n : Bool) (x y : Int64) : Int64 :=
  let sx := cf_wid (cf_sig k x)
  let sy := cf_wid (cf_sig k y)
  let q := cf_ploop (jl_shl (cf_sig k x) sx) (jl_shl (cf_sig k y) sy) 6 (0, 0)
  cf_rnd k n (cf_wre q.1 q.2) (cf_exp k x - sx + cf_exp k y - sy + 50)
def cf_mul (k : Nat) (x y : Int64) : Int64 :=
  let n := !(decide (x < 0) == decide (y < 0))
  if cf_nan k x ∨ cf_nan k y then kf_n k else
  if cf_inf k x ∨ cf_inf k y then (if cf_zer k x ∨ cf_zer k y then kf_n k else cf_sgn k n (kf_i k)) else
  if cf_zer k x ∨ cf_zer k y then cf_sgn k n 0 else cf_fpr k n x y
def cf_qstep (d : Int64) (q : Int64 × Int64) : Int64 × Int64 := (jl_shl q.1 10 + jl_shl q.2 10 / d, jl_rem (jl_shl q.2 10) d)
def cf_qloop (d : Int64) : Nat → Int64 × Int64 → Int64 × Int64
  | 0, q => q
  | n + 1, q => cf_qloop d n (cf_qstep d q)
def cf_fqu (k : Nat) (n : Bool) (x y : Int64) : Int64 :=
  let sx := cf_wid (cf_sig k x)
  let sy := cf_wid (cf_sig k y)
  let a := jl_shl (cf_sig k x) sx
  let d := jl_shl (cf_sig k y) sy
  let q := cf_qloop d 6 (a / d, jl_rem a d)
  cf_rnd k n (cf_wre q.1 q.2) (cf_exp k x - sx - cf_exp k y + sy - 60)
def cf_div (k : Nat) (x y : Int64) : Int64 :=
  let n := !(decide (x < 0) == decide (y < 0))
  if cf_nan k x ∨ cf_nan k y ∨ (cf_inf k x ∧ cf_inf k y) ∨ (cf_zer k x ∧ cf_zer k y) then kf_n k else
  if cf_inf k x ∨ cf_zer k y then cf_sgn k n (kf_i k) else
  if cf_zer k x ∨ cf_inf k y then cf_sgn k n 0 else cf_fqu k n x y
def cf_rloop (d : Int64) : Nat → Int32 → Int64 → Int64
  | 0, _, r => r
  | n + 1, l, r => if 0 < l then cf_rloop d n (l - 10) (jl_rem (jl_shl r (if 10 < l then 10 else l)) d) else r
def cf_rem (k : Nat) (x y : Int64) : Int64 := if cf_nan k x ∨ cf_nan k y ∨ cf_inf k x ∨ cf_zer k y then kf_n k else
  if cf_mag k x < cf_mag k y then x else
  cf_rnd k (decide (x < 0)) (cf_rloop (cf_sig k y) 300 (cf_exp k x - cf_exp k y) (jl_rem (cf_sig k x) (cf_sig k y))) (cf_exp k y)
/-- nearestTo: of format j, in format k -/
def cf_nto (k j : Nat) (x : Int64) : Int64 := if cf_nan j x then kf_n k else if cf_inf j x then cf_sgn k (decide (x < 0)) (kf_i k) else cf_rnd k (decide (x < 0)) (cf_sig j x) (cf_exp j x)
def cf_ntw (k : Nat) (w : Int64) : Int64 :=
  let m := if w < 0 then -w else w
  if m < 0 then cf_rnd k true (jl_ush m 1) 1 else cf_rnd k (decide (w < 0)) m 0
def cf_twz (k : Nat) (x : Int64) : Int64 := if cf_nan k x then 0 else
  if jd_nlz (cf_sig k x) ≤ cf_exp k x then (if x < 0 then -0x8000000000000000 else 0x7FFFFFFFFFFFFFFF) else
  let w := if 0 ≤ cf_exp k x then jl_shl (cf_sig k x) (cf_exp k x) else if -64 < cf_exp k x then jl_ush (cf_sig k x) (-cf_exp k x) else 0
  if x < 0 then -w else w
-- the reference
def rf_fr (f : Int32) : Int32 := if f = 0 then 23 else 52
def rf_le (f : Int32) : Int32 := if f = 0 then -149 else -1074
def rf_sb (f : Int32) : Int64 := if f = 0 then 0x80000000 else -0x8000000000000000
def rf_if (f : Int32) : Int64 := if f = 0 then 0x7F800000 else 0x7FF0000000000000
def rf_na (f : Int32) : Int64 := if f = 0 then 0x7FC00000 else 0x7FF8000000000000
def rf_isS (f : Int32) (b : Int64) : Bool := decide (¬ (b &&& rf_sb f) = 0)
def rf_siz (f : Int32) (b : Int64) : Int64 := b &&& (rf_sb f - 1)
def rf_isN (f : Int32) (b : Int64) : Bool := decide (rf_if f < rf_siz f b)
def rf_lst (m : Int64) (n k : Int32) : Int32 := if jl_ush m (n + k) = 0 then n else n + k
def rf_lloop (m : Int64) : Nat → Int32 → Int32 → Int32
  | 0, n, _ => n
  | j + 1, n, k => if 0 < k then rf_lloop m j (rf_lst m n k) (k / 2) else n
def rf_len (m : Int64) : Int32 := if m = 0 then 0 else rf_lloop m 7 0 32 + 1
def rf_sgn (f : Int32) (s : Bool) (b : Int64) : Int64 := if s then b ||| rf_sb f else b
def rf_man (f : Int32) (b : Int64) : Int64 := if rf_siz f b < jl_shl 1 (rf_fr f) then rf_siz f b else (rf_siz f b &&& (jl_shl 1 (rf_fr f) - 1)) ||| jl_shl 1 (rf_fr f)
def rf_pow (f : Int32) (b : Int64) : Int32 := rf_le f + (if (jl_ush (rf_siz f b) (rf_fr f)).toInt32 = 0 then 0 else (jl_ush (rf_siz f b) (rf_fr f)).toInt32 - 1)
def rf_isI (f : Int32) (b : Int64) : Bool := decide (rf_siz f b = rf_if f)
/-- round, behind the shift -/
def rf_kep (m : Int64) (h : Int32) : Int64 := if h ≤ 0 then jl_shl m (-h) else
  if jl_shl 1 (h - 1) < m - jl_shl (jl_ush m h) h ∨ (m - jl_shl (jl_ush m h) h = jl_shl 1 (h - 1) ∧ ¬ (jl_ush m h &&& 1) = 0) then jl_ush m h + 1 else jl_ush m h
def rf_rn3 (f : Int32) (s : Bool) (q : Int64) (u : Int32) : Int64 := if 3000 < u then rf_sgn f s (rf_if f) else
  if jl_ush (rf_if f) (rf_fr f) ≤ u.toInt64 then rf_sgn f s (rf_if f) else
  rf_sgn f s (if rf_if f < jl_shl u.toInt64 (rf_fr f) + q then rf_if f else jl_shl u.toInt64 (rf_fr f) + q)
def rf_rn2 (f : Int32) (s : Bool) (m : Int64) (e h : Int32) : Int64 := if 63 < h then rf_sgn f s 0 else rf_rn3 f s (rf_kep m h) (e + h - rf_le f)
def rf_rnd (f : Int32) (s : Bool) (m : Int64) (e : Int32) : Int64 := if m = 0 then rf_sgn f s 0 else
  rf_rn2 f s m e (if rf_len m - rf_fr f - 1 < rf_le f - e then rf_le f - e else rf_len m - rf_fr f - 1)
def rf_shd (m : Int64) (n : Int32) : Int64 := if 62 < n then (if m = 0 then 0 else 1) else if jl_shl (jl_ush m n) n = m then jl_ush m n else jl_ush m n ||| 1
def rf_add (f : Int32) (x y : Int64) : Int64 :=
  if rf_isN f x ∨ rf_isN f y ∨ (rf_isI f x ∧ rf_isI f y ∧ ¬ rf_isS f x = rf_isS f y) then rf_na f else
  if rf_isI f x then x else if rf_isI f y then y else
  if rf_man f x = 0 ∧ rf_man f y = 0 then (if rf_isS f x ∧ rf_isS f y then x else 0) else
  let e := if rf_pow f y < rf_pow f x then rf_pow f x else rf_pow f y
  let a := rf_shd (jl_shl (rf_man f x) 8) (e - rf_pow f x)
  let b := rf_shd (jl_shl (rf_man f y) 8) (e - rf_pow f y)
  let s := (if rf_isS f x then -a else a) + (if rf_isS f y then -b else b)
  if s = 0 then 0 else rf_rnd f (decide (s < 0)) (if s < 0 then -s else s) (e - 8)
def rf_fli (f : Int32) (x : Int64) : Int64 := if rf_isN f x then x else x ^^^ rf_sb f
def rf_lo32 (x : Int64) : Int64 := x &&& 0xFFFFFFFF
/-- product: the low word, the high one -/
def rf_one (a b : Int64) : Int64 := jl_ush a 32 * rf_lo32 b + jl_ush (rf_lo32 a * rf_lo32 b) 32
def rf_two (a b : Int64) : Int64 := rf_lo32 a * jl_ush b 32 + rf_lo32 (rf_one a b)
def rf_plo (a b : Int64) : Int64 := jl_shl (rf_two a b) 32 ||| rf_lo32 (rf_lo32 a * rf_lo32 b)
def rf_phi (a b : Int64) : Int64 := jl_ush a 32 * jl_ush b 32 + jl_ush (rf_one a b) 32 + jl_ush (rf_two a b) 32
def rf_mu2 (f : Int32) (s : Bool) (lo hi : Int64) (e : Int32) : Int64 := if hi = 0 ∧ jl_ush lo 62 = 0 then rf_rnd f s lo e else
  let t := rf_len hi + 2
  let m := rf_shd (jl_ush lo 1) (t - 1) ||| jl_shl hi (64 - t)
  rf_rnd f s (if (lo &&& 1) = 0 then m else m ||| 1) (e + t)
def rf_mul (f : Int32) (x y : Int64) : Int64 :=
  let s := !(rf_isS f x == rf_isS f y)
  if rf_isN f x ∨ rf_isN f y ∨ (rf_isI f x ∧ rf_man f y = 0) ∨ (rf_isI f y ∧ rf_man f x = 0) then rf_na f else
  if rf_isI f x ∨ rf_isI f y then rf_sgn f s (rf_if f) else
  rf_mu2 f s (rf_plo (rf_man f x) (rf_man f y)) (rf_phi (rf_man f x) (rf_man f y)) (rf_pow f x + rf_pow f y)
def rf_dst (d : Int64) (q : Int64 × Int64) : Int64 × Int64 := if d ≤ q.2 then (jl_shl q.1 1 + 1, jl_shl (q.2 - d) 1) else (jl_shl q.1 1, jl_shl q.2 1)
def rf_dloop (d : Int64) : Nat → Int64 × Int64 → Int64 × Int64
  | 0, q => q
  | n + 1, q => rf_dloop d n (rf_dst d q)
def rf_div (f : Int32) (x y : Int64) : Int64 :=
  let s := !(rf_isS f x == rf_isS f y)
  let z := decide (rf_man f y = 0) && !rf_isI f y
  if rf_isN f x ∨ rf_isN f y ∨ (rf_isI f x ∧ rf_isI f y) ∨ (z ∧ rf_man f x = 0) then rf_na f else
  if rf_isI f x ∨ z then rf_sgn f s (rf_if f) else
  if rf_isI f y ∨ rf_man f x = 0 then rf_sgn f s 0 else
  let u := 53 - rf_len (rf_man f x)
  let d := 53 - rf_len (rf_man f y)
  let q := rf_dloop (jl_shl (rf_man f y) d) 58 (0, jl_shl (rf_man f x) u)
  rf_rnd f s (if q.2 = 0 then q.1 else q.1 ||| 1) (rf_pow f x - u - rf_pow f y + d - 57)
def rf_rloop (d : Int64) : Nat → Int64 → Int64
  | 0, r => r
  | n + 1, r => rf_rloop d n (jl_rem (jl_shl r 1) d)
def rf_rem (f : Int32) (x y : Int64) : Int64 := if rf_isN f x ∨ rf_isN f y ∨ rf_isI f x ∨ rf_man f y = 0 then rf_na f else
  if rf_isI f y ∨ rf_man f x = 0 then x else
  let d := rf_pow f y - rf_pow f x
  if 10 < d then x else
  if 0 ≤ d then rf_rnd f (rf_isS f x) (jl_rem (rf_man f x) (jl_shl (rf_man f y) d)) (rf_pow f x) else
  rf_rnd f (rf_isS f x) (rf_rloop (rf_man f y) (-d).toNatClampNeg (jl_rem (rf_man f x) (rf_man f y))) (rf_pow f y)
def rf_pla (f : Int32) (b : Int64) : Int64 := if rf_isN f b then rf_na 1 else if rf_isS f b then -1 - rf_siz f b else rf_siz f b
def rf_ope (f op : Int32) (x y : Int64) : Int64 :=
  if op = 0 then rf_add f x y else if op = 1 then rf_add f x (rf_fli f y) else if op = 2 then rf_mul f x y else if op = 3 then rf_div f x y else if op = 4 then rf_rem f x y else
  if op = 5 then (if rf_isN f x ∨ rf_isN f y then rf_na f else if rf_pla f x ≤ rf_pla f y then x else y) else
  if op = 6 then (if rf_isN f x ∨ rf_isN f y then rf_na f else if rf_pla f y ≤ rf_pla f x then x else y) else
  if op = 7 then rf_fli f x else if rf_isN f x then x else rf_siz f x
def rf_nor (kind : Int32) (v : Int64) : Int64 := if kind = 3 then v else if kind = 2 then v.toInt32.toInt64 else
  if kind = 0 then (if rf_isN kind (v &&& 0xFFFFFFFF) then rf_na kind else v &&& 0xFFFFFFFF) else if rf_isN kind v then rf_na kind else v
def rf_ofw (f : Int32) (v : Int64) : Int64 := if v = -0x8000000000000000 then rf_rnd f true (jl_shl 1 62) 1 else rf_rnd f (decide (v < 0)) (if v < 0 then -v else v) 0
def rf_tow (f : Int32) (b : Int64) : Int64 := if rf_isN f b then 0 else
  if rf_isI f b ∨ 63 < rf_pow f b + rf_len (rf_man f b) then (if rf_isS f b then -0x8000000000000000 else 0x7FFFFFFFFFFFFFFF) else
  let m := if 0 ≤ rf_pow f b then jl_shl (rf_man f b) (rf_pow f b) else if rf_pow f b < -62 then 0 else jl_ush (rf_man f b) (-rf_pow f b)
  if rf_isS f b then -m else m
def rf_bou (v : Int64) : Int64 := if 2147483647 < v then 2147483647 else if v < -2147483648 then -2147483648 else v
def rf_con (kind : Int32) (v : Int64) (to : Int32) : Int64 := if kind = to then v else
  if 1 < kind then (if 1 < to then rf_nor to v else rf_ofw to v) else
  if to = 3 then rf_tow kind v else if to = 2 then rf_bou (rf_tow kind v) else
  if rf_isN kind v then rf_na to else if rf_siz kind v = rf_if kind then rf_sgn to (rf_isS kind v) (rf_if to) else
  rf_rnd to (rf_isS kind v) (rf_man kind v) (rf_pow kind v)
def rf_whl (kind op : Int32) (x y : Int64) : Int64 :=
  let n : Int32 := y.toInt32 &&& (if kind = 3 then 63 else 31)
  if op = 0 then x + y else if op = 1 then x - y else if op = 2 then x * y else if op = 3 then x / y else if op = 4 then jl_rem x y else
  if op = 5 then (if x < y then x else y) else if op = 6 then (if y < x then x else y) else if op = 7 then -x else if op = 8 then (if x < 0 then -x else x) else
  if op = 9 then jl_shl x n else if op = 10 then jl_shr x n else if op = 11 then (if kind = 3 then jl_ush x n else jl_ush (x &&& 0xFFFFFFFF) n) else
  if op = 12 then x &&& y else if op = 13 then x ||| y else x ^^^ y
/-! longs and ints as the integers behind them: zL, zI -/
def zL (z : Int) : Int64 := Int64.ofInt z
def zI (z : Int) : Int32 := Int32.ofInt z
theorem zL_of (x : Int64) : x = zL x.toInt := (Int64.ofInt_toInt x).symm
theorem zI_of (x : Int32) : x = zI x.toInt := (Int32.ofInt_toInt x).symm
theorem zL_add (a b : Int) : zL a + zL b = zL (a + b) := (Int64.ofInt_add a b).symm
theorem zL_sub (a b : Int) : zL a - zL b = zL (a - b) := (Int64.ofInt_sub a b).symm
theorem zL_mul (a b : Int) : zL a * zL b = zL (a * b) := (Int64.ofInt_mul a b).symm
theorem zL_neg (a : Int) : -zL a = zL (-a) := (Int64.ofInt_neg a).symm
theorem zI_add (a b : Int) : zI a + zI b = zI (a + b) := (Int32.ofInt_add a b).symm
theorem zI_sub (a b : Int) : zI a - zI b = zI (a - b) := (Int32.ofInt_sub a b).symm
theorem zI_mul (a b : Int) : zI a * zI b = zI (a * b) := (Int32.ofInt_mul a b).symm
theorem zI_neg (a : Int) : -zI a = zI (-a) := (Int32.ofInt_neg a).symm
theorem zL_toInt {z : Int} (h1 : -9223372036854775808 ≤ z) (h2 : z < 9223372036854775808) : (zL z).toInt = z := Int64.toInt_ofInt_of_le h1 h2
theorem zI_toInt {z : Int} (h1 : -2147483648 ≤ z) (h2 : z < 2147483648) : (zI z).toInt = z := Int32.toInt_ofInt_of_le h1 h2
theorem zL_lt {a b : Int} (h1 : -9223372036854775808 ≤ a) (h2 : a < 9223372036854775808) (h3 : -9223372036854775808 ≤ b) (h4 : b < 9223372036854775808) : zL a < zL b ↔ a < b := by
  rw [Int64.lt_iff_toInt_lt, zL_toInt h1 h2, zL_toInt h3 h4]
theorem zL_le {a b : Int} (h1 : -9223372036854775808 ≤ a) (h2 : a < 9223372036854775808) (h3 : -9223372036854775808 ≤ b) (h4 : b < 9223372036854775808) : zL a ≤ zL b ↔ a ≤ b := by
  rw [Int64.le_iff_toInt_le, zL_toInt h1 h2, zL_toInt h3 h4]
theorem zL_eq {a b : Int} (h1 : -9223372036854775808 ≤ a) (h2 : a < 9223372036854775808) (h3 : -9223372036854775808 ≤ b) (h4 : b < 9223372036854775808) : zL a = zL b ↔ a = b := by
  rw [← Int64.toInt_inj, zL_toInt h1 h2, zL_toInt h3 h4]
theorem zI_lt {a b : Int} (h1 : -2147483648 ≤ a) (h2 : a < 2147483648) (h3 : -2147483648 ≤ b) (h4 : b < 2147483648) : zI a < zI b ↔ a < b := by
  rw [Int32.lt_iff_toInt_lt, zI_toInt h1 h2, zI_toInt h3 h4]
theorem zI_le {a b : Int} (h1 : -2147483648 ≤ a) (h2 : a < 2147483648) (h3 : -2147483648 ≤ b) (h4 : b < 2147483648) : zI a ≤ zI b ↔ a ≤ b := by
  rw [Int32.le_iff_toInt_le, zI_toInt h1 h2, zI_toInt h3 h4]
theorem zI_eq {a b : Int} (h1 : -2147483648 ≤ a) (h2 : a < 2147483648) (h3 : -2147483648 ≤ b) (h4 : b < 2147483648) : zI a = zI b ↔ a = b := by
  rw [← Int32.toInt_inj, zI_toInt h1 h2, zI_toInt h3 h4]
theorem zL_i (z : Int) : (zL z).toInt32 = zI z := Int64.toInt32_ofInt
theorem zI_l {z : Int} (h1 : -2147483648 ≤ z) (h2 : z < 2147483648) : (zI z).toInt64 = zL z := by
  apply Int64.toInt_inj.mp
  rw [Int32.toInt_toInt64, zI_toInt h1 h2, zL_toInt (by omega) (by omega)]
theorem zL_lN (n : Nat) : zL (n : Int) = lN n := Int64.ofInt_eq_ofNat
theorem zI_nI (n : Nat) : zI (n : Int) = nI n := Int32.ofInt_eq_ofNat
/-- the bits as a natural number -/
theorem zL_tn (z : Int) : (zL z).toBitVec.toNat = (z % 18446744073709551616).toNat := by
  show (BitVec.ofInt 64 z).toNat = _
  rw [BitVec.toNat_ofInt]
  rfl
theorem zI_tn (z : Int) : (zI z).toBitVec.toNat = (z % 4294967296).toNat := by
  show (BitVec.ofInt 32 z).toNat = _
  rw [BitVec.toNat_ofInt]
  rfl
theorem zL_inj {x : Int64} {z : Int} (h : x.toBitVec.toNat = (z % 18446744073709551616).toNat) : x = zL z := by
  apply Int64.toBitVec_inj.mp
  apply BitVec.eq_of_toNat_eq
  rw [h, zL_tn]
theorem zI_inj {x : Int32} {z : Int} (h : x.toBitVec.toNat = (z % 4294967296).toNat) : x = zI z := by
  apply Int32.toBitVec_inj.mp
  apply BitVec.eq_of_toNat_eq
  rw [h, zI_tn]
theorem zL_mod (z : Int) : zL (z % 18446744073709551616) = zL z := by
  apply zL_inj
  rw [zL_tn, Int.emod_emod_of_dvd _ (Int.dvd_refl _)]
theorem zL_wrap {a b : Int} (h : a % 18446744073709551616 = b % 18446744073709551616) : zL a = zL b := by rw [← zL_mod a, h, zL_mod]
/-! shifts by a number that is known -/
theorem z_c : ∀ k, k < 64 → ((nI k).toInt64 &&& 63) = lN k := by decide +kernel
theorem z_cu : ∀ k, k < 64 → ((nI k).toInt64.toUInt64 &&& Int64.toUInt64 63) = UInt64.ofNat k := by decide +kernel
theorem z_sm : ∀ k, k < 64 → (BitVec.ofNat 64 k).smod 64 = BitVec.ofNat 64 k := by decide +kernel
theorem z_tn : ∀ k, k < 64 → (UInt64.ofNat k).toNat = k := by decide +kernel
theorem zL_shl (z : Int) {k : Nat} (hk : k < 64) : jl_shl (zL z) (zI k) = zL (z * 2 ^ k) := by
  unfold jl_shl
  rw [zI_nI, z_c k hk]
  apply zL_inj
  rw [Int64.toBitVec_shiftLeft]
  show ((zL z).toBitVec <<< ((BitVec.ofNat 64 k).smod 64).toNat).toNat = _
  rw [z_sm k hk, BitVec.toNat_ofNat, Nat.mod_eq_of_lt (by omega), BitVec.toNat_shiftLeft, zL_tn, Nat.shiftLeft_eq]
  have h0 : 0 ≤ z % 18446744073709551616 := Int.emod_nonneg _ (by decide)
  have e1 : z * 2 ^ k = z % 18446744073709551616 * 2 ^ k + 18446744073709551616 * (z / 18446744073709551616 * 2 ^ k) := by
    rw [← Int.mul_assoc, ← Int.add_mul, Int.emod_add_mul_ediv]
  rw [e1, Int.add_mul_emod_self_left]
  generalize z % 18446744073709551616 = y at h0
  obtain ⟨n, rfl⟩ := Int.eq_ofNat_of_zero_le h0
  have e2 : ((2 ^ k : Nat) : Int) = (2 : Int) ^ k := by rw [Int.natCast_pow]; rfl
  rw [← e2, ← Int.natCast_mul, Int.toNat_natCast]
  show n * 2 ^ k % 18446744073709551616 = _
  omega
theorem zL_ush {n : Nat} (hn : n < 18446744073709551616) {k : Nat} (hk : k < 64) : jl_ush (zL n) (zI k) = zL ((n / 2 ^ k : Nat) : Int) := by
  unfold jl_ush
  rw [zI_nI, z_cu k hk]
  apply zL_inj
  show ((zL n).toUInt64 >>> UInt64.ofNat k).toNat = _
  rw [UInt64.toNat_shiftRight, z_tn k hk, Nat.mod_eq_of_lt hk, Nat.shiftRight_eq_div_pow]
  show (zL n).toBitVec.toNat / 2 ^ k = _
  rw [zL_tn, show ((n : Int) % 18446744073709551616).toNat = n by omega]
  have : n / 2 ^ k ≤ n := Nat.div_le_self _ _
  generalize n / 2 ^ k = q at this
  omega
theorem zL_mask (z : Int) {k : Nat} (hk : k ≤ 64) : zL z &&& zL (2 ^ k - 1) = zL (z % 2 ^ k) := by
  apply zL_inj
  rw [Int64.toBitVec_and, BitVec.toNat_and, zL_tn, zL_tn]
  have hp : (0 : Int) < 2 ^ k := Int.pow_pos (by decide)
  have hle : (2 : Int) ^ k ≤ 18446744073709551616 := by
    have := Nat.pow_le_pow_right (n := 2) (by decide) hk
    have h2 : ((2 ^ k : Nat) : Int) ≤ ((2 ^ 64 : Nat) : Int) := Int.ofNat_le.mpr this
    rw [Int.natCast_pow] at h2
    exact h2
  have e1 : (((2 : Int) ^ k - 1) % 18446744073709551616).toNat = 2 ^ k - 1 := by
    rw [Int.emod_eq_of_lt (by omega) (by omega)]
    have : ((2 ^ k : Nat) : Int) = (2 : Int) ^ k := by rw [Int.natCast_pow]; rfl
    omega
  rw [e1, Nat.and_two_pow_sub_one_eq_mod]
  have h0 : 0 ≤ z % 18446744073709551616 := Int.emod_nonneg _ (by decide)
  have h1 : 0 ≤ z % 2 ^ k := Int.emod_nonneg _ (by omega)
  have h2 : z % 2 ^ k < 2 ^ k := Int.emod_lt_of_pos _ hp
  rw [Int.emod_eq_of_lt h1 (by omega)]
  have hd : (2 : Int) ^ k ∣ 18446744073709551616 := by
    refine ⟨2 ^ (64 - k), ?_⟩
    rw [← Int.pow_add, show k + (64 - k) = 64 by omega]
    rfl
  rw [← Int.emod_emod_of_dvd z hd]
  generalize z % 18446744073709551616 = y at h0
  obtain ⟨n, rfl⟩ := Int.eq_ofNat_of_zero_le h0
  have : ((2 ^ k : Nat) : Int) = (2 : Int) ^ k := by rw [Int.natCast_pow]; rfl
  rw [← this, ← Int.natCast_emod, Int.toNat_natCast, Int.toNat_natCast]
/-! bits that don't meet -/
theorem zL_orp {m a i : Nat} (h : m < 2 ^ i) (hl : 2 ^ i * a + m < 18446744073709551616) : zL (m : Int) ||| zL ((2 ^ i * a : Nat) : Int) = zL ((m + 2 ^ i * a : Nat) : Int) := by
  apply zL_inj
  rw [Int64.toBitVec_or, BitVec.toNat_or, zL_tn, zL_tn]
  have e1 : ((m : Int) % 18446744073709551616).toNat = m := by omega
  have e2 : (((2 ^ i * a : Nat) : Int) % 18446744073709551616).toNat = 2 ^ i * a := by omega
  rw [e1, e2, Nat.or_comm, ← Nat.two_pow_add_eq_or_of_lt h]
  omega
theorem zL_xorp {m a i : Nat} (h : m < 2 ^ i) (hl : 2 ^ i * a + m < 18446744073709551616) : zL (m : Int) ^^^ zL ((2 ^ i * a : Nat) : Int) = zL ((m + 2 ^ i * a : Nat) : Int) := by
  apply zL_inj
  rw [Int64.toBitVec_xor, BitVec.toNat_xor, zL_tn, zL_tn]
  have e1 : ((m : Int) % 18446744073709551616).toNat = m := by omega
  have e2 : (((2 ^ i * a : Nat) : Int) % 18446744073709551616).toNat = 2 ^ i * a := by omega
  have e3 : m ^^^ 2 ^ i * a = 2 ^ i * a ||| m := by
    apply Nat.eq_of_testBit_eq
    intro j
    rw [Nat.testBit_xor, Nat.testBit_or, Nat.testBit_two_pow_mul]
    rcases Nat.lt_or_ge j i with g | g
    · simp [Nat.not_le.mpr g]
    · have : m.testBit j = false := Nat.testBit_lt_two_pow (Nat.lt_of_lt_of_le h (Nat.pow_le_pow_right (by decide) g))
      simp [this]
  rw [e1, e2, e3, ← Nat.two_pow_add_eq_or_of_lt h]
  omega
theorem zL_xorb {m a i : Nat} (h : m < 2 ^ i) (hl : 2 ^ i * a + m < 18446744073709551616) : zL ((m + 2 ^ i * a : Nat) : Int) ^^^ zL ((2 ^ i * a : Nat) : Int) = zL (m : Int) := by
  rw [← zL_xorp h hl]
  apply Int64.toBitVec_inj.mp
  rw [Int64.toBitVec_xor, Int64.toBitVec_xor, BitVec.xor_assoc, BitVec.xor_self, BitVec.xor_zero]
theorem zL_not (z : Int) : zL z ^^^ (-1) = zL (-1 - z) := by
  rw [Int64.xor_comm, Int64.neg_one_xor, Int64.not_eq_neg_sub, zL_neg, show (1 : Int64) = zL 1 from rfl, zL_sub]
  congr 1; omega
theorem zL_or1 {n : Nat} (h : n < 18446744073709551616) : zL (n : Int) ||| 1 = zL ((2 * (n / 2) + 1 : Nat) : Int) := by
  have e : zL (n : Int) ||| 1 = zL ((n % 2 : Nat) : Int) ||| (zL ((2 ^ 1 * (n / 2) : Nat) : Int) ||| 1) := by
    have := zL_orp (m := n % 2) (a := n / 2) (i := 1) (by omega) (by omega)
    rw [← Int64.or_assoc, this, show n % 2 + 2 ^ 1 * (n / 2) = n by omega]
  have e1 := zL_orp (m := 1) (a := n / 2) (i := 1) (by decide) (by omega)
  rw [show zL ((1 : Nat) : Int) = 1 from rfl] at e1
  rw [e, Int64.or_comm (zL ((2 ^ 1 * (n / 2) : Nat) : Int)) 1, ← Int64.or_assoc]
  have e2 : zL ((n % 2 : Nat) : Int) ||| 1 = 1 := by
    rcases (show n % 2 = 0 ∨ n % 2 = 1 by omega) with q | q <;> rw [q] <;> decide
  rw [e2, e1, show 1 + 2 ^ 1 * (n / 2) = 2 * (n / 2) + 1 by omega]
theorem zL_and1 (n : Nat) : zL (n : Int) &&& 1 = zL ((n % 2 : Nat) : Int) := by
  have := zL_mask (n : Int) (k := 1) (by decide)
  rw [show zL (2 ^ 1 - 1) = 1 from by decide] at this
  rw [this]; congr 1
theorem zI_mask (z : Int) {k : Nat} (hk : k ≤ 32) : zI z &&& zI (2 ^ k - 1) = zI (z % 2 ^ k) := by
  apply zI_inj
  rw [Int32.toBitVec_and, BitVec.toNat_and, zI_tn, zI_tn]
  have hp : (0 : Int) < 2 ^ k := Int.pow_pos (by decide)
  have hle : (2 : Int) ^ k ≤ 4294967296 := by
    have := Nat.pow_le_pow_right (n := 2) (by decide) hk
    have h2 : ((2 ^ k : Nat) : Int) ≤ ((2 ^ 32 : Nat) : Int) := Int.ofNat_le.mpr this
    rw [Int.natCast_pow] at h2
    exact h2
  have e1 : (((2 : Int) ^ k - 1) % 4294967296).toNat = 2 ^ k - 1 := by
    rw [Int.emod_eq_of_lt (by omega) (by omega)]
    have : ((2 ^ k : Nat) : Int) = (2 : Int) ^ k := by rw [Int.natCast_pow]; rfl
    omega
  rw [e1, Nat.and_two_pow_sub_one_eq_mod]
  have h0 : 0 ≤ z % 4294967296 := Int.emod_nonneg _ (by decide)
  have h1 : 0 ≤ z % 2 ^ k := Int.emod_nonneg _ (by omega)
  have h2 : z % 2 ^ k < 2 ^ k := Int.emod_lt_of_pos _ hp
  rw [Int.emod_eq_of_lt h1 (by omega)]
  have hd : (2 : Int) ^ k ∣ 4294967296 := by
    refine ⟨2 ^ (32 - k), ?_⟩
    rw [← Int.pow_add, show k + (32 - k) = 32 by omega]
    rfl
  rw [← Int.emod_emod_of_dvd z hd]
  generalize z % 4294967296 = y at h0
  obtain ⟨n, rfl⟩ := Int.eq_ofNat_of_zero_le h0
  have : ((2 ^ k : Nat) : Int) = (2 : Int) ^ k := by rw [Int.natCast_pow]; rfl
  rw [← this, ← Int.natCast_emod, Int.toNat_natCast, Int.toNat_natCast]
theorem zL_div {a b : Nat} (ha : a < 9223372036854775808) (hb : b < 9223372036854775808) : zL (a : Int) / zL (b : Int) = zL ((a / b : Nat) : Int) := by
  apply Int64.toInt_inj.mp
  have hq : a / b ≤ a := Nat.div_le_self _ _
  rw [Int64.toInt_div, zL_toInt (by omega) (by omega), zL_toInt (by omega) (by omega), ← Int.ofNat_tdiv]
  generalize a / b = q at hq
  rw [zL_toInt (by omega) (by omega)]
  exact Jvm.Kit.bmod64 (by omega) (by omega)
theorem zL_rem {a b : Nat} (ha : a < 9223372036854775808) (hb : b < 9223372036854775808) : jl_rem (zL (a : Int)) (zL (b : Int)) = zL ((a % b : Nat) : Int) := by
  unfold jl_rem
  rw [zL_div ha hb, zL_mul, zL_sub]
  congr 1
  have := Nat.div_add_mod a b
  rw [Nat.mul_comm] at this
  rw [← Int.natCast_mul]
  omega
theorem pf_2 {k : Nat} (h : k < 2) : k = 0 ∨ k = 1 := by omega
/-! leading zeros; rounded -/
theorem z_cu32 : ∀ k, k < 32 → ((nI k).toUInt32 &&& Int32.toUInt32 31) = UInt32.ofNat k := by decide +kernel
theorem z_tn32 : ∀ k, k < 32 → (UInt32.ofNat k).toNat = k := by decide +kernel
theorem zI_ush {n : Nat} (hn : n < 4294967296) {k : Nat} (hk : k < 32) : ji_ush (zI n) (zI k) = zI ((n / 2 ^ k : Nat) : Int) := by
  unfold ji_ush
  rw [zI_nI k, z_cu32 k hk]
  apply zI_inj
  show ((zI n).toUInt32 >>> UInt32.ofNat k).toNat = _
  rw [UInt32.toNat_shiftRight, z_tn32 k hk, Nat.mod_eq_of_lt hk, Nat.shiftRight_eq_div_pow]
  show (zI n).toBitVec.toNat / 2 ^ k = _
  rw [zI_tn, show ((n : Int) % 4294967296).toNat = n by omega]
  have : n / 2 ^ k ≤ n := Nat.div_le_self _ _
  generalize n / 2 ^ k = q at this
  omega
theorem nz4 {c : Int} {i : Nat} (h0 : i ≠ 0) (h : i < 4) : jd_inlz4 (zI (31 - c)) (zI i) = zI (32 - c - rn_len i) := by
  unfold jd_inlz4
  have e := zI_ush (n := i) (by omega) (k := 1) (by decide)
  rw [show zI ((1 : Nat) : Int) = 1 from rfl] at e
  rw [e, zI_sub]
  congr 1
  have l : rn_len i = i / 2 + 1 := by
    rcases (show i = 1 ∨ i = 2 ∨ i = 3 by omega) with rfl | rfl | rfl <;> decide
  rw [l]; omega
theorem nz_up {i j : Nat} (h : 2 ^ j ≤ i) : i / 2 ^ j ≠ 0 ∧ rn_len i = rn_len (i / 2 ^ j) + j := by
  have h0 : i / 2 ^ j ≠ 0 := Nat.ne_of_gt (Nat.div_pos h (Nat.two_pow_pos j))
  exact ⟨h0, rn_len_div h0⟩
theorem nz3 {c : Int} {i : Nat} (h0 : i ≠ 0) (h : i < 16) : jd_inlz3 (zI (31 - c)) (zI i) = zI (32 - c - rn_len i) := by
  unfold jd_inlz3
  rw [show (4 : Int32) = zI 4 from rfl, show (-2 : Int32) = zI (-2) from rfl, show (2 : Int32) = zI ((2 : Nat) : Int) from rfl, zI_ush (by omega) (by decide), zI_add]
  by_cases g : 4 ≤ i
  · obtain ⟨a, b⟩ := nz_up (i := i) (j := 2) g
    rw [if_neg (by rw [zI_lt (by omega) (by omega) (by omega) (by omega)]; omega), show 31 - c + -2 = 31 - (c + 2) by omega, nz4 a (by omega), b]
    congr 1; omega
  · rw [if_pos (by rw [zI_lt (by omega) (by omega) (by omega) (by omega)]; omega), nz4 h0 (by omega)]
theorem nz2 {c : Int} {i : Nat} (h0 : i ≠ 0) (h : i < 256) : jd_inlz2 (zI (31 - c)) (zI i) = zI (32 - c - rn_len i) := by
  unfold jd_inlz2
  rw [show (16 : Int32) = zI 16 from rfl, show (-4 : Int32) = zI (-4) from rfl, show (4 : Int32) = zI ((4 : Nat) : Int) from rfl, zI_ush (by omega) (by decide), zI_add]
  by_cases g : 16 ≤ i
  · obtain ⟨a, b⟩ := nz_up (i := i) (j := 4) g
    rw [if_neg (by rw [zI_lt (by omega) (by omega) (by omega) (by omega)]; omega), show 31 - c + -4 = 31 - (c + 4) by omega, nz3 a (by omega), b]
    congr 1; omega
  · rw [if_pos (by rw [zI_lt (by omega) (by omega) (by omega) (by omega)]; omega), nz3 h0 (by omega)]
theorem nz1 {c : Int} {i : Nat} (h0 : i ≠ 0) (h : i < 65536) : jd_inlz1 (zI (31 - c)) (zI i) = zI (32 - c - rn_len i) := by
  unfold jd_inlz1
  rw [show (256 : Int32) = zI 256 from rfl, show (-8 : Int32) = zI (-8) from rfl, show (8 : Int32) = zI ((8 : Nat) : Int) from rfl, zI_ush (by omega) (by decide), zI_add]
  by_cases g : 256 ≤ i
  · obtain ⟨a, b⟩ := nz_up (i := i) (j := 8) g
    rw [if_neg (by rw [zI_lt (by omega) (by omega) (by omega) (by omega)]; omega), show 31 - c + -8 = 31 - (c + 8) by omega, nz2 a (by omega), b]
    congr 1; omega
  · rw [if_pos (by rw [zI_lt (by omega) (by omega) (by omega) (by omega)]; omega), nz2 h0 (by omega)]
theorem nz_i {i : Nat} (h : i < 4294967296) : jd_inlz (zI i) = zI (32 - rn_len i) := by
  unfold jd_inlz
  rcases Nat.lt_or_ge i 2147483648 with g | g
  · by_cases h0 : i = 0
    · subst h0; decide
    · rw [show (0 : Int32) = zI 0 from rfl, if_pos (by rw [zI_lt (by omega) (by omega) (by omega) (by omega)]; omega)]
      rw [show (65536 : Int32) = zI 65536 from rfl, show (-16 : Int32) = zI (-16) from rfl, show (16 : Int32) = zI ((16 : Nat) : Int) from rfl, zI_ush (by omega) (by decide), show (31 : Int32) = zI (31 - 0) from rfl, zI_add]
      by_cases g2 : 65536 ≤ i
      · obtain ⟨a, b⟩ := nz_up (i := i) (j := 16) g2
        rw [if_neg (by rw [zI_lt (by omega) (by omega) (by omega) (by omega)]; omega), show 31 - 0 + -16 = 31 - (16 : Int) by omega, nz1 a (by omega), b]
        congr 1; omega
      · rw [if_pos (by rw [zI_lt (by omega) (by omega) (by omega) (by omega)]; omega), nz1 h0 (by omega)]
        congr 1
  · have e : zI (i : Int) = zI ((i : Int) - 4294967296) := by
      apply zI_inj; rw [zI_tn]; omega
    have l : rn_len i = 32 := rn_len_eq (k := 31) (by omega) (by omega)
    rw [e, show (0 : Int32) = zI 0 from rfl, if_neg (by rw [zI_lt (by omega) (by omega) (by omega) (by omega)]; omega), if_neg (by rw [zI_eq (by omega) (by omega) (by omega) (by omega)]; omega), l]
    rfl
theorem nz_l {m : Nat} (h : m < 9223372036854775808) : jd_nlz (zL m) = zI (64 - rn_len m) := by
  unfold jd_nlz
  have e1 : jl_ush (zL m) 32 = zL ((m / 2 ^ 32 : Nat) : Int) := zL_ush (n := m) (by omega) (k := 32) (by decide)
  rw [e1, zL_i, zL_i, show (0 : Int32) = zI 0 from rfl]
  by_cases g : m / 2 ^ 32 = 0
  · rw [g, if_pos (show zI ((0 : Nat) : Int) = zI 0 from rfl), nz_i (i := m) (by omega), show (32 : Int32) = zI 32 from rfl, zI_add]
    congr 1; omega
  · have b := rn_len_div g
    rw [if_neg (by rw [zI_eq (by omega) (by omega) (by omega) (by omega)]; omega), nz_i (i := m / 2 ^ 32) (by omega), b]
    congr 1; omega
/-- a significand shifted up to 53 bits -/
theorem ca_wid {m : Nat} (h0 : m ≠ 0) (h : m < 2 ^ 53) : ∃ j : Nat, j + rn_len m = 53 ∧ cf_wid (zL m) = zI (j : Int) ∧ jl_shl (zL m) (zI (j : Int)) = zL ((m * 2 ^ j : Nat) : Int) ∧ 2 ^ 52 ≤ m * 2 ^ j ∧ m * 2 ^ j < 2 ^ 53 := by
  have L1 := rn_len_pos h0
  have L2 : rn_len m ≤ 53 := rn_len_up h
  have L3 := rn_len_le h0
  have L4 := rn_len_lt m
  refine ⟨53 - rn_len m, by omega, ?_, ?_, ?_, ?_⟩
  · unfold cf_wid
    rw [nz_l (by omega), show (11 : Int32) = zI 11 from rfl, zI_sub]
    congr 1; omega
  · rw [zL_shl _ (by omega), Int.natCast_mul, Int.natCast_pow]; rfl
  · have := Nat.mul_le_mul_right (2 ^ (53 - rn_len m)) L3
    rw [← Nat.pow_add, show rn_len m - 1 + (53 - rn_len m) = 52 by omega] at this
    exact this
  · have := Nat.mul_lt_mul_of_pos_right L4 (Nat.two_pow_pos (53 - rn_len m))
    rw [← Nat.pow_add, show rn_len m + (53 - rn_len m) = 53 by omega] at this
    exact this
/-! what keeps the class and the reference from dividing by 0, for any longs at all -/
theorem zL_ofN (x : Int64) : ∃ n : Nat, n < 18446744073709551616 ∧ x = zL (n : Int) := by
  have h0 : 0 ≤ x.toInt % 18446744073709551616 := Int.emod_nonneg _ (by decide)
  obtain ⟨n, hn⟩ := Int.eq_ofNat_of_zero_le h0
  refine ⟨n, by omega, ?_⟩
  rw [← hn, zL_mod]
  exact zL_of x
theorem zL_maskN (n : Nat) {k : Nat} (hk : k ≤ 64) : zL (n : Int) &&& zL (2 ^ k - 1) = zL ((n % 2 ^ k : Nat) : Int) := by
  rw [zL_mask _ hk, Int.natCast_emod, Int.natCast_pow]
  rfl
theorem fa_sig {k : Nat} (hk : k < 2) (x : Int64) : ∃ m : Nat, m < 2 ^ 53 ∧ cf_sig k x = zL (m : Int) ∧ (cf_zer k x = false → m ≠ 0) := by
  obtain ⟨n, hn, rfl⟩ := zL_ofN x
  rcases pf_2 hk with rfl | rfl
  · have e1 : cf_mag 0 (zL (n : Int)) = zL ((n % 2 ^ 31 : Nat) : Int) := zL_maskN n (k := 31) (by decide)
    have e2 : cf_fld 0 (zL (n : Int)) = zI ((n / 2 ^ 23 % 2 ^ 8 : Nat) : Int) := by
      unfold cf_fld
      rw [show kf_b 0 = zI ((23 : Nat) : Int) from rfl, zL_ush hn (by decide), zL_i, show kf_s 0 = zI (2 ^ 8 - 1) from by decide, zI_mask _ (by decide), Int.natCast_emod]
      rfl
    have e3 : zL (n : Int) &&& (jl_shl 1 (kf_b 0) - 1) = zL ((n % 2 ^ 23 : Nat) : Int) := by
      rw [show jl_shl 1 (kf_b 0) - 1 = zL (2 ^ 23 - 1) from by decide]; exact zL_maskN n (by decide)
    have e4 : jl_shl 1 (kf_b 0) = zL ((2 ^ 23 * 1 : Nat) : Int) := by decide
    have e5 : cf_zer 0 (zL (n : Int)) = decide (n % 2 ^ 31 = 0) := by
      unfold cf_zer
      rw [e1]
      apply decide_eq_decide.mpr
      rw [show (0 : Int64) = zL 0 from rfl, zL_eq (by omega) (by omega) (by omega) (by omega)]
      omega
    unfold cf_sig
    rw [e2, e3, e5]
    by_cases h : n / 2 ^ 23 % 2 ^ 8 = 0
    · refine ⟨n % 2 ^ 23, by omega, by rw [h]; exact if_pos rfl, fun q => ?_⟩
      have := of_decide_eq_false q
      omega
    · refine ⟨n % 2 ^ 23 + 2 ^ 23 * 1, by omega, ?_, fun _ => by omega⟩
      rw [if_neg (by rw [show (0 : Int32) = zI 0 from rfl, zI_eq (by omega) (by omega) (by omega) (by omega)]; omega), e4]
      exact zL_orp (by omega) (by omega)
  · have e1 : cf_mag 1 (zL (n : Int)) = zL ((n % 2 ^ 63 : Nat) : Int) := zL_maskN n (k := 63) (by decide)
    have e2 : cf_fld 1 (zL (n : Int)) = zI ((n / 2 ^ 52 % 2 ^ 11 : Nat) : Int) := by
      unfold cf_fld
      rw [show kf_b 1 = zI ((52 : Nat) : Int) from rfl, zL_ush hn (by decide), zL_i, show kf_s 1 = zI (2 ^ 11 - 1) from by decide, zI_mask _ (by decide), Int.natCast_emod]
      rfl
    have e3 : zL (n : Int) &&& (jl_shl 1 (kf_b 1) - 1) = zL ((n % 2 ^ 52 : Nat) : Int) := by
      rw [show jl_shl 1 (kf_b 1) - 1 = zL (2 ^ 52 - 1) from by decide]; exact zL_maskN n (by decide)
    have e4 : jl_shl 1 (kf_b 1) = zL ((2 ^ 52 * 1 : Nat) : Int) := by decide
    have e5 : cf_zer 1 (zL (n : Int)) = decide (n % 2 ^ 63 = 0) := by
      unfold cf_zer
      rw [e1]
      apply decide_eq_decide.mpr
      rw [show (0 : Int64) = zL 0 from rfl, zL_eq (by omega) (by omega) (by omega) (by omega)]
      omega
    unfold cf_sig
    rw [e2, e3, e5]
    by_cases h : n / 2 ^ 52 % 2 ^ 11 = 0
    · refine ⟨n % 2 ^ 52, by omega, by rw [h]; exact if_pos rfl, fun q => ?_⟩
      have := of_decide_eq_false q
      omega
    · refine ⟨n % 2 ^ 52 + 2 ^ 52 * 1, by omega, ?_, fun _ => by omega⟩
      rw [if_neg (by rw [show (0 : Int32) = zI 0 from rfl, zI_eq (by omega) (by omega) (by omega) (by omega)]; omega), e4]
      exact zL_orp (by omega) (by omega)
theorem fa_sig0 {k : Nat} (hk : k < 2) {x : Int64} (h : cf_zer k x = false) : ¬ cf_sig k x = 0 := by
  obtain ⟨m, h1, h2, h3⟩ := fa_sig hk x
  have h4 := h3 h
  rw [h2, show (0 : Int64) = zL 0 from rfl, zL_eq (by omega) (by omega) (by omega) (by omega)]
  omega
/-- the divisor of the class's quotient -/
theorem fa_wid0 {k : Nat} (hk : k < 2) {x : Int64} (h : cf_zer k x = false) : ¬ jl_shl (cf_sig k x) (cf_wid (cf_sig k x)) = 0 := by
  obtain ⟨m, h1, h2, h3⟩ := fa_sig hk x
  obtain ⟨j, j1, j2, j3, j4, j5⟩ := ca_wid (h3 h) h1
  rw [h2, j2, j3, show (0 : Int64) = zL 0 from rfl, zL_eq (by omega) (by omega) (by omega) (by omega)]
  omega
/-- the reference's significand -/
theorem fa_man (f : Int32) (b : Int64) : ∃ m : Nat, m < 2 ^ 53 ∧ rf_man f b = zL (m : Int) := by
  obtain ⟨n, hn, rfl⟩ := zL_ofN b
  unfold rf_man rf_siz rf_sb rf_fr
  by_cases h : f = 0
  · simp only [if_pos h]
    have e1 : zL (n : Int) &&& ((0x80000000 : Int64) - 1) = zL ((n % 2 ^ 31 : Nat) : Int) := by
      rw [show (0x80000000 : Int64) - 1 = zL (2 ^ 31 - 1) from by decide]; exact zL_maskN n (by decide)
    have e2 : jl_shl 1 23 = zL ((2 ^ 23 * 1 : Nat) : Int) := by decide
    have e3 : jl_shl 1 23 - 1 = zL (2 ^ 23 - 1) := by decide
    rw [e1, e3, zL_maskN _ (by decide), e2]
    by_cases g : n % 2 ^ 31 < 2 ^ 23 * 1
    · exact ⟨n % 2 ^ 31, by omega, by rw [if_pos (by rw [zL_lt (by omega) (by omega) (by omega) (by omega)]; omega)]⟩
    · refine ⟨n % 2 ^ 31 % 2 ^ 23 + 2 ^ 23 * 1, by omega, ?_⟩
      rw [if_neg (by rw [zL_lt (by omega) (by omega) (by omega) (by omega)]; omega)]
      exact zL_orp (by omega) (by omega)
  · simp only [if_neg h]
    have e1 : zL (n : Int) &&& ((-0x8000000000000000 : Int64) - 1) = zL ((n % 2 ^ 63 : Nat) : Int) := by
      rw [show (-0x8000000000000000 : Int64) - 1 = zL (2 ^ 63 - 1) from by decide]; exact zL_maskN n (by decide)
    have e2 : jl_shl 1 52 = zL ((2 ^ 52 * 1 : Nat) : Int) := by decide
    have e3 : jl_shl 1 52 - 1 = zL (2 ^ 52 - 1) := by decide
    rw [e1, e3, zL_maskN _ (by decide), e2]
    by_cases g : n % 2 ^ 63 < 2 ^ 52 * 1
    · exact ⟨n % 2 ^ 63, by omega, by rw [if_pos (by rw [zL_lt (by omega) (by omega) (by omega) (by omega)]; omega)]⟩
    · refine ⟨n % 2 ^ 63 % 2 ^ 52 + 2 ^ 52 * 1, by omega, ?_⟩
      rw [if_neg (by rw [zL_lt (by omega) (by omega) (by omega) (by omega)]; omega)]
      exact zL_orp (by omega) (by omega)
theorem fa_man_shl {f : Int32} {b : Int64} (h : ¬ rf_man f b = 0) {d : Int32} (h1 : 0 ≤ d) (h2 : d ≤ 10) : ¬ jl_shl (rf_man f b) d = 0 := by
  obtain ⟨m, m1, m2⟩ := fa_man f b
  have h1' : (0 : Int) ≤ d.toInt := by have := Int32.le_iff_toInt_le.mp h1; exact this
  have h2' : d.toInt ≤ 10 := by have := Int32.le_iff_toInt_le.mp h2; exact this
  obtain ⟨j, hj⟩ := Int.eq_ofNat_of_zero_le h1'
  have ed : d = zI (j : Int) := by rw [← hj]; exact zI_of d
  have hm : m ≠ 0 := by
    intro q
    apply h
    rw [m2, q]
    rfl
  have p1 : 2 ^ j ≤ 2 ^ 10 := Nat.pow_le_pow_right (by decide) (by omega)
  have p2 : 0 < 2 ^ j := Nat.two_pow_pos j
  have p3 : m * 2 ^ j ≤ m * 2 ^ 10 := Nat.mul_le_mul_left _ p1
  have p4 : 0 < m * 2 ^ j := Nat.mul_pos (by omega) p2
  rw [m2, ed, zL_shl _ (by omega), show (m : Int) * 2 ^ j = ((m * 2 ^ j : Nat) : Int) by rw [Int.natCast_mul, Int.natCast_pow]; rfl, show (0 : Int64) = zL 0 from rfl, zL_eq (by omega) (by omega) (by omega) (by omega)]
  omega
/-- a bit of it that is set -/
theorem fa_bit {m : Nat} (h : m ≠ 0) (h1 : m < 2 ^ 53) : ∃ j : Nat, j < 53 ∧ ¬ (jl_ush (zL (m : Int)) (zI (j : Int)) &&& 1) = 0 := by
  have L1 := rn_len_pos h
  have L2 : rn_len m ≤ 53 := rn_len_up h1
  have L3 := rn_len_le h
  have L4 := rn_len_lt m
  refine ⟨rn_len m - 1, by omega, ?_⟩
  have e : m / 2 ^ (rn_len m - 1) = 1 := by
    apply Nat.div_eq_of_lt_le
    · rw [Nat.one_mul]; exact L3
    · rw [show (1 + 1) * 2 ^ (rn_len m - 1) = 2 ^ (rn_len m - 1 + 1) by rw [Nat.pow_succ]; omega, Nat.sub_add_cancel L1]; exact L4
  rw [zL_ush (by omega) (by omega), e]
  decide
end
section
/-! what nobody writes: the two formats' objects, the tables -/
def FW (ad : Nat → Nat) (A : Nat → Prop) (U : State) (H : Heap) : Prop :=
  (∀ k, k < 2 → va_O "NumberProbe$Format" (ad k) A U H) ∧
  va_Ef 2 "NumberProbe$Format" "fractionBits" "I" (fun k => .int (kf_b k)) ad A U H ∧
  va_Ef 2 "NumberProbe$Format" "exponentOfSpecials" "I" (fun k => .int (kf_s k)) ad A U H ∧
  va_Ef 2 "NumberProbe$Format" "leastExponent" "I" (fun k => .int (kf_l k)) ad A U H ∧
  va_Ef 2 "NumberProbe$Format" "magnitudeMask" "J" (fun k => .long (kf_m k)) ad A U H ∧
  va_Ef 2 "NumberProbe$Format" "infinity" "J" (fun k => .long (kf_i k)) ad A U H ∧
  va_Ef 2 "NumberProbe$Format" "nan" "J" (fun k => .long (kf_n k)) ad A U H ∧
  va_Z "NumberProbe$Format" "SINGLE" "LNumberProbe$Format;" (.ref (ad 0)) A U H ∧
  va_Z "NumberProbe$Format" "DOUBLE" "LNumberProbe$Format;" (.ref (ad 1)) A U H
theorem FW.moved {ad : Nat → Nat} {A : Nat → Prop} {u U : State} {H : Heap} (hvm : u.vm.Alike U.vm) (h : FW ad A u H) : FW ad A U H :=
  ⟨fun k hk => va_O.moved hvm (h.1 k hk), va_Ef.moved hvm h.2.1, va_Ef.moved hvm h.2.2.1, va_Ef.moved hvm h.2.2.2.1, va_Ef.moved hvm h.2.2.2.2.1, va_Ef.moved hvm h.2.2.2.2.2.1, va_Ef.moved hvm h.2.2.2.2.2.2.1, va_Z.moved hvm h.2.2.2.2.2.2.2.1, va_Z.moved hvm h.2.2.2.2.2.2.2.2⟩
theorem FW.kept {ad : Nat → Nat} {A : Nat → Prop} {U : State} {H H1 : Heap} (h : FW ad A U H) (hq : ∀ a : Nat, a < H.size → ¬ A a → H1[a]? = H[a]?) : FW ad A U H1 :=
  ⟨fun k hk => (h.1 k hk).kept hq, h.2.1.kept hq, h.2.2.1.kept hq, h.2.2.2.1.kept hq, h.2.2.2.2.1.kept hq, h.2.2.2.2.2.1.kept hq, h.2.2.2.2.2.2.1.kept hq, h.2.2.2.2.2.2.2.1.kept hq, h.2.2.2.2.2.2.2.2.kept hq⟩
theorem FW.narrow {ad : Nat → Nat} {A B : Nat → Prop} {U : State} {H : Heap} (h : FW ad A U H) (hAB : ∀ q, B q → A q) : FW ad B U H :=
  ⟨fun k hk => (h.1 k hk).narrow hAB, h.2.1.narrow hAB, h.2.2.1.narrow hAB, h.2.2.2.1.narrow hAB, h.2.2.2.2.1.narrow hAB, h.2.2.2.2.2.1.narrow hAB, h.2.2.2.2.2.2.1.narrow hAB, h.2.2.2.2.2.2.2.1.narrow hAB, h.2.2.2.2.2.2.2.2.narrow hAB⟩
def tw_n (i : Nat) : String := match i with | 0 => "SINGLE_BOUNDARIES" | 1 => "DOUBLE_BOUNDARIES" | 2 => "INT_BOUNDARIES" | _ => "LONG_BOUNDARIES"
def tw_l (i : Nat) : Nat := match i with | 2 => 15 | _ => 21
def TW (tb : Nat → Nat) (A : Nat → Prop) (U : State) (H : Heap) : Prop := ∀ i, i < 4 → va_Z "NumberProbe" (tw_n i) "[J" (.ref (tb i)) A U H ∧ ∃ f : Nat → Int64, va_T .long (tb i) (tw_l i) (fun j => .long (f j)) A U H
theorem TW.moved {tb : Nat → Nat} {A : Nat → Prop} {u U : State} {H : Heap} (hvm : u.vm.Alike U.vm) (h : TW tb A u H) : TW tb A U H := fun i hi => ⟨va_Z.moved hvm (h i hi).1, (h i hi).2.elim fun f hf => ⟨f, va_T.moved hvm hf⟩⟩
theorem TW.kept {tb : Nat → Nat} {A : Nat → Prop} {U : State} {H H1 : Heap} (h : TW tb A U H) (hq : ∀ a : Nat, a < H.size → ¬ A a → H1[a]? = H[a]?) : TW tb A U H1 := fun i hi => ⟨(h i hi).1.kept hq, (h i hi).2.elim fun f hf => ⟨f, hf.kept hq⟩⟩
theorem TW.narrow {tb : Nat → Nat} {A B : Nat → Prop} {U : State} {H : Heap} (h : TW tb A U H) (hAB : ∀ q, B q → A q) : TW tb B U H := fun i hi => ⟨(h i hi).1.narrow hAB, (h i hi).2.elim fun f hf => ⟨f, hf.narrow hAB⟩⟩
theorem fb_0 {av : List Value} : FrameBlind (va_Pc av (fun _ => True)) := fun _ _ _ _ q => ⟨q.1, trivial⟩
theorem fb_E {av : List Value} {ad : Nat → Nat} : FrameBlind (va_Pc av (fun U => FW ad (fun _ => False) U U.heap)) := fun a U g mk q => ⟨q.1, FW.moved (u := U) (U := U.calling g mk a) (Vm.Alike.refl U.vm) q.2⟩
theorem fb_T {av : List Value} {tb : Nat → Nat} : FrameBlind (va_Pc av (fun U => TW tb (fun _ => False) U U.heap)) := fun a U g mk q => ⟨q.1, TW.moved (u := U) (U := U.calling g mk a) (Vm.Alike.refl U.vm) q.2⟩
theorem fw_use {ad : Nat → Nat} {A : Nat → Prop} {s : State} {H : Heap} {locs : List Loc} (hE : FW ad A s s.heap) (hS : va_S A s.heap H locs) {U : State} (hU : U.heap = H) (hW : s.WarmedH U.vm) : FW ad (fun _ => False) U U.heap := by
  rw [hU]
  exact (FW.moved hW.alike (hE.kept hS.2.1)).narrow (fun _ h => h.elim)
theorem tw_use {tb : Nat → Nat} {A : Nat → Prop} {s : State} {H : Heap} {locs : List Loc} (hT : TW tb A s s.heap) (hS : va_S A s.heap H locs) {U : State} (hU : U.heap = H) (hW : s.WarmedH U.vm) : TW tb (fun _ => False) U U.heap := by
  rw [hU]
  exact (TW.moved hW.alike (hT.kept hS.2.1)).narrow (fun _ h => h.elim)
theorem fw_recv {ad : Nat → Nat} {A : Nat → Prop} {s : State} {H : Heap} {locs : List Loc} (hE : FW ad A s s.heap) {k : Nat} (hk : k < 2) (hS : va_S A s.heap H locs) : ∃ cell : Cell, H[ad k]? = some cell ∧ cell.vm.isStatics = false ∧ s.vm.findClass "NumberProbe$Format" = some cell.cls := by
  obtain ⟨cell, h1, h2, h3, -⟩ := (hE.1 k hk).kept hS.2.1
  exact ⟨cell, h1, h2, h3⟩
/-- a walk of a method that writes nothing -/
abbrev WP (p : Program) (l : Launch) (e : Env) (ws : List Cond) (rm : Room) (s : State) (m : MethodId) (av : List Value) (below : List Frame) (meth : Method) (c : Code) (Qc : Array Value → State → Outcome → State → Prop) (g : JFrame) : Prop :=
  W p l e (headSpec ws rm).room s m av.toArray below meth c s.heap [] 0 0 (MQ below Qc av.toArray s 0 0 (fun _ => False)) g
theorem lu_0 {k b : Int32} (h : k < b) (hn : (b.toInt - k.toInt).toNat ≤ 0) : False := by
  have := Int32.lt_iff_toInt_lt.mp h
  omega
theorem lu_s {k b : Int32} {n : Nat} (h : k < b) (hn : (b.toInt - k.toInt).toNat ≤ n + 1) : (b.toInt - (k + 1).toInt).toNat ≤ n := by
  have h1 := Int32.lt_iff_toInt_lt.mp h
  have h2 := b.toInt_lt
  have h3 := k.le_toInt
  have e : (k + 1).toInt = k.toInt + 1 := Jvm.Kit.i32_add (by show -2 ^ 31 ≤ k.toInt + 1; omega) (by show k.toInt + 1 < 2 ^ 31; omega)
  rw [e]
  omega
theorem ld_0 {k : Int32} (h : 0 < k) (hn : k.toInt.toNat ≤ 0) : False := by
  have := Int32.lt_iff_toInt_lt.mp h
  rw [Int32.toInt_zero] at this
  omega
theorem ld_s {k : Int32} {n : Nat} (h : 0 < k) (hn : k.toInt.toNat ≤ n + 1) : (k + (-10)).toInt.toNat ≤ n := by
  have h1 := Int32.lt_iff_toInt_lt.mp h
  rw [Int32.toInt_zero] at h1
  have h2 := k.toInt_lt
  have e : (k + (-10)).toInt = k.toInt + (-10) := Jvm.Kit.i32_add (by show -2 ^ 31 ≤ k.toInt + (-10); omega) (by show k.toInt + (-10) < 2 ^ 31; omega)
  rw [e]
  omega
theorem lh_s {k : Int32} {n : Nat} (h : 0 < k) (hn : k.toInt.toNat ≤ n + 1) : (k / 2).toInt.toNat ≤ n := by
  have h1 := Int32.lt_iff_toInt_lt.mp h
  rw [Int32.toInt_zero] at h1
  have e : (k / 2).toInt = k.toInt.tdiv 2 := Jvm.Kit.i32_div (by intro q; exact absurd q.2 (by decide))
  rw [e, Int.tdiv_eq_ediv_of_nonneg (by omega)]
  omega
theorem lg_s {k : Int32} {n : Nat} (h : 0 ≤ k) (hn : (k.toInt + 1).toNat ≤ n + 1) : ((k + (-1)).toInt + 1).toNat ≤ n := by
  have h1 := Int32.le_iff_toInt_le.mp h
  rw [Int32.toInt_zero] at h1
  have h2 := k.toInt_lt
  have e : (k + (-1)).toInt = k.toInt + (-1) := Jvm.Kit.i32_add (by show -2 ^ 31 ≤ k.toInt + (-1); omega) (by show k.toInt + (-1) < 2 ^ 31; omega)
  rw [e]
  omega
theorem lg_0 {k : Int32} (h : 0 ≤ k) (hn : (k.toInt + 1).toNat ≤ 0) : False := by
  have := Int32.le_iff_toInt_le.mp h
  rw [Int32.toInt_zero] at this
  omega
end
section
set_option maxHeartbeats 4000000 in
set_option maxRecDepth 100000 in
theorem mt_JI_numberOfLeadingZeros (l : Launch) (p0 : Int32) : Met l my_JI_numberOfLeadingZeros mw_JI_numberOfLeadingZeros ({ frames := 0, cells := 0, slots := 0, locals := 0 } : Room) (va_Pc [.int p0] (fun _ => True)) (vp_Si (fun r => r = jd_inlz p0)) 0 0 (fun _ => False) := by
  refine Met.ofW (cc := mc_JI_numberOfLeadingZeros) (maxL := 2) (ret := (some .int)) (by decide) rfl ?_
  intro p e s m args below meth c s₁ B hml hv
  obtain ⟨rfl, -⟩ := hv
  have hx := B.exec
  have hb := B.bytes
  have hr := B.returns
  have hts := atoms_spec (ws := mw_JI_numberOfLeadingZeros) B.pre
  have ht : ∀ w ∈ gw_tbl, w.before _ s = true := fun w h => hts w (List.mem_cons_of_mem _ h)
  have hown : s.vm.findClass "java/lang/Integer" = some m.cls := findClass_of_methodNamed B.named
  have hlocks := B.notSynchronized
  have hl := lv_entry ([.int p0]) (n := 2) (Nat.le_of_ble_eq_true rfl)
  rw [lg_entry_eq]
  generalize (lg_sl ([.int p0]) ++ List.replicate (2 - (lg_sl ([.int p0])).length) Slot.unset).toArray = ls at hl ⊢
  have hl : lv_has ls 2 [(0, .int p0)] := hl
  refine lv_iload_n hx hb md_JI_numberOfLeadingZeros_0 rfl (lv_at hl 0 rfl) ?_
  refine lv_if_gt (tgt := 15) hx hb md_JI_numberOfLeadingZeros_1 (by decide) (fun c_1 => ?_) (fun c_1 => ?_)
  · refine lv_bipush (v := 31) hx hb md_JI_numberOfLeadingZeros_15 (by decide) ?_
    refine lv_istore_n (lv' := [(1, .int 31), (0, .int p0)]) hx hb md_JI_numberOfLeadingZeros_17 rfl hl (by decide) rfl (fun ls hl => ?_)
    refine lv_iload_n hx hb md_JI_numberOfLeadingZeros_18 rfl (lv_at hl 1 rfl) ?_
    refine lv_ldcw (v := 65536) hx hb hown (ht _ tm_162) md_JI_numberOfLeadingZeros_19 ?_
    refine lv_icmp_lt (tgt := 33) hx hb md_JI_numberOfLeadingZeros_22 (by decide) (fun c_2 => ?_) (fun c_2 => ?_)
    · refine lv_iload_n hx hb md_JI_numberOfLeadingZeros_33 rfl (lv_at hl 1 rfl) ?_
      refine lv_sipush (v := 256) hx hb md_JI_numberOfLeadingZeros_34 (by decide) ?_
      refine lv_icmp_lt (tgt := 48) hx hb md_JI_numberOfLeadingZeros_37 (by decide) (fun c_3 => ?_) (fun c_3 => ?_)
      · refine lv_iload_n hx hb md_JI_numberOfLeadingZeros_48 rfl (lv_at hl 1 rfl) ?_
        refine lv_bipush (v := 16) hx hb md_JI_numberOfLeadingZeros_49 (by decide) ?_
        refine lv_icmp_lt (tgt := 61) hx hb md_JI_numberOfLeadingZeros_51 (by decide) (fun c_4 => ?_) (fun c_4 => ?_)
        · refine lv_iload_n hx hb md_JI_numberOfLeadingZeros_61 rfl (lv_at hl 1 rfl) ?_
          refine lv_iconst (v := 4) hx hb md_JI_numberOfLeadingZeros_62 (by decide) ?_
          refine lv_icmp_lt (tgt := 73) hx hb md_JI_numberOfLeadingZeros_63 (by decide) (fun c_5 => ?_) (fun c_5 => ?_)
          · refine lv_iload_n hx hb md_JI_numberOfLeadingZeros_73 rfl (lv_at hl 0 rfl) ?_
            refine lv_iload_n hx hb md_JI_numberOfLeadingZeros_74 rfl (lv_at hl 1 rfl) ?_
            refine lv_iconst (v := 1) hx hb md_JI_numberOfLeadingZeros_75 (by decide) ?_
            refine lv_iushr (v := ji_ush p0 1) hx hb md_JI_numberOfLeadingZeros_76 rfl ?_
            refine lv_isub hx hb md_JI_numberOfLeadingZeros_77 ?_
            have hq : 31 - (ji_ush p0 1) = jd_inlz p0 := by simp [jd_inlz, jd_inlz1, jd_inlz2, jd_inlz3, jd_inlz4, c_1, c_2, c_3, c_4, c_5]
            exact W.iret (v := 31 - (ji_ush p0 1)) hx hb hr (fun t ht2 _ => ⟨(31 - (ji_ush p0 1)), rfl, hq, ht2⟩) (fun q h => by cases h) md_JI_numberOfLeadingZeros_78
          · refine lv_iinc (v := 31 + (-2)) (lv' := [(1, .int (31 + (-2))), (0, .int p0)]) hx hb md_JI_numberOfLeadingZeros_66 hl (k := 0) rfl rfl (by decide) rfl (fun ls hl => ?_)
            refine lv_iload_n hx hb md_JI_numberOfLeadingZeros_69 rfl (lv_at hl 1 rfl) ?_
            refine lv_iconst (v := 2) hx hb md_JI_numberOfLeadingZeros_70 (by decide) ?_
            refine lv_iushr (v := ji_ush p0 2) hx hb md_JI_numberOfLeadingZeros_71 rfl ?_
            refine lv_istore_n (lv' := [(0, .int (ji_ush p0 2)), (1, .int (31 + (-2)))]) hx hb md_JI_numberOfLeadingZeros_72 rfl hl (by decide) rfl (fun ls hl => ?_)
            refine lv_iload_n hx hb md_JI_numberOfLeadingZeros_73 rfl (lv_at hl 1 rfl) ?_
            refine lv_iload_n hx hb md_JI_numberOfLeadingZeros_74 rfl (lv_at hl 0 rfl) ?_
            refine lv_iconst (v := 1) hx hb md_JI_numberOfLeadingZeros_75 (by decide) ?_
            refine lv_iushr (v := ji_ush (ji_ush p0 2) 1) hx hb md_JI_numberOfLeadingZeros_76 rfl ?_
            refine lv_isub hx hb md_JI_numberOfLeadingZeros_77 ?_
            have hq : (31 + (-2)) - (ji_ush (ji_ush p0 2) 1) = jd_inlz p0 := by simp [jd_inlz, jd_inlz1, jd_inlz2, jd_inlz3, jd_inlz4, c_1, c_2, c_3, c_4, c_5]
            exact W.iret (v := (31 + (-2)) - (ji_ush (ji_ush p0 2) 1)) hx hb hr (fun t ht2 _ => ⟨((31 + (-2)) - (ji_ush (ji_ush p0 2) 1)), rfl, hq, ht2⟩) (fun q h => by cases h) md_JI_numberOfLeadingZeros_78
        · refine lv_iinc (v := 31 + (-4)) (lv' := [(1, .int (31 + (-4))), (0, .int p0)]) hx hb md_JI_numberOfLeadingZeros_54 hl (k := 0) rfl rfl (by decide) rfl (fun ls hl => ?_)
          refine lv_iload_n hx hb md_JI_numberOfLeadingZeros_57 rfl (lv_at hl 1 rfl) ?_
          refine lv_iconst (v := 4) hx hb md_JI_numberOfLeadingZeros_58 (by decide) ?_
          refine lv_iushr (v := ji_ush p0 4) hx hb md_JI_numberOfLeadingZeros_59 rfl ?_
          refine lv_istore_n (lv' := [(0, .int (ji_ush p0 4)), (1, .int (31 + (-4)))]) hx hb md_JI_numberOfLeadingZeros_60 rfl hl (by decide) rfl (fun ls hl => ?_)
          refine lv_iload_n hx hb md_JI_numberOfLeadingZeros_61 rfl (lv_at hl 0 rfl) ?_
          refine lv_iconst (v := 4) hx hb md_JI_numberOfLeadingZeros_62 (by decide) ?_
          refine lv_icmp_lt (tgt := 73) hx hb md_JI_numberOfLeadingZeros_63 (by decide) (fun c_6 => ?_) (fun c_6 => ?_)
          · refine lv_iload_n hx hb md_JI_numberOfLeadingZeros_73 rfl (lv_at hl 1 rfl) ?_
            refine lv_iload_n hx hb md_JI_numberOfLeadingZeros_74 rfl (lv_at hl 0 rfl) ?_
            refine lv_iconst (v := 1) hx hb md_JI_numberOfLeadingZeros_75 (by decide) ?_
            refine lv_iushr (v := ji_ush (ji_ush p0 4) 1) hx hb md_JI_numberOfLeadingZeros_76 rfl ?_
            refine lv_isub hx hb md_JI_numberOfLeadingZeros_77 ?_
            have hq : (31 + (-4)) - (ji_ush (ji_ush p0 4) 1) = jd_inlz p0 := by simp [jd_inlz, jd_inlz1, jd_inlz2, jd_inlz3, jd_inlz4, c_1, c_2, c_3, c_4, c_6]
            exact W.iret (v := (31 + (-4)) - (ji_ush (ji_ush p0 4) 1)) hx hb hr (fun t ht2 _ => ⟨((31 + (-4)) - (ji_ush (ji_ush p0 4) 1)), rfl, hq, ht2⟩) (fun q h => by cases h) md_JI_numberOfLeadingZeros_78
          · refine lv_iinc (v := (31 + (-4)) + (-2)) (lv' := [(1, .int ((31 + (-4)) + (-2))), (0, .int (ji_ush p0 4))]) hx hb md_JI_numberOfLeadingZeros_66 hl (k := 1) rfl rfl (by decide) rfl (fun ls hl => ?_)
            refine lv_iload_n hx hb md_JI_numberOfLeadingZeros_69 rfl (lv_at hl 1 rfl) ?_
            refine lv_iconst (v := 2) hx hb md_JI_numberOfLeadingZeros_70 (by decide) ?_
            refine lv_iushr (v := ji_ush (ji_ush p0 4) 2) hx hb md_JI_numberOfLeadingZeros_71 rfl ?_
            refine lv_istore_n (lv' := [(0, .int (ji_ush (ji_ush p0 4) 2)), (1, .int ((31 + (-4)) + (-2)))]) hx hb md_JI_numberOfLeadingZeros_72 rfl hl (by decide) rfl (fun ls hl => ?_)
            refine lv_iload_n hx hb md_JI_numberOfLeadingZeros_73 rfl (lv_at hl 1 rfl) ?_
            refine lv_iload_n hx hb md_JI_numberOfLeadingZeros_74 rfl (lv_at hl 0 rfl) ?_
            refine lv_iconst (v := 1) hx hb md_JI_numberOfLeadingZeros_75 (by decide) ?_
            refine lv_iushr (v := ji_ush (ji_ush (ji_ush p0 4) 2) 1) hx hb md_JI_numberOfLeadingZeros_76 rfl ?_
            refine lv_isub hx hb md_JI_numberOfLeadingZeros_77 ?_
            have hq : ((31 + (-4)) + (-2)) - (ji_ush (ji_ush (ji_ush p0 4) 2) 1) = jd_inlz p0 := by simp [jd_inlz, jd_inlz1, jd_inlz2, jd_inlz3, jd_inlz4, c_1, c_2, c_3, c_4, c_6]
            exact W.iret (v := ((31 + (-4)) + (-2)) - (ji_ush (ji_ush (ji_ush p0 4) 2) 1)) hx hb hr (fun t ht2 _ => ⟨(((31 + (-4)) + (-2)) - (ji_ush (ji_ush (ji_ush p0 4) 2) 1)), rfl, hq, ht2⟩) (fun q h => by cases h) md_JI_numberOfLeadingZeros_78
      · refine lv_iinc (v := 31 + (-8)) (lv' := [(1, .int (31 + (-8))), (0, .int p0)]) hx hb md_JI_numberOfLeadingZeros_40 hl (k := 0) rfl rfl (by decide) rfl (fun ls hl => ?_)
        refine lv_iload_n hx hb md_JI_numberOfLeadingZeros_43 rfl (lv_at hl 1 rfl) ?_
        refine lv_bipush (v := 8) hx hb md_JI_numberOfLeadingZeros_44 (by decide) ?_
        refine lv_iushr (v := ji_ush p0 8) hx hb md_JI_numberOfLeadingZeros_46 rfl ?_
        refine lv_istore_n (lv' := [(0, .int (ji_ush p0 8)), (1, .int (31 + (-8)))]) hx hb md_JI_numberOfLeadingZeros_47 rfl hl (by decide) rfl (fun ls hl => ?_)
        refine lv_iload_n hx hb md_JI_numberOfLeadingZeros_48 rfl (lv_at hl 0 rfl) ?_
        refine lv_bipush (v := 16) hx hb md_JI_numberOfLeadingZeros_49 (by decide) ?_
        refine lv_icmp_lt (tgt := 61) hx hb md_JI_numberOfLeadingZeros_51 (by decide) (fun c_7 => ?_) (fun c_7 => ?_)
        · refine lv_iload_n hx hb md_JI_numberOfLeadingZeros_61 rfl (lv_at hl 0 rfl) ?_
          refine lv_iconst (v := 4) hx hb md_JI_numberOfLeadingZeros_62 (by decide) ?_
          refine lv_icmp_lt (tgt := 73) hx hb md_JI_numberOfLeadingZeros_63 (by decide) (fun c_8 => ?_) (fun c_8 => ?_)
          · refine lv_iload_n hx hb md_JI_numberOfLeadingZeros_73 rfl (lv_at hl 1 rfl) ?_
            refine lv_iload_n hx hb md_JI_numberOfLeadingZeros_74 rfl (lv_at hl 0 rfl) ?_
            refine lv_iconst (v := 1) hx hb md_JI_numberOfLeadingZeros_75 (by decide) ?_
            refine lv_iushr (v := ji_ush (ji_ush p0 8) 1) hx hb md_JI_numberOfLeadingZeros_76 rfl ?_
            refine lv_isub hx hb md_JI_numberOfLeadingZeros_77 ?_
            have hq : (31 + (-8)) - (ji_ush (ji_ush p0 8) 1) = jd_inlz p0 := by simp [jd_inlz, jd_inlz1, jd_inlz2, jd_inlz3, jd_inlz4, c_1, c_2, c_3, c_7, c_8]
            exact W.iret (v := (31 + (-8)) - (ji_ush (ji_ush p0 8) 1)) hx hb hr (fun t ht2 _ => ⟨((31 + (-8)) - (ji_ush (ji_ush p0 8) 1)), rfl, hq, ht2⟩) (fun q h => by cases h) md_JI_numberOfLeadingZeros_78
          · refine lv_iinc (v := (31 + (-8)) + (-2)) (lv' := [(1, .int ((31 + (-8)) + (-2))), (0, .int (ji_ush p0 8))]) hx hb md_JI_numberOfLeadingZeros_66 hl (k := 1) rfl rfl (by decide) rfl (fun ls hl => ?_)
            refine lv_iload_n hx hb md_JI_numberOfLeadingZeros_69 rfl (lv_at hl 1 rfl) ?_
            refine lv_iconst (v := 2) hx hb md_JI_numberOfLeadingZeros_70 (by decide) ?_
            refine lv_iushr (v := ji_ush (ji_ush p0 8) 2) hx hb md_JI_numberOfLeadingZeros_71 rfl ?_
            refine lv_istore_n (lv' := [(0, .int (ji_ush (ji_ush p0 8) 2)), (1, .int ((31 + (-8)) + (-2)))]) hx hb md_JI_numberOfLeadingZeros_72 rfl hl (by decide) rfl (fun ls hl => ?_)
            refine lv_iload_n hx hb md_JI_numberOfLeadingZeros_73 rfl (lv_at hl 1 rfl) ?_
            refine lv_iload_n hx hb md_JI_numberOfLeadingZeros_74 rfl (lv_at hl 0 rfl) ?_
            refine lv_iconst (v := 1) hx hb md_JI_numberOfLeadingZeros_75 (by decide) ?_
            refine lv_iushr (v := ji_ush (ji_ush (ji_ush p0 8) 2) 1) hx hb md_JI_numberOfLeadingZeros_76 rfl ?_
            refine lv_isub hx hb md_JI_numberOfLeadingZeros_77 ?_
            have hq : ((31 + (-8)) + (-2)) - (ji_ush (ji_ush (ji_ush p0 8) 2) 1) = jd_inlz p0 := by simp [jd_inlz, jd_inlz1, jd_inlz2, jd_inlz3, jd_inlz4, c_1, c_2, c_3, c_7, c_8]
            exact W.iret (v := ((31 + (-8)) + (-2)) - (ji_ush (ji_ush (ji_ush p0 8) 2) 1)) hx hb hr (fun t ht2 _ => ⟨(((31 + (-8)) + (-2)) - (ji_ush (ji_ush (ji_ush p0 8) 2) 1)), rfl, hq, ht2⟩) (fun q h => by cases h) md_JI_numberOfLeadingZeros_78
        · refine lv_iinc (v := (31 + (-8)) + (-4)) (lv' := [(1, .int ((31 + (-8)) + (-4))), (0, .int (ji_ush p0 8))]) hx hb md_JI_numberOfLeadingZeros_54 hl (k := 1) rfl rfl (by decide) rfl (fun ls hl => ?_)
          refine lv_iload_n hx hb md_JI_numberOfLeadingZeros_57 rfl (lv_at hl 1 rfl) ?_
          refine lv_iconst (v := 4) hx hb md_JI_numberOfLeadingZeros_58 (by decide) ?_
          refine lv_iushr (v := ji_ush (ji_ush p0 8) 4) hx hb md_JI_numberOfLeadingZeros_59 rfl ?_
          refine lv_istore_n (lv' := [(0, .int (ji_ush (ji_ush p0 8) 4)), (1, .int ((31 + (-8)) + (-4)))]) hx hb md_JI_numberOfLeadingZeros_60 rfl hl (by decide) rfl (fun ls hl => ?_)
          refine lv_iload_n hx hb md_JI_numberOfLeadingZeros_61 rfl (lv_at hl 0 rfl) ?_
          refine lv_iconst (v := 4) hx hb md_JI_numberOfLeadingZeros_62 (by decide) ?_
          refine lv_icmp_lt (tgt := 73) hx hb md_JI_numberOfLeadingZeros_63 (by decide) (fun c_9 => ?_) (fun c_9 => ?_)
          · refine lv_iload_n hx hb md_JI_numberOfLeadingZeros_73 rfl (lv_at hl 1 rfl) ?_
            refine lv_iload_n hx hb md_JI_numberOfLeadingZeros_74 rfl (lv_at hl 0 rfl) ?_
            refine lv_iconst (v := 1) hx hb md_JI_numberOfLeadingZeros_75 (by decide) ?_
            refine lv_iushr (v := ji_ush (ji_ush (ji_ush p0 8) 4) 1) hx hb md_JI_numberOfLeadingZeros_76 rfl ?_
            refine lv_isub hx hb md_JI_numberOfLeadingZeros_77 ?_
            have hq : ((31 + (-8)) + (-4)) - (ji_ush (ji_ush (ji_ush p0 8) 4) 1) = jd_inlz p0 := by simp [jd_inlz, jd_inlz1, jd_inlz2, jd_inlz3, jd_inlz4, c_1, c_2, c_3, c_7, c_9]
            exact W.iret (v := ((31 + (-8)) + (-4)) - (ji_ush (ji_ush (ji_ush p0 8) 4) 1)) hx hb hr (fun t ht2 _ => ⟨(((31 + (-8)) + (-4)) - (ji_ush (ji_ush (ji_ush p0 8) 4) 1)), rfl, hq, ht2⟩) (fun q h => by cases h) md_JI_numberOfLeadingZeros_78
          · refine lv_iinc (v := ((31 + (-8)) + (-4)) + (-2)) (lv' := [(1, .int (((31 + (-8)) + (-4)) + (-2))), (0, .int (ji_ush (ji_ush p0 8) 4))]) hx hb md_JI_numberOfLeadingZeros_66 hl (k := 1) rfl rfl (by decide) rfl (fun ls hl => ?_)
            refine lv_iload_n hx hb md_JI_numberOfLeadingZeros_69 rfl (lv_at hl 1 rfl) ?_
            refine lv_iconst (v := 2) hx hb md_JI_numberOfLeadingZeros_70 (by decide) ?_
            refine lv_iushr (v := ji_ush (ji_ush (ji_ush p0 8) 4) 2) hx hb md_JI_numberOfLeadingZeros_71 rfl ?_
            refine lv_istore_n (lv' := [(0, .int (ji_ush (ji_ush (ji_ush p0 8) 4) 2)), (1, .int (((31 + (-8)) + (-4)) + (-2)))]) hx hb md_JI_numberOfLeadingZeros_72 rfl hl (by decide) rfl (fun ls hl => ?_)
            refine lv_iload_n hx hb md_JI_numberOfLeadingZeros_73 rfl (lv_at hl 1 rfl) ?_
            refine lv_iload_n hx hb md_JI_numberOfLeadingZeros_74 rfl (lv_at hl 0 rfl) ?_
            refine lv_iconst (v := 1) hx hb md_JI_numberOfLeadingZeros_75 (by decide) ?_
            refine lv_iushr (v := ji_ush (ji_ush (ji_ush (ji_ush p0 8) 4) 2) 1) hx hb md_JI_numberOfLeadingZeros_76 rfl ?_
            refine lv_isub hx hb md_JI_numberOfLeadingZeros_77 ?_
            have hq : (((31 + (-8)) + (-4)) + (-2)) - (ji_ush (ji_ush (ji_ush (ji_ush p0 8) 4) 2) 1) = jd_inlz p0 := by simp [jd_inlz, jd_inlz1, jd_inlz2, jd_inlz3, jd_inlz4, c_1, c_2, c_3, c_7, c_9]
            exact W.iret (v := (((31 + (-8)) + (-4)) + (-2)) - (ji_ush (ji_ush (ji_ush (ji_ush p0 8) 4) 2) 1)) hx hb hr (fun t ht2 _ => ⟨((((31 + (-8)) + (-4)) + (-2)) - (ji_ush (ji_ush (ji_ush (ji_ush p0 8) 4) 2) 1)), rfl, hq, ht2⟩) (fun q h => by cases h) md_JI_numberOfLeadingZeros_78
    · refine lv_iinc (v := 31 + (-16)) (lv' := [(1, .int (31 + (-16))), (0, .int p0)]) hx hb md_JI_numberOfLeadingZeros_25 hl (k := 0) rfl rfl (by decide) rfl (fun ls hl => ?_)
      refine lv_iload_n hx hb md_JI_numberOfLeadingZeros_28 rfl (lv_at hl 1 rfl) ?_
      refine lv_bipush (v := 16) hx hb md_JI_numberOfLeadingZeros_29 (by decide) ?_
      refine lv_iushr (v := ji_ush p0 16) hx hb md_JI_numberOfLeadingZeros_31 rfl ?_
      refine lv_istore_n (lv' := [(0, .int (ji_ush p0 16)), (1, .int (31 + (-16)))]) hx hb md_JI_numberOfLeadingZeros_32 rfl hl (by decide) rfl (fun ls hl => ?_)
      refine lv_iload_n hx hb md_JI_numberOfLeadingZeros_33 rfl (lv_at hl 0 rfl) ?_
      refine lv_sipush (v := 256) hx hb md_JI_numberOfLeadingZeros_34 (by decide) ?_
      refine lv_icmp_lt (tgt := 48) hx hb md_JI_numberOfLeadingZeros_37 (by decide) (fun c_10 => ?_) (fun c_10 => ?_)
      · refine lv_iload_n hx hb md_JI_numberOfLeadingZeros_48 rfl (lv_at hl 0 rfl) ?_
        refine lv_bipush (v := 16) hx hb md_JI_numberOfLeadingZeros_49 (by decide) ?_
        refine lv_icmp_lt (tgt := 61) hx hb md_JI_numberOfLeadingZeros_51 (by decide) (fun c_11 => ?_) (fun c_11 => ?_)
        · refine lv_iload_n hx hb md_JI_numberOfLeadingZeros_61 rfl (lv_at hl 0 rfl) ?_
          refine lv_iconst (v := 4) hx hb md_JI_numberOfLeadingZeros_62 (by decide) ?_
          refine lv_icmp_lt (tgt := 73) hx hb md_JI_numberOfLeadingZeros_63 (by decide) (fun c_12 => ?_) (fun c_12 => ?_)
          · refine lv_iload_n hx hb md_JI_numberOfLeadingZeros_73 rfl (lv_at hl 1 rfl) ?_
            refine lv_iload_n hx hb md_JI_numberOfLeadingZeros_74 rfl (lv_at hl 0 rfl) ?_
            refine lv_iconst (v := 1) hx hb md_JI_numberOfLeadingZeros_75 (by decide) ?_
            refine lv_iushr (v := ji_ush (ji_ush p0 16) 1) hx hb md_JI_numberOfLeadingZeros_76 rfl ?_
            refine lv_isub hx hb md_JI_numberOfLeadingZeros_77 ?_
            have hq : (31 + (-16)) - (ji_ush (ji_ush p0 16) 1) = jd_inlz p0 := by simp [jd_inlz, jd_inlz1, jd_inlz2, jd_inlz3, jd_inlz4, c_1, c_2, c_10, c_11, c_12]
            exact W.iret (v := (31 + (-16)) - (ji_ush (ji_ush p0 16) 1)) hx hb hr (fun t ht2 _ => ⟨((31 + (-16)) - (ji_ush (ji_ush p0 16) 1)), rfl, hq, ht2⟩) (fun q h => by cases h) md_JI_numberOfLeadingZeros_78
          · refine lv_iinc (v := (31 + (-16)) + (-2)) (lv' := [(1, .int ((31 + (-16)) + (-2))), (0, .int (ji_ush p0 16))]) hx hb md_JI_numberOfLeadingZeros_66 hl (k := 1) rfl rfl (by decide) rfl (fun ls hl => ?_)
            refine lv_iload_n hx hb md_JI_numberOfLeadingZeros_69 rfl (lv_at hl 1 rfl) ?_
            refine lv_iconst (v := 2) hx hb md_JI_numberOfLeadingZeros_70 (by decide) ?_
            refine lv_iushr (v := ji_ush (ji_ush p0 16) 2) hx hb md_JI_numberOfLeadingZeros_71 rfl ?_
            refine lv_istore_n (lv' := [(0, .int (ji_ush (ji_ush p0 16) 2)), (1, .int ((31 + (-16)) + (-2)))]) hx hb md_JI_numberOfLeadingZeros_72 rfl hl (by decide) rfl (fun ls hl => ?_)
            refine lv_iload_n hx hb md_JI_numberOfLeadingZeros_73 rfl (lv_at hl 1 rfl) ?_
            refine lv_iload_n hx hb md_JI_numberOfLeadingZeros_74 rfl (lv_at hl 0 rfl) ?_
            refine lv_iconst (v := 1) hx hb md_JI_numberOfLeadingZeros_75 (by decide) ?_
            refine lv_iushr (v := ji_ush (ji_ush (ji_ush p0 16) 2) 1) hx hb md_JI_numberOfLeadingZeros_76 rfl ?_
            refine lv_isub hx hb md_JI_numberOfLeadingZeros_77 ?_
            have hq : ((31 + (-16)) + (-2)) - (ji_ush (ji_ush (ji_ush p0 16) 2) 1) = jd_inlz p0 := by simp [jd_inlz, jd_inlz1, jd_inlz2, jd_inlz3, jd_inlz4, c_1, c_2, c_10, c_11, c_12]
            exact W.iret (v := ((31 + (-16)) + (-2)) - (ji_ush (ji_ush (ji_ush p0 16) 2) 1)) hx hb hr (fun t ht2 _ => ⟨(((31 + (-16)) + (-2)) - (ji_ush (ji_ush (ji_ush p0 16) 2) 1)), rfl, hq, ht2⟩) (fun q h => by cases h) md_JI_numberOfLeadingZeros_78
        · refine lv_iinc (v := (31 + (-16)) + (-4)) (lv' := [(1, .int ((31 + (-16)) + (-4))), (0, .int (ji_ush p0 16))]) hx hb md_JI_numberOfLeadingZeros_54 hl (k := 1) rfl rfl (by decide) rfl (fun ls hl => ?_)
          refine lv_iload_n hx hb md_JI_numberOfLeadingZeros_57 rfl (lv_at hl 1 rfl) ?_
          refine lv_iconst (v := 4) hx hb md_JI_numberOfLeadingZeros_58 (by decide) ?_
          refine lv_iushr (v := ji_ush (ji_ush p0 16) 4) hx hb md_JI_numberOfLeadingZeros_59 rfl ?_
          refine lv_istore_n (lv' := [(0, .int (ji_ush (ji_ush p0 16) 4)), (1, .int ((31 + (-16)) + (-4)))]) hx hb md_JI_numberOfLeadingZeros_60 rfl hl (by decide) rfl (fun ls hl => ?_)
          refine lv_iload_n hx hb md_JI_numberOfLeadingZeros_61 rfl (lv_at hl 0 rfl) ?_
          refine lv_iconst (v := 4) hx hb md_JI_numberOfLeadingZeros_62 (by decide) ?_
          refine lv_icmp_lt (tgt := 73) hx hb md_JI_numberOfLeadingZeros_63 (by decide) (fun c_13 => ?_) (fun c_13 => ?_)
          · refine lv_iload_n hx hb md_JI_numberOfLeadingZeros_73 rfl (lv_at hl 1 rfl) ?_
            refine lv_iload_n hx hb md_JI_numberOfLeadingZeros_74 rfl (lv_at hl 0 rfl) ?_
            refine lv_iconst (v := 1) hx hb md_JI_numberOfLeadingZeros_75 (by decide) ?_
            refine lv_iushr (v := ji_ush (ji_ush (ji_ush p0 16) 4) 1) hx hb md_JI_numberOfLeadingZeros_76 rfl ?_
            refine lv_isub hx hb md_JI_numberOfLeadingZeros_77 ?_
            have hq : ((31 + (-16)) + (-4)) - (ji_ush (ji_ush (ji_ush p0 16) 4) 1) = jd_inlz p0 := by simp [jd_inlz, jd_inlz1, jd_inlz2, jd_inlz3, jd_inlz4, c_1, c_2, c_10, c_11, c_13]
            exact W.iret (v := ((31 + (-16)) + (-4)) - (ji_ush (ji_ush (ji_ush p0 16) 4) 1)) hx hb hr (fun t ht2 _ => ⟨(((31 + (-16)) + (-4)) - (ji_ush (ji_ush (ji_ush p0 16) 4) 1)), rfl, hq, ht2⟩) (fun q h => by cases h) md_JI_numberOfLeadingZeros_78
          · refine lv_iinc (v := ((31 + (-16)) + (-4)) + (-2)) (lv' := [(1, .int (((31 + (-16)) + (-4)) + (-2))), (0, .int (ji_ush (ji_ush p0 16) 4))]) hx hb md_JI_numberOfLeadingZeros_66 hl (k := 1) rfl rfl (by decide) rfl (fun ls hl => ?_)
            refine lv_iload_n hx hb md_JI_numberOfLeadingZeros_69 rfl (lv_at hl 1 rfl) ?_
            refine lv_iconst (v := 2) hx hb md_JI_numberOfLeadingZeros_70 (by decide) ?_
            refine lv_iushr (v := ji_ush (ji_ush (ji_ush p0 16) 4) 2) hx hb md_JI_numberOfLeadingZeros_71 rfl ?_
            refine lv_istore_n (lv' := [(0, .int (ji_ush (ji_ush (ji_ush p0 16) 4) 2)), (1, .int (((31 + (-16)) + (-4)) + (-2)))]) hx hb md_JI_numberOfLeadingZeros_72 rfl hl (by decide) rfl (fun ls hl => ?_)
            refine lv_iload_n hx hb md_JI_numberOfLeadingZeros_73 rfl (lv_at hl 1 rfl) ?_
            refine lv_iload_n hx hb md_JI_numberOfLeadingZeros_74 rfl (lv_at hl 0 rfl) ?_
            refine lv_iconst (v := 1) hx hb md_JI_numberOfLeadingZeros_75 (by decide) ?_
            refine lv_iushr (v := ji_ush (ji_ush (ji_ush (ji_ush p0 16) 4) 2) 1) hx hb md_JI_numberOfLeadingZeros_76 rfl ?_
            refine lv_isub hx hb md_JI_numberOfLeadingZeros_77 ?_
            have hq : (((31 + (-16)) + (-4)) + (-2)) - (ji_ush (ji_ush (ji_ush (ji_ush p0 16) 4) 2) 1) = jd_inlz p0 := by simp [jd_inlz, jd_inlz1, jd_inlz2, jd_inlz3, jd_inlz4, c_1, c_2, c_10, c_11, c_13]
            exact W.iret (v := (((31 + (-16)) + (-4)) + (-2)) - (ji_ush (ji_ush (ji_ush (ji_ush p0 16) 4) 2) 1)) hx hb hr (fun t ht2 _ => ⟨((((31 + (-16)) + (-4)) + (-2)) - (ji_ush (ji_ush (ji_ush (ji_ush p0 16) 4) 2) 1)), rfl, hq, ht2⟩) (fun q h => by cases h) md_JI_numberOfLeadingZeros_78
      · refine lv_iinc (v := (31 + (-16)) + (-8)) (lv' := [(1, .int ((31 + (-16)) + (-8))), (0, .int (ji_ush p0 16))]) hx hb md_JI_numberOfLeadingZeros_40 hl (k := 1) rfl rfl (by decide) rfl (fun ls hl => ?_)
        refine lv_iload_n hx hb md_JI_numberOfLeadingZeros_43 rfl (lv_at hl 1 rfl) ?_
        refine lv_bipush (v := 8) hx hb md_JI_numberOfLeadingZeros_44 (by decide) ?_
        refine lv_iushr (v := ji_ush (ji_ush p0 16) 8) hx hb md_JI_numberOfLeadingZeros_46 rfl ?_
        refine lv_istore_n (lv' := [(0, .int (ji_ush (ji_ush p0 16) 8)), (1, .int ((31 + (-16)) + (-8)))]) hx hb md_JI_numberOfLeadingZeros_47 rfl hl (by decide) rfl (fun ls hl => ?_)
        refine lv_iload_n hx hb md_JI_numberOfLeadingZeros_48 rfl (lv_at hl 0 rfl) ?_
        refine lv_bipush (v := 16) hx hb md_JI_numberOfLeadingZeros_49 (by decide) ?_
        refine lv_icmp_lt (tgt := 61) hx hb md_JI_numberOfLeadingZeros_51 (by decide) (fun c_14 => ?_) (fun c_14 => ?_)
        · refine lv_iload_n hx hb md_JI_numberOfLeadingZeros_61 rfl (lv_at hl 0 rfl) ?_
          refine lv_iconst (v := 4) hx hb md_JI_numberOfLeadingZeros_62 (by decide) ?_
          refine lv_icmp_lt (tgt := 73) hx hb md_JI_numberOfLeadingZeros_63 (by decide) (fun c_15 => ?_) (fun c_15 => ?_)
          · refine lv_iload_n hx hb md_JI_numberOfLeadingZeros_73 rfl (lv_at hl 1 rfl) ?_
            refine lv_iload_n hx hb md_JI_numberOfLeadingZeros_74 rfl (lv_at hl 0 rfl) ?_
            refine lv_iconst (v := 1) hx hb md_JI_numberOfLeadingZeros_75 (by decide) ?_
            refine lv_iushr (v := ji_ush (ji_ush (ji_ush p0 16) 8) 1) hx hb md_JI_numberOfLeadingZeros_76 rfl ?_
            refine lv_isub hx hb md_JI_numberOfLeadingZeros_77 ?_
            have hq : ((31 + (-16)) + (-8)) - (ji_ush (ji_ush (ji_ush p0 16) 8) 1) = jd_inlz p0 := by simp [jd_inlz, jd_inlz1, jd_inlz2, jd_inlz3, jd_inlz4, c_1, c_2, c_10, c_14, c_15]
            exact W.iret (v := ((31 + (-16)) + (-8)) - (ji_ush (ji_ush (ji_ush p0 16) 8) 1)) hx hb hr (fun t ht2 _ => ⟨(((31 + (-16)) + (-8)) - (ji_ush (ji_ush (ji_ush p0 16) 8) 1)), rfl, hq, ht2⟩) (fun q h => by cases h) md_JI_numberOfLeadingZeros_78
          · refine lv_iinc (v := ((31 + (-16)) + (-8)) + (-2)) (lv' := [(1, .int (((31 + (-16)) + (-8)) + (-2))), (0, .int (ji_ush (ji_ush p0 16) 8))]) hx hb md_JI_numberOfLeadingZeros_66 hl (k := 1) rfl rfl (by decide) rfl (fun ls hl => ?_)
            refine lv_iload_n hx hb md_JI_numberOfLeadingZeros_69 rfl (lv_at hl 1 rfl) ?_
            refine lv_iconst (v := 2) hx hb md_JI_numberOfLeadingZeros_70 (by decide) ?_
            refine lv_iushr (v := ji_ush (ji_ush (ji_ush p0 16) 8) 2) hx hb md_JI_numberOfLeadingZeros_71 rfl ?_
            refine lv_istore_n (lv' := [(0, .int (ji_ush (ji_ush (ji_ush p0 16) 8) 2)), (1, .int (((31 + (-16)) + (-8)) + (-2)))]) hx hb md_JI_numberOfLeadingZeros_72 rfl hl (by decide) rfl (fun ls hl => ?_)
            refine lv_iload_n hx hb md_JI_numberOfLeadingZeros_73 rfl (lv_at hl 1 rfl) ?_
            refine lv_iload_n hx hb md_JI_numberOfLeadingZeros_74 rfl (lv_at hl 0 rfl) ?_
            refine lv_iconst (v := 1) hx hb md_JI_numberOfLeadingZeros_75 (by decide) ?_
            refine lv_iushr (v := ji_ush (ji_ush (ji_ush (ji_ush p0 16) 8) 2) 1) hx hb md_JI_numberOfLeadingZeros_76 rfl ?_
            refine lv_isub hx hb md_JI_numberOfLeadingZeros_77 ?_
            have hq : (((31 + (-16)) + (-8)) + (-2)) - (ji_ush (ji_ush (ji_ush (ji_ush p0 16) 8) 2) 1) = jd_inlz p0 := by simp [jd_inlz, jd_inlz1, jd_inlz2, jd_inlz3, jd_inlz4, c_1, c_2, c_10, c_14, c_15]
            exact W.iret (v := (((31 + (-16)) + (-8)) + (-2)) - (ji_ush (ji_ush (ji_ush (ji_ush p0 16) 8) 2) 1)) hx hb hr (fun t ht2 _ => ⟨((((31 + (-16)) + (-8)) + (-2)) - (ji_ush (ji_ush (ji_ush (ji_ush p0 16) 8) 2) 1)), rfl, hq, ht2⟩) (fun q h => by cases h) md_JI_numberOfLeadingZeros_78
        · refine lv_iinc (v := ((31 + (-16)) + (-8)) + (-4)) (lv' := [(1, .int (((31 + (-16)) + (-8)) + (-4))), (0, .int (ji_ush (ji_ush p0 16) 8))]) hx hb md_JI_numberOfLeadingZeros_54 hl (k := 1) rfl rfl (by decide) rfl (fun ls hl => ?_)
          refine lv_iload_n hx hb md_JI_numberOfLeadingZeros_57 rfl (lv_at hl 1 rfl) ?_
          refine lv_iconst (v := 4) hx hb md_JI_numberOfLeadingZeros_58 (by decide) ?_
          refine lv_iushr (v := ji_ush (ji_ush (ji_ush p0 16) 8) 4) hx hb md_JI_numberOfLeadingZeros_59 rfl ?_
          refine lv_istore_n (lv' := [(0, .int (ji_ush (ji_ush (ji_ush p0 16) 8) 4)), (1, .int (((31 + (-16)) + (-8)) + (-4)))]) hx hb md_JI_numberOfLeadingZeros_60 rfl hl (by decide) rfl (fun ls hl => ?_)
          refine lv_iload_n hx hb md_JI_numberOfLeadingZeros_61 rfl (lv_at hl 0 rfl) ?_
          refine lv_iconst (v := 4) hx hb md_JI_numberOfLeadingZeros_62 (by decide) ?_
          refine lv_icmp_lt (tgt := 73) hx hb md_JI_numberOfLeadingZeros_63 (by decide) (fun c_16 => ?_) (fun c_16 => ?_)
          · refine lv_iload_n hx hb md_JI_numberOfLeadingZeros_73 rfl (lv_at hl 1 rfl) ?_
            refine lv_iload_n hx hb md_JI_numberOfLeadingZeros_74 rfl (lv_at hl 0 rfl) ?_
            refine lv_iconst (v := 1) hx hb md_JI_numberOfLeadingZeros_75 (by decide) ?_
            refine lv_iushr (v := ji_ush (ji_ush (ji_ush (ji_ush p0 16) 8) 4) 1) hx hb md_JI_numberOfLeadingZeros_76 rfl ?_
            refine lv_isub hx hb md_JI_numberOfLeadingZeros_77 ?_
            have hq : (((31 + (-16)) + (-8)) + (-4)) - (ji_ush (ji_ush (ji_ush (ji_ush p0 16) 8) 4) 1) = jd_inlz p0 := by simp [jd_inlz, jd_inlz1, jd_inlz2, jd_inlz3, jd_inlz4, c_1, c_2, c_10, c_14, c_16]
            exact W.iret (v := (((31 + (-16)) + (-8)) + (-4)) - (ji_ush (ji_ush (ji_ush (ji_ush p0 16) 8) 4) 1)) hx hb hr (fun t ht2 _ => ⟨((((31 + (-16)) + (-8)) + (-4)) - (ji_ush (ji_ush (ji_ush (ji_ush p0 16) 8) 4) 1)), rfl, hq, ht2⟩) (fun q h => by cases h) md_JI_numberOfLeadingZeros_78
          · refine lv_iinc (v := (((31 + (-16)) + (-8)) + (-4)) + (-2)) (lv' := [(1, .int ((((31 + (-16)) + (-8)) + (-4)) + (-2))), (0, .int (ji_ush (ji_ush (ji_ush p0 16) 8) 4))]) hx hb md_JI_numberOfLeadingZeros_66 hl (k := 1) rfl rfl (by decide) rfl (fun ls hl => ?_)
            refine lv_iload_n hx hb md_JI_numberOfLeadingZeros_69 rfl (lv_at hl 1 rfl) ?_
            refine lv_iconst (v := 2) hx hb md_JI_numberOfLeadingZeros_70 (by decide) ?_
            refine lv_iushr (v := ji_ush (ji_ush (ji_ush (ji_ush p0 16) 8) 4) 2) hx hb md_JI_numberOfLeadingZeros_71 rfl ?_
            refine lv_istore_n (lv' := [(0, .int (ji_ush (ji_ush (ji_ush (ji_ush p0 16) 8) 4) 2)), (1, .int ((((31 + (-16)) + (-8)) + (-4)) + (-2)))]) hx hb md_JI_numberOfLeadingZeros_72 rfl hl (by decide) rfl (fun ls hl => ?_)
            refine lv_iload_n hx hb md_JI_numberOfLeadingZeros_73 rfl (lv_at hl 1 rfl) ?_
            refine lv_iload_n hx hb md_JI_numberOfLeadingZeros_74 rfl (lv_at hl 0 rfl) ?_
            refine lv_iconst (v := 1) hx hb md_JI_numberOfLeadingZeros_75 (by decide) ?_
            refine lv_iushr (v := ji_ush (ji_ush (ji_ush (ji_ush (ji_ush p0 16) 8) 4) 2) 1) hx hb md_JI_numberOfLeadingZeros_76 rfl ?_
            refine lv_isub hx hb md_JI_numberOfLeadingZeros_77 ?_
            have hq : ((((31 + (-16)) + (-8)) + (-4)) + (-2)) - (ji_ush (ji_ush (ji_ush (ji_ush (ji_ush p0 16) 8) 4) 2) 1) = jd_inlz p0 := by simp [jd_inlz, jd_inlz1, jd_inlz2, jd_inlz3, jd_inlz4, c_1, c_2, c_10, c_14, c_16]
            exact W.iret (v := ((((31 + (-16)) + (-8)) + (-4)) + (-2)) - (ji_ush (ji_ush (ji_ush (ji_ush (ji_ush p0 16) 8) 4) 2) 1)) hx hb hr (fun t ht2 _ => ⟨(((((31 + (-16)) + (-8)) + (-4)) + (-2)) - (ji_ush (ji_ush (ji_ush (ji_ush (ji_ush p0 16) 8) 4) 2) 1)), rfl, hq, ht2⟩) (fun q h => by cases h) md_JI_numberOfLeadingZeros_78
  · refine lv_iload_n hx hb md_JI_numberOfLeadingZeros_4 rfl (lv_at hl 0 rfl) ?_
    refine lv_if_ne (tgt := 13) hx hb md_JI_numberOfLeadingZeros_5 (by decide) (fun c_17 => ?_) (fun c_17 => ?_)
    · refine lv_iconst (v := 0) hx hb md_JI_numberOfLeadingZeros_13 (by decide) ?_
      have hq : 0 = jd_inlz p0 := by simp [jd_inlz, jd_inlz1, jd_inlz2, jd_inlz3, jd_inlz4, c_1, c_17]
      exact W.iret (v := 0) hx hb hr (fun t ht2 _ => ⟨0, rfl, hq, ht2⟩) (fun q h => by cases h) md_JI_numberOfLeadingZeros_14
    · refine lv_bipush (v := 32) hx hb md_JI_numberOfLeadingZeros_8 (by decide) ?_
      refine lv_goto (tgt := 14) hx hb md_JI_numberOfLeadingZeros_10 (by decide) ?_
      have hq : 32 = jd_inlz p0 := by simp [jd_inlz, jd_inlz1, jd_inlz2, jd_inlz3, jd_inlz4, c_1, c_17]
      exact W.iret (v := 32) hx hb hr (fun t ht2 _ => ⟨32, rfl, hq, ht2⟩) (fun q h => by cases h) md_JI_numberOfLeadingZeros_14
set_option maxHeartbeats 4000000 in
set_option maxRecDepth 100000 in
theorem mt_JL_numberOfLeadingZeros (l : Launch) (p0 : Int64) : Met l my_JL_numberOfLeadingZeros mw_JL_numberOfLeadingZeros ({ frames := 1, cells := 0, slots := 0, locals := 21 } : Room) (va_Pc [.long p0] (fun _ => True)) (vp_Si (fun r => r = jd_nlz p0)) 0 0 (fun _ => False) := by
  refine Met.ofW (cc := mc_JL_numberOfLeadingZeros) (maxL := 3) (ret := (some .int)) (by decide) rfl ?_
  intro p e s m args below meth c s₁ B hml hv
  obtain ⟨rfl, -⟩ := hv
  have hx := B.exec
  have hb := B.bytes
  have hr := B.returns
  have hts := atoms_spec (ws := mw_JL_numberOfLeadingZeros) B.pre
  have ht : ∀ w ∈ gw_tbl, w.before _ s = true := fun w h => hts w (List.mem_cons_of_mem _ h)
  have hown : s.vm.findClass "java/lang/Long" = some m.cls := findClass_of_methodNamed B.named
  have hlocks := B.notSynchronized
  have hl := lv_entry ([.long p0]) (n := 3) (Nat.le_of_ble_eq_true rfl)
  rw [lg_entry_eq]
  generalize (lg_sl ([.long p0]) ++ List.replicate (3 - (lg_sl ([.long p0])).length) Slot.unset).toArray = ls at hl ⊢
  have hl : lv_has ls 3 [(0, .long p0)] := hl
  refine lv_lload_n hx hb md_JL_numberOfLeadingZeros_0 rfl (lv_at hl 0 rfl) ?_
  refine lv_bipush (v := 32) hx hb md_JL_numberOfLeadingZeros_1 (by decide) ?_
  refine lv_lushr (v := jl_ush p0 32) hx hb md_JL_numberOfLeadingZeros_3 rfl ?_
  refine lv_l2i (v := (jl_ush p0 32).toInt32) hx hb md_JL_numberOfLeadingZeros_4 rfl ?_
  refine lv_istore_n (lv' := [(2, .int ((jl_ush p0 32).toInt32)), (0, .long p0)]) hx hb md_JL_numberOfLeadingZeros_5 rfl hl (by decide) rfl (fun ls hl => ?_)
  refine lv_iload_n hx hb md_JL_numberOfLeadingZeros_6 rfl (lv_at hl 0 rfl) ?_
  refine lv_if_ne (tgt := 21) hx hb md_JL_numberOfLeadingZeros_7 (by decide) (fun c_1 => ?_) (fun c_1 => ?_)
  · refine lv_iload_n hx hb md_JL_numberOfLeadingZeros_21 rfl (lv_at hl 0 rfl) ?_
    refine vp_callSi (W.runS (As := [.int ((jl_ush p0 32).toInt32)]) (rest := []) ⟨hx, hb, hml, hown, hts⟩ (mt_JI_numberOfLeadingZeros l ((jl_ush p0 32).toInt32)) (va_cwS 1 hts (gd_S tm_159 tm_160 tm_30 tm_161) rfl rfl rfl (by decide +kernel) ⟨Nat.le_of_ble_eq_true rfl, Nat.le_of_ble_eq_true rfl⟩) ⟨fb_0, fun U hU hW => ⟨rfl, trivial⟩⟩ rfl rfl hl.1 rfl (lv_room (Nat.le_of_ble_eq_true rfl)) md_JL_numberOfLeadingZeros_22 ⟨Nat.zero_le _, Nat.zero_le _⟩) (fun r_2 e_3 => ?_)
    obtain rfl : r_2 = jd_inlz ((jl_ush p0 32).toInt32) := e_3
    have hq : jd_inlz ((jl_ush p0 32).toInt32) = jd_nlz p0 := by simp [jd_nlz, c_1]
    exact W.iret (v := jd_inlz ((jl_ush p0 32).toInt32)) hx hb hr (fun t ht2 _ => ⟨(jd_inlz ((jl_ush p0 32).toInt32)), rfl, hq, ht2⟩) (fun q h => by cases h) md_JL_numberOfLeadingZeros_25
  · refine lv_bipush (v := 32) hx hb md_JL_numberOfLeadingZeros_10 (by decide) ?_
    refine lv_lload_n hx hb md_JL_numberOfLeadingZeros_12 rfl (lv_at hl 1 rfl) ?_
    refine lv_l2i (v := p0.toInt32) hx hb md_JL_numberOfLeadingZeros_13 rfl ?_
    refine vp_callSi (W.runS (As := [.int p0.toInt32]) (rest := [.int 32]) ⟨hx, hb, hml, hown, hts⟩ (mt_JI_numberOfLeadingZeros l p0.toInt32) (va_cwS 1 hts (gd_S tm_159 tm_160 tm_30 tm_161) rfl rfl rfl (by decide +kernel) ⟨Nat.le_of_ble_eq_true rfl, Nat.le_of_ble_eq_true rfl⟩) ⟨fb_0, fun U hU hW => ⟨rfl, trivial⟩⟩ rfl rfl hl.1 rfl (lv_room (Nat.le_of_ble_eq_true rfl)) md_JL_numberOfLeadingZeros_14 ⟨Nat.zero_le _, Nat.zero_le _⟩) (fun r_4 e_5 => ?_)
    obtain rfl : r_4 = jd_inlz p0.toInt32 := e_5
    refine lv_iadd hx hb md_JL_numberOfLeadingZeros_17 ?_
    refine lv_goto (tgt := 25) hx hb md_JL_numberOfLeadingZeros_18 (by decide) ?_
    have hq : 32 + (jd_inlz p0.toInt32) = jd_nlz p0 := by simp [jd_nlz, c_1]
    exact W.iret (v := 32 + (jd_inlz p0.toInt32)) hx hb hr (fun t ht2 _ => ⟨(32 + (jd_inlz p0.toInt32)), rfl, hq, ht2⟩) (fun q h => by cases h) md_JL_numberOfLeadingZeros_25
set_option maxHeartbeats 4000000 in
set_option maxRecDepth 100000 in
theorem mt_F_magnitude (l : Launch) (ad : Nat → Nat) (k : Nat) (hk : k < 2) (p0 : Int64) : Met l my_F_magnitude mw_F_magnitude ({ frames := 0, cells := 0, slots := 0, locals := 0 } : Room) (va_Pc [.ref (ad k), .long p0] (fun U => FW ad (fun _ => False) U U.heap)) (vp_Sl (fun r => r = cf_mag k p0)) 0 0 (fun _ => False) := by
  refine Met.ofW (cc := mc_F_magnitude) (maxL := 3) (ret := (some .long)) (by decide) rfl ?_
  intro p e s m args below meth c s₁ B hml hv
  obtain ⟨rfl, hE⟩ := hv
  have hx := B.exec
  have hb := B.bytes
  have hr := B.returns
  have hts := atoms_spec (ws := mw_F_magnitude) B.pre
  have ht : ∀ w ∈ gw_tbl, w.before _ s = true := fun w h => hts w (List.mem_cons_of_mem _ h)
  have hown : s.vm.findClass "NumberProbe$Format" = some m.cls := findClass_of_methodNamed B.named
  have hlocks := B.notSynchronized
  have hS : va_S (fun _ => False) s.heap s.heap [] := va_S.rf
  have hl := lv_entry ([.ref (ad k), .long p0]) (n := 3) (Nat.le_of_ble_eq_true rfl)
  rw [lg_entry_eq]
  generalize (lg_sl ([.ref (ad k), .long p0]) ++ List.replicate (3 - (lg_sl ([.ref (ad k), .long p0])).length) Slot.unset).toArray = ls at hl ⊢
  have hl : lv_has ls 3 [(0, .ref (ad k)), (1, .long p0)] := hl
  refine lv_lload_n hx hb md_F_magnitude_0 rfl (lv_at hl 1 rfl) ?_
  refine lv_aload_n hx hb md_F_magnitude_1 rfl (lv_at hl 0 rfl) ?_
  refine va_getX hx hb hE.2.2.2.2.1 hk hS hown (ht _ tm_548) (fun _ h9 => h9) md_F_magnitude_2 ?_
  refine lv_land hx hb md_F_magnitude_5 ?_
  have hq : p0 &&& (kf_m k) = cf_mag k p0 := by simp [cf_mag]
  exact W.lret (v := p0 &&& (kf_m k)) hx hb hr (fun t ht2 _ => ⟨(p0 &&& (kf_m k)), rfl, hq, ht2⟩) (fun q h => by cases h) md_F_magnitude_6
set_option maxHeartbeats 4000000 in
set_option maxRecDepth 100000 in
theorem mt_F_isNaN (l : Launch) (ad : Nat → Nat) (k : Nat) (hk : k < 2) (p0 : Int64) : Met l my_F_isNaN mw_F_isNaN ({ frames := 1, cells := 0, slots := 0, locals := 22 } : Room) (va_Pc [.ref (ad k), .long p0] (fun U => FW ad (fun _ => False) U U.heap)) (vp_Si (fun r => r = jb (cf_nan k p0))) 0 0 (fun _ => False) := by
  refine Met.ofW (cc := mc_F_isNaN) (maxL := 3) (ret := (some .boolean)) (by decide) rfl ?_
  intro p e s m args below meth c s₁ B hml hv
  obtain ⟨rfl, hE⟩ := hv
  have hx := B.exec
  have hb := B.bytes
  have hr := B.returns
  have hts := atoms_spec (ws := mw_F_isNaN) B.pre
  have ht : ∀ w ∈ gw_tbl, w.before _ s = true := fun w h => hts w (List.mem_cons_of_mem _ h)
  have hown : s.vm.findClass "NumberProbe$Format" = some m.cls := findClass_of_methodNamed B.named
  have hlocks := B.notSynchronized
  have hS : va_S (fun _ => False) s.heap s.heap [] := va_S.rf
  have hl := lv_entry ([.ref (ad k), .long p0]) (n := 3) (Nat.le_of_ble_eq_true rfl)
  rw [lg_entry_eq]
  generalize (lg_sl ([.ref (ad k), .long p0]) ++ List.replicate (3 - (lg_sl ([.ref (ad k), .long p0])).length) Slot.unset).toArray = ls at hl ⊢
  have hl : lv_has ls 3 [(0, .ref (ad k)), (1, .long p0)] := hl
  refine lv_aload_n hx hb md_F_isNaN_0 rfl (lv_at hl 0 rfl) ?_
  refine lv_lload_n hx hb md_F_isNaN_1 rfl (lv_at hl 1 rfl) ?_
  refine vp_callSl (W.runV (C := "NumberProbe$Format") (As := [.long p0]) (rest := []) ⟨hx, hb, hml, hown, hts⟩ (mt_F_magnitude l ad k hk p0) (cwV 1 hts (gd_V tm_71 tm_72 tm_73 tm_27 tm_74) rfl rfl rfl (by decide +kernel) ⟨Nat.le_of_ble_eq_true rfl, Nat.le_of_ble_eq_true rfl⟩) ⟨fb_E, fw_recv hE hk hS, fun U hU hW => ⟨rfl, fw_use hE hS hU hW⟩⟩ rfl rfl hl.1 rfl (lv_room (Nat.le_of_ble_eq_true rfl)) md_F_isNaN_2 ⟨Nat.zero_le _, Nat.zero_le _⟩) (fun r_1 e_2 => ?_)
  obtain rfl : r_1 = cf_mag k p0 := e_2
  refine lv_aload_n hx hb md_F_isNaN_5 rfl (lv_at hl 0 rfl) ?_
  refine va_getX hx hb hE.2.2.2.2.2.1 hk hS hown (ht _ tm_549) (fun _ h9 => h9) md_F_isNaN_6 ?_
  refine W.lcmp hx hb md_F_isNaN_9 ?_
  refine lv_if_le (tgt := 17) hx hb md_F_isNaN_10 (by decide) (fun c_3 => ?_) (fun c_3 => ?_)
  · refine lv_iconst (v := 0) hx hb md_F_isNaN_17 (by decide) ?_
    have hq : 0 = jb (cf_nan k p0) := by simp [cf_nan, jb, ((lg_cmp_le _ _).mp c_3)]
    exact W.zret (v := 0) (ty := .boolean) hx hb hr (by rw [hq]; cases (cf_nan k p0) <;> rfl) (fun t ht2 _ => ⟨0, rfl, hq, ht2⟩) (fun q h => by cases h) md_F_isNaN_18
  · refine lv_iconst (v := 1) hx hb md_F_isNaN_13 (by decide) ?_
    refine lv_goto (tgt := 18) hx hb md_F_isNaN_14 (by decide) ?_
    have hq : 1 = jb (cf_nan k p0) := by simp [cf_nan, jb, (mt (lg_cmp_le _ _).mpr c_3)]
    exact W.zret (v := 1) (ty := .boolean) hx hb hr (by rw [hq]; cases (cf_nan k p0) <;> rfl) (fun t ht2 _ => ⟨1, rfl, hq, ht2⟩) (fun q h => by cases h) md_F_isNaN_18
set_option maxHeartbeats 4000000 in
set_option maxRecDepth 100000 in
theorem mt_F_isInfinite (l : Launch) (ad : Nat → Nat) (k : Nat) (hk : k < 2) (p0 : Int64) : Met l my_F_isInfinite mw_F_isInfinite ({ frames := 1, cells := 0, slots := 0, locals := 22 } : Room) (va_Pc [.ref (ad k), .long p0] (fun U => FW ad (fun _ => False) U U.heap)) (vp_Si (fun r => r = jb (cf_inf k p0))) 0 0 (fun _ => False) := by
  refine Met.ofW (cc := mc_F_isInfinite) (maxL := 3) (ret := (some .boolean)) (by decide) rfl ?_
  intro p e s m args below meth c s₁ B hml hv
  obtain ⟨rfl, hE⟩ := hv
  have hx := B.exec
  have hb := B.bytes
  have hr := B.returns
  have hts := atoms_spec (ws := mw_F_isInfinite) B.pre
  have ht : ∀ w ∈ gw_tbl, w.before _ s = true := fun w h => hts w (List.mem_cons_of_mem _ h)
  have hown : s.vm.findClass "NumberProbe$Format" = some m.cls := findClass_of_methodNamed B.named
  have hlocks := B.notSynchronized
  have hS : va_S (fun _ => False) s.heap s.heap [] := va_S.rf
  have hl := lv_entry ([.ref (ad k), .long p0]) (n := 3) (Nat.le_of_ble_eq_true rfl)
  rw [lg_entry_eq]
  generalize (lg_sl ([.ref (ad k), .long p0]) ++ List.replicate (3 - (lg_sl ([.ref (ad k), .long p0])).length) Slot.unset).toArray = ls at hl ⊢
  have hl : lv_has ls 3 [(0, .ref (ad k)), (1, .long p0)] := hl
  refine lv_aload_n hx hb md_F_isInfinite_0 rfl (lv_at hl 0 rfl) ?_
  refine lv_lload_n hx hb md_F_isInfinite_1 rfl (lv_at hl 1 rfl) ?_
  refine vp_callSl (W.runV (C := "NumberProbe$Format") (As := [.long p0]) (rest := []) ⟨hx, hb, hml, hown, hts⟩ (mt_F_magnitude l ad k hk p0) (cwV 1 hts (gd_V tm_71 tm_72 tm_73 tm_27 tm_74) rfl rfl rfl (by decide +kernel) ⟨Nat.le_of_ble_eq_true rfl, Nat.le_of_ble_eq_true rfl⟩) ⟨fb_E, fw_recv hE hk hS, fun U hU hW => ⟨rfl, fw_use hE hS hU hW⟩⟩ rfl rfl hl.1 rfl (lv_room (Nat.le_of_ble_eq_true rfl)) md_F_isInfinite_2 ⟨Nat.zero_le _, Nat.zero_le _⟩) (fun r_1 e_2 => ?_)
  obtain rfl : r_1 = cf_mag k p0 := e_2
  refine lv_aload_n hx hb md_F_isInfinite_5 rfl (lv_at hl 0 rfl) ?_
  refine va_getX hx hb hE.2.2.2.2.2.1 hk hS hown (ht _ tm_549) (fun _ h9 => h9) md_F_isInfinite_6 ?_
  refine W.lcmp hx hb md_F_isInfinite_9 ?_
  refine lv_if_ne (tgt := 17) hx hb md_F_isInfinite_10 (by decide) (fun c_3 => ?_) (fun c_3 => ?_)
  · refine lv_iconst (v := 0) hx hb md_F_isInfinite_17 (by decide) ?_
    have hq : 0 = jb (cf_inf k p0) := by simp [cf_inf, jb, (mt (lg_cmp_eq _ _).mpr c_3)]
    exact W.zret (v := 0) (ty := .boolean) hx hb hr (by rw [hq]; cases (cf_inf k p0) <;> rfl) (fun t ht2 _ => ⟨0, rfl, hq, ht2⟩) (fun q h => by cases h) md_F_isInfinite_18
  · refine lv_iconst (v := 1) hx hb md_F_isInfinite_13 (by decide) ?_
    refine lv_goto (tgt := 18) hx hb md_F_isInfinite_14 (by decide) ?_
    have hq : 1 = jb (cf_inf k p0) := by simp [cf_inf, jb, ((lg_cmp_eq _ _).mp c_3)]
    exact W.zret (v := 1) (ty := .boolean) hx hb hr (by rw [hq]; cases (cf_inf k p0) <;> rfl) (fun t ht2 _ => ⟨1, rfl, hq, ht2⟩) (fun q h => by cases h) md_F_isInfinite_18
set_option maxHeartbeats 4000000 in
set_option maxRecDepth 100000 in
theorem mt_F_isZero (l : Launch) (ad : Nat → Nat) (k : Nat) (hk : k < 2) (p0 : Int64) : Met l my_F_isZero mw_F_isZero ({ frames := 1, cells := 0, slots := 0, locals := 22 } : Room) (va_Pc [.ref (ad k), .long p0] (fun U => FW ad (fun _ => False) U U.heap)) (vp_Si (fun r => r = jb (cf_zer k p0))) 0 0 (fun _ => False) := by
  refine Met.ofW (cc := mc_F_isZero) (maxL := 3) (ret := (some .boolean)) (by decide) rfl ?_
  intro p e s m args below meth c s₁ B hml hv
  obtain ⟨rfl, hE⟩ := hv
  have hx := B.exec
  have hb := B.bytes
  have hr := B.returns
  have hts := atoms_spec (ws := mw_F_isZero) B.pre
  have ht : ∀ w ∈ gw_tbl, w.before _ s = true := fun w h => hts w (List.mem_cons_of_mem _ h)
  have hown : s.vm.findClass "NumberProbe$Format" = some m.cls := findClass_of_methodNamed B.named
  have hlocks := B.notSynchronized
  have hS : va_S (fun _ => False) s.heap s.heap [] := va_S.rf
  have hl := lv_entry ([.ref (ad k), .long p0]) (n := 3) (Nat.le_of_ble_eq_true rfl)
  rw [lg_entry_eq]
  generalize (lg_sl ([.ref (ad k), .long p0]) ++ List.replicate (3 - (lg_sl ([.ref (ad k), .long p0])).length) Slot.unset).toArray = ls at hl ⊢
  have hl : lv_has ls 3 [(0, .ref (ad k)), (1, .long p0)] := hl
  refine lv_aload_n hx hb md_F_isZero_0 rfl (lv_at hl 0 rfl) ?_
  refine lv_lload_n hx hb md_F_isZero_1 rfl (lv_at hl 1 rfl) ?_
  refine vp_callSl (W.runV (C := "NumberProbe$Format") (As := [.long p0]) (rest := []) ⟨hx, hb, hml, hown, hts⟩ (mt_F_magnitude l ad k hk p0) (cwV 1 hts (gd_V tm_71 tm_72 tm_73 tm_27 tm_74) rfl rfl rfl (by decide +kernel) ⟨Nat.le_of_ble_eq_true rfl, Nat.le_of_ble_eq_true rfl⟩) ⟨fb_E, fw_recv hE hk hS, fun U hU hW => ⟨rfl, fw_use hE hS hU hW⟩⟩ rfl rfl hl.1 rfl (lv_room (Nat.le_of_ble_eq_true rfl)) md_F_isZero_2 ⟨Nat.zero_le _, Nat.zero_le _⟩) (fun r_1 e_2 => ?_)
  obtain rfl : r_1 = cf_mag k p0 := e_2
  refine lv_lconst (v := 0) hx hb md_F_isZero_5 (by decide) ?_
  refine W.lcmp hx hb md_F_isZero_6 ?_
  refine lv_if_ne (tgt := 14) hx hb md_F_isZero_7 (by decide) (fun c_3 => ?_) (fun c_3 => ?_)
  · refine lv_iconst (v := 0) hx hb md_F_isZero_14 (by decide) ?_
    have hq : 0 = jb (cf_zer k p0) := by simp [cf_zer, jb, (mt (lg_cmp_eq _ _).mpr c_3)]
    exact W.zret (v := 0) (ty := .boolean) hx hb hr (by rw [hq]; cases (cf_zer k p0) <;> rfl) (fun t ht2 _ => ⟨0, rfl, hq, ht2⟩) (fun q h => by cases h) md_F_isZero_15
  · refine lv_iconst (v := 1) hx hb md_F_isZero_10 (by decide) ?_
    refine lv_goto (tgt := 15) hx hb md_F_isZero_11 (by decide) ?_
    have hq : 1 = jb (cf_zer k p0) := by simp [cf_zer, jb, ((lg_cmp_eq _ _).mp c_3)]
    exact W.zret (v := 1) (ty := .boolean) hx hb hr (by rw [hq]; cases (cf_zer k p0) <;> rfl) (fun t ht2 _ => ⟨1, rfl, hq, ht2⟩) (fun q h => by cases h) md_F_isZero_15
set_option maxHeartbeats 4000000 in
set_option maxRecDepth 100000 in
theorem mt_F_negated (l : Launch) (ad : Nat → Nat) (k : Nat) (hk : k < 2) (p0 : Int64) : Met l my_F_negated mw_F_negated ({ frames := 2, cells := 0, slots := 0, locals := 44 } : Room) (va_Pc [.ref (ad k), .long p0] (fun U => FW ad (fun _ => False) U U.heap)) (vp_Sl (fun _ => True)) 0 0 (fun _ => False) := by
  refine Met.ofW (cc := mc_F_negated) (maxL := 3) (ret := (some .long)) (by decide) rfl ?_
  intro p e s m args below meth c s₁ B hml hv
  obtain ⟨rfl, hE⟩ := hv
  have hx := B.exec
  have hb := B.bytes
  have hr := B.returns
  have hts := atoms_spec (ws := mw_F_negated) B.pre
  have ht : ∀ w ∈ gw_tbl, w.before _ s = true := fun w h => hts w (List.mem_cons_of_mem _ h)
  have hown : s.vm.findClass "NumberProbe$Format" = some m.cls := findClass_of_methodNamed B.named
  have hlocks := B.notSynchronized
  have hS : va_S (fun _ => False) s.heap s.heap [] := va_S.rf
  have hl := lv_entry ([.ref (ad k), .long p0]) (n := 3) (Nat.le_of_ble_eq_true rfl)
  rw [lg_entry_eq]
  generalize (lg_sl ([.ref (ad k), .long p0]) ++ List.replicate (3 - (lg_sl ([.ref (ad k), .long p0])).length) Slot.unset).toArray = ls at hl ⊢
  have hl : lv_has ls 3 [(0, .ref (ad k)), (1, .long p0)] := hl
  refine lv_aload_n hx hb md_F_negated_0 rfl (lv_at hl 0 rfl) ?_
  refine lv_lload_n hx hb md_F_negated_1 rfl (lv_at hl 1 rfl) ?_
  refine vp_callSi (W.runV (C := "NumberProbe$Format") (As := [.long p0]) (rest := []) ⟨hx, hb, hml, hown, hts⟩ (mt_F_isNaN l ad k hk p0) (cwV 1 hts (gd_V tm_67 tm_68 tm_69 tm_27 tm_70) rfl rfl rfl (by decide +kernel) ⟨Nat.le_of_ble_eq_true rfl, Nat.le_of_ble_eq_true rfl⟩) ⟨fb_E, fw_recv hE hk hS, fun U hU hW => ⟨rfl, fw_use hE hS hU hW⟩⟩ rfl rfl hl.1 rfl (lv_room (Nat.le_of_ble_eq_true rfl)) md_F_negated_2 ⟨Nat.zero_le _, Nat.zero_le _⟩) (fun r_1 e_2 => ?_)
  obtain rfl : r_1 = jb (cf_nan k p0) := e_2
  have J_4 : ∀ (z_5 : Int64) (ls : Array Slot), lv_has ls 3 [(0, .ref (ad k)), (1, .long p0)] → WP p l e mw_F_negated ({ frames := 2, cells := 0, slots := 0, locals := 44 } : Room) s m [.ref (ad k), .long p0] below meth c (vp_Sl (fun _ => True)) (F0 m 22 ls [.long z_5]) := by
    intro z_5 ls hl
    exact W.lret (v := z_5) hx hb hr (fun t ht2 _ => ⟨z_5, rfl, trivial, ht2⟩) (fun q h => by cases h) md_F_negated_22
  refine lv_if_eq (tgt := 12) hx hb md_F_negated_5 (by decide) (fun c_3 => ?_) (fun c_3 => ?_)
  · refine lv_lload_n hx hb md_F_negated_12 rfl (lv_at hl 1 rfl) ?_
    refine lv_aload_n hx hb md_F_negated_13 rfl (lv_at hl 0 rfl) ?_
    refine va_getX hx hb hE.2.2.2.2.1 hk hS hown (ht _ tm_548) (fun _ h9 => h9) md_F_negated_14 ?_
    refine lv_ldc2 (v := (-1)) hx hb hown (ht _ tm_80) md_F_negated_17 ?_
    refine lv_lxor hx hb md_F_negated_20 ?_
    refine lv_lxor hx hb md_F_negated_21 ?_
    exact J_4 (p0 ^^^ ((kf_m k) ^^^ (-1))) ls (lv_sub hl [0, 1] rfl)
  · refine lv_lload_n hx hb md_F_negated_8 rfl (lv_at hl 1 rfl) ?_
    refine lv_goto (tgt := 22) hx hb md_F_negated_9 (by decide) ?_
    exact J_4 p0 ls (lv_sub hl [0, 1] rfl)
set_option maxHeartbeats 4000000 in
set_option maxRecDepth 100000 in
theorem mt_F_signed (l : Launch) (ad : Nat → Nat) (k : Nat) (hk : k < 2) (p0 : Bool) (p1 : Int64) : Met l my_F_signed mw_F_signed ({ frames := 0, cells := 0, slots := 0, locals := 0 } : Room) (va_Pc [.ref (ad k), .int (jb p0), .long p1] (fun U => FW ad (fun _ => False) U U.heap)) (vp_Sl (fun _ => True)) 0 0 (fun _ => False) := by
  refine Met.ofW (cc := mc_F_signed) (maxL := 4) (ret := (some .long)) (by decide) rfl ?_
  intro p e s m args below meth c s₁ B hml hv
  obtain ⟨rfl, hE⟩ := hv
  have hx := B.exec
  have hb := B.bytes
  have hr := B.returns
  have hts := atoms_spec (ws := mw_F_signed) B.pre
  have ht : ∀ w ∈ gw_tbl, w.before _ s = true := fun w h => hts w (List.mem_cons_of_mem _ h)
  have hown : s.vm.findClass "NumberProbe$Format" = some m.cls := findClass_of_methodNamed B.named
  have hlocks := B.notSynchronized
  have hS : va_S (fun _ => False) s.heap s.heap [] := va_S.rf
  have hl := lv_entry ([.ref (ad k), .int (jb p0), .long p1]) (n := 4) (Nat.le_of_ble_eq_true rfl)
  rw [lg_entry_eq]
  generalize (lg_sl ([.ref (ad k), .int (jb p0), .long p1]) ++ List.replicate (4 - (lg_sl ([.ref (ad k), .int (jb p0), .long p1])).length) Slot.unset).toArray = ls at hl ⊢
  have hl : lv_has ls 4 [(0, .ref (ad k)), (1, .int (jb p0)), (2, .long p1)] := hl
  refine lv_iload_n hx hb md_F_signed_0 rfl (lv_at hl 1 rfl) ?_
  have J_2 : ∀ (z_3 : Int64) (ls : Array Slot), lv_has ls 4 [(0, .ref (ad k)), (1, .int (jb p0)), (2, .long p1)] → WP p l e mw_F_signed ({ frames := 0, cells := 0, slots := 0, locals := 0 } : Room) s m [.ref (ad k), .int (jb p0), .long p1] below meth c (vp_Sl (fun _ => True)) (F0 m 18 ls [.long z_3]) := by
    intro z_3 ls hl
    exact W.lret (v := z_3) hx hb hr (fun t ht2 _ => ⟨z_3, rfl, trivial, ht2⟩) (fun q h => by cases h) md_F_signed_18
  refine lv_if_eq (tgt := 17) hx hb md_F_signed_1 (by decide) (fun c_1 => ?_) (fun c_1 => ?_)
  · refine lv_lload_n hx hb md_F_signed_17 rfl (lv_at hl 2 rfl) ?_
    exact J_2 p1 ls (lv_sub hl [0, 1, 2] rfl)
  · refine lv_lload_n hx hb md_F_signed_4 rfl (lv_at hl 2 rfl) ?_
    refine lv_aload_n hx hb md_F_signed_5 rfl (lv_at hl 0 rfl) ?_
    refine va_getX hx hb hE.2.2.2.2.1 hk hS hown (ht _ tm_548) (fun _ h9 => h9) md_F_signed_6 ?_
    refine lv_ldc2 (v := (-1)) hx hb hown (ht _ tm_80) md_F_signed_9 ?_
    refine lv_lxor hx hb md_F_signed_12 ?_
    refine lv_lor hx hb md_F_signed_13 ?_
    refine lv_goto (tgt := 18) hx hb md_F_signed_14 (by decide) ?_
    exact J_2 (p1 ||| ((kf_m k) ^^^ (-1))) ls (lv_sub hl [0, 1, 2] rfl)
set_option maxHeartbeats 4000000 in
set_option maxRecDepth 100000 in
theorem mt_F_numberOf (l : Launch) (ad : Nat → Nat) (k : Nat) (hk : k < 2) (p0 : Int64) : Met l my_F_numberOf mw_F_numberOf ({ frames := 2, cells := 0, slots := 0, locals := 44 } : Room) (va_Pc [.ref (ad k), .long p0] (fun U => FW ad (fun _ => False) U U.heap)) (vp_Sl (fun _ => True)) 0 0 (fun _ => False) := by
  refine Met.ofW (cc := mc_F_numberOf) (maxL := 4) (ret := (some .long)) (by decide) rfl ?_
  intro p e s m args below meth c s₁ B hml hv
  obtain ⟨rfl, hE⟩ := hv
  have hx := B.exec
  have hb := B.bytes
  have hr := B.returns
  have hts := atoms_spec (ws := mw_F_numberOf) B.pre
  have ht : ∀ w ∈ gw_tbl, w.before _ s = true := fun w h => hts w (List.mem_cons_of_mem _ h)
  have hown : s.vm.findClass "NumberProbe$Format" = some m.cls := findClass_of_methodNamed B.named
  have hlocks := B.notSynchronized
  have hS : va_S (fun _ => False) s.heap s.heap [] := va_S.rf
  have hl := lv_entry ([.ref (ad k), .long p0]) (n := 4) (Nat.le_of_ble_eq_true rfl)
  rw [lg_entry_eq]
  generalize (lg_sl ([.ref (ad k), .long p0]) ++ List.replicate (4 - (lg_sl ([.ref (ad k), .long p0])).length) Slot.unset).toArray = ls at hl ⊢
  have hl : lv_has ls 4 [(0, .ref (ad k)), (1, .long p0)] := hl
  refine lv_lload_n hx hb md_F_numberOf_0 rfl (lv_at hl 1 rfl) ?_
  refine lv_aload_n hx hb md_F_numberOf_1 rfl (lv_at hl 0 rfl) ?_
  refine va_getX hx hb hE.2.2.2.2.1 hk hS hown (ht _ tm_548) (fun _ h9 => h9) md_F_numberOf_2 ?_
  refine lv_lconst (v := 1) hx hb md_F_numberOf_5 (by decide) ?_
  refine lv_ladd hx hb md_F_numberOf_6 ?_
  refine lv_land hx hb md_F_numberOf_7 ?_
  refine lv_lconst (v := 0) hx hb md_F_numberOf_8 (by decide) ?_
  refine W.lcmp hx hb md_F_numberOf_9 ?_
  have J_2 : ∀ (z_3 : Bool) (ls : Array Slot), lv_has ls 4 [(0, .ref (ad k)), (1, .long p0)] → WP p l e mw_F_numberOf ({ frames := 2, cells := 0, slots := 0, locals := 44 } : Room) s m [.ref (ad k), .long p0] below meth c (vp_Sl (fun _ => True)) (F0 m 18 ls [.int (jb z_3)]) := by
    intro z_3 ls hl
    refine lv_istore_n (lv' := [(3, .int (jb z_3)), (0, .ref (ad k)), (1, .long p0)]) hx hb md_F_numberOf_18 rfl hl (by decide) rfl (fun ls hl => ?_)
    refine lv_aload_n hx hb md_F_numberOf_19 rfl (lv_at hl 1 rfl) ?_
    refine lv_lload_n hx hb md_F_numberOf_20 rfl (lv_at hl 2 rfl) ?_
    refine vp_callSi (W.runV (C := "NumberProbe$Format") (As := [.long p0]) (rest := []) ⟨hx, hb, hml, hown, hts⟩ (mt_F_isNaN l ad k hk p0) (cwV 1 hts (gd_V tm_67 tm_68 tm_69 tm_27 tm_70) rfl rfl rfl (by decide +kernel) ⟨Nat.le_of_ble_eq_true rfl, Nat.le_of_ble_eq_true rfl⟩) ⟨fb_E, fw_recv hE hk hS, fun U hU hW => ⟨rfl, fw_use hE hS hU hW⟩⟩ rfl rfl hl.1 rfl (lv_room (Nat.le_of_ble_eq_true rfl)) md_F_numberOf_21 ⟨Nat.zero_le _, Nat.zero_le _⟩) (fun r_4 e_5 => ?_)
    obtain rfl : r_4 = jb (cf_nan k p0) := e_5
    have J_11 : ∀ (z_12 : Int64) (ls : Array Slot), lv_has ls 4 [(3, .int (jb z_3)), (0, .ref (ad k)), (1, .long p0)] → WP p l e mw_F_numberOf ({ frames := 2, cells := 0, slots := 0, locals := 44 } : Room) s m [.ref (ad k), .long p0] below meth c (vp_Sl (fun _ => True)) (F0 m 44 ls [.long z_12]) := by
      intro z_12 ls hl
      exact W.lret (v := z_12) hx hb hr (fun t ht2 _ => ⟨z_12, rfl, trivial, ht2⟩) (fun q h => by cases h) md_F_numberOf_44
    refine lv_if_eq (tgt := 34) hx hb md_F_numberOf_24 (by decide) (fun c_6 => ?_) (fun c_6 => ?_)
    · refine lv_aload_n hx hb md_F_numberOf_34 rfl (lv_at hl 1 rfl) ?_
      refine lv_iload_n hx hb md_F_numberOf_35 rfl (lv_at hl 0 rfl) ?_
      refine lv_aload_n hx hb md_F_numberOf_36 rfl (lv_at hl 1 rfl) ?_
      refine lv_lload_n hx hb md_F_numberOf_37 rfl (lv_at hl 2 rfl) ?_
      refine vp_callSl (W.runV (C := "NumberProbe$Format") (As := [.long p0]) (rest := [.int (jb z_3), .ref (ad k)]) ⟨hx, hb, hml, hown, hts⟩ (mt_F_magnitude l ad k hk p0) (cwV 1 hts (gd_V tm_71 tm_72 tm_73 tm_27 tm_74) rfl rfl rfl (by decide +kernel) ⟨Nat.le_of_ble_eq_true rfl, Nat.le_of_ble_eq_true rfl⟩) ⟨fb_E, fw_recv hE hk hS, fun U hU hW => ⟨rfl, fw_use hE hS hU hW⟩⟩ rfl rfl hl.1 rfl (lv_room (Nat.le_of_ble_eq_true rfl)) md_F_numberOf_38 ⟨Nat.zero_le _, Nat.zero_le _⟩) (fun r_13 e_14 => ?_)
      obtain rfl : r_13 = cf_mag k p0 := e_14
      refine vp_callSl (W.runV (C := "NumberProbe$Format") (As := [.int (jb z_3), .long (cf_mag k p0)]) (rest := []) ⟨hx, hb, hml, hown, hts⟩ (mt_F_signed l ad k hk z_3 (cf_mag k p0)) (cwV 2 hts (gd_V tm_75 tm_77 tm_0 tm_27 tm_79) rfl rfl rfl (by decide +kernel) ⟨Nat.le_of_ble_eq_true rfl, Nat.le_of_ble_eq_true rfl⟩) ⟨fb_E, fw_recv hE hk hS, fun U hU hW => ⟨rfl, fw_use hE hS hU hW⟩⟩ rfl rfl hl.1 rfl (lv_room (Nat.le_of_ble_eq_true rfl)) md_F_numberOf_41 ⟨Nat.zero_le _, Nat.zero_le _⟩) (fun r_15 e_16 => ?_)
      exact J_11 r_15 ls (lv_sub hl [0, 1, 2] rfl)
    · refine lv_aload_n hx hb md_F_numberOf_27 rfl (lv_at hl 1 rfl) ?_
      refine va_getX hx hb hE.2.2.2.2.2.2.1 hk hS hown (ht _ tm_550) (fun _ h9 => h9) md_F_numberOf_28 ?_
      refine lv_goto (tgt := 44) hx hb md_F_numberOf_31 (by decide) ?_
      exact J_11 (kf_n k) ls (lv_sub hl [0, 1, 2] rfl)
  refine lv_if_eq (tgt := 17) hx hb md_F_numberOf_10 (by decide) (fun c_1 => ?_) (fun c_1 => ?_)
  · refine lv_iconst (v := 0) hx hb md_F_numberOf_17 (by decide) ?_
    exact J_2 false ls (lv_sub hl [0, 1] rfl)
  · refine lv_iconst (v := 1) hx hb md_F_numberOf_13 (by decide) ?_
    refine lv_goto (tgt := 18) hx hb md_F_numberOf_14 (by decide) ?_
    exact J_2 true ls (lv_sub hl [0, 1] rfl)
set_option maxHeartbeats 4000000 in
set_option maxRecDepth 100000 in
theorem mt_F_exponentField (l : Launch) (ad : Nat → Nat) (k : Nat) (hk : k < 2) (p0 : Int64) : Met l my_F_exponentField mw_F_exponentField ({ frames := 0, cells := 0, slots := 0, locals := 0 } : Room) (va_Pc [.ref (ad k), .long p0] (fun U => FW ad (fun _ => False) U U.heap)) (vp_Si (fun r => r = cf_fld k p0)) 0 0 (fun _ => False) := by
  refine Met.ofW (cc := mc_F_exponentField) (maxL := 3) (ret := (some .int)) (by decide) rfl ?_
  intro p e s m args below meth c s₁ B hml hv
  obtain ⟨rfl, hE⟩ := hv
  have hx := B.exec
  have hb := B.bytes
  have hr := B.returns
  have hts := atoms_spec (ws := mw_F_exponentField) B.pre
  have ht : ∀ w ∈ gw_tbl, w.before _ s = true := fun w h => hts w (List.mem_cons_of_mem _ h)
  have hown : s.vm.findClass "NumberProbe$Format" = some m.cls := findClass_of_methodNamed B.named
  have hlocks := B.notSynchronized
  have hS : va_S (fun _ => False) s.heap s.heap [] := va_S.rf
  have hl := lv_entry ([.ref (ad k), .long p0]) (n := 3) (Nat.le_of_ble_eq_true rfl)
  rw [lg_entry_eq]
  generalize (lg_sl ([.ref (ad k), .long p0]) ++ List.replicate (3 - (lg_sl ([.ref (ad k), .long p0])).length) Slot.unset).toArray = ls at hl ⊢
  have hl : lv_has ls 3 [(0, .ref (ad k)), (1, .long p0)] := hl
  refine lv_lload_n hx hb md_F_exponentField_0 rfl (lv_at hl 1 rfl) ?_
  refine lv_aload_n hx hb md_F_exponentField_1 rfl (lv_at hl 0 rfl) ?_
  refine va_getX hx hb hE.2.1 hk hS hown (ht _ tm_552) (fun _ h9 => h9) md_F_exponentField_2 ?_
  refine lv_lushr (v := jl_ush p0 (kf_b k)) hx hb md_F_exponentField_5 rfl ?_
  refine lv_l2i (v := (jl_ush p0 (kf_b k)).toInt32) hx hb md_F_exponentField_6 rfl ?_
  refine lv_aload_n hx hb md_F_exponentField_7 rfl (lv_at hl 0 rfl) ?_
  refine va_getX hx hb hE.2.2.1 hk hS hown (ht _ tm_553) (fun _ h9 => h9) md_F_exponentField_8 ?_
  refine lv_iand hx hb md_F_exponentField_11 ?_
  have hq : ((jl_ush p0 (kf_b k)).toInt32) &&& (kf_s k) = cf_fld k p0 := by simp [cf_fld]
  exact W.iret (v := ((jl_ush p0 (kf_b k)).toInt32) &&& (kf_s k)) hx hb hr (fun t ht2 _ => ⟨(((jl_ush p0 (kf_b k)).toInt32) &&& (kf_s k)), rfl, hq, ht2⟩) (fun q h => by cases h) md_F_exponentField_12
set_option maxHeartbeats 4000000 in
set_option maxRecDepth 100000 in
theorem mt_F_significandOf (l : Launch) (ad : Nat → Nat) (k : Nat) (hk : k < 2) (p0 : Int64) : Met l my_F_significandOf mw_F_significandOf ({ frames := 1, cells := 0, slots := 0, locals := 22 } : Room) (va_Pc [.ref (ad k), .long p0] (fun U => FW ad (fun _ => False) U U.heap)) (vp_Sl (fun r => r = cf_sig k p0)) 0 0 (fun _ => False) := by
  refine Met.ofW (cc := mc_F_significandOf) (maxL := 5) (ret := (some .long)) (by decide) rfl ?_
  intro p e s m args below meth c s₁ B hml hv
  obtain ⟨rfl, hE⟩ := hv
  have hx := B.exec
  have hb := B.bytes
  have hr := B.returns
  have hts := atoms_spec (ws := mw_F_significandOf) B.pre
  have ht : ∀ w ∈ gw_tbl, w.before _ s = true := fun w h => hts w (List.mem_cons_of_mem _ h)
  have hown : s.vm.findClass "NumberProbe$Format" = some m.cls := findClass_of_methodNamed B.named
  have hlocks := B.notSynchronized
  have hS : va_S (fun _ => False) s.heap s.heap [] := va_S.rf
  have hl := lv_entry ([.ref (ad k), .long p0]) (n := 5) (Nat.le_of_ble_eq_true rfl)
  rw [lg_entry_eq]
  generalize (lg_sl ([.ref (ad k), .long p0]) ++ List.replicate (5 - (lg_sl ([.ref (ad k), .long p0])).length) Slot.unset).toArray = ls at hl ⊢
  have hl : lv_has ls 5 [(0, .ref (ad k)), (1, .long p0)] := hl
  refine lv_lload_n hx hb md_F_significandOf_0 rfl (lv_at hl 1 rfl) ?_
  refine lv_lconst (v := 1) hx hb md_F_significandOf_1 (by decide) ?_
  refine lv_aload_n hx hb md_F_significandOf_2 rfl (lv_at hl 0 rfl) ?_
  refine va_getX hx hb hE.2.1 hk hS hown (ht _ tm_552) (fun _ h9 => h9) md_F_significandOf_3 ?_
  refine lv_lshl (v := jl_shl 1 (kf_b k)) hx hb md_F_significandOf_6 rfl ?_
  refine lv_lconst (v := 1) hx hb md_F_significandOf_7 (by decide) ?_
  refine lv_lsub hx hb md_F_significandOf_8 ?_
  refine lv_land hx hb md_F_significandOf_9 ?_
  refine lv_lstore_n (lv' := [(3, .long (p0 &&& ((jl_shl 1 (kf_b k)) - 1))), (0, .ref (ad k)), (1, .long p0)]) hx hb md_F_significandOf_10 rfl hl (by decide) rfl (fun ls hl => ?_)
  refine lv_aload_n hx hb md_F_significandOf_11 rfl (lv_at hl 1 rfl) ?_
  refine lv_lload_n hx hb md_F_significandOf_12 rfl (lv_at hl 2 rfl) ?_
  refine vp_callSi (W.runV (C := "NumberProbe$Format") (As := [.long p0]) (rest := []) ⟨hx, hb, hml, hown, hts⟩ (mt_F_exponentField l ad k hk p0) (cwV 1 hts (gd_V tm_135 tm_137 tm_4 tm_27 tm_138) rfl rfl rfl (by decide +kernel) ⟨Nat.le_of_ble_eq_true rfl, Nat.le_of_ble_eq_true rfl⟩) ⟨fb_E, fw_recv hE hk hS, fun U hU hW => ⟨rfl, fw_use hE hS hU hW⟩⟩ rfl rfl hl.1 rfl (lv_room (Nat.le_of_ble_eq_true rfl)) md_F_significandOf_13 ⟨Nat.zero_le _, Nat.zero_le _⟩) (fun r_1 e_2 => ?_)
  obtain rfl : r_1 = cf_fld k p0 := e_2
  refine lv_if_ne (tgt := 23) hx hb md_F_significandOf_16 (by decide) (fun c_3 => ?_) (fun c_3 => ?_)
  · refine lv_lload_n hx hb md_F_significandOf_23 rfl (lv_at hl 0 rfl) ?_
    refine lv_lconst (v := 1) hx hb md_F_significandOf_24 (by decide) ?_
    refine lv_aload_n hx hb md_F_significandOf_25 rfl (lv_at hl 1 rfl) ?_
    refine va_getX hx hb hE.2.1 hk hS hown (ht _ tm_552) (fun _ h9 => h9) md_F_significandOf_26 ?_
    refine lv_lshl (v := jl_shl 1 (kf_b k)) hx hb md_F_significandOf_29 rfl ?_
    refine lv_lor hx hb md_F_significandOf_30 ?_
    have hq : (p0 &&& ((jl_shl 1 (kf_b k)) - 1)) ||| (jl_shl 1 (kf_b k)) = cf_sig k p0 := by simp [cf_sig, c_3]
    exact W.lret (v := (p0 &&& ((jl_shl 1 (kf_b k)) - 1)) ||| (jl_shl 1 (kf_b k))) hx hb hr (fun t ht2 _ => ⟨((p0 &&& ((jl_shl 1 (kf_b k)) - 1)) ||| (jl_shl 1 (kf_b k))), rfl, hq, ht2⟩) (fun q h => by cases h) md_F_significandOf_31
  · refine lv_lload_n hx hb md_F_significandOf_19 rfl (lv_at hl 0 rfl) ?_
    refine lv_goto (tgt := 31) hx hb md_F_significandOf_20 (by decide) ?_
    have hq : p0 &&& ((jl_shl 1 (kf_b k)) - 1) = cf_sig k p0 := by simp [cf_sig, c_3]
    exact W.lret (v := p0 &&& ((jl_shl 1 (kf_b k)) - 1)) hx hb hr (fun t ht2 _ => ⟨(p0 &&& ((jl_shl 1 (kf_b k)) - 1)), rfl, hq, ht2⟩) (fun q h => by cases h) md_F_significandOf_31
set_option maxHeartbeats 4000000 in
set_option maxRecDepth 100000 in
theorem mt_F_exponentOf (l : Launch) (ad : Nat → Nat) (k : Nat) (hk : k < 2) (p0 : Int64) : Met l my_F_exponentOf mw_F_exponentOf ({ frames := 1, cells := 0, slots := 0, locals := 23 } : Room) (va_Pc [.ref (ad k), .long p0] (fun U => FW ad (fun _ => False) U U.heap)) (vp_Si (fun r => r = cf_exp k p0)) 0 0 (fun _ => False) := by
  refine Met.ofW (cc := mc_F_exponentOf) (maxL := 3) (ret := (some .int)) (by decide) rfl ?_
  intro p e s m args below meth c s₁ B hml hv
  obtain ⟨rfl, hE⟩ := hv
  have hx := B.exec
  have hb := B.bytes
  have hr := B.returns
  have hts := atoms_spec (ws := mw_F_exponentOf) B.pre
  have ht : ∀ w ∈ gw_tbl, w.before _ s = true := fun w h => hts w (List.mem_cons_of_mem _ h)
  have hown : s.vm.findClass "NumberProbe$Format" = some m.cls := findClass_of_methodNamed B.named
  have hlocks := B.notSynchronized
  have hS : va_S (fun _ => False) s.heap s.heap [] := va_S.rf
  have hl := lv_entry ([.ref (ad k), .long p0]) (n := 3) (Nat.le_of_ble_eq_true rfl)
  rw [lg_entry_eq]
  generalize (lg_sl ([.ref (ad k), .long p0]) ++ List.replicate (3 - (lg_sl ([.ref (ad k), .long p0])).length) Slot.unset).toArray = ls at hl ⊢
  have hl : lv_has ls 3 [(0, .ref (ad k)), (1, .long p0)] := hl
  refine lv_aload_n hx hb md_F_exponentOf_0 rfl (lv_at hl 0 rfl) ?_
  refine va_getX hx hb hE.2.2.2.1 hk hS hown (ht _ tm_551) (fun _ h9 => h9) md_F_exponentOf_1 ?_
  refine lv_aload_n hx hb md_F_exponentOf_4 rfl (lv_at hl 0 rfl) ?_
  refine lv_lload_n hx hb md_F_exponentOf_5 rfl (lv_at hl 1 rfl) ?_
  refine vp_callSi (W.runV (C := "NumberProbe$Format") (As := [.long p0]) (rest := [.int (kf_l k)]) ⟨hx, hb, hml, hown, hts⟩ (mt_F_exponentField l ad k hk p0) (cwV 1 hts (gd_V tm_135 tm_137 tm_4 tm_27 tm_138) rfl rfl rfl (by decide +kernel) ⟨Nat.le_of_ble_eq_true rfl, Nat.le_of_ble_eq_true rfl⟩) ⟨fb_E, fw_recv hE hk hS, fun U hU hW => ⟨rfl, fw_use hE hS hU hW⟩⟩ rfl rfl hl.1 rfl (lv_room (Nat.le_of_ble_eq_true rfl)) md_F_exponentOf_6 ⟨Nat.zero_le _, Nat.zero_le _⟩) (fun r_1 e_2 => ?_)
  obtain rfl : r_1 = cf_fld k p0 := e_2
  refine lv_iconst (v := 1) hx hb md_F_exponentOf_9 (by decide) ?_
  refine va_mmax hx hb (by rw [hml]; exact hl.1.symm) hown (ht _ tm_139) (ht _ tm_140) (ht _ tm_28) (ht _ tm_141) (Nat.le_of_ble_eq_true rfl) (Nat.le_of_ble_eq_true rfl) (Nat.zero_le _) (Nat.zero_le _) md_F_exponentOf_10 ?_
  refine lv_iadd hx hb md_F_exponentOf_13 ?_
  refine lv_iconst (v := 1) hx hb md_F_exponentOf_14 (by decide) ?_
  refine lv_isub hx hb md_F_exponentOf_15 ?_
  have hq : ((kf_l k) + (if (cf_fld k p0) < 1 then 1 else (cf_fld k p0))) - 1 = cf_exp k p0 := by simp [cf_exp]
  exact W.iret (v := ((kf_l k) + (if (cf_fld k p0) < 1 then 1 else (cf_fld k p0))) - 1) hx hb hr (fun t ht2 _ => ⟨(((kf_l k) + (if (cf_fld k p0) < 1 then 1 else (cf_fld k p0))) - 1), rfl, hq, ht2⟩) (fun q h => by cases h) md_F_exponentOf_16
set_option maxHeartbeats 4000000 in
set_option maxRecDepth 100000 in
theorem mt_F_widening (l : Launch) (p0 : Int64) : Met l my_F_widening mw_F_widening ({ frames := 2, cells := 0, slots := 0, locals := 43 } : Room) (va_Pc [.long p0] (fun _ => True)) (vp_Si (fun r => r = cf_wid p0)) 0 0 (fun _ => False) := by
  refine Met.ofW (cc := mc_F_widening) (maxL := 2) (ret := (some .int)) (by decide) rfl ?_
  intro p e s m args below meth c s₁ B hml hv
  obtain ⟨rfl, -⟩ := hv
  have hx := B.exec
  have hb := B.bytes
  have hr := B.returns
  have hts := atoms_spec (ws := mw_F_widening) B.pre
  have ht : ∀ w ∈ gw_tbl, w.before _ s = true := fun w h => hts w (List.mem_cons_of_mem _ h)
  have hown : s.vm.findClass "NumberProbe$Format" = some m.cls := findClass_of_methodNamed B.named
  have hlocks := B.notSynchronized
  have hl := lv_entry ([.long p0]) (n := 2) (Nat.le_of_ble_eq_true rfl)
  rw [lg_entry_eq]
  generalize (lg_sl ([.long p0]) ++ List.replicate (2 - (lg_sl ([.long p0])).length) Slot.unset).toArray = ls at hl ⊢
  have hl : lv_has ls 2 [(0, .long p0)] := hl
  refine lv_lload_n hx hb md_F_widening_0 rfl (lv_at hl 0 rfl) ?_
  refine vp_callSi (W.runS (As := [.long p0]) (rest := []) ⟨hx, hb, hml, hown, hts⟩ (mt_JL_numberOfLeadingZeros l p0) (va_cwS 1 hts (gd_S tm_156 tm_157 tm_29 tm_158) rfl rfl rfl (by decide +kernel) ⟨Nat.le_of_ble_eq_true rfl, Nat.le_of_ble_eq_true rfl⟩) ⟨fb_0, fun U hU hW => ⟨rfl, trivial⟩⟩ rfl rfl hl.1 rfl (lv_room (Nat.le_of_ble_eq_true rfl)) md_F_widening_1 ⟨Nat.zero_le _, Nat.zero_le _⟩) (fun r_1 e_2 => ?_)
  obtain rfl : r_1 = jd_nlz p0 := e_2
  refine lv_bipush (v := 11) hx hb md_F_widening_4 (by decide) ?_
  refine lv_isub hx hb md_F_widening_6 ?_
  have hq : (jd_nlz p0) - 11 = cf_wid p0 := by simp [cf_wid]
  exact W.iret (v := (jd_nlz p0) - 11) hx hb hr (fun t ht2 _ => ⟨((jd_nlz p0) - 11), rfl, hq, ht2⟩) (fun q h => by cases h) md_F_widening_7
set_option maxHeartbeats 4000000 in
set_option maxRecDepth 100000 in
theorem mt_F_digitOf (l : Launch) (p0 : Int64) (p1 : Int32) : Met l my_F_digitOf mw_F_digitOf ({ frames := 0, cells := 0, slots := 0, locals := 0 } : Room) (va_Pc [.long p0, .int p1] (fun _ => True)) (vp_Sl (fun _ => True)) 0 0 (fun _ => False) := by
  refine Met.ofW (cc := mc_F_digitOf) (maxL := 3) (ret := (some .long)) (by decide) rfl ?_
  intro p e s m args below meth c s₁ B hml hv
  obtain ⟨rfl, -⟩ := hv
  have hx := B.exec
  have hb := B.bytes
  have hr := B.returns
  have hts := atoms_spec (ws := mw_F_digitOf) B.pre
  have ht : ∀ w ∈ gw_tbl, w.before _ s = true := fun w h => hts w (List.mem_cons_of_mem _ h)
  have hown : s.vm.findClass "NumberProbe$Format" = some m.cls := findClass_of_methodNamed B.named
  have hlocks := B.notSynchronized
  have hl := lv_entry ([.long p0, .int p1]) (n := 3) (Nat.le_of_ble_eq_true rfl)
  rw [lg_entry_eq]
  generalize (lg_sl ([.long p0, .int p1]) ++ List.replicate (3 - (lg_sl ([.long p0, .int p1])).length) Slot.unset).toArray = ls at hl ⊢
  have hl : lv_has ls 3 [(0, .long p0), (2, .int p1)] := hl
  refine lv_lload_n hx hb md_F_digitOf_0 rfl (lv_at hl 0 rfl) ?_
  refine lv_iload_n hx hb md_F_digitOf_1 rfl (lv_at hl 1 rfl) ?_
  refine lv_bipush (v := 10) hx hb md_F_digitOf_2 (by decide) ?_
  refine lv_imul hx hb md_F_digitOf_4 ?_
  refine lv_lushr (v := jl_ush p0 (p1 * 10)) hx hb md_F_digitOf_5 rfl ?_
  refine lv_ldc2 (v := 1023) hx hb hown (ht _ tm_188) md_F_digitOf_6 ?_
  refine lv_land hx hb md_F_digitOf_9 ?_
  exact W.lret (v := (jl_ush p0 (p1 * 10)) &&& 1023) hx hb hr (fun t ht2 _ => ⟨((jl_ush p0 (p1 * 10)) &&& 1023), rfl, trivial, ht2⟩) (fun q h => by cases h) md_F_digitOf_10
set_option maxHeartbeats 4000000 in
set_option maxRecDepth 100000 in
theorem mt_F_rankInSorting (l : Launch) (ad : Nat → Nat) (k : Nat) (hk : k < 2) (p0 : Int64) : Met l my_F_rankInSorting mw_F_rankInSorting ({ frames := 0, cells := 0, slots := 0, locals := 0 } : Room) (va_Pc [.ref (ad k), .long p0] (fun U => FW ad (fun _ => False) U U.heap)) (vp_Sl (fun r => r = cf_ris k p0)) 0 0 (fun _ => False) := by
  refine Met.ofW (cc := mc_F_rankInSorting) (maxL := 3) (ret := (some .long)) (by decide) rfl ?_
  intro p e s m args below meth c s₁ B hml hv
  obtain ⟨rfl, hE⟩ := hv
  have hx := B.exec
  have hb := B.bytes
  have hr := B.returns
  have hts := atoms_spec (ws := mw_F_rankInSorting) B.pre
  have ht : ∀ w ∈ gw_tbl, w.before _ s = true := fun w h => hts w (List.mem_cons_of_mem _ h)
  have hown : s.vm.findClass "NumberProbe$Format" = some m.cls := findClass_of_methodNamed B.named
  have hlocks := B.notSynchronized
  have hS : va_S (fun _ => False) s.heap s.heap [] := va_S.rf
  have hl := lv_entry ([.ref (ad k), .long p0]) (n := 3) (Nat.le_of_ble_eq_true rfl)
  rw [lg_entry_eq]
  generalize (lg_sl ([.ref (ad k), .long p0]) ++ List.replicate (3 - (lg_sl ([.ref (ad k), .long p0])).length) Slot.unset).toArray = ls at hl ⊢
  have hl : lv_has ls 3 [(0, .ref (ad k)), (1, .long p0)] := hl
  refine lv_lload_n hx hb md_F_rankInSorting_0 rfl (lv_at hl 1 rfl) ?_
  refine lv_lconst (v := 0) hx hb md_F_rankInSorting_1 (by decide) ?_
  refine W.lcmp hx hb md_F_rankInSorting_2 ?_
  refine lv_if_ge (tgt := 15) hx hb md_F_rankInSorting_3 (by decide) (fun c_1 => ?_) (fun c_1 => ?_)
  · refine lv_lload_n hx hb md_F_rankInSorting_15 rfl (lv_at hl 1 rfl) ?_
    have hq : p0 = cf_ris k p0 := by simp [cf_ris, ((lg_cmp_ge _ _).mp c_1)]
    exact W.lret (v := p0) hx hb hr (fun t ht2 _ => ⟨p0, rfl, hq, ht2⟩) (fun q h => by cases h) md_F_rankInSorting_16
  · refine lv_lload_n hx hb md_F_rankInSorting_6 rfl (lv_at hl 1 rfl) ?_
    refine lv_aload_n hx hb md_F_rankInSorting_7 rfl (lv_at hl 0 rfl) ?_
    refine va_getX hx hb hE.2.2.2.2.1 hk hS hown (ht _ tm_548) (fun _ h9 => h9) md_F_rankInSorting_8 ?_
    refine lv_lxor hx hb md_F_rankInSorting_11 ?_
    refine lv_goto (tgt := 16) hx hb md_F_rankInSorting_12 (by decide) ?_
    have hq : p0 ^^^ (kf_m k) = cf_ris k p0 := by simp [cf_ris, (mt (lg_cmp_ge _ _).mpr c_1)]
    exact W.lret (v := p0 ^^^ (kf_m k)) hx hb hr (fun t ht2 _ => ⟨(p0 ^^^ (kf_m k)), rfl, hq, ht2⟩) (fun q h => by cases h) md_F_rankInSorting_16
set_option maxHeartbeats 4000000 in
set_option maxRecDepth 100000 in
theorem mt_F_rankByValue (l : Launch) (ad : Nat → Nat) (k : Nat) (hk : k < 2) (p0 : Int64) : Met l my_F_rankByValue mw_F_rankByValue ({ frames := 2, cells := 0, slots := 0, locals := 44 } : Room) (va_Pc [.ref (ad k), .long p0] (fun U => FW ad (fun _ => False) U U.heap)) (vp_Sl (fun r => r = cf_rbv k p0)) 0 0 (fun _ => False) := by
  refine Met.ofW (cc := mc_F_rankByValue) (maxL := 3) (ret := (some .long)) (by decide) rfl ?_
  intro p e s m args below meth c s₁ B hml hv
  obtain ⟨rfl, hE⟩ := hv
  have hx := B.exec
  have hb := B.bytes
  have hr := B.returns
  have hts := atoms_spec (ws := mw_F_rankByValue) B.pre
  have ht : ∀ w ∈ gw_tbl, w.before _ s = true := fun w h => hts w (List.mem_cons_of_mem _ h)
  have hown : s.vm.findClass "NumberProbe$Format" = some m.cls := findClass_of_methodNamed B.named
  have hlocks := B.notSynchronized
  have hS : va_S (fun _ => False) s.heap s.heap [] := va_S.rf
  have hl := lv_entry ([.ref (ad k), .long p0]) (n := 3) (Nat.le_of_ble_eq_true rfl)
  rw [lg_entry_eq]
  generalize (lg_sl ([.ref (ad k), .long p0]) ++ List.replicate (3 - (lg_sl ([.ref (ad k), .long p0])).length) Slot.unset).toArray = ls at hl ⊢
  have hl : lv_has ls 3 [(0, .ref (ad k)), (1, .long p0)] := hl
  refine lv_aload_n hx hb md_F_rankByValue_0 rfl (lv_at hl 0 rfl) ?_
  refine lv_lload_n hx hb md_F_rankByValue_1 rfl (lv_at hl 1 rfl) ?_
  refine vp_callSi (W.runV (C := "NumberProbe$Format") (As := [.long p0]) (rest := []) ⟨hx, hb, hml, hown, hts⟩ (mt_F_isZero l ad k hk p0) (cwV 1 hts (gd_V tm_174 tm_176 tm_7 tm_27 tm_177) rfl rfl rfl (by decide +kernel) ⟨Nat.le_of_ble_eq_true rfl, Nat.le_of_ble_eq_true rfl⟩) ⟨fb_E, fw_recv hE hk hS, fun U hU hW => ⟨rfl, fw_use hE hS hU hW⟩⟩ rfl rfl hl.1 rfl (lv_room (Nat.le_of_ble_eq_true rfl)) md_F_rankByValue_2 ⟨Nat.zero_le _, Nat.zero_le _⟩) (fun r_1 e_2 => ?_)
  obtain rfl : r_1 = jb (cf_zer k p0) := e_2
  refine lv_if_eq (tgt := 12) hx hb md_F_rankByValue_5 (by decide) (fun c_3 => ?_) (fun c_3 => ?_)
  · refine lv_aload_n hx hb md_F_rankByValue_12 rfl (lv_at hl 0 rfl) ?_
    refine lv_lload_n hx hb md_F_rankByValue_13 rfl (lv_at hl 1 rfl) ?_
    refine vp_callSl (W.runV (C := "NumberProbe$Format") (As := [.long p0]) (rest := []) ⟨hx, hb, hml, hown, hts⟩ (mt_F_rankInSorting l ad k hk p0) (cwV 1 hts (gd_V tm_208 tm_209 tm_210 tm_27 tm_211) rfl rfl rfl (by decide +kernel) ⟨Nat.le_of_ble_eq_true rfl, Nat.le_of_ble_eq_true rfl⟩) ⟨fb_E, fw_recv hE hk hS, fun U hU hW => ⟨rfl, fw_use hE hS hU hW⟩⟩ rfl rfl hl.1 rfl (lv_room (Nat.le_of_ble_eq_true rfl)) md_F_rankByValue_14 ⟨Nat.zero_le _, Nat.zero_le _⟩) (fun r_4 e_5 => ?_)
    obtain rfl : r_4 = cf_ris k p0 := e_5
    have hq : cf_ris k p0 = cf_rbv k p0 := by simp [cf_rbv, (jb_0.mp c_3)]
    exact W.lret (v := cf_ris k p0) hx hb hr (fun t ht2 _ => ⟨(cf_ris k p0), rfl, hq, ht2⟩) (fun q h => by cases h) md_F_rankByValue_17
  · refine lv_lconst (v := 0) hx hb md_F_rankByValue_8 (by decide) ?_
    refine lv_goto (tgt := 17) hx hb md_F_rankByValue_9 (by decide) ?_
    have hq : 0 = cf_rbv k p0 := by simp [cf_rbv, (jb_n0.mp c_3)]
    exact W.lret (v := 0) hx hb hr (fun t ht2 _ => ⟨0, rfl, hq, ht2⟩) (fun q h => by cases h) md_F_rankByValue_17
end
section
set_option maxHeartbeats 4000000 in
set_option maxRecDepth 100000 in
theorem mt_F_lesser (l : Launch) (ad : Nat → Nat) (k : Nat) (hk : k < 2) (p0 : Int64) (p1 : Int64) : Met l my_F_lesser mw_F_lesser ({ frames := 2, cells := 0, slots := 0, locals := 44 } : Room) (va_Pc [.ref (ad k), .long p0, .long p1] (fun U => FW ad (fun _ => False) U U.heap)) (vp_Sl (fun _ => True)) 0 0 (fun _ => False) := by
  refine Met.ofW (cc := mc_F_lesser) (maxL := 5) (ret := (some .long)) (by decide) rfl ?_
  intro p e s m args below meth c s₁ B hml hv
  obtain ⟨rfl, hE⟩ := hv
  have hx := B.exec
  have hb := B.bytes
  have hr := B.returns
  have hts := atoms_spec (ws := mw_F_lesser) B.pre
  have ht : ∀ w ∈ gw_tbl, w.before _ s = true := fun w h => hts w (List.mem_cons_of_mem _ h)
  have hown : s.vm.findClass "NumberProbe$Format" = some m.cls := findClass_of_methodNamed B.named
  have hlocks := B.notSynchronized
  have hS : va_S (fun _ => False) s.heap s.heap [] := va_S.rf
  have hl := lv_entry ([.ref (ad k), .long p0, .long p1]) (n := 5) (Nat.le_of_ble_eq_true rfl)
  rw [lg_entry_eq]
  generalize (lg_sl ([.ref (ad k), .long p0, .long p1]) ++ List.replicate (5 - (lg_sl ([.ref (ad k), .long p0, .long p1])).length) Slot.unset).toArray = ls at hl ⊢
  have hl : lv_has ls 5 [(0, .ref (ad k)), (1, .long p0), (3, .long p1)] := hl
  refine lv_aload_n hx hb md_F_lesser_0 rfl (lv_at hl 0 rfl) ?_
  refine lv_lload_n hx hb md_F_lesser_1 rfl (lv_at hl 1 rfl) ?_
  refine vp_callSi (W.runV (C := "NumberProbe$Format") (As := [.long p0]) (rest := []) ⟨hx, hb, hml, hown, hts⟩ (mt_F_isNaN l ad k hk p0) (cwV 1 hts (gd_V tm_67 tm_68 tm_69 tm_27 tm_70) rfl rfl rfl (by decide +kernel) ⟨Nat.le_of_ble_eq_true rfl, Nat.le_of_ble_eq_true rfl⟩) ⟨fb_E, fw_recv hE hk hS, fun U hU hW => ⟨rfl, fw_use hE hS hU hW⟩⟩ rfl rfl hl.1 rfl (lv_room (Nat.le_of_ble_eq_true rfl)) md_F_lesser_2 ⟨Nat.zero_le _, Nat.zero_le _⟩) (fun r_1 e_2 => ?_)
  obtain rfl : r_1 = jb (cf_nan k p0) := e_2
  refine lv_if_ne (tgt := 16) hx hb md_F_lesser_5 (by decide) (fun c_3 => ?_) (fun c_3 => ?_)
  · refine lv_aload_n hx hb md_F_lesser_16 rfl (lv_at hl 0 rfl) ?_
    refine va_getX hx hb hE.2.2.2.2.2.2.1 hk hS hown (ht _ tm_550) (fun _ h9 => h9) md_F_lesser_17 ?_
    exact W.lret (v := kf_n k) hx hb hr (fun t ht2 _ => ⟨(kf_n k), rfl, trivial, ht2⟩) (fun q h => by cases h) md_F_lesser_20
  · refine lv_aload_n hx hb md_F_lesser_8 rfl (lv_at hl 0 rfl) ?_
    refine lv_lload_n hx hb md_F_lesser_9 rfl (lv_at hl 2 rfl) ?_
    refine vp_callSi (W.runV (C := "NumberProbe$Format") (As := [.long p1]) (rest := []) ⟨hx, hb, hml, hown, hts⟩ (mt_F_isNaN l ad k hk p1) (cwV 1 hts (gd_V tm_67 tm_68 tm_69 tm_27 tm_70) rfl rfl rfl (by decide +kernel) ⟨Nat.le_of_ble_eq_true rfl, Nat.le_of_ble_eq_true rfl⟩) ⟨fb_E, fw_recv hE hk hS, fun U hU hW => ⟨rfl, fw_use hE hS hU hW⟩⟩ rfl rfl hl.1 rfl (lv_room (Nat.le_of_ble_eq_true rfl)) md_F_lesser_10 ⟨Nat.zero_le _, Nat.zero_le _⟩) (fun r_4 e_5 => ?_)
    obtain rfl : r_4 = jb (cf_nan k p1) := e_5
    refine lv_if_eq (tgt := 21) hx hb md_F_lesser_13 (by decide) (fun c_6 => ?_) (fun c_6 => ?_)
    · refine lv_aload_n hx hb md_F_lesser_21 rfl (lv_at hl 0 rfl) ?_
      refine lv_lload_n hx hb md_F_lesser_22 rfl (lv_at hl 1 rfl) ?_
      refine vp_callSl (W.runV (C := "NumberProbe$Format") (As := [.long p0]) (rest := []) ⟨hx, hb, hml, hown, hts⟩ (mt_F_rankInSorting l ad k hk p0) (cwV 1 hts (gd_V tm_208 tm_209 tm_210 tm_27 tm_211) rfl rfl rfl (by decide +kernel) ⟨Nat.le_of_ble_eq_true rfl, Nat.le_of_ble_eq_true rfl⟩) ⟨fb_E, fw_recv hE hk hS, fun U hU hW => ⟨rfl, fw_use hE hS hU hW⟩⟩ rfl rfl hl.1 rfl (lv_room (Nat.le_of_ble_eq_true rfl)) md_F_lesser_23 ⟨Nat.zero_le _, Nat.zero_le _⟩) (fun r_7 e_8 => ?_)
      obtain rfl : r_7 = cf_ris k p0 := e_8
      refine lv_aload_n hx hb md_F_lesser_26 rfl (lv_at hl 0 rfl) ?_
      refine lv_lload_n hx hb md_F_lesser_27 rfl (lv_at hl 2 rfl) ?_
      refine vp_callSl (W.runV (C := "NumberProbe$Format") (As := [.long p1]) (rest := [.long (cf_ris k p0)]) ⟨hx, hb, hml, hown, hts⟩ (mt_F_rankInSorting l ad k hk p1) (cwV 1 hts (gd_V tm_208 tm_209 tm_210 tm_27 tm_211) rfl rfl rfl (by decide +kernel) ⟨Nat.le_of_ble_eq_true rfl, Nat.le_of_ble_eq_true rfl⟩) ⟨fb_E, fw_recv hE hk hS, fun U hU hW => ⟨rfl, fw_use hE hS hU hW⟩⟩ rfl rfl hl.1 rfl (lv_room (Nat.le_of_ble_eq_true rfl)) md_F_lesser_28 ⟨Nat.zero_le _, Nat.zero_le _⟩) (fun r_9 e_10 => ?_)
      obtain rfl : r_9 = cf_ris k p1 := e_10
      refine W.lcmp hx hb md_F_lesser_31 ?_
      have J_12 : ∀ (z_13 : Int64) (ls : Array Slot), lv_has ls 5 [(0, .ref (ad k)), (1, .long p0), (3, .long p1)] → WP p l e mw_F_lesser ({ frames := 2, cells := 0, slots := 0, locals := 44 } : Room) s m [.ref (ad k), .long p0, .long p1] below meth c (vp_Sl (fun _ => True)) (F0 m 40 ls [.long z_13]) := by
        intro z_13 ls hl
        exact W.lret (v := z_13) hx hb hr (fun t ht2 _ => ⟨z_13, rfl, trivial, ht2⟩) (fun q h => by cases h) md_F_lesser_40
      refine lv_if_gt (tgt := 39) hx hb md_F_lesser_32 (by decide) (fun c_11 => ?_) (fun c_11 => ?_)
      · refine lv_lload_n hx hb md_F_lesser_39 rfl (lv_at hl 2 rfl) ?_
        exact J_12 p1 ls (lv_sub hl [0, 1, 2] rfl)
      · refine lv_lload_n hx hb md_F_lesser_35 rfl (lv_at hl 1 rfl) ?_
        refine lv_goto (tgt := 40) hx hb md_F_lesser_36 (by decide) ?_
        exact J_12 p0 ls (lv_sub hl [0, 1, 2] rfl)
    · refine lv_aload_n hx hb md_F_lesser_16 rfl (lv_at hl 0 rfl) ?_
      refine va_getX hx hb hE.2.2.2.2.2.2.1 hk hS hown (ht _ tm_550) (fun _ h9 => h9) md_F_lesser_17 ?_
      exact W.lret (v := kf_n k) hx hb hr (fun t ht2 _ => ⟨(kf_n k), rfl, trivial, ht2⟩) (fun q h => by cases h) md_F_lesser_20
set_option maxHeartbeats 4000000 in
set_option maxRecDepth 100000 in
theorem mt_F_greater (l : Launch) (ad : Nat → Nat) (k : Nat) (hk : k < 2) (p0 : Int64) (p1 : Int64) : Met l my_F_greater mw_F_greater ({ frames := 2, cells := 0, slots := 0, locals := 44 } : Room) (va_Pc [.ref (ad k), .long p0, .long p1] (fun U => FW ad (fun _ => False) U U.heap)) (vp_Sl (fun _ => True)) 0 0 (fun _ => False) := by
  refine Met.ofW (cc := mc_F_greater) (maxL := 5) (ret := (some .long)) (by decide) rfl ?_
  intro p e s m args below meth c s₁ B hml hv
  obtain ⟨rfl, hE⟩ := hv
  have hx := B.exec
  have hb := B.bytes
  have hr := B.returns
  have hts := atoms_spec (ws := mw_F_greater) B.pre
  have ht : ∀ w ∈ gw_tbl, w.before _ s = true := fun w h => hts w (List.mem_cons_of_mem _ h)
  have hown : s.vm.findClass "NumberProbe$Format" = some m.cls := findClass_of_methodNamed B.named
  have hlocks := B.notSynchronized
  have hS : va_S (fun _ => False) s.heap s.heap [] := va_S.rf
  have hl := lv_entry ([.ref (ad k), .long p0, .long p1]) (n := 5) (Nat.le_of_ble_eq_true rfl)
  rw [lg_entry_eq]
  generalize (lg_sl ([.ref (ad k), .long p0, .long p1]) ++ List.replicate (5 - (lg_sl ([.ref (ad k), .long p0, .long p1])).length) Slot.unset).toArray = ls at hl ⊢
  have hl : lv_has ls 5 [(0, .ref (ad k)), (1, .long p0), (3, .long p1)] := hl
  refine lv_aload_n hx hb md_F_greater_0 rfl (lv_at hl 0 rfl) ?_
  refine lv_lload_n hx hb md_F_greater_1 rfl (lv_at hl 1 rfl) ?_
  refine vp_callSi (W.runV (C := "NumberProbe$Format") (As := [.long p0]) (rest := []) ⟨hx, hb, hml, hown, hts⟩ (mt_F_isNaN l ad k hk p0) (cwV 1 hts (gd_V tm_67 tm_68 tm_69 tm_27 tm_70) rfl rfl rfl (by decide +kernel) ⟨Nat.le_of_ble_eq_true rfl, Nat.le_of_ble_eq_true rfl⟩) ⟨fb_E, fw_recv hE hk hS, fun U hU hW => ⟨rfl, fw_use hE hS hU hW⟩⟩ rfl rfl hl.1 rfl (lv_room (Nat.le_of_ble_eq_true rfl)) md_F_greater_2 ⟨Nat.zero_le _, Nat.zero_le _⟩) (fun r_1 e_2 => ?_)
  obtain rfl : r_1 = jb (cf_nan k p0) := e_2
  refine lv_if_ne (tgt := 16) hx hb md_F_greater_5 (by decide) (fun c_3 => ?_) (fun c_3 => ?_)
  · refine lv_aload_n hx hb md_F_greater_16 rfl (lv_at hl 0 rfl) ?_
    refine va_getX hx hb hE.2.2.2.2.2.2.1 hk hS hown (ht _ tm_550) (fun _ h9 => h9) md_F_greater_17 ?_
    exact W.lret (v := kf_n k) hx hb hr (fun t ht2 _ => ⟨(kf_n k), rfl, trivial, ht2⟩) (fun q h => by cases h) md_F_greater_20
  · refine lv_aload_n hx hb md_F_greater_8 rfl (lv_at hl 0 rfl) ?_
    refine lv_lload_n hx hb md_F_greater_9 rfl (lv_at hl 2 rfl) ?_
    refine vp_callSi (W.runV (C := "NumberProbe$Format") (As := [.long p1]) (rest := []) ⟨hx, hb, hml, hown, hts⟩ (mt_F_isNaN l ad k hk p1) (cwV 1 hts (gd_V tm_67 tm_68 tm_69 tm_27 tm_70) rfl rfl rfl (by decide +kernel) ⟨Nat.le_of_ble_eq_true rfl, Nat.le_of_ble_eq_true rfl⟩) ⟨fb_E, fw_recv hE hk hS, fun U hU hW => ⟨rfl, fw_use hE hS hU hW⟩⟩ rfl rfl hl.1 rfl (lv_room (Nat.le_of_ble_eq_true rfl)) md_F_greater_10 ⟨Nat.zero_le _, Nat.zero_le _⟩) (fun r_4 e_5 => ?_)
    obtain rfl : r_4 = jb (cf_nan k p1) := e_5
    refine lv_if_eq (tgt := 21) hx hb md_F_greater_13 (by decide) (fun c_6 => ?_) (fun c_6 => ?_)
    · refine lv_aload_n hx hb md_F_greater_21 rfl (lv_at hl 0 rfl) ?_
      refine lv_lload_n hx hb md_F_greater_22 rfl (lv_at hl 1 rfl) ?_
      refine vp_callSl (W.runV (C := "NumberProbe$Format") (As := [.long p0]) (rest := []) ⟨hx, hb, hml, hown, hts⟩ (mt_F_rankInSorting l ad k hk p0) (cwV 1 hts (gd_V tm_208 tm_209 tm_210 tm_27 tm_211) rfl rfl rfl (by decide +kernel) ⟨Nat.le_of_ble_eq_true rfl, Nat.le_of_ble_eq_true rfl⟩) ⟨fb_E, fw_recv hE hk hS, fun U hU hW => ⟨rfl, fw_use hE hS hU hW⟩⟩ rfl rfl hl.1 rfl (lv_room (Nat.le_of_ble_eq_true rfl)) md_F_greater_23 ⟨Nat.zero_le _, Nat.zero_le _⟩) (fun r_7 e_8 => ?_)
      obtain rfl : r_7 = cf_ris k p0 := e_8
      refine lv_aload_n hx hb md_F_greater_26 rfl (lv_at hl 0 rfl) ?_
      refine lv_lload_n hx hb md_F_greater_27 rfl (lv_at hl 2 rfl) ?_
      refine vp_callSl (W.runV (C := "NumberProbe$Format") (As := [.long p1]) (rest := [.long (cf_ris k p0)]) ⟨hx, hb, hml, hown, hts⟩ (mt_F_rankInSorting l ad k hk p1) (cwV 1 hts (gd_V tm_208 tm_209 tm_210 tm_27 tm_211) rfl rfl rfl (by decide +kernel) ⟨Nat.le_of_ble_eq_true rfl, Nat.le_of_ble_eq_true rfl⟩) ⟨fb_E, fw_recv hE hk hS, fun U hU hW => ⟨rfl, fw_use hE hS hU hW⟩⟩ rfl rfl hl.1 rfl (lv_room (Nat.le_of_ble_eq_true rfl)) md_F_greater_28 ⟨Nat.zero_le _, Nat.zero_le _⟩) (fun r_9 e_10 => ?_)
      obtain rfl : r_9 = cf_ris k p1 := e_10
      refine W.lcmp hx hb md_F_greater_31 ?_
      have J_12 : ∀ (z_13 : Int64) (ls : Array Slot), lv_has ls 5 [(0, .ref (ad k)), (1, .long p0), (3, .long p1)] → WP p l e mw_F_greater ({ frames := 2, cells := 0, slots := 0, locals := 44 } : Room) s m [.ref (ad k), .long p0, .long p1] below meth c (vp_Sl (fun _ => True)) (F0 m 40 ls [.long z_13]) := by
        intro z_13 ls hl
        exact W.lret (v := z_13) hx hb hr (fun t ht2 _ => ⟨z_13, rfl, trivial, ht2⟩) (fun q h => by cases h) md_F_greater_40
      refine lv_if_lt (tgt := 39) hx hb md_F_greater_32 (by decide) (fun c_11 => ?_) (fun c_11 => ?_)
      · refine lv_lload_n hx hb md_F_greater_39 rfl (lv_at hl 2 rfl) ?_
        exact J_12 p1 ls (lv_sub hl [0, 1, 2] rfl)
      · refine lv_lload_n hx hb md_F_greater_35 rfl (lv_at hl 1 rfl) ?_
        refine lv_goto (tgt := 40) hx hb md_F_greater_36 (by decide) ?_
        exact J_12 p0 ls (lv_sub hl [0, 1, 2] rfl)
    · refine lv_aload_n hx hb md_F_greater_16 rfl (lv_at hl 0 rfl) ?_
      refine va_getX hx hb hE.2.2.2.2.2.2.1 hk hS hown (ht _ tm_550) (fun _ h9 => h9) md_F_greater_17 ?_
      exact W.lret (v := kf_n k) hx hb hr (fun t ht2 _ => ⟨(kf_n k), rfl, trivial, ht2⟩) (fun q h => by cases h) md_F_greater_20
set_option maxHeartbeats 4000000 in
set_option maxRecDepth 100000 in
theorem mt_F_withRest (l : Launch) (p0 : Int64) (p1 : Int64) : Met l my_F_withRest mw_F_withRest ({ frames := 0, cells := 0, slots := 0, locals := 0 } : Room) (va_Pc [.long p0, .long p1] (fun _ => True)) (vp_Sl (fun _ => True)) 0 0 (fun _ => False) := by
  refine Met.ofW (cc := mc_F_withRest) (maxL := 4) (ret := (some .long)) (by decide) rfl ?_
  intro p e s m args below meth c s₁ B hml hv
  obtain ⟨rfl, -⟩ := hv
  have hx := B.exec
  have hb := B.bytes
  have hr := B.returns
  have hts := atoms_spec (ws := mw_F_withRest) B.pre
  have ht : ∀ w ∈ gw_tbl, w.before _ s = true := fun w h => hts w (List.mem_cons_of_mem _ h)
  have hown : s.vm.findClass "NumberProbe$Format" = some m.cls := findClass_of_methodNamed B.named
  have hlocks := B.notSynchronized
  have hl := lv_entry ([.long p0, .long p1]) (n := 4) (Nat.le_of_ble_eq_true rfl)
  rw [lg_entry_eq]
  generalize (lg_sl ([.long p0, .long p1]) ++ List.replicate (4 - (lg_sl ([.long p0, .long p1])).length) Slot.unset).toArray = ls at hl ⊢
  have hl : lv_has ls 4 [(0, .long p0), (2, .long p1)] := hl
  refine lv_lload_n hx hb md_F_withRest_0 rfl (lv_at hl 1 rfl) ?_
  refine lv_lconst (v := 0) hx hb md_F_withRest_1 (by decide) ?_
  refine W.lcmp hx hb md_F_withRest_2 ?_
  have J_2 : ∀ (z_3 : Int64) (ls : Array Slot), lv_has ls 4 [(0, .long p0), (2, .long p1)] → WP p l e mw_F_withRest ({ frames := 0, cells := 0, slots := 0, locals := 0 } : Room) s m [.long p0, .long p1] below meth c (vp_Sl (fun _ => True)) (F0 m 13 ls [.long z_3]) := by
    intro z_3 ls hl
    exact W.lret (v := z_3) hx hb hr (fun t ht2 _ => ⟨z_3, rfl, trivial, ht2⟩) (fun q h => by cases h) md_F_withRest_13
  refine lv_if_ne (tgt := 10) hx hb md_F_withRest_3 (by decide) (fun c_1 => ?_) (fun c_1 => ?_)
  · refine lv_lload_n hx hb md_F_withRest_10 rfl (lv_at hl 0 rfl) ?_
    refine lv_lconst (v := 1) hx hb md_F_withRest_11 (by decide) ?_
    refine lv_lor hx hb md_F_withRest_12 ?_
    exact J_2 (p0 ||| 1) ls (lv_sub hl [0, 1] rfl)
  · refine lv_lload_n hx hb md_F_withRest_6 rfl (lv_at hl 0 rfl) ?_
    refine lv_goto (tgt := 13) hx hb md_F_withRest_7 (by decide) ?_
    exact J_2 p0 ls (lv_sub hl [0, 1] rfl)
set_option maxHeartbeats 4000000 in
set_option maxRecDepth 100000 in
theorem mt_F_shiftedRight (l : Launch) (p0 : Int64) (p1 : Int32) : Met l my_F_shiftedRight mw_F_shiftedRight ({ frames := 1, cells := 0, slots := 0, locals := 23 } : Room) (va_Pc [.long p0, .int p1] (fun _ => True)) (vp_Sl (fun _ => True)) 0 0 (fun _ => False) := by
  refine Met.ofW (cc := mc_F_shiftedRight) (maxL := 5) (ret := (some .long)) (by decide) rfl ?_
  intro p e s m args below meth c s₁ B hml hv
  obtain ⟨rfl, -⟩ := hv
  have hx := B.exec
  have hb := B.bytes
  have hr := B.returns
  have hts := atoms_spec (ws := mw_F_shiftedRight) B.pre
  have ht : ∀ w ∈ gw_tbl, w.before _ s = true := fun w h => hts w (List.mem_cons_of_mem _ h)
  have hown : s.vm.findClass "NumberProbe$Format" = some m.cls := findClass_of_methodNamed B.named
  have hlocks := B.notSynchronized
  have hl := lv_entry ([.long p0, .int p1]) (n := 5) (Nat.le_of_ble_eq_true rfl)
  rw [lg_entry_eq]
  generalize (lg_sl ([.long p0, .int p1]) ++ List.replicate (5 - (lg_sl ([.long p0, .int p1])).length) Slot.unset).toArray = ls at hl ⊢
  have hl : lv_has ls 5 [(0, .long p0), (2, .int p1)] := hl
  refine lv_iload_n hx hb md_F_shiftedRight_0 rfl (lv_at hl 1 rfl) ?_
  refine lv_bipush (v := 64) hx hb md_F_shiftedRight_1 (by decide) ?_
  refine lv_icmp_lt (tgt := 12) hx hb md_F_shiftedRight_3 (by decide) (fun c_1 => ?_) (fun c_1 => ?_)
  · refine lv_lload_n hx hb md_F_shiftedRight_12 rfl (lv_at hl 0 rfl) ?_
    refine lv_iload_n hx hb md_F_shiftedRight_13 rfl (lv_at hl 1 rfl) ?_
    refine lv_lushr (v := jl_ush p0 p1) hx hb md_F_shiftedRight_14 rfl ?_
    refine lv_lstore_n (lv' := [(3, .long (jl_ush p0 p1)), (0, .long p0), (2, .int p1)]) hx hb md_F_shiftedRight_15 rfl hl (by decide) rfl (fun ls hl => ?_)
    refine lv_lload_n hx hb md_F_shiftedRight_16 rfl (lv_at hl 0 rfl) ?_
    refine lv_lload_n hx hb md_F_shiftedRight_17 rfl (lv_at hl 1 rfl) ?_
    refine lv_lload_n hx hb md_F_shiftedRight_18 rfl (lv_at hl 0 rfl) ?_
    refine lv_iload_n hx hb md_F_shiftedRight_19 rfl (lv_at hl 2 rfl) ?_
    refine lv_lshl (v := jl_shl (jl_ush p0 p1) p1) hx hb md_F_shiftedRight_20 rfl ?_
    refine lv_lsub hx hb md_F_shiftedRight_21 ?_
    refine vp_callSl (W.runS (As := [.long (jl_ush p0 p1), .long (p0 - (jl_shl (jl_ush p0 p1) p1))]) (rest := []) ⟨hx, hb, hml, hown, hts⟩ (mt_F_withRest l (jl_ush p0 p1) (p0 - (jl_shl (jl_ush p0 p1) p1))) (va_cwS 2 hts (gd_S tm_149 tm_150 tm_27 tm_151) rfl rfl rfl (by decide +kernel) ⟨Nat.le_of_ble_eq_true rfl, Nat.le_of_ble_eq_true rfl⟩) ⟨fb_0, fun U hU hW => ⟨rfl, trivial⟩⟩ rfl rfl hl.1 rfl (lv_room (Nat.le_of_ble_eq_true rfl)) md_F_shiftedRight_22 ⟨Nat.zero_le _, Nat.zero_le _⟩) (fun r_2 e_3 => ?_)
    exact W.lret (v := r_2) hx hb hr (fun t ht2 _ => ⟨r_2, rfl, trivial, ht2⟩) (fun q h => by cases h) md_F_shiftedRight_25
  · refine lv_lconst (v := 0) hx hb md_F_shiftedRight_6 (by decide) ?_
    refine lv_lload_n hx hb md_F_shiftedRight_7 rfl (lv_at hl 0 rfl) ?_
    refine vp_callSl (W.runS (As := [.long 0, .long p0]) (rest := []) ⟨hx, hb, hml, hown, hts⟩ (mt_F_withRest l 0 p0) (va_cwS 2 hts (gd_S tm_149 tm_150 tm_27 tm_151) rfl rfl rfl (by decide +kernel) ⟨Nat.le_of_ble_eq_true rfl, Nat.le_of_ble_eq_true rfl⟩) ⟨fb_0, fun U hU hW => ⟨rfl, trivial⟩⟩ rfl rfl hl.1 rfl (lv_room (Nat.le_of_ble_eq_true rfl)) md_F_shiftedRight_8 ⟨Nat.zero_le _, Nat.zero_le _⟩) (fun r_4 e_5 => ?_)
    exact W.lret (v := r_4) hx hb hr (fun t ht2 _ => ⟨r_4, rfl, trivial, ht2⟩) (fun q h => by cases h) md_F_shiftedRight_11
set_option maxHeartbeats 4000000 in
set_option maxRecDepth 100000 in
theorem mt_F_cutToEven (l : Launch) (p0 : Int64) (p1 : Int32) : Met l my_F_cutToEven mw_F_cutToEven ({ frames := 0, cells := 0, slots := 0, locals := 0 } : Room) (va_Pc [.long p0, .int p1] (fun _ => True)) (vp_Sl (fun _ => True)) 0 0 (fun _ => False) := by
  refine Met.ofW (cc := mc_F_cutToEven) (maxL := 10) (ret := (some .long)) (by decide) rfl ?_
  intro p e s m args below meth c s₁ B hml hv
  obtain ⟨rfl, -⟩ := hv
  have hx := B.exec
  have hb := B.bytes
  have hr := B.returns
  have hts := atoms_spec (ws := mw_F_cutToEven) B.pre
  have ht : ∀ w ∈ gw_tbl, w.before _ s = true := fun w h => hts w (List.mem_cons_of_mem _ h)
  have hown : s.vm.findClass "NumberProbe$Format" = some m.cls := findClass_of_methodNamed B.named
  have hlocks := B.notSynchronized
  have hl := lv_entry ([.long p0, .int p1]) (n := 10) (Nat.le_of_ble_eq_true rfl)
  rw [lg_entry_eq]
  generalize (lg_sl ([.long p0, .int p1]) ++ List.replicate (10 - (lg_sl ([.long p0, .int p1])).length) Slot.unset).toArray = ls at hl ⊢
  have hl : lv_has ls 10 [(0, .long p0), (2, .int p1)] := hl
  refine lv_iload_n hx hb md_F_cutToEven_0 rfl (lv_at hl 1 rfl) ?_
  refine lv_bipush (v := 64) hx hb md_F_cutToEven_1 (by decide) ?_
  refine lv_icmp_lt (tgt := 8) hx hb md_F_cutToEven_3 (by decide) (fun c_1 => ?_) (fun c_1 => ?_)
  · refine lv_lload_n hx hb md_F_cutToEven_8 rfl (lv_at hl 0 rfl) ?_
    refine lv_iload_n hx hb md_F_cutToEven_9 rfl (lv_at hl 1 rfl) ?_
    refine lv_lushr (v := jl_ush p0 p1) hx hb md_F_cutToEven_10 rfl ?_
    refine lv_lstore_n (lv' := [(3, .long (jl_ush p0 p1)), (0, .long p0), (2, .int p1)]) hx hb md_F_cutToEven_11 rfl hl (by decide) rfl (fun ls hl => ?_)
    refine lv_lload_n hx hb md_F_cutToEven_12 rfl (lv_at hl 1 rfl) ?_
    refine lv_lload_n hx hb md_F_cutToEven_13 rfl (lv_at hl 0 rfl) ?_
    refine lv_iload_n hx hb md_F_cutToEven_14 rfl (lv_at hl 2 rfl) ?_
    refine lv_lshl (v := jl_shl (jl_ush p0 p1) p1) hx hb md_F_cutToEven_15 rfl ?_
    refine lv_lsub hx hb md_F_cutToEven_16 ?_
    refine lv_lstore (lv' := [(5, .long (p0 - (jl_shl (jl_ush p0 p1) p1))), (3, .long (jl_ush p0 p1)), (0, .long p0), (2, .int p1)]) hx hb md_F_cutToEven_17 hl (by decide) rfl (fun ls hl => ?_)
    refine lv_lconst (v := 1) hx hb md_F_cutToEven_19 (by decide) ?_
    refine lv_iload_n hx hb md_F_cutToEven_20 rfl (lv_at hl 3 rfl) ?_
    refine lv_iconst (v := 1) hx hb md_F_cutToEven_21 (by decide) ?_
    refine lv_isub hx hb md_F_cutToEven_22 ?_
    refine lv_lshl (v := jl_shl 1 (p1 - 1)) hx hb md_F_cutToEven_23 rfl ?_
    refine lv_lstore (lv' := [(7, .long (jl_shl 1 (p1 - 1))), (5, .long (p0 - (jl_shl (jl_ush p0 p1) p1))), (3, .long (jl_ush p0 p1)), (0, .long p0), (2, .int p1)]) hx hb md_F_cutToEven_24 hl (by decide) rfl (fun ls hl => ?_)
    refine lv_lload hx hb md_F_cutToEven_26 (lv_at hl 1 rfl) ?_
    refine lv_lload hx hb md_F_cutToEven_28 (lv_at hl 0 rfl) ?_
    refine W.lcmp hx hb md_F_cutToEven_30 ?_
    have J_12 : ∀ (z_13 : Bool) (ls : Array Slot), lv_has ls 10 [(7, .long (jl_shl 1 (p1 - 1))), (5, .long (p0 - (jl_shl (jl_ush p0 p1) p1))), (3, .long (jl_ush p0 p1)), (0, .long p0), (2, .int p1)] → WP p l e mw_F_cutToEven ({ frames := 0, cells := 0, slots := 0, locals := 0 } : Room) s m [.long p0, .int p1] below meth c (vp_Sl (fun _ => True)) (F0 m 55 ls [.int (jb z_13)]) := by
      intro z_13 ls hl
      refine lv_istore (lv' := [(9, .int (jb z_13)), (7, .long (jl_shl 1 (p1 - 1))), (5, .long (p0 - (jl_shl (jl_ush p0 p1) p1))), (3, .long (jl_ush p0 p1)), (0, .long p0), (2, .int p1)]) hx hb md_F_cutToEven_55 hl (by decide) rfl (fun ls hl => ?_)
      refine lv_iload hx hb md_F_cutToEven_57 (lv_at hl 0 rfl) ?_
      have J_15 : ∀ (z_16 : Int64) (ls : Array Slot), lv_has ls 10 [(9, .int (jb z_13)), (7, .long (jl_shl 1 (p1 - 1))), (5, .long (p0 - (jl_shl (jl_ush p0 p1) p1))), (3, .long (jl_ush p0 p1)), (0, .long p0), (2, .int p1)] → WP p l e mw_F_cutToEven ({ frames := 0, cells := 0, slots := 0, locals := 0 } : Room) s m [.long p0, .int p1] below meth c (vp_Sl (fun _ => True)) (F0 m 69 ls [.long z_16]) := by
        intro z_16 ls hl
        exact W.lret (v := z_16) hx hb hr (fun t ht2 _ => ⟨z_16, rfl, trivial, ht2⟩) (fun q h => by cases h) md_F_cutToEven_69
      refine lv_if_eq (tgt := 68) hx hb md_F_cutToEven_59 (by decide) (fun c_14 => ?_) (fun c_14 => ?_)
      · refine lv_lload_n hx hb md_F_cutToEven_68 rfl (lv_at hl 3 rfl) ?_
        exact J_15 (jl_ush p0 p1) ls (lv_sub hl [0, 1, 2, 3, 4, 5] rfl)
      · refine lv_lload_n hx hb md_F_cutToEven_62 rfl (lv_at hl 3 rfl) ?_
        refine lv_lconst (v := 1) hx hb md_F_cutToEven_63 (by decide) ?_
        refine lv_ladd hx hb md_F_cutToEven_64 ?_
        refine lv_goto (tgt := 69) hx hb md_F_cutToEven_65 (by decide) ?_
        exact J_15 ((jl_ush p0 p1) + 1) ls (lv_sub hl [0, 1, 2, 3, 4, 5] rfl)
    refine lv_if_gt (tgt := 50) hx hb md_F_cutToEven_31 (by decide) (fun c_2 => ?_) (fun c_2 => ?_)
    · refine lv_iconst (v := 1) hx hb md_F_cutToEven_50 (by decide) ?_
      refine lv_goto (tgt := 55) hx hb md_F_cutToEven_51 (by decide) ?_
      exact J_12 true ls (lv_sub hl [0, 1, 2, 3, 4] rfl)
    · refine lv_lload hx hb md_F_cutToEven_34 (lv_at hl 1 rfl) ?_
      refine lv_lload hx hb md_F_cutToEven_36 (lv_at hl 0 rfl) ?_
      refine W.lcmp hx hb md_F_cutToEven_38 ?_
      have J_21 : ∀ (z_22 : Bool) (ls : Array Slot), lv_has ls 10 [(7, .long (jl_shl 1 (p1 - 1))), (5, .long (p0 - (jl_shl (jl_ush p0 p1) p1))), (3, .long (jl_ush p0 p1)), (0, .long p0), (2, .int p1)] → WP p l e mw_F_cutToEven ({ frames := 0, cells := 0, slots := 0, locals := 0 } : Room) s m [.long p0, .int p1] below meth c (vp_Sl (fun _ => True)) (F0 m 55 ls [.int (jb z_22)]) := by
        intro z_22 ls hl
        exact J_12 z_22 ls (lv_sub hl [0, 1, 2, 3, 4] rfl)
      refine lv_if_ne (tgt := 54) hx hb md_F_cutToEven_39 (by decide) (fun c_17 => ?_) (fun c_17 => ?_)
      · refine lv_iconst (v := 0) hx hb md_F_cutToEven_54 (by decide) ?_
        exact J_21 false ls (lv_sub hl [0, 1, 2, 3, 4] rfl)
      · refine lv_lload_n hx hb md_F_cutToEven_42 rfl (lv_at hl 2 rfl) ?_
        refine lv_lconst (v := 1) hx hb md_F_cutToEven_43 (by decide) ?_
        refine lv_land hx hb md_F_cutToEven_44 ?_
        refine lv_lconst (v := 1) hx hb md_F_cutToEven_45 (by decide) ?_
        refine W.lcmp hx hb md_F_cutToEven_46 ?_
        have J_24 : ∀ (z_25 : Bool) (ls : Array Slot), lv_has ls 10 [(7, .long (jl_shl 1 (p1 - 1))), (5, .long (p0 - (jl_shl (jl_ush p0 p1) p1))), (3, .long (jl_ush p0 p1)), (0, .long p0), (2, .int p1)] → WP p l e mw_F_cutToEven ({ frames := 0, cells := 0, slots := 0, locals := 0 } : Room) s m [.long p0, .int p1] below meth c (vp_Sl (fun _ => True)) (F0 m 55 ls [.int (jb z_25)]) := by
          intro z_25 ls hl
          exact J_21 z_25 ls (lv_sub hl [0, 1, 2, 3, 4] rfl)
        refine lv_if_ne (tgt := 54) hx hb md_F_cutToEven_47 (by decide) (fun c_23 => ?_) (fun c_23 => ?_)
        · refine lv_iconst (v := 0) hx hb md_F_cutToEven_54 (by decide) ?_
          exact J_24 false ls (lv_sub hl [0, 1, 2, 3, 4] rfl)
        · refine lv_iconst (v := 1) hx hb md_F_cutToEven_50 (by decide) ?_
          refine lv_goto (tgt := 55) hx hb md_F_cutToEven_51 (by decide) ?_
          exact J_24 true ls (lv_sub hl [0, 1, 2, 3, 4] rfl)
  · refine lv_lconst (v := 0) hx hb md_F_cutToEven_6 (by decide) ?_
    exact W.lret (v := 0) hx hb hr (fun t ht2 _ => ⟨0, rfl, trivial, ht2⟩) (fun q h => by cases h) md_F_cutToEven_7
set_option maxHeartbeats 4000000 in
set_option maxRecDepth 100000 in
theorem mt_F_rounded (l : Launch) (ad : Nat → Nat) (k : Nat) (hk : k < 2) (p0 : Bool) (p1 : Int64) (p2 : Int32) : Met l my_F_rounded mw_F_rounded ({ frames := 2, cells := 0, slots := 0, locals := 43 } : Room) (va_Pc [.ref (ad k), .int (jb p0), .long p1, .int p2] (fun U => FW ad (fun _ => False) U U.heap)) (vp_Sl (fun _ => True)) 0 0 (fun _ => False) := by
  refine Met.ofW (cc := mc_F_rounded) (maxL := 11) (ret := (some .long)) (by decide) rfl ?_
  intro p e s m args below meth c s₁ B hml hv
  obtain ⟨rfl, hE⟩ := hv
  have hx := B.exec
  have hb := B.bytes
  have hr := B.returns
  have hts := atoms_spec (ws := mw_F_rounded) B.pre
  have ht : ∀ w ∈ gw_tbl, w.before _ s = true := fun w h => hts w (List.mem_cons_of_mem _ h)
  have hown : s.vm.findClass "NumberProbe$Format" = some m.cls := findClass_of_methodNamed B.named
  have hlocks := B.notSynchronized
  have hS : va_S (fun _ => False) s.heap s.heap [] := va_S.rf
  have hl := lv_entry ([.ref (ad k), .int (jb p0), .long p1, .int p2]) (n := 11) (Nat.le_of_ble_eq_true rfl)
  rw [lg_entry_eq]
  generalize (lg_sl ([.ref (ad k), .int (jb p0), .long p1, .int p2]) ++ List.replicate (11 - (lg_sl ([.ref (ad k), .int (jb p0), .long p1, .int p2])).length) Slot.unset).toArray = ls at hl ⊢
  have hl : lv_has ls 11 [(0, .ref (ad k)), (1, .int (jb p0)), (2, .long p1), (4, .int p2)] := hl
  refine lv_lload_n hx hb md_F_rounded_0 rfl (lv_at hl 2 rfl) ?_
  refine lv_lconst (v := 0) hx hb md_F_rounded_1 (by decide) ?_
  refine W.lcmp hx hb md_F_rounded_2 ?_
  refine lv_if_ne (tgt := 13) hx hb md_F_rounded_3 (by decide) (fun c_1 => ?_) (fun c_1 => ?_)
  · refine lv_lload_n hx hb md_F_rounded_13 rfl (lv_at hl 2 rfl) ?_
    refine vp_callSi (W.runS (As := [.long p1]) (rest := []) ⟨hx, hb, hml, hown, hts⟩ (mt_JL_numberOfLeadingZeros l p1) (va_cwS 1 hts (gd_S tm_156 tm_157 tm_29 tm_158) rfl rfl rfl (by decide +kernel) ⟨Nat.le_of_ble_eq_true rfl, Nat.le_of_ble_eq_true rfl⟩) ⟨fb_0, fun U hU hW => ⟨rfl, trivial⟩⟩ rfl rfl hl.1 rfl (lv_room (Nat.le_of_ble_eq_true rfl)) md_F_rounded_14 ⟨Nat.zero_le _, Nat.zero_le _⟩) (fun r_2 e_3 => ?_)
    obtain rfl : r_2 = jd_nlz p1 := e_3
    refine lv_iconst (v := 1) hx hb md_F_rounded_17 (by decide) ?_
    refine lv_isub hx hb md_F_rounded_18 ?_
    refine lv_istore (lv' := [(5, .int ((jd_nlz p1) - 1)), (0, .ref (ad k)), (1, .int (jb p0)), (2, .long p1), (4, .int p2)]) hx hb md_F_rounded_19 hl (by decide) rfl (fun ls hl => ?_)
    refine lv_bipush (v := 62) hx hb md_F_rounded_21 (by decide) ?_
    refine lv_aload_n hx hb md_F_rounded_23 rfl (lv_at hl 1 rfl) ?_
    refine va_getX hx hb hE.2.1 hk hS hown (ht _ tm_552) (fun _ h9 => h9) md_F_rounded_24 ?_
    refine lv_isub hx hb md_F_rounded_27 ?_
    refine lv_istore (lv' := [(6, .int (62 - (kf_b k))), (5, .int ((jd_nlz p1) - 1)), (0, .ref (ad k)), (1, .int (jb p0)), (2, .long p1), (4, .int p2)]) hx hb md_F_rounded_28 hl (by decide) rfl (fun ls hl => ?_)
    refine lv_iload hx hb md_F_rounded_30 (lv_at hl 5 rfl) ?_
    refine lv_iload hx hb md_F_rounded_32 (lv_at hl 1 rfl) ?_
    refine lv_isub hx hb md_F_rounded_34 ?_
    refine lv_iload hx hb md_F_rounded_35 (lv_at hl 0 rfl) ?_
    refine lv_iadd hx hb md_F_rounded_37 ?_
    refine lv_istore (lv' := [(7, .int ((p2 - ((jd_nlz p1) - 1)) + (62 - (kf_b k)))), (6, .int (62 - (kf_b k))), (5, .int ((jd_nlz p1) - 1)), (0, .ref (ad k)), (1, .int (jb p0)), (2, .long p1), (4, .int p2)]) hx hb md_F_rounded_38 hl (by decide) rfl (fun ls hl => ?_)
    refine lv_iload hx hb md_F_rounded_40 (lv_at hl 0 rfl) ?_
    refine lv_aload_n hx hb md_F_rounded_42 rfl (lv_at hl 3 rfl) ?_
    refine va_getX hx hb hE.2.2.2.1 hk hS hown (ht _ tm_551) (fun _ h9 => h9) md_F_rounded_43 ?_
    have J_5 : ∀ (z_6 : Int32) (z_7 : Int32) (ls : Array Slot), lv_has ls 11 [(7, .int z_6), (6, .int z_7), (5, .int ((jd_nlz p1) - 1)), (0, .ref (ad k)), (1, .int (jb p0)), (2, .long p1), (4, .int p2)] → WP p l e mw_F_rounded ({ frames := 2, cells := 0, slots := 0, locals := 43 } : Room) s m [.ref (ad k), .int (jb p0), .long p1, .int p2] below meth c (vp_Sl (fun _ => True)) (F0 m 67 ls []) := by
      intro z_6 z_7 ls hl
      refine lv_iload hx hb md_F_rounded_67 (lv_at hl 0 rfl) ?_
      refine lv_aload_n hx hb md_F_rounded_69 rfl (lv_at hl 3 rfl) ?_
      refine va_getX hx hb hE.2.2.2.1 hk hS hown (ht _ tm_551) (fun _ h9 => h9) md_F_rounded_70 ?_
      refine lv_isub hx hb md_F_rounded_73 ?_
      refine lv_istore (lv' := [(8, .int (z_6 - (kf_l k))), (7, .int z_6), (6, .int z_7), (5, .int ((jd_nlz p1) - 1)), (0, .ref (ad k)), (1, .int (jb p0)), (2, .long p1), (4, .int p2)]) hx hb md_F_rounded_74 hl (by decide) rfl (fun ls hl => ?_)
      refine lv_iload hx hb md_F_rounded_76 (lv_at hl 0 rfl) ?_
      refine lv_aload_n hx hb md_F_rounded_78 rfl (lv_at hl 4 rfl) ?_
      refine va_getX hx hb hE.2.2.1 hk hS hown (ht _ tm_553) (fun _ h9 => h9) md_F_rounded_79 ?_
      refine lv_iconst (v := 1) hx hb md_F_rounded_82 (by decide) ?_
      refine lv_isub hx hb md_F_rounded_83 ?_
      refine lv_icmp_lt (tgt := 97) hx hb md_F_rounded_84 (by decide) (fun c_8 => ?_) (fun c_8 => ?_)
      · refine lv_iload hx hb md_F_rounded_97 (lv_at hl 0 rfl) ?_
        refine lv_i2l (v := (z_6 - (kf_l k)).toInt64) hx hb md_F_rounded_99 rfl ?_
        refine lv_aload_n hx hb md_F_rounded_100 rfl (lv_at hl 4 rfl) ?_
        refine va_getX hx hb hE.2.1 hk hS hown (ht _ tm_552) (fun _ h9 => h9) md_F_rounded_101 ?_
        refine lv_lshl (v := jl_shl ((z_6 - (kf_l k)).toInt64) (kf_b k)) hx hb md_F_rounded_104 rfl ?_
        refine lv_lload_n hx hb md_F_rounded_105 rfl (lv_at hl 6 rfl) ?_
        refine lv_iload hx hb md_F_rounded_106 (lv_at hl 3 rfl) ?_
        refine lv_lshl (v := jl_shl p1 ((jd_nlz p1) - 1)) hx hb md_F_rounded_108 rfl ?_
        refine lv_iload hx hb md_F_rounded_109 (lv_at hl 2 rfl) ?_
        refine vp_callSl (W.runS (As := [.long (jl_shl p1 ((jd_nlz p1) - 1)), .int z_7]) (rest := [.long (jl_shl ((z_6 - (kf_l k)).toInt64) (kf_b k))]) ⟨hx, hb, hml, hown, hts⟩ (mt_F_cutToEven l (jl_shl p1 ((jd_nlz p1) - 1)) z_7) (va_cwS 2 hts (gd_S tm_163 tm_164 tm_27 tm_165) rfl rfl rfl (by decide +kernel) ⟨Nat.le_of_ble_eq_true rfl, Nat.le_of_ble_eq_true rfl⟩) ⟨fb_0, fun U hU hW => ⟨rfl, trivial⟩⟩ rfl rfl hl.1 rfl (lv_room (Nat.le_of_ble_eq_true rfl)) md_F_rounded_111 ⟨Nat.zero_le _, Nat.zero_le _⟩) (fun r_9 e_10 => ?_)
        refine lv_ladd hx hb md_F_rounded_114 ?_
        refine lv_lstore (lv' := [(9, .long ((jl_shl ((z_6 - (kf_l k)).toInt64) (kf_b k)) + r_9)), (8, .int (z_6 - (kf_l k))), (7, .int z_6), (6, .int z_7), (5, .int ((jd_nlz p1) - 1)), (0, .ref (ad k)), (1, .int (jb p0)), (2, .long p1), (4, .int p2)]) hx hb md_F_rounded_115 hl (by decide) rfl (fun ls hl => ?_)
        refine lv_aload_n hx hb md_F_rounded_117 rfl (lv_at hl 5 rfl) ?_
        refine lv_iload_n hx hb md_F_rounded_118 rfl (lv_at hl 6 rfl) ?_
        refine lv_lload hx hb md_F_rounded_119 (lv_at hl 0 rfl) ?_
        refine vp_callSl (W.runV (C := "NumberProbe$Format") (As := [.int (jb p0), .long ((jl_shl ((z_6 - (kf_l k)).toInt64) (kf_b k)) + r_9)]) (rest := []) ⟨hx, hb, hml, hown, hts⟩ (mt_F_signed l ad k hk p0 ((jl_shl ((z_6 - (kf_l k)).toInt64) (kf_b k)) + r_9)) (cwV 2 hts (gd_V tm_75 tm_77 tm_0 tm_27 tm_79) rfl rfl rfl (by decide +kernel) ⟨Nat.le_of_ble_eq_true rfl, Nat.le_of_ble_eq_true rfl⟩) ⟨fb_E, fw_recv hE hk hS, fun U hU hW => ⟨rfl, fw_use hE hS hU hW⟩⟩ rfl rfl hl.1 rfl (lv_room (Nat.le_of_ble_eq_true rfl)) md_F_rounded_121 ⟨Nat.zero_le _, Nat.zero_le _⟩) (fun r_11 e_12 => ?_)
        exact W.lret (v := r_11) hx hb hr (fun t ht2 _ => ⟨r_11, rfl, trivial, ht2⟩) (fun q h => by cases h) md_F_rounded_124
      · refine lv_aload_n hx hb md_F_rounded_87 rfl (lv_at hl 4 rfl) ?_
        refine lv_iload_n hx hb md_F_rounded_88 rfl (lv_at hl 5 rfl) ?_
        refine lv_aload_n hx hb md_F_rounded_89 rfl (lv_at hl 4 rfl) ?_
        refine va_getX hx hb hE.2.2.2.2.2.1 hk hS hown (ht _ tm_549) (fun _ h9 => h9) md_F_rounded_90 ?_
        refine vp_callSl (W.runV (C := "NumberProbe$Format") (As := [.int (jb p0), .long (kf_i k)]) (rest := []) ⟨hx, hb, hml, hown, hts⟩ (mt_F_signed l ad k hk p0 (kf_i k)) (cwV 2 hts (gd_V tm_75 tm_77 tm_0 tm_27 tm_79) rfl rfl rfl (by decide +kernel) ⟨Nat.le_of_ble_eq_true rfl, Nat.le_of_ble_eq_true rfl⟩) ⟨fb_E, fw_recv hE hk hS, fun U hU hW => ⟨rfl, fw_use hE hS hU hW⟩⟩ rfl rfl hl.1 rfl (lv_room (Nat.le_of_ble_eq_true rfl)) md_F_rounded_93 ⟨Nat.zero_le _, Nat.zero_le _⟩) (fun r_13 e_14 => ?_)
        exact W.lret (v := r_13) hx hb hr (fun t ht2 _ => ⟨r_13, rfl, trivial, ht2⟩) (fun q h => by cases h) md_F_rounded_96
    refine lv_icmp_ge (tgt := 67) hx hb md_F_rounded_46 (by decide) (fun c_4 => ?_) (fun c_4 => ?_)
    · exact J_5 ((p2 - ((jd_nlz p1) - 1)) + (62 - (kf_b k))) (62 - (kf_b k)) ls (lv_sub hl [0, 1, 2, 3, 4, 5, 6] rfl)
    · refine lv_iload hx hb md_F_rounded_49 (lv_at hl 1 rfl) ?_
      refine lv_aload_n hx hb md_F_rounded_51 rfl (lv_at hl 3 rfl) ?_
      refine va_getX hx hb hE.2.2.2.1 hk hS hown (ht _ tm_551) (fun _ h9 => h9) md_F_rounded_52 ?_
      refine lv_iload hx hb md_F_rounded_55 (lv_at hl 0 rfl) ?_
      refine lv_isub hx hb md_F_rounded_57 ?_
      refine lv_iadd hx hb md_F_rounded_58 ?_
      refine lv_istore (lv' := [(6, .int ((62 - (kf_b k)) + ((kf_l k) - ((p2 - ((jd_nlz p1) - 1)) + (62 - (kf_b k)))))), (7, .int ((p2 - ((jd_nlz p1) - 1)) + (62 - (kf_b k)))), (5, .int ((jd_nlz p1) - 1)), (0, .ref (ad k)), (1, .int (jb p0)), (2, .long p1), (4, .int p2)]) hx hb md_F_rounded_59 hl (by decide) rfl (fun ls hl => ?_)
      refine lv_aload_n hx hb md_F_rounded_61 rfl (lv_at hl 3 rfl) ?_
      refine va_getX hx hb hE.2.2.2.1 hk hS hown (ht _ tm_551) (fun _ h9 => h9) md_F_rounded_62 ?_
      refine lv_istore (lv' := [(7, .int (kf_l k)), (6, .int ((62 - (kf_b k)) + ((kf_l k) - ((p2 - ((jd_nlz p1) - 1)) + (62 - (kf_b k)))))), (5, .int ((jd_nlz p1) - 1)), (0, .ref (ad k)), (1, .int (jb p0)), (2, .long p1), (4, .int p2)]) hx hb md_F_rounded_65 hl (by decide) rfl (fun ls hl => ?_)
      exact J_5 (kf_l k) ((62 - (kf_b k)) + ((kf_l k) - ((p2 - ((jd_nlz p1) - 1)) + (62 - (kf_b k))))) ls (lv_sub hl [0, 1, 2, 3, 4, 5, 6] rfl)
  · refine lv_aload_n hx hb md_F_rounded_6 rfl (lv_at hl 0 rfl) ?_
    refine lv_iload_n hx hb md_F_rounded_7 rfl (lv_at hl 1 rfl) ?_
    refine lv_lconst (v := 0) hx hb md_F_rounded_8 (by decide) ?_
    refine vp_callSl (W.runV (C := "NumberProbe$Format") (As := [.int (jb p0), .long 0]) (rest := []) ⟨hx, hb, hml, hown, hts⟩ (mt_F_signed l ad k hk p0 0) (cwV 2 hts (gd_V tm_75 tm_77 tm_0 tm_27 tm_79) rfl rfl rfl (by decide +kernel) ⟨Nat.le_of_ble_eq_true rfl, Nat.le_of_ble_eq_true rfl⟩) ⟨fb_E, fw_recv hE hk hS, fun U hU hW => ⟨rfl, fw_use hE hS hU hW⟩⟩ rfl rfl hl.1 rfl (lv_room (Nat.le_of_ble_eq_true rfl)) md_F_rounded_9 ⟨Nat.zero_le _, Nat.zero_le _⟩) (fun r_15 e_16 => ?_)
    exact W.lret (v := r_15) hx hb hr (fun t ht2 _ => ⟨r_15, rfl, trivial, ht2⟩) (fun q h => by cases h) md_F_rounded_12
set_option maxHeartbeats 4000000 in
set_option maxRecDepth 100000 in
theorem mt_F_finiteSum (l : Launch) (ad : Nat → Nat) (k : Nat) (hk : k < 2) (p0 : Int64) (p1 : Int64) : Met l my_F_finiteSum mw_F_finiteSum ({ frames := 3, cells := 0, slots := 0, locals := 73 } : Room) (va_Pc [.ref (ad k), .long p0, .long p1] (fun U => FW ad (fun _ => False) U U.heap)) (vp_Sl (fun _ => True)) 0 0 (fun _ => False) := by
  refine Met.ofW (cc := mc_F_finiteSum) (maxL := 14) (ret := (some .long)) (by decide) rfl ?_
  intro p e s m args below meth c s₁ B hml hv
  obtain ⟨rfl, hE⟩ := hv
  have hx := B.exec
  have hb := B.bytes
  have hr := B.returns
  have hts := atoms_spec (ws := mw_F_finiteSum) B.pre
  have ht : ∀ w ∈ gw_tbl, w.before _ s = true := fun w h => hts w (List.mem_cons_of_mem _ h)
  have hown : s.vm.findClass "NumberProbe$Format" = some m.cls := findClass_of_methodNamed B.named
  have hlocks := B.notSynchronized
  have hS : va_S (fun _ => False) s.heap s.heap [] := va_S.rf
  have hl := lv_entry ([.ref (ad k), .long p0, .long p1]) (n := 14) (Nat.le_of_ble_eq_true rfl)
  rw [lg_entry_eq]
  generalize (lg_sl ([.ref (ad k), .long p0, .long p1]) ++ List.replicate (14 - (lg_sl ([.ref (ad k), .long p0, .long p1])).length) Slot.unset).toArray = ls at hl ⊢
  have hl : lv_has ls 14 [(0, .ref (ad k)), (1, .long p0), (3, .long p1)] := hl
  refine lv_aload_n hx hb md_F_finiteSum_0 rfl (lv_at hl 0 rfl) ?_
  refine lv_lload_n hx hb md_F_finiteSum_1 rfl (lv_at hl 1 rfl) ?_
  refine vp_callSi (W.runV (C := "NumberProbe$Format") (As := [.long p0]) (rest := []) ⟨hx, hb, hml, hown, hts⟩ (mt_F_exponentOf l ad k hk p0) (cwV 1 hts (gd_V tm_131 tm_133 tm_3 tm_27 tm_134) rfl rfl rfl (by decide +kernel) ⟨Nat.le_of_ble_eq_true rfl, Nat.le_of_ble_eq_true rfl⟩) ⟨fb_E, fw_recv hE hk hS, fun U hU hW => ⟨rfl, fw_use hE hS hU hW⟩⟩ rfl rfl hl.1 rfl (lv_room (Nat.le_of_ble_eq_true rfl)) md_F_finiteSum_2 ⟨Nat.zero_le _, Nat.zero_le _⟩) (fun r_1 e_2 => ?_)
  obtain rfl : r_1 = cf_exp k p0 := e_2
  refine lv_istore (lv' := [(5, .int (cf_exp k p0)), (0, .ref (ad k)), (1, .long p0), (3, .long p1)]) hx hb md_F_finiteSum_5 hl (by decide) rfl (fun ls hl => ?_)
  refine lv_aload_n hx hb md_F_finiteSum_7 rfl (lv_at hl 1 rfl) ?_
  refine lv_lload_n hx hb md_F_finiteSum_8 rfl (lv_at hl 2 rfl) ?_
  refine vp_callSl (W.runV (C := "NumberProbe$Format") (As := [.long p0]) (rest := []) ⟨hx, hb, hml, hown, hts⟩ (mt_F_significandOf l ad k hk p0) (cwV 1 hts (gd_V tm_142 tm_144 tm_5 tm_27 tm_145) rfl rfl rfl (by decide +kernel) ⟨Nat.le_of_ble_eq_true rfl, Nat.le_of_ble_eq_true rfl⟩) ⟨fb_E, fw_recv hE hk hS, fun U hU hW => ⟨rfl, fw_use hE hS hU hW⟩⟩ rfl rfl hl.1 rfl (lv_room (Nat.le_of_ble_eq_true rfl)) md_F_finiteSum_9 ⟨Nat.zero_le _, Nat.zero_le _⟩) (fun r_3 e_4 => ?_)
  obtain rfl : r_3 = cf_sig k p0 := e_4
  refine lv_bipush (v := 9) hx hb md_F_finiteSum_12 (by decide) ?_
  refine lv_lshl (v := jl_shl (cf_sig k p0) 9) hx hb md_F_finiteSum_14 rfl ?_
  refine lv_lstore (lv' := [(6, .long (jl_shl (cf_sig k p0) 9)), (5, .int (cf_exp k p0)), (0, .ref (ad k)), (1, .long p0), (3, .long p1)]) hx hb md_F_finiteSum_15 hl (by decide) rfl (fun ls hl => ?_)
  refine lv_aload_n hx hb md_F_finiteSum_17 rfl (lv_at hl 2 rfl) ?_
  refine lv_lload_n hx hb md_F_finiteSum_18 rfl (lv_at hl 4 rfl) ?_
  refine vp_callSl (W.runV (C := "NumberProbe$Format") (As := [.long p1]) (rest := []) ⟨hx, hb, hml, hown, hts⟩ (mt_F_significandOf l ad k hk p1) (cwV 1 hts (gd_V tm_142 tm_144 tm_5 tm_27 tm_145) rfl rfl rfl (by decide +kernel) ⟨Nat.le_of_ble_eq_true rfl, Nat.le_of_ble_eq_true rfl⟩) ⟨fb_E, fw_recv hE hk hS, fun U hU hW => ⟨rfl, fw_use hE hS hU hW⟩⟩ rfl rfl hl.1 rfl (lv_room (Nat.le_of_ble_eq_true rfl)) md_F_finiteSum_19 ⟨Nat.zero_le _, Nat.zero_le _⟩) (fun r_5 e_6 => ?_)
  obtain rfl : r_5 = cf_sig k p1 := e_6
  refine lv_bipush (v := 9) hx hb md_F_finiteSum_22 (by decide) ?_
  refine lv_lshl (v := jl_shl (cf_sig k p1) 9) hx hb md_F_finiteSum_24 rfl ?_
  refine lv_iload hx hb md_F_finiteSum_25 (lv_at hl 1 rfl) ?_
  refine lv_aload_n hx hb md_F_finiteSum_27 rfl (lv_at hl 2 rfl) ?_
  refine lv_lload_n hx hb md_F_finiteSum_28 rfl (lv_at hl 4 rfl) ?_
  refine vp_callSi (W.runV (C := "NumberProbe$Format") (As := [.long p1]) (rest := [.int (cf_exp k p0), .long (jl_shl (cf_sig k p1) 9)]) ⟨hx, hb, hml, hown, hts⟩ (mt_F_exponentOf l ad k hk p1) (cwV 1 hts (gd_V tm_131 tm_133 tm_3 tm_27 tm_134) rfl rfl rfl (by decide +kernel) ⟨Nat.le_of_ble_eq_true rfl, Nat.le_of_ble_eq_true rfl⟩) ⟨fb_E, fw_recv hE hk hS, fun U hU hW => ⟨rfl, fw_use hE hS hU hW⟩⟩ rfl rfl hl.1 rfl (lv_room (Nat.le_of_ble_eq_true rfl)) md_F_finiteSum_29 ⟨Nat.zero_le _, Nat.zero_le _⟩) (fun r_7 e_8 => ?_)
  obtain rfl : r_7 = cf_exp k p1 := e_8
  refine lv_isub hx hb md_F_finiteSum_32 ?_
  refine vp_callSl (W.runS (As := [.long (jl_shl (cf_sig k p1) 9), .int ((cf_exp k p0) - (cf_exp k p1))]) (rest := []) ⟨hx, hb, hml, hown, hts⟩ (mt_F_shiftedRight l (jl_shl (cf_sig k p1) 9) ((cf_exp k p0) - (cf_exp k p1))) (va_cwS 2 hts (gd_S tm_146 tm_147 tm_27 tm_148) rfl rfl rfl (by decide +kernel) ⟨Nat.le_of_ble_eq_true rfl, Nat.le_of_ble_eq_true rfl⟩) ⟨fb_0, fun U hU hW => ⟨rfl, trivial⟩⟩ rfl rfl hl.1 rfl (lv_room (Nat.le_of_ble_eq_true rfl)) md_F_finiteSum_33 ⟨Nat.zero_le _, Nat.zero_le _⟩) (fun r_9 e_10 => ?_)
  refine lv_lstore (lv' := [(8, .long r_9), (6, .long (jl_shl (cf_sig k p0) 9)), (5, .int (cf_exp k p0)), (0, .ref (ad k)), (1, .long p0), (3, .long p1)]) hx hb md_F_finiteSum_36 hl (by decide) rfl (fun ls hl => ?_)
  refine lv_lload_n hx hb md_F_finiteSum_38 rfl (lv_at hl 4 rfl) ?_
  refine lv_lconst (v := 0) hx hb md_F_finiteSum_39 (by decide) ?_
  refine W.lcmp hx hb md_F_finiteSum_40 ?_
  have J_12 : ∀ (z_13 : Bool) (ls : Array Slot), lv_has ls 14 [(8, .long r_9), (6, .long (jl_shl (cf_sig k p0) 9)), (5, .int (cf_exp k p0)), (0, .ref (ad k)), (1, .long p0), (3, .long p1)] → WP p l e mw_F_finiteSum ({ frames := 3, cells := 0, slots := 0, locals := 73 } : Room) s m [.ref (ad k), .long p0, .long p1] below meth c (vp_Sl (fun _ => True)) (F0 m 49 ls [.int (jb z_13)]) := by
    intro z_13 ls hl
    refine lv_lload_n hx hb md_F_finiteSum_49 rfl (lv_at hl 5 rfl) ?_
    refine lv_lconst (v := 0) hx hb md_F_finiteSum_50 (by decide) ?_
    refine W.lcmp hx hb md_F_finiteSum_51 ?_
    have J_15 : ∀ (z_16 : Bool) (ls : Array Slot), lv_has ls 14 [(8, .long r_9), (6, .long (jl_shl (cf_sig k p0) 9)), (5, .int (cf_exp k p0)), (0, .ref (ad k)), (1, .long p0), (3, .long p1)] → WP p l e mw_F_finiteSum ({ frames := 3, cells := 0, slots := 0, locals := 73 } : Room) s m [.ref (ad k), .long p0, .long p1] below meth c (vp_Sl (fun _ => True)) (F0 m 60 ls [.int (jb z_16), .int (jb z_13)]) := by
      intro z_16 ls hl
      have J_18 : ∀ (z_19 : Bool) (ls : Array Slot), lv_has ls 14 [(8, .long r_9), (6, .long (jl_shl (cf_sig k p0) 9)), (5, .int (cf_exp k p0)), (0, .ref (ad k)), (1, .long p0), (3, .long p1)] → WP p l e mw_F_finiteSum ({ frames := 3, cells := 0, slots := 0, locals := 73 } : Room) s m [.ref (ad k), .long p0, .long p1] below meth c (vp_Sl (fun _ => True)) (F0 m 68 ls [.int (jb z_19)]) := by
        intro z_19 ls hl
        refine lv_istore (lv' := [(10, .int (jb z_19)), (8, .long r_9), (6, .long (jl_shl (cf_sig k p0) 9)), (5, .int (cf_exp k p0)), (0, .ref (ad k)), (1, .long p0), (3, .long p1)]) hx hb md_F_finiteSum_68 hl (by decide) rfl (fun ls hl => ?_)
        refine lv_iload hx hb md_F_finiteSum_70 (lv_at hl 0 rfl) ?_
        have J_21 : ∀ (z_22 : Int64) (ls : Array Slot), lv_has ls 14 [(10, .int (jb z_19)), (8, .long r_9), (6, .long (jl_shl (cf_sig k p0) 9)), (5, .int (cf_exp k p0)), (0, .ref (ad k)), (1, .long p0), (3, .long p1)] → WP p l e mw_F_finiteSum ({ frames := 3, cells := 0, slots := 0, locals := 73 } : Room) s m [.ref (ad k), .long p0, .long p1] below meth c (vp_Sl (fun _ => True)) (F0 m 88 ls [.long z_22]) := by
          intro z_22 ls hl
          refine lv_lstore (lv' := [(11, .long z_22), (10, .int (jb z_19)), (8, .long r_9), (6, .long (jl_shl (cf_sig k p0) 9)), (5, .int (cf_exp k p0)), (0, .ref (ad k)), (1, .long p0), (3, .long p1)]) hx hb md_F_finiteSum_88 hl (by decide) rfl (fun ls hl => ?_)
          refine lv_lload_n hx hb md_F_finiteSum_90 rfl (lv_at hl 6 rfl) ?_
          refine lv_lconst (v := 0) hx hb md_F_finiteSum_91 (by decide) ?_
          refine W.lcmp hx hb md_F_finiteSum_92 ?_
          have J_33 : ∀ (z_34 : Bool) (ls : Array Slot), lv_has ls 14 [(11, .long z_22), (10, .int (jb z_19)), (8, .long r_9), (6, .long (jl_shl (cf_sig k p0) 9)), (5, .int (cf_exp k p0)), (0, .ref (ad k)), (1, .long p0), (3, .long p1)] → WP p l e mw_F_finiteSum ({ frames := 3, cells := 0, slots := 0, locals := 73 } : Room) s m [.ref (ad k), .long p0, .long p1] below meth c (vp_Sl (fun _ => True)) (F0 m 113 ls [.int (jb z_34)]) := by
            intro z_34 ls hl
            refine lv_istore (lv' := [(13, .int (jb z_34)), (11, .long z_22), (10, .int (jb z_19)), (8, .long r_9), (6, .long (jl_shl (cf_sig k p0) 9)), (5, .int (cf_exp k p0)), (0, .ref (ad k)), (1, .long p0), (3, .long p1)]) hx hb md_F_finiteSum_113 hl (by decide) rfl (fun ls hl => ?_)
            refine lv_aload_n hx hb md_F_finiteSum_115 rfl (lv_at hl 6 rfl) ?_
            refine lv_iload hx hb md_F_finiteSum_116 (lv_at hl 0 rfl) ?_
            refine lv_lload hx hb md_F_finiteSum_118 (lv_at hl 1 rfl) ?_
            refine lv_iload hx hb md_F_finiteSum_120 (lv_at hl 5 rfl) ?_
            refine lv_bipush (v := 9) hx hb md_F_finiteSum_122 (by decide) ?_
            refine lv_isub hx hb md_F_finiteSum_124 ?_
            refine vp_callSl (W.runV (C := "NumberProbe$Format") (As := [.int (jb z_34), .long z_22, .int ((cf_exp k p0) - 9)]) (rest := []) ⟨hx, hb, hml, hown, hts⟩ (mt_F_rounded l ad k hk z_34 z_22 ((cf_exp k p0) - 9)) (cwV 3 hts (gd_V tm_152 tm_154 tm_6 tm_27 tm_155) rfl rfl rfl (by decide +kernel) ⟨Nat.le_of_ble_eq_true rfl, Nat.le_of_ble_eq_true rfl⟩) ⟨fb_E, fw_recv hE hk hS, fun U hU hW => ⟨rfl, fw_use hE hS hU hW⟩⟩ rfl rfl hl.1 rfl (lv_room (Nat.le_of_ble_eq_true rfl)) md_F_finiteSum_125 ⟨Nat.zero_le _, Nat.zero_le _⟩) (fun r_35 e_36 => ?_)
            exact W.lret (v := r_35) hx hb hr (fun t ht2 _ => ⟨r_35, rfl, trivial, ht2⟩) (fun q h => by cases h) md_F_finiteSum_128
          refine lv_if_ge (tgt := 112) hx hb md_F_finiteSum_93 (by decide) (fun c_23 => ?_) (fun c_23 => ?_)
          · refine lv_iconst (v := 0) hx hb md_F_finiteSum_112 (by decide) ?_
            exact J_33 false ls (lv_sub hl [0, 1, 2, 3, 4, 5, 6, 7] rfl)
          · refine lv_iload hx hb md_F_finiteSum_96 (lv_at hl 1 rfl) ?_
            have J_41 : ∀ (z_42 : Bool) (ls : Array Slot), lv_has ls 14 [(11, .long z_22), (10, .int (jb z_19)), (8, .long r_9), (6, .long (jl_shl (cf_sig k p0) 9)), (5, .int (cf_exp k p0)), (0, .ref (ad k)), (1, .long p0), (3, .long p1)] → WP p l e mw_F_finiteSum ({ frames := 3, cells := 0, slots := 0, locals := 73 } : Room) s m [.ref (ad k), .long p0, .long p1] below meth c (vp_Sl (fun _ => True)) (F0 m 113 ls [.int (jb z_42)]) := by
              intro z_42 ls hl
              exact J_33 z_42 ls (lv_sub hl [0, 1, 2, 3, 4, 5, 6, 7] rfl)
            refine lv_if_ne (tgt := 108) hx hb md_F_finiteSum_98 (by decide) (fun c_37 => ?_) (fun c_37 => ?_)
            · refine lv_iconst (v := 1) hx hb md_F_finiteSum_108 (by decide) ?_
              refine lv_goto (tgt := 113) hx hb md_F_finiteSum_109 (by decide) ?_
              exact J_41 true ls (lv_sub hl [0, 1, 2, 3, 4, 5, 6, 7] rfl)
            · refine lv_lload hx hb md_F_finiteSum_101 (lv_at hl 0 rfl) ?_
              refine lv_lconst (v := 0) hx hb md_F_finiteSum_103 (by decide) ?_
              refine W.lcmp hx hb md_F_finiteSum_104 ?_
              have J_44 : ∀ (z_45 : Bool) (ls : Array Slot), lv_has ls 14 [(11, .long z_22), (10, .int (jb z_19)), (8, .long r_9), (6, .long (jl_shl (cf_sig k p0) 9)), (5, .int (cf_exp k p0)), (0, .ref (ad k)), (1, .long p0), (3, .long p1)] → WP p l e mw_F_finiteSum ({ frames := 3, cells := 0, slots := 0, locals := 73 } : Room) s m [.ref (ad k), .long p0, .long p1] below meth c (vp_Sl (fun _ => True)) (F0 m 113 ls [.int (jb z_45)]) := by
                intro z_45 ls hl
                exact J_41 z_45 ls (lv_sub hl [0, 1, 2, 3, 4, 5, 6, 7] rfl)
              refine lv_if_eq (tgt := 112) hx hb md_F_finiteSum_105 (by decide) (fun c_43 => ?_) (fun c_43 => ?_)
              · refine lv_iconst (v := 0) hx hb md_F_finiteSum_112 (by decide) ?_
                exact J_44 false ls (lv_sub hl [0, 1, 2, 3, 4, 5, 6, 7] rfl)
              · refine lv_iconst (v := 1) hx hb md_F_finiteSum_108 (by decide) ?_
                refine lv_goto (tgt := 113) hx hb md_F_finiteSum_109 (by decide) ?_
                exact J_44 true ls (lv_sub hl [0, 1, 2, 3, 4, 5, 6, 7] rfl)
        refine lv_if_eq (tgt := 83) hx hb md_F_finiteSum_72 (by decide) (fun c_20 => ?_) (fun c_20 => ?_)
        · refine lv_lload hx hb md_F_finiteSum_83 (lv_at hl 2 rfl) ?_
          refine lv_lload hx hb md_F_finiteSum_85 (lv_at hl 1 rfl) ?_
          refine lv_lsub hx hb md_F_finiteSum_87 ?_
          exact J_21 ((jl_shl (cf_sig k p0) 9) - r_9) ls (lv_sub hl [0, 1, 2, 3, 4, 5, 6] rfl)
        · refine lv_lload hx hb md_F_finiteSum_75 (lv_at hl 2 rfl) ?_
          refine lv_lload hx hb md_F_finiteSum_77 (lv_at hl 1 rfl) ?_
          refine lv_ladd hx hb md_F_finiteSum_79 ?_
          refine lv_goto (tgt := 88) hx hb md_F_finiteSum_80 (by decide) ?_
          exact J_21 ((jl_shl (cf_sig k p0) 9) + r_9) ls (lv_sub hl [0, 1, 2, 3, 4, 5, 6] rfl)
      refine lv_icmp_ne (tgt := 67) hx hb md_F_finiteSum_60 (by decide) (fun c_17 => ?_) (fun c_17 => ?_)
      · refine lv_iconst (v := 0) hx hb md_F_finiteSum_67 (by decide) ?_
        exact J_18 false ls (lv_sub hl [0, 1, 2, 3, 4, 5] rfl)
      · refine lv_iconst (v := 1) hx hb md_F_finiteSum_63 (by decide) ?_
        refine lv_goto (tgt := 68) hx hb md_F_finiteSum_64 (by decide) ?_
        exact J_18 true ls (lv_sub hl [0, 1, 2, 3, 4, 5] rfl)
    refine lv_if_ge (tgt := 59) hx hb md_F_finiteSum_52 (by decide) (fun c_14 => ?_) (fun c_14 => ?_)
    · refine lv_iconst (v := 0) hx hb md_F_finiteSum_59 (by decide) ?_
      exact J_15 false ls (lv_sub hl [0, 1, 2, 3, 4, 5] rfl)
    · refine lv_iconst (v := 1) hx hb md_F_finiteSum_55 (by decide) ?_
      refine lv_goto (tgt := 60) hx hb md_F_finiteSum_56 (by decide) ?_
      exact J_15 true ls (lv_sub hl [0, 1, 2, 3, 4, 5] rfl)
  refine lv_if_ge (tgt := 48) hx hb md_F_finiteSum_41 (by decide) (fun c_11 => ?_) (fun c_11 => ?_)
  · refine lv_iconst (v := 0) hx hb md_F_finiteSum_48 (by decide) ?_
    exact J_12 false ls (lv_sub hl [0, 1, 2, 3, 4, 5] rfl)
  · refine lv_iconst (v := 1) hx hb md_F_finiteSum_44 (by decide) ?_
    refine lv_goto (tgt := 49) hx hb md_F_finiteSum_45 (by decide) ?_
    exact J_12 true ls (lv_sub hl [0, 1, 2, 3, 4, 5] rfl)
set_option maxHeartbeats 4000000 in
set_option maxRecDepth 100000 in
theorem mt_F_sum (l : Launch) (ad : Nat → Nat) (k : Nat) (hk : k < 2) (p0 : Int64) (p1 : Int64) : Met l my_F_sum mw_F_sum ({ frames := 4, cells := 0, slots := 0, locals := 106 } : Room) (va_Pc [.ref (ad k), .long p0, .long p1] (fun U => FW ad (fun _ => False) U U.heap)) (vp_Sl (fun _ => True)) 0 0 (fun _ => False) := by
  refine Met.ofW (cc := mc_F_sum) (maxL := 5) (ret := (some .long)) (by decide) rfl ?_
  intro p e s m args below meth c s₁ B hml hv
  obtain ⟨rfl, hE⟩ := hv
  have hx := B.exec
  have hb := B.bytes
  have hr := B.returns
  have hts := atoms_spec (ws := mw_F_sum) B.pre
  have ht : ∀ w ∈ gw_tbl, w.before _ s = true := fun w h => hts w (List.mem_cons_of_mem _ h)
  have hown : s.vm.findClass "NumberProbe$Format" = some m.cls := findClass_of_methodNamed B.named
  have hlocks := B.notSynchronized
  have hS : va_S (fun _ => False) s.heap s.heap [] := va_S.rf
  have hl := lv_entry ([.ref (ad k), .long p0, .long p1]) (n := 5) (Nat.le_of_ble_eq_true rfl)
  rw [lg_entry_eq]
  generalize (lg_sl ([.ref (ad k), .long p0, .long p1]) ++ List.replicate (5 - (lg_sl ([.ref (ad k), .long p0, .long p1])).length) Slot.unset).toArray = ls at hl ⊢
  have hl : lv_has ls 5 [(0, .ref (ad k)), (1, .long p0), (3, .long p1)] := hl
  refine lv_aload_n hx hb md_F_sum_0 rfl (lv_at hl 0 rfl) ?_
  refine lv_lload_n hx hb md_F_sum_1 rfl (lv_at hl 1 rfl) ?_
  refine vp_callSi (W.runV (C := "NumberProbe$Format") (As := [.long p0]) (rest := []) ⟨hx, hb, hml, hown, hts⟩ (mt_F_isNaN l ad k hk p0) (cwV 1 hts (gd_V tm_67 tm_68 tm_69 tm_27 tm_70) rfl rfl rfl (by decide +kernel) ⟨Nat.le_of_ble_eq_true rfl, Nat.le_of_ble_eq_true rfl⟩) ⟨fb_E, fw_recv hE hk hS, fun U hU hW => ⟨rfl, fw_use hE hS hU hW⟩⟩ rfl rfl hl.1 rfl (lv_room (Nat.le_of_ble_eq_true rfl)) md_F_sum_2 ⟨Nat.zero_le _, Nat.zero_le _⟩) (fun r_1 e_2 => ?_)
  obtain rfl : r_1 = jb (cf_nan k p0) := e_2
  refine lv_if_ne (tgt := 16) hx hb md_F_sum_5 (by decide) (fun c_3 => ?_) (fun c_3 => ?_)
  · refine lv_aload_n hx hb md_F_sum_16 rfl (lv_at hl 0 rfl) ?_
    refine va_getX hx hb hE.2.2.2.2.2.2.1 hk hS hown (ht _ tm_550) (fun _ h9 => h9) md_F_sum_17 ?_
    exact W.lret (v := kf_n k) hx hb hr (fun t ht2 _ => ⟨(kf_n k), rfl, trivial, ht2⟩) (fun q h => by cases h) md_F_sum_20
  · refine lv_aload_n hx hb md_F_sum_8 rfl (lv_at hl 0 rfl) ?_
    refine lv_lload_n hx hb md_F_sum_9 rfl (lv_at hl 2 rfl) ?_
    refine vp_callSi (W.runV (C := "NumberProbe$Format") (As := [.long p1]) (rest := []) ⟨hx, hb, hml, hown, hts⟩ (mt_F_isNaN l ad k hk p1) (cwV 1 hts (gd_V tm_67 tm_68 tm_69 tm_27 tm_70) rfl rfl rfl (by decide +kernel) ⟨Nat.le_of_ble_eq_true rfl, Nat.le_of_ble_eq_true rfl⟩) ⟨fb_E, fw_recv hE hk hS, fun U hU hW => ⟨rfl, fw_use hE hS hU hW⟩⟩ rfl rfl hl.1 rfl (lv_room (Nat.le_of_ble_eq_true rfl)) md_F_sum_10 ⟨Nat.zero_le _, Nat.zero_le _⟩) (fun r_4 e_5 => ?_)
    obtain rfl : r_4 = jb (cf_nan k p1) := e_5
    refine lv_if_eq (tgt := 21) hx hb md_F_sum_13 (by decide) (fun c_6 => ?_) (fun c_6 => ?_)
    · refine lv_aload_n hx hb md_F_sum_21 rfl (lv_at hl 0 rfl) ?_
      refine lv_lload_n hx hb md_F_sum_22 rfl (lv_at hl 1 rfl) ?_
      refine vp_callSi (W.runV (C := "NumberProbe$Format") (As := [.long p0]) (rest := []) ⟨hx, hb, hml, hown, hts⟩ (mt_F_isInfinite l ad k hk p0) (cwV 1 hts (gd_V tm_123 tm_125 tm_1 tm_27 tm_126) rfl rfl rfl (by decide +kernel) ⟨Nat.le_of_ble_eq_true rfl, Nat.le_of_ble_eq_true rfl⟩) ⟨fb_E, fw_recv hE hk hS, fun U hU hW => ⟨rfl, fw_use hE hS hU hW⟩⟩ rfl rfl hl.1 rfl (lv_room (Nat.le_of_ble_eq_true rfl)) md_F_sum_23 ⟨Nat.zero_le _, Nat.zero_le _⟩) (fun r_7 e_8 => ?_)
      obtain rfl : r_7 = jb (cf_inf k p0) := e_8
      refine lv_if_eq (tgt := 52) hx hb md_F_sum_26 (by decide) (fun c_9 => ?_) (fun c_9 => ?_)
      · refine lv_aload_n hx hb md_F_sum_52 rfl (lv_at hl 0 rfl) ?_
        refine lv_lload_n hx hb md_F_sum_53 rfl (lv_at hl 2 rfl) ?_
        refine vp_callSi (W.runV (C := "NumberProbe$Format") (As := [.long p1]) (rest := []) ⟨hx, hb, hml, hown, hts⟩ (mt_F_isInfinite l ad k hk p1) (cwV 1 hts (gd_V tm_123 tm_125 tm_1 tm_27 tm_126) rfl rfl rfl (by decide +kernel) ⟨Nat.le_of_ble_eq_true rfl, Nat.le_of_ble_eq_true rfl⟩) ⟨fb_E, fw_recv hE hk hS, fun U hU hW => ⟨rfl, fw_use hE hS hU hW⟩⟩ rfl rfl hl.1 rfl (lv_room (Nat.le_of_ble_eq_true rfl)) md_F_sum_54 ⟨Nat.zero_le _, Nat.zero_le _⟩) (fun r_10 e_11 => ?_)
        obtain rfl : r_10 = jb (cf_inf k p1) := e_11
        refine lv_if_eq (tgt := 62) hx hb md_F_sum_57 (by decide) (fun c_12 => ?_) (fun c_12 => ?_)
        · refine lv_aload_n hx hb md_F_sum_62 rfl (lv_at hl 0 rfl) ?_
          refine lv_lload_n hx hb md_F_sum_63 rfl (lv_at hl 1 rfl) ?_
          refine vp_callSl (W.runV (C := "NumberProbe$Format") (As := [.long p0]) (rest := []) ⟨hx, hb, hml, hown, hts⟩ (mt_F_magnitude l ad k hk p0) (cwV 1 hts (gd_V tm_71 tm_72 tm_73 tm_27 tm_74) rfl rfl rfl (by decide +kernel) ⟨Nat.le_of_ble_eq_true rfl, Nat.le_of_ble_eq_true rfl⟩) ⟨fb_E, fw_recv hE hk hS, fun U hU hW => ⟨rfl, fw_use hE hS hU hW⟩⟩ rfl rfl hl.1 rfl (lv_room (Nat.le_of_ble_eq_true rfl)) md_F_sum_64 ⟨Nat.zero_le _, Nat.zero_le _⟩) (fun r_13 e_14 => ?_)
          obtain rfl : r_13 = cf_mag k p0 := e_14
          refine lv_aload_n hx hb md_F_sum_67 rfl (lv_at hl 0 rfl) ?_
          refine lv_lload_n hx hb md_F_sum_68 rfl (lv_at hl 2 rfl) ?_
          refine vp_callSl (W.runV (C := "NumberProbe$Format") (As := [.long p1]) (rest := [.long (cf_mag k p0)]) ⟨hx, hb, hml, hown, hts⟩ (mt_F_magnitude l ad k hk p1) (cwV 1 hts (gd_V tm_71 tm_72 tm_73 tm_27 tm_74) rfl rfl rfl (by decide +kernel) ⟨Nat.le_of_ble_eq_true rfl, Nat.le_of_ble_eq_true rfl⟩) ⟨fb_E, fw_recv hE hk hS, fun U hU hW => ⟨rfl, fw_use hE hS hU hW⟩⟩ rfl rfl hl.1 rfl (lv_room (Nat.le_of_ble_eq_true rfl)) md_F_sum_69 ⟨Nat.zero_le _, Nat.zero_le _⟩) (fun r_15 e_16 => ?_)
          obtain rfl : r_15 = cf_mag k p1 := e_16
          refine W.lcmp hx hb md_F_sum_72 ?_
          have J_22 : ∀ (z_23 : Int64) (ls : Array Slot), lv_has ls 5 [(0, .ref (ad k)), (1, .long p0), (3, .long p1)] → WP p l e mw_F_sum ({ frames := 4, cells := 0, slots := 0, locals := 106 } : Room) s m [.ref (ad k), .long p0, .long p1] below meth c (vp_Sl (fun _ => True)) (F0 m 91 ls [.long z_23]) := by
            intro z_23 ls hl
            exact W.lret (v := z_23) hx hb hr (fun t ht2 _ => ⟨z_23, rfl, trivial, ht2⟩) (fun q h => by cases h) md_F_sum_91
          refine lv_if_lt (tgt := 85) hx hb md_F_sum_73 (by decide) (fun c_17 => ?_) (fun c_17 => ?_)
          · refine lv_aload_n hx hb md_F_sum_85 rfl (lv_at hl 0 rfl) ?_
            refine lv_lload_n hx hb md_F_sum_86 rfl (lv_at hl 2 rfl) ?_
            refine lv_lload_n hx hb md_F_sum_87 rfl (lv_at hl 1 rfl) ?_
            refine vp_callSl (W.runV (C := "NumberProbe$Format") (As := [.long p1, .long p0]) (rest := []) ⟨hx, hb, hml, hown, hts⟩ (mt_F_finiteSum l ad k hk p1 p0) (cwV 2 hts (gd_V tm_127 tm_129 tm_2 tm_27 tm_130) rfl rfl rfl (by decide +kernel) ⟨Nat.le_of_ble_eq_true rfl, Nat.le_of_ble_eq_true rfl⟩) ⟨fb_E, fw_recv hE hk hS, fun U hU hW => ⟨rfl, fw_use hE hS hU hW⟩⟩ rfl rfl hl.1 rfl (lv_room (Nat.le_of_ble_eq_true rfl)) md_F_sum_88 ⟨Nat.zero_le _, Nat.zero_le _⟩) (fun r_24 e_25 => ?_)
            exact J_22 r_24 ls (lv_sub hl [0, 1, 2] rfl)
          · refine lv_aload_n hx hb md_F_sum_76 rfl (lv_at hl 0 rfl) ?_
            refine lv_lload_n hx hb md_F_sum_77 rfl (lv_at hl 1 rfl) ?_
            refine lv_lload_n hx hb md_F_sum_78 rfl (lv_at hl 2 rfl) ?_
            refine vp_callSl (W.runV (C := "NumberProbe$Format") (As := [.long p0, .long p1]) (rest := []) ⟨hx, hb, hml, hown, hts⟩ (mt_F_finiteSum l ad k hk p0 p1) (cwV 2 hts (gd_V tm_127 tm_129 tm_2 tm_27 tm_130) rfl rfl rfl (by decide +kernel) ⟨Nat.le_of_ble_eq_true rfl, Nat.le_of_ble_eq_true rfl⟩) ⟨fb_E, fw_recv hE hk hS, fun U hU hW => ⟨rfl, fw_use hE hS hU hW⟩⟩ rfl rfl hl.1 rfl (lv_room (Nat.le_of_ble_eq_true rfl)) md_F_sum_79 ⟨Nat.zero_le _, Nat.zero_le _⟩) (fun r_26 e_27 => ?_)
            refine lv_goto (tgt := 91) hx hb md_F_sum_82 (by decide) ?_
            exact J_22 r_26 ls (lv_sub hl [0, 1, 2] rfl)
        · refine lv_lload_n hx hb md_F_sum_60 rfl (lv_at hl 2 rfl) ?_
          exact W.lret (v := p1) hx hb hr (fun t ht2 _ => ⟨p1, rfl, trivial, ht2⟩) (fun q h => by cases h) md_F_sum_61
      · refine lv_aload_n hx hb md_F_sum_29 rfl (lv_at hl 0 rfl) ?_
        refine lv_lload_n hx hb md_F_sum_30 rfl (lv_at hl 2 rfl) ?_
        refine vp_callSi (W.runV (C := "NumberProbe$Format") (As := [.long p1]) (rest := []) ⟨hx, hb, hml, hown, hts⟩ (mt_F_isInfinite l ad k hk p1) (cwV 1 hts (gd_V tm_123 tm_125 tm_1 tm_27 tm_126) rfl rfl rfl (by decide +kernel) ⟨Nat.le_of_ble_eq_true rfl, Nat.le_of_ble_eq_true rfl⟩) ⟨fb_E, fw_recv hE hk hS, fun U hU hW => ⟨rfl, fw_use hE hS hU hW⟩⟩ rfl rfl hl.1 rfl (lv_room (Nat.le_of_ble_eq_true rfl)) md_F_sum_31 ⟨Nat.zero_le _, Nat.zero_le _⟩) (fun r_28 e_29 => ?_)
        obtain rfl : r_28 = jb (cf_inf k p1) := e_29
        have J_34 : ∀ (z_35 : Int64) (ls : Array Slot), lv_has ls 5 [(0, .ref (ad k)), (1, .long p0), (3, .long p1)] → WP p l e mw_F_sum ({ frames := 4, cells := 0, slots := 0, locals := 106 } : Room) s m [.ref (ad k), .long p0, .long p1] below meth c (vp_Sl (fun _ => True)) (F0 m 51 ls [.long z_35]) := by
          intro z_35 ls hl
          exact W.lret (v := z_35) hx hb hr (fun t ht2 _ => ⟨z_35, rfl, trivial, ht2⟩) (fun q h => by cases h) md_F_sum_51
        refine lv_if_eq (tgt := 50) hx hb md_F_sum_34 (by decide) (fun c_30 => ?_) (fun c_30 => ?_)
        · refine lv_lload_n hx hb md_F_sum_50 rfl (lv_at hl 1 rfl) ?_
          exact J_34 p0 ls (lv_sub hl [0, 1, 2] rfl)
        · refine lv_lload_n hx hb md_F_sum_37 rfl (lv_at hl 1 rfl) ?_
          refine lv_lload_n hx hb md_F_sum_38 rfl (lv_at hl 2 rfl) ?_
          refine W.lcmp hx hb md_F_sum_39 ?_
          have J_37 : ∀ (z_38 : Int64) (ls : Array Slot), lv_has ls 5 [(0, .ref (ad k)), (1, .long p0), (3, .long p1)] → WP p l e mw_F_sum ({ frames := 4, cells := 0, slots := 0, locals := 106 } : Room) s m [.ref (ad k), .long p0, .long p1] below meth c (vp_Sl (fun _ => True)) (F0 m 51 ls [.long z_38]) := by
            intro z_38 ls hl
            exact J_34 z_38 ls (lv_sub hl [0, 1, 2] rfl)
          refine lv_if_eq (tgt := 50) hx hb md_F_sum_40 (by decide) (fun c_36 => ?_) (fun c_36 => ?_)
          · refine lv_lload_n hx hb md_F_sum_50 rfl (lv_at hl 1 rfl) ?_
            exact J_37 p0 ls (lv_sub hl [0, 1, 2] rfl)
          · refine lv_aload_n hx hb md_F_sum_43 rfl (lv_at hl 0 rfl) ?_
            refine va_getX hx hb hE.2.2.2.2.2.2.1 hk hS hown (ht _ tm_550) (fun _ h9 => h9) md_F_sum_44 ?_
            refine lv_goto (tgt := 51) hx hb md_F_sum_47 (by decide) ?_
            exact J_37 (kf_n k) ls (lv_sub hl [0, 1, 2] rfl)
    · refine lv_aload_n hx hb md_F_sum_16 rfl (lv_at hl 0 rfl) ?_
      refine va_getX hx hb hE.2.2.2.2.2.2.1 hk hS hown (ht _ tm_550) (fun _ h9 => h9) md_F_sum_17 ?_
      exact W.lret (v := kf_n k) hx hb hr (fun t ht2 _ => ⟨(kf_n k), rfl, trivial, ht2⟩) (fun q h => by cases h) md_F_sum_20
set_option maxHeartbeats 4000000 in
set_option maxRecDepth 100000 in
theorem mt_F_finiteProduct (l : Launch) (ad : Nat → Nat) (k : Nat) (hk : k < 2) (p0 : Bool) (p1 : Int64) (p2 : Int64) : Met l my_F_finiteProduct mw_F_finiteProduct ({ frames := 3, cells := 0, slots := 0, locals := 73 } : Room) (va_Pc [.ref (ad k), .int (jb p0), .long p1, .long p2] (fun U => FW ad (fun _ => False) U U.heap)) (vp_Sl (fun _ => True)) 0 0 (fun _ => False) := by
  refine Met.ofW (cc := mc_F_finiteProduct) (maxL := 17) (ret := (some .long)) (by decide) rfl ?_
  intro p e s m args below meth c s₁ B hml hv
  obtain ⟨rfl, hE⟩ := hv
  have hx := B.exec
  have hb := B.bytes
  have hr := B.returns
  have hts := atoms_spec (ws := mw_F_finiteProduct) B.pre
  have ht : ∀ w ∈ gw_tbl, w.before _ s = true := fun w h => hts w (List.mem_cons_of_mem _ h)
  have hown : s.vm.findClass "NumberProbe$Format" = some m.cls := findClass_of_methodNamed B.named
  have hlocks := B.notSynchronized
  have hS : va_S (fun _ => False) s.heap s.heap [] := va_S.rf
  have hl := lv_entry ([.ref (ad k), .int (jb p0), .long p1, .long p2]) (n := 17) (Nat.le_of_ble_eq_true rfl)
  rw [lg_entry_eq]
  generalize (lg_sl ([.ref (ad k), .int (jb p0), .long p1, .long p2]) ++ List.replicate (17 - (lg_sl ([.ref (ad k), .int (jb p0), .long p1, .long p2])).length) Slot.unset).toArray = ls at hl ⊢
  have hl : lv_has ls 17 [(0, .ref (ad k)), (1, .int (jb p0)), (2, .long p1), (4, .long p2)] := hl
  refine lv_aload_n hx hb md_F_finiteProduct_0 rfl (lv_at hl 0 rfl) ?_
  refine lv_lload_n hx hb md_F_finiteProduct_1 rfl (lv_at hl 2 rfl) ?_
  refine vp_callSl (W.runV (C := "NumberProbe$Format") (As := [.long p1]) (rest := []) ⟨hx, hb, hml, hown, hts⟩ (mt_F_significandOf l ad k hk p1) (cwV 1 hts (gd_V tm_142 tm_144 tm_5 tm_27 tm_145) rfl rfl rfl (by decide +kernel) ⟨Nat.le_of_ble_eq_true rfl, Nat.le_of_ble_eq_true rfl⟩) ⟨fb_E, fw_recv hE hk hS, fun U hU hW => ⟨rfl, fw_use hE hS hU hW⟩⟩ rfl rfl hl.1 rfl (lv_room (Nat.le_of_ble_eq_true rfl)) md_F_finiteProduct_2 ⟨Nat.zero_le _, Nat.zero_le _⟩) (fun r_1 e_2 => ?_)
  obtain rfl : r_1 = cf_sig k p1 := e_2
  refine vp_callSi (W.runS (As := [.long (cf_sig k p1)]) (rest := []) ⟨hx, hb, hml, hown, hts⟩ (mt_F_widening l (cf_sig k p1)) (va_cwS 1 hts (gd_S tm_182 tm_183 tm_27 tm_184) rfl rfl rfl (by decide +kernel) ⟨Nat.le_of_ble_eq_true rfl, Nat.le_of_ble_eq_true rfl⟩) ⟨fb_0, fun U hU hW => ⟨rfl, trivial⟩⟩ rfl rfl hl.1 rfl (lv_room (Nat.le_of_ble_eq_true rfl)) md_F_finiteProduct_5 ⟨Nat.zero_le _, Nat.zero_le _⟩) (fun r_3 e_4 => ?_)
  obtain rfl : r_3 = cf_wid (cf_sig k p1) := e_4
  refine lv_istore (lv' := [(6, .int (cf_wid (cf_sig k p1))), (0, .ref (ad k)), (1, .int (jb p0)), (2, .long p1), (4, .long p2)]) hx hb md_F_finiteProduct_8 hl (by decide) rfl (fun ls hl => ?_)
  refine lv_aload_n hx hb md_F_finiteProduct_10 rfl (lv_at hl 1 rfl) ?_
  refine lv_lload hx hb md_F_finiteProduct_11 (lv_at hl 4 rfl) ?_
  refine vp_callSl (W.runV (C := "NumberProbe$Format") (As := [.long p2]) (rest := []) ⟨hx, hb, hml, hown, hts⟩ (mt_F_significandOf l ad k hk p2) (cwV 1 hts (gd_V tm_142 tm_144 tm_5 tm_27 tm_145) rfl rfl rfl (by decide +kernel) ⟨Nat.le_of_ble_eq_true rfl, Nat.le_of_ble_eq_true rfl⟩) ⟨fb_E, fw_recv hE hk hS, fun U hU hW => ⟨rfl, fw_use hE hS hU hW⟩⟩ rfl rfl hl.1 rfl (lv_room (Nat.le_of_ble_eq_true rfl)) md_F_finiteProduct_13 ⟨Nat.zero_le _, Nat.zero_le _⟩) (fun r_5 e_6 => ?_)
  obtain rfl : r_5 = cf_sig k p2 := e_6
  refine vp_callSi (W.runS (As := [.long (cf_sig k p2)]) (rest := []) ⟨hx, hb, hml, hown, hts⟩ (mt_F_widening l (cf_sig k p2)) (va_cwS 1 hts (gd_S tm_182 tm_183 tm_27 tm_184) rfl rfl rfl (by decide +kernel) ⟨Nat.le_of_ble_eq_true rfl, Nat.le_of_ble_eq_true rfl⟩) ⟨fb_0, fun U hU hW => ⟨rfl, trivial⟩⟩ rfl rfl hl.1 rfl (lv_room (Nat.le_of_ble_eq_true rfl)) md_F_finiteProduct_16 ⟨Nat.zero_le _, Nat.zero_le _⟩) (fun r_7 e_8 => ?_)
  obtain rfl : r_7 = cf_wid (cf_sig k p2) := e_8
  refine lv_istore (lv' := [(7, .int (cf_wid (cf_sig k p2))), (6, .int (cf_wid (cf_sig k p1))), (0, .ref (ad k)), (1, .int (jb p0)), (2, .long p1), (4, .long p2)]) hx hb md_F_finiteProduct_19 hl (by decide) rfl (fun ls hl => ?_)
  refine lv_aload_n hx hb md_F_finiteProduct_21 rfl (lv_at hl 2 rfl) ?_
  refine lv_lload_n hx hb md_F_finiteProduct_22 rfl (lv_at hl 4 rfl) ?_
  refine vp_callSl (W.runV (C := "NumberProbe$Format") (As := [.long p1]) (rest := []) ⟨hx, hb, hml, hown, hts⟩ (mt_F_significandOf l ad k hk p1) (cwV 1 hts (gd_V tm_142 tm_144 tm_5 tm_27 tm_145) rfl rfl rfl (by decide +kernel) ⟨Nat.le_of_ble_eq_true rfl, Nat.le_of_ble_eq_true rfl⟩) ⟨fb_E, fw_recv hE hk hS, fun U hU hW => ⟨rfl, fw_use hE hS hU hW⟩⟩ rfl rfl hl.1 rfl (lv_room (Nat.le_of_ble_eq_true rfl)) md_F_finiteProduct_23 ⟨Nat.zero_le _, Nat.zero_le _⟩) (fun r_9 e_10 => ?_)
  obtain rfl : r_9 = cf_sig k p1 := e_10
  refine lv_iload hx hb md_F_finiteProduct_26 (lv_at hl 1 rfl) ?_
  refine lv_lshl (v := jl_shl (cf_sig k p1) (cf_wid (cf_sig k p1))) hx hb md_F_finiteProduct_28 rfl ?_
  refine lv_lstore (lv' := [(8, .long (jl_shl (cf_sig k p1) (cf_wid (cf_sig k p1)))), (7, .int (cf_wid (cf_sig k p2))), (6, .int (cf_wid (cf_sig k p1))), (0, .ref (ad k)), (1, .int (jb p0)), (2, .long p1), (4, .long p2)]) hx hb md_F_finiteProduct_29 hl (by decide) rfl (fun ls hl => ?_)
  refine lv_aload_n hx hb md_F_finiteProduct_31 rfl (lv_at hl 3 rfl) ?_
  refine lv_lload hx hb md_F_finiteProduct_32 (lv_at hl 6 rfl) ?_
  refine vp_callSl (W.runV (C := "NumberProbe$Format") (As := [.long p2]) (rest := []) ⟨hx, hb, hml, hown, hts⟩ (mt_F_significandOf l ad k hk p2) (cwV 1 hts (gd_V tm_142 tm_144 tm_5 tm_27 tm_145) rfl rfl rfl (by decide +kernel) ⟨Nat.le_of_ble_eq_true rfl, Nat.le_of_ble_eq_true rfl⟩) ⟨fb_E, fw_recv hE hk hS, fun U hU hW => ⟨rfl, fw_use hE hS hU hW⟩⟩ rfl rfl hl.1 rfl (lv_room (Nat.le_of_ble_eq_true rfl)) md_F_finiteProduct_34 ⟨Nat.zero_le _, Nat.zero_le _⟩) (fun r_11 e_12 => ?_)
  obtain rfl : r_11 = cf_sig k p2 := e_12
  refine lv_iload hx hb md_F_finiteProduct_37 (lv_at hl 1 rfl) ?_
  refine lv_lshl (v := jl_shl (cf_sig k p2) (cf_wid (cf_sig k p2))) hx hb md_F_finiteProduct_39 rfl ?_
  refine lv_lstore (lv' := [(10, .long (jl_shl (cf_sig k p2) (cf_wid (cf_sig k p2)))), (8, .long (jl_shl (cf_sig k p1) (cf_wid (cf_sig k p1)))), (7, .int (cf_wid (cf_sig k p2))), (6, .int (cf_wid (cf_sig k p1))), (0, .ref (ad k)), (1, .int (jb p0)), (2, .long p1), (4, .long p2)]) hx hb md_F_finiteProduct_40 hl (by decide) rfl (fun ls hl => ?_)
  refine lv_lconst (v := 0) hx hb md_F_finiteProduct_42 (by decide) ?_
  refine lv_lstore (lv' := [(12, .long 0), (10, .long (jl_shl (cf_sig k p2) (cf_wid (cf_sig k p2)))), (8, .long (jl_shl (cf_sig k p1) (cf_wid (cf_sig k p1)))), (7, .int (cf_wid (cf_sig k p2))), (6, .int (cf_wid (cf_sig k p1))), (0, .ref (ad k)), (1, .int (jb p0)), (2, .long p1), (4, .long p2)]) hx hb md_F_finiteProduct_43 hl (by decide) rfl (fun ls hl => ?_)
  refine lv_lconst (v := 0) hx hb md_F_finiteProduct_45 (by decide) ?_
  refine lv_lstore (lv' := [(14, .long 0), (12, .long 0), (10, .long (jl_shl (cf_sig k p2) (cf_wid (cf_sig k p2)))), (8, .long (jl_shl (cf_sig k p1) (cf_wid (cf_sig k p1)))), (7, .int (cf_wid (cf_sig k p2))), (6, .int (cf_wid (cf_sig k p1))), (0, .ref (ad k)), (1, .int (jb p0)), (2, .long p1), (4, .long p2)]) hx hb md_F_finiteProduct_46 hl (by decide) rfl (fun ls hl => ?_)
  refine lv_iconst (v := 0) hx hb md_F_finiteProduct_48 (by decide) ?_
  refine lv_istore (lv' := [(16, .int 0), (14, .long 0), (12, .long 0), (10, .long (jl_shl (cf_sig k p2) (cf_wid (cf_sig k p2)))), (8, .long (jl_shl (cf_sig k p1) (cf_wid (cf_sig k p1)))), (7, .int (cf_wid (cf_sig k p2))), (6, .int (cf_wid (cf_sig k p1))), (0, .ref (ad k)), (1, .int (jb p0)), (2, .long p1), (4, .long p2)]) hx hb md_F_finiteProduct_49 hl (by decide) rfl (fun ls hl => ?_)
  have L_13 : ∀ (n : Nat) (z_14 : Int32) (z_15 : Int64) (z_16 : Int64) (ls : Array Slot), ((6 : Int32).toInt - z_14.toInt).toNat ≤ n → lv_has ls 17 [(16, .int z_14), (14, .long z_15), (12, .long z_16), (10, .long (jl_shl (cf_sig k p2) (cf_wid (cf_sig k p2)))), (8, .long (jl_shl (cf_sig k p1) (cf_wid (cf_sig k p1)))), (7, .int (cf_wid (cf_sig k p2))), (6, .int (cf_wid (cf_sig k p1))), (0, .ref (ad k)), (1, .int (jb p0)), (2, .long p1), (4, .long p2)] → WP p l e mw_F_finiteProduct ({ frames := 3, cells := 0, slots := 0, locals := 73 } : Room) s m [.ref (ad k), .int (jb p0), .long p1, .long p2] below meth c (vp_Sl (fun _ => True)) (F0 m 51 ls []) := by
    intro n
    induction n with
    | zero =>
      intro z_14 z_15 z_16 ls hn hl
      refine lv_iload hx hb md_F_finiteProduct_51 (lv_at hl 0 rfl) ?_
      refine lv_bipush (v := 6) hx hb md_F_finiteProduct_53 (by decide) ?_
      refine lv_icmp_ge (tgt := 93) hx hb md_F_finiteProduct_55 (by decide) (fun c_17 => ?_) (fun c_17 => ?_)
      · refine lv_aload_n hx hb md_F_finiteProduct_93 rfl (lv_at hl 7 rfl) ?_
        refine lv_lload_n hx hb md_F_finiteProduct_94 rfl (lv_at hl 9 rfl) ?_
        refine vp_callSi (W.runV (C := "NumberProbe$Format") (As := [.long p1]) (rest := []) ⟨hx, hb, hml, hown, hts⟩ (mt_F_exponentOf l ad k hk p1) (cwV 1 hts (gd_V tm_131 tm_133 tm_3 tm_27 tm_134) rfl rfl rfl (by decide +kernel) ⟨Nat.le_of_ble_eq_true rfl, Nat.le_of_ble_eq_true rfl⟩) ⟨fb_E, fw_recv hE hk hS, fun U hU hW => ⟨rfl, fw_use hE hS hU hW⟩⟩ rfl rfl hl.1 rfl (lv_room (Nat.le_of_ble_eq_true rfl)) md_F_finiteProduct_95 ⟨Nat.zero_le _, Nat.zero_le _⟩) (fun r_18 e_19 => ?_)
        obtain rfl : r_18 = cf_exp k p1 := e_19
        refine lv_iload hx hb md_F_finiteProduct_98 (lv_at hl 6 rfl) ?_
        refine lv_isub hx hb md_F_finiteProduct_100 ?_
        refine lv_aload_n hx hb md_F_finiteProduct_101 rfl (lv_at hl 7 rfl) ?_
        refine lv_lload hx hb md_F_finiteProduct_102 (lv_at hl 10 rfl) ?_
        refine vp_callSi (W.runV (C := "NumberProbe$Format") (As := [.long p2]) (rest := [.int ((cf_exp k p1) - (cf_wid (cf_sig k p1)))]) ⟨hx, hb, hml, hown, hts⟩ (mt_F_exponentOf l ad k hk p2) (cwV 1 hts (gd_V tm_131 tm_133 tm_3 tm_27 tm_134) rfl rfl rfl (by decide +kernel) ⟨Nat.le_of_ble_eq_true rfl, Nat.le_of_ble_eq_true rfl⟩) ⟨fb_E, fw_recv hE hk hS, fun U hU hW => ⟨rfl, fw_use hE hS hU hW⟩⟩ rfl rfl hl.1 rfl (lv_room (Nat.le_of_ble_eq_true rfl)) md_F_finiteProduct_104 ⟨Nat.zero_le _, Nat.zero_le _⟩) (fun r_20 e_21 => ?_)
        obtain rfl : r_20 = cf_exp k p2 := e_21
        refine lv_iadd hx hb md_F_finiteProduct_107 ?_
        refine lv_iload hx hb md_F_finiteProduct_108 (lv_at hl 5 rfl) ?_
        refine lv_isub hx hb md_F_finiteProduct_110 ?_
        refine lv_bipush (v := 50) hx hb md_F_finiteProduct_111 (by decide) ?_
        refine lv_iadd hx hb md_F_finiteProduct_113 ?_
        refine lv_istore (lv' := [(16, .int (((((cf_exp k p1) - (cf_wid (cf_sig k p1))) + (cf_exp k p2)) - (cf_wid (cf_sig k p2))) + 50)), (14, .long z_15), (12, .long z_16), (10, .long (jl_shl (cf_sig k p2) (cf_wid (cf_sig k p2)))), (8, .long (jl_shl (cf_sig k p1) (cf_wid (cf_sig k p1)))), (7, .int (cf_wid (cf_sig k p2))), (6, .int (cf_wid (cf_sig k p1))), (0, .ref (ad k)), (1, .int (jb p0)), (2, .long p1), (4, .long p2)]) hx hb md_F_finiteProduct_114 hl (by decide) rfl (fun ls hl => ?_)
        refine lv_aload_n hx hb md_F_finiteProduct_116 rfl (lv_at hl 7 rfl) ?_
        refine lv_iload_n hx hb md_F_finiteProduct_117 rfl (lv_at hl 8 rfl) ?_
        refine lv_lload hx hb md_F_finiteProduct_118 (lv_at hl 2 rfl) ?_
        refine lv_lload hx hb md_F_finiteProduct_120 (lv_at hl 1 rfl) ?_
        refine vp_callSl (W.runS (As := [.long z_16, .long z_15]) (rest := [.int (jb p0), .ref (ad k)]) ⟨hx, hb, hml, hown, hts⟩ (mt_F_withRest l z_16 z_15) (va_cwS 2 hts (gd_S tm_149 tm_150 tm_27 tm_151) rfl rfl rfl (by decide +kernel) ⟨Nat.le_of_ble_eq_true rfl, Nat.le_of_ble_eq_true rfl⟩) ⟨fb_0, fun U hU hW => ⟨rfl, trivial⟩⟩ rfl rfl hl.1 rfl (lv_room (Nat.le_of_ble_eq_true rfl)) md_F_finiteProduct_122 ⟨Nat.zero_le _, Nat.zero_le _⟩) (fun r_22 e_23 => ?_)
        refine lv_iload hx hb md_F_finiteProduct_125 (lv_at hl 0 rfl) ?_
        refine vp_callSl (W.runV (C := "NumberProbe$Format") (As := [.int (jb p0), .long r_22, .int (((((cf_exp k p1) - (cf_wid (cf_sig k p1))) + (cf_exp k p2)) - (cf_wid (cf_sig k p2))) + 50)]) (rest := []) ⟨hx, hb, hml, hown, hts⟩ (mt_F_rounded l ad k hk p0 r_22 (((((cf_exp k p1) - (cf_wid (cf_sig k p1))) + (cf_exp k p2)) - (cf_wid (cf_sig k p2))) + 50)) (cwV 3 hts (gd_V tm_152 tm_154 tm_6 tm_27 tm_155) rfl rfl rfl (by decide +kernel) ⟨Nat.le_of_ble_eq_true rfl, Nat.le_of_ble_eq_true rfl⟩) ⟨fb_E, fw_recv hE hk hS, fun U hU hW => ⟨rfl, fw_use hE hS hU hW⟩⟩ rfl rfl hl.1 rfl (lv_room (Nat.le_of_ble_eq_true rfl)) md_F_finiteProduct_127 ⟨Nat.zero_le _, Nat.zero_le _⟩) (fun r_24 e_25 => ?_)
        exact W.lret (v := r_24) hx hb hr (fun t ht2 _ => ⟨r_24, rfl, trivial, ht2⟩) (fun q h => by cases h) md_F_finiteProduct_130
      · exact (lu_0 (Int32.not_le.mp c_17) hn).elim
    | succ n ih =>
      intro z_14 z_15 z_16 ls hn hl
      refine lv_iload hx hb md_F_finiteProduct_51 (lv_at hl 0 rfl) ?_
      refine lv_bipush (v := 6) hx hb md_F_finiteProduct_53 (by decide) ?_
      refine lv_icmp_ge (tgt := 93) hx hb md_F_finiteProduct_55 (by decide) (fun c_26 => ?_) (fun c_26 => ?_)
      · refine lv_aload_n hx hb md_F_finiteProduct_93 rfl (lv_at hl 7 rfl) ?_
        refine lv_lload_n hx hb md_F_finiteProduct_94 rfl (lv_at hl 9 rfl) ?_
        refine vp_callSi (W.runV (C := "NumberProbe$Format") (As := [.long p1]) (rest := []) ⟨hx, hb, hml, hown, hts⟩ (mt_F_exponentOf l ad k hk p1) (cwV 1 hts (gd_V tm_131 tm_133 tm_3 tm_27 tm_134) rfl rfl rfl (by decide +kernel) ⟨Nat.le_of_ble_eq_true rfl, Nat.le_of_ble_eq_true rfl⟩) ⟨fb_E, fw_recv hE hk hS, fun U hU hW => ⟨rfl, fw_use hE hS hU hW⟩⟩ rfl rfl hl.1 rfl (lv_room (Nat.le_of_ble_eq_true rfl)) md_F_finiteProduct_95 ⟨Nat.zero_le _, Nat.zero_le _⟩) (fun r_27 e_28 => ?_)
        obtain rfl : r_27 = cf_exp k p1 := e_28
        refine lv_iload hx hb md_F_finiteProduct_98 (lv_at hl 6 rfl) ?_
        refine lv_isub hx hb md_F_finiteProduct_100 ?_
        refine lv_aload_n hx hb md_F_finiteProduct_101 rfl (lv_at hl 7 rfl) ?_
        refine lv_lload hx hb md_F_finiteProduct_102 (lv_at hl 10 rfl) ?_
        refine vp_callSi (W.runV (C := "NumberProbe$Format") (As := [.long p2]) (rest := [.int ((cf_exp k p1) - (cf_wid (cf_sig k p1)))]) ⟨hx, hb, hml, hown, hts⟩ (mt_F_exponentOf l ad k hk p2) (cwV 1 hts (gd_V tm_131 tm_133 tm_3 tm_27 tm_134) rfl rfl rfl (by decide +kernel) ⟨Nat.le_of_ble_eq_true rfl, Nat.le_of_ble_eq_true rfl⟩) ⟨fb_E, fw_recv hE hk hS, fun U hU hW => ⟨rfl, fw_use hE hS hU hW⟩⟩ rfl rfl hl.1 rfl (lv_room (Nat.le_of_ble_eq_true rfl)) md_F_finiteProduct_104 ⟨Nat.zero_le _, Nat.zero_le _⟩) (fun r_29 e_30 => ?_)
        obtain rfl : r_29 = cf_exp k p2 := e_30
        refine lv_iadd hx hb md_F_finiteProduct_107 ?_
        refine lv_iload hx hb md_F_finiteProduct_108 (lv_at hl 5 rfl) ?_
        refine lv_isub hx hb md_F_finiteProduct_110 ?_
        refine lv_bipush (v := 50) hx hb md_F_finiteProduct_111 (by decide) ?_
        refine lv_iadd hx hb md_F_finiteProduct_113 ?_
        refine lv_istore (lv' := [(16, .int (((((cf_exp k p1) - (cf_wid (cf_sig k p1))) + (cf_exp k p2)) - (cf_wid (cf_sig k p2))) + 50)), (14, .long z_15), (12, .long z_16), (10, .long (jl_shl (cf_sig k p2) (cf_wid (cf_sig k p2)))), (8, .long (jl_shl (cf_sig k p1) (cf_wid (cf_sig k p1)))), (7, .int (cf_wid (cf_sig k p2))), (6, .int (cf_wid (cf_sig k p1))), (0, .ref (ad k)), (1, .int (jb p0)), (2, .long p1), (4, .long p2)]) hx hb md_F_finiteProduct_114 hl (by decide) rfl (fun ls hl => ?_)
        refine lv_aload_n hx hb md_F_finiteProduct_116 rfl (lv_at hl 7 rfl) ?_
        refine lv_iload_n hx hb md_F_finiteProduct_117 rfl (lv_at hl 8 rfl) ?_
        refine lv_lload hx hb md_F_finiteProduct_118 (lv_at hl 2 rfl) ?_
        refine lv_lload hx hb md_F_finiteProduct_120 (lv_at hl 1 rfl) ?_
        refine vp_callSl (W.runS (As := [.long z_16, .long z_15]) (rest := [.int (jb p0), .ref (ad k)]) ⟨hx, hb, hml, hown, hts⟩ (mt_F_withRest l z_16 z_15) (va_cwS 2 hts (gd_S tm_149 tm_150 tm_27 tm_151) rfl rfl rfl (by decide +kernel) ⟨Nat.le_of_ble_eq_true rfl, Nat.le_of_ble_eq_true rfl⟩) ⟨fb_0, fun U hU hW => ⟨rfl, trivial⟩⟩ rfl rfl hl.1 rfl (lv_room (Nat.le_of_ble_eq_true rfl)) md_F_finiteProduct_122 ⟨Nat.zero_le _, Nat.zero_le _⟩) (fun r_31 e_32 => ?_)
        refine lv_iload hx hb md_F_finiteProduct_125 (lv_at hl 0 rfl) ?_
        refine vp_callSl (W.runV (C := "NumberProbe$Format") (As := [.int (jb p0), .long r_31, .int (((((cf_exp k p1) - (cf_wid (cf_sig k p1))) + (cf_exp k p2)) - (cf_wid (cf_sig k p2))) + 50)]) (rest := []) ⟨hx, hb, hml, hown, hts⟩ (mt_F_rounded l ad k hk p0 r_31 (((((cf_exp k p1) - (cf_wid (cf_sig k p1))) + (cf_exp k p2)) - (cf_wid (cf_sig k p2))) + 50)) (cwV 3 hts (gd_V tm_152 tm_154 tm_6 tm_27 tm_155) rfl rfl rfl (by decide +kernel) ⟨Nat.le_of_ble_eq_true rfl, Nat.le_of_ble_eq_true rfl⟩) ⟨fb_E, fw_recv hE hk hS, fun U hU hW => ⟨rfl, fw_use hE hS hU hW⟩⟩ rfl rfl hl.1 rfl (lv_room (Nat.le_of_ble_eq_true rfl)) md_F_finiteProduct_127 ⟨Nat.zero_le _, Nat.zero_le _⟩) (fun r_33 e_34 => ?_)
        exact W.lret (v := r_33) hx hb hr (fun t ht2 _ => ⟨r_33, rfl, trivial, ht2⟩) (fun q h => by cases h) md_F_finiteProduct_130
      · refine lv_lload hx hb md_F_finiteProduct_58 (lv_at hl 1 rfl) ?_
        refine lv_lload hx hb md_F_finiteProduct_60 (lv_at hl 2 rfl) ?_
        refine lv_iconst (v := 0) hx hb md_F_finiteProduct_62 (by decide) ?_
        refine vp_callSl (W.runS (As := [.long z_16, .int 0]) (rest := [.long z_15]) ⟨hx, hb, hml, hown, hts⟩ (mt_F_digitOf l z_16 0) (va_cwS 2 hts (gd_S tm_185 tm_186 tm_27 tm_187) rfl rfl rfl (by decide +kernel) ⟨Nat.le_of_ble_eq_true rfl, Nat.le_of_ble_eq_true rfl⟩) ⟨fb_0, fun U hU hW => ⟨rfl, trivial⟩⟩ rfl rfl hl.1 rfl (lv_room (Nat.le_of_ble_eq_true rfl)) md_F_finiteProduct_63 ⟨Nat.zero_le _, Nat.zero_le _⟩) (fun r_35 e_36 => ?_)
        refine lv_lor hx hb md_F_finiteProduct_66 ?_
        refine lv_lstore (lv' := [(14, .long (z_15 ||| r_35)), (16, .int z_14), (12, .long z_16), (10, .long (jl_shl (cf_sig k p2) (cf_wid (cf_sig k p2)))), (8, .long (jl_shl (cf_sig k p1) (cf_wid (cf_sig k p1)))), (7, .int (cf_wid (cf_sig k p2))), (6, .int (cf_wid (cf_sig k p1))), (0, .ref (ad k)), (1, .int (jb p0)), (2, .long p1), (4, .long p2)]) hx hb md_F_finiteProduct_67 hl (by decide) rfl (fun ls hl => ?_)
        refine lv_lload hx hb md_F_finiteProduct_69 (lv_at hl 2 rfl) ?_
        refine lv_bipush (v := 10) hx hb md_F_finiteProduct_71 (by decide) ?_
        refine lv_lushr (v := jl_ush z_16 10) hx hb md_F_finiteProduct_73 rfl ?_
        refine lv_lload hx hb md_F_finiteProduct_74 (lv_at hl 4 rfl) ?_
        refine lv_lload hx hb md_F_finiteProduct_76 (lv_at hl 3 rfl) ?_
        refine lv_iload hx hb md_F_finiteProduct_78 (lv_at hl 1 rfl) ?_
        refine vp_callSl (W.runS (As := [.long (jl_shl (cf_sig k p2) (cf_wid (cf_sig k p2))), .int z_14]) (rest := [.long (jl_shl (cf_sig k p1) (cf_wid (cf_sig k p1))), .long (jl_ush z_16 10)]) ⟨hx, hb, hml, hown, hts⟩ (mt_F_digitOf l (jl_shl (cf_sig k p2) (cf_wid (cf_sig k p2))) z_14) (va_cwS 2 hts (gd_S tm_185 tm_186 tm_27 tm_187) rfl rfl rfl (by decide +kernel) ⟨Nat.le_of_ble_eq_true rfl, Nat.le_of_ble_eq_true rfl⟩) ⟨fb_0, fun U hU hW => ⟨rfl, trivial⟩⟩ rfl rfl hl.1 rfl (lv_room (Nat.le_of_ble_eq_true rfl)) md_F_finiteProduct_80 ⟨Nat.zero_le _, Nat.zero_le _⟩) (fun r_37 e_38 => ?_)
        refine lv_lmul hx hb md_F_finiteProduct_83 ?_
        refine lv_ladd hx hb md_F_finiteProduct_84 ?_
        refine lv_lstore (lv' := [(12, .long ((jl_ush z_16 10) + ((jl_shl (cf_sig k p1) (cf_wid (cf_sig k p1))) * r_37))), (14, .long (z_15 ||| r_35)), (16, .int z_14), (10, .long (jl_shl (cf_sig k p2) (cf_wid (cf_sig k p2)))), (8, .long (jl_shl (cf_sig k p1) (cf_wid (cf_sig k p1)))), (7, .int (cf_wid (cf_sig k p2))), (6, .int (cf_wid (cf_sig k p1))), (0, .ref (ad k)), (1, .int (jb p0)), (2, .long p1), (4, .long p2)]) hx hb md_F_finiteProduct_85 hl (by decide) rfl (fun ls hl => ?_)
        refine lv_iinc (v := z_14 + 1) (lv' := [(16, .int (z_14 + 1)), (12, .long ((jl_ush z_16 10) + ((jl_shl (cf_sig k p1) (cf_wid (cf_sig k p1))) * r_37))), (14, .long (z_15 ||| r_35)), (10, .long (jl_shl (cf_sig k p2) (cf_wid (cf_sig k p2)))), (8, .long (jl_shl (cf_sig k p1) (cf_wid (cf_sig k p1)))), (7, .int (cf_wid (cf_sig k p2))), (6, .int (cf_wid (cf_sig k p1))), (0, .ref (ad k)), (1, .int (jb p0)), (2, .long p1), (4, .long p2)]) hx hb md_F_finiteProduct_87 hl (k := 2) rfl rfl (by decide) rfl (fun ls hl => ?_)
        refine lv_goto (tgt := 51) hx hb md_F_finiteProduct_90 (by decide) ?_
        exact ih (z_14 + 1) (z_15 ||| r_35) ((jl_ush z_16 10) + ((jl_shl (cf_sig k p1) (cf_wid (cf_sig k p1))) * r_37)) ls (lu_s (Int32.not_le.mp c_26) hn) (lv_sub hl [0, 2, 1, 3, 4, 5, 6, 7, 8, 9, 10] rfl)
  exact L_13 _ 0 0 0 ls (Nat.le_refl _) (lv_sub hl [0, 1, 2, 3, 4, 5, 6, 7, 8, 9, 10] rfl)
set_option maxHeartbeats 4000000 in
set_option maxRecDepth 100000 in
theorem mt_F_product (l : Launch) (ad : Nat → Nat) (k : Nat) (hk : k < 2) (p0 : Int64) (p1 : Int64) : Met l my_F_product mw_F_product ({ frames := 4, cells := 0, slots := 0, locals := 109 } : Room) (va_Pc [.ref (ad k), .long p0, .long p1] (fun U => FW ad (fun _ => False) U U.heap)) (vp_Sl (fun _ => True)) 0 0 (fun _ => False) := by
  refine Met.ofW (cc := mc_F_product) (maxL := 6) (ret := (some .long)) (by decide) rfl ?_
  intro p e s m args below meth c s₁ B hml hv
  obtain ⟨rfl, hE⟩ := hv
  have hx := B.exec
  have hb := B.bytes
  have hr := B.returns
  have hts := atoms_spec (ws := mw_F_product) B.pre
  have ht : ∀ w ∈ gw_tbl, w.before _ s = true := fun w h => hts w (List.mem_cons_of_mem _ h)
  have hown : s.vm.findClass "NumberProbe$Format" = some m.cls := findClass_of_methodNamed B.named
  have hlocks := B.notSynchronized
  have hS : va_S (fun _ => False) s.heap s.heap [] := va_S.rf
  have hl := lv_entry ([.ref (ad k), .long p0, .long p1]) (n := 6) (Nat.le_of_ble_eq_true rfl)
  rw [lg_entry_eq]
  generalize (lg_sl ([.ref (ad k), .long p0, .long p1]) ++ List.replicate (6 - (lg_sl ([.ref (ad k), .long p0, .long p1])).length) Slot.unset).toArray = ls at hl ⊢
  have hl : lv_has ls 6 [(0, .ref (ad k)), (1, .long p0), (3, .long p1)] := hl
  refine lv_lload_n hx hb md_F_product_0 rfl (lv_at hl 1 rfl) ?_
  refine lv_lconst (v := 0) hx hb md_F_product_1 (by decide) ?_
  refine W.lcmp hx hb md_F_product_2 ?_
  have J_2 : ∀ (z_3 : Bool) (ls : Array Slot), lv_has ls 6 [(0, .ref (ad k)), (1, .long p0), (3, .long p1)] → WP p l e mw_F_product ({ frames := 4, cells := 0, slots := 0, locals := 109 } : Room) s m [.ref (ad k), .long p0, .long p1] below meth c (vp_Sl (fun _ => True)) (F0 m 11 ls [.int (jb z_3)]) := by
    intro z_3 ls hl
    refine lv_lload_n hx hb md_F_product_11 rfl (lv_at hl 2 rfl) ?_
    refine lv_lconst (v := 0) hx hb md_F_product_12 (by decide) ?_
    refine W.lcmp hx hb md_F_product_13 ?_
    have J_5 : ∀ (z_6 : Bool) (ls : Array Slot), lv_has ls 6 [(0, .ref (ad k)), (1, .long p0), (3, .long p1)] → WP p l e mw_F_product ({ frames := 4, cells := 0, slots := 0, locals := 109 } : Room) s m [.ref (ad k), .long p0, .long p1] below meth c (vp_Sl (fun _ => True)) (F0 m 22 ls [.int (jb z_6), .int (jb z_3)]) := by
      intro z_6 ls hl
      have J_8 : ∀ (z_9 : Bool) (ls : Array Slot), lv_has ls 6 [(0, .ref (ad k)), (1, .long p0), (3, .long p1)] → WP p l e mw_F_product ({ frames := 4, cells := 0, slots := 0, locals := 109 } : Room) s m [.ref (ad k), .long p0, .long p1] below meth c (vp_Sl (fun _ => True)) (F0 m 30 ls [.int (jb z_9)]) := by
        intro z_9 ls hl
        refine lv_istore (lv' := [(5, .int (jb z_9)), (0, .ref (ad k)), (1, .long p0), (3, .long p1)]) hx hb md_F_product_30 hl (by decide) rfl (fun ls hl => ?_)
        refine lv_aload_n hx hb md_F_product_32 rfl (lv_at hl 1 rfl) ?_
        refine lv_lload_n hx hb md_F_product_33 rfl (lv_at hl 2 rfl) ?_
        refine vp_callSi (W.runV (C := "NumberProbe$Format") (As := [.long p0]) (rest := []) ⟨hx, hb, hml, hown, hts⟩ (mt_F_isNaN l ad k hk p0) (cwV 1 hts (gd_V tm_67 tm_68 tm_69 tm_27 tm_70) rfl rfl rfl (by decide +kernel) ⟨Nat.le_of_ble_eq_true rfl, Nat.le_of_ble_eq_true rfl⟩) ⟨fb_E, fw_recv hE hk hS, fun U hU hW => ⟨rfl, fw_use hE hS hU hW⟩⟩ rfl rfl hl.1 rfl (lv_room (Nat.le_of_ble_eq_true rfl)) md_F_product_34 ⟨Nat.zero_le _, Nat.zero_le _⟩) (fun r_10 e_11 => ?_)
        obtain rfl : r_10 = jb (cf_nan k p0) := e_11
        refine lv_if_ne (tgt := 48) hx hb md_F_product_37 (by decide) (fun c_12 => ?_) (fun c_12 => ?_)
        · refine lv_aload_n hx hb md_F_product_48 rfl (lv_at hl 1 rfl) ?_
          refine va_getX hx hb hE.2.2.2.2.2.2.1 hk hS hown (ht _ tm_550) (fun _ h9 => h9) md_F_product_49 ?_
          exact W.lret (v := kf_n k) hx hb hr (fun t ht2 _ => ⟨(kf_n k), rfl, trivial, ht2⟩) (fun q h => by cases h) md_F_product_52
        · refine lv_aload_n hx hb md_F_product_40 rfl (lv_at hl 1 rfl) ?_
          refine lv_lload_n hx hb md_F_product_41 rfl (lv_at hl 3 rfl) ?_
          refine vp_callSi (W.runV (C := "NumberProbe$Format") (As := [.long p1]) (rest := []) ⟨hx, hb, hml, hown, hts⟩ (mt_F_isNaN l ad k hk p1) (cwV 1 hts (gd_V tm_67 tm_68 tm_69 tm_27 tm_70) rfl rfl rfl (by decide +kernel) ⟨Nat.le_of_ble_eq_true rfl, Nat.le_of_ble_eq_true rfl⟩) ⟨fb_E, fw_recv hE hk hS, fun U hU hW => ⟨rfl, fw_use hE hS hU hW⟩⟩ rfl rfl hl.1 rfl (lv_room (Nat.le_of_ble_eq_true rfl)) md_F_product_42 ⟨Nat.zero_le _, Nat.zero_le _⟩) (fun r_13 e_14 => ?_)
          obtain rfl : r_13 = jb (cf_nan k p1) := e_14
          refine lv_if_eq (tgt := 53) hx hb md_F_product_45 (by decide) (fun c_15 => ?_) (fun c_15 => ?_)
          · refine lv_aload_n hx hb md_F_product_53 rfl (lv_at hl 1 rfl) ?_
            refine lv_lload_n hx hb md_F_product_54 rfl (lv_at hl 2 rfl) ?_
            refine vp_callSi (W.runV (C := "NumberProbe$Format") (As := [.long p0]) (rest := []) ⟨hx, hb, hml, hown, hts⟩ (mt_F_isInfinite l ad k hk p0) (cwV 1 hts (gd_V tm_123 tm_125 tm_1 tm_27 tm_126) rfl rfl rfl (by decide +kernel) ⟨Nat.le_of_ble_eq_true rfl, Nat.le_of_ble_eq_true rfl⟩) ⟨fb_E, fw_recv hE hk hS, fun U hU hW => ⟨rfl, fw_use hE hS hU hW⟩⟩ rfl rfl hl.1 rfl (lv_room (Nat.le_of_ble_eq_true rfl)) md_F_product_55 ⟨Nat.zero_le _, Nat.zero_le _⟩) (fun r_16 e_17 => ?_)
            obtain rfl : r_16 = jb (cf_inf k p0) := e_17
            refine lv_if_ne (tgt := 69) hx hb md_F_product_58 (by decide) (fun c_18 => ?_) (fun c_18 => ?_)
            · refine lv_aload_n hx hb md_F_product_69 rfl (lv_at hl 1 rfl) ?_
              refine lv_lload_n hx hb md_F_product_70 rfl (lv_at hl 2 rfl) ?_
              refine vp_callSi (W.runV (C := "NumberProbe$Format") (As := [.long p0]) (rest := []) ⟨hx, hb, hml, hown, hts⟩ (mt_F_isZero l ad k hk p0) (cwV 1 hts (gd_V tm_174 tm_176 tm_7 tm_27 tm_177) rfl rfl rfl (by decide +kernel) ⟨Nat.le_of_ble_eq_true rfl, Nat.le_of_ble_eq_true rfl⟩) ⟨fb_E, fw_recv hE hk hS, fun U hU hW => ⟨rfl, fw_use hE hS hU hW⟩⟩ rfl rfl hl.1 rfl (lv_room (Nat.le_of_ble_eq_true rfl)) md_F_product_71 ⟨Nat.zero_le _, Nat.zero_le _⟩) (fun r_19 e_20 => ?_)
              obtain rfl : r_19 = jb (cf_zer k p0) := e_20
              have J_31 : ∀ (z_32 : Int64) (ls : Array Slot), lv_has ls 6 [(5, .int (jb z_9)), (0, .ref (ad k)), (1, .long p0), (3, .long p1)] → WP p l e mw_F_product ({ frames := 4, cells := 0, slots := 0, locals := 109 } : Room) s m [.ref (ad k), .long p0, .long p1] below meth c (vp_Sl (fun _ => True)) (F0 m 102 ls [.long z_32]) := by
                intro z_32 ls hl
                exact W.lret (v := z_32) hx hb hr (fun t ht2 _ => ⟨z_32, rfl, trivial, ht2⟩) (fun q h => by cases h) md_F_product_102
              refine lv_if_ne (tgt := 85) hx hb md_F_product_74 (by decide) (fun c_21 => ?_) (fun c_21 => ?_)
              · refine lv_aload_n hx hb md_F_product_85 rfl (lv_at hl 1 rfl) ?_
                refine va_getX hx hb hE.2.2.2.2.2.2.1 hk hS hown (ht _ tm_550) (fun _ h9 => h9) md_F_product_86 ?_
                refine lv_goto (tgt := 102) hx hb md_F_product_89 (by decide) ?_
                exact J_31 (kf_n k) ls (lv_sub hl [0, 1, 2, 3] rfl)
              · refine lv_aload_n hx hb md_F_product_77 rfl (lv_at hl 1 rfl) ?_
                refine lv_lload_n hx hb md_F_product_78 rfl (lv_at hl 3 rfl) ?_
                refine vp_callSi (W.runV (C := "NumberProbe$Format") (As := [.long p1]) (rest := []) ⟨hx, hb, hml, hown, hts⟩ (mt_F_isZero l ad k hk p1) (cwV 1 hts (gd_V tm_174 tm_176 tm_7 tm_27 tm_177) rfl rfl rfl (by decide +kernel) ⟨Nat.le_of_ble_eq_true rfl, Nat.le_of_ble_eq_true rfl⟩) ⟨fb_E, fw_recv hE hk hS, fun U hU hW => ⟨rfl, fw_use hE hS hU hW⟩⟩ rfl rfl hl.1 rfl (lv_room (Nat.le_of_ble_eq_true rfl)) md_F_product_79 ⟨Nat.zero_le _, Nat.zero_le _⟩) (fun r_33 e_34 => ?_)
                obtain rfl : r_33 = jb (cf_zer k p1) := e_34
                have J_38 : ∀ (z_39 : Int64) (ls : Array Slot), lv_has ls 6 [(5, .int (jb z_9)), (0, .ref (ad k)), (1, .long p0), (3, .long p1)] → WP p l e mw_F_product ({ frames := 4, cells := 0, slots := 0, locals := 109 } : Room) s m [.ref (ad k), .long p0, .long p1] below meth c (vp_Sl (fun _ => True)) (F0 m 102 ls [.long z_39]) := by
                  intro z_39 ls hl
                  exact J_31 z_39 ls (lv_sub hl [0, 1, 2, 3] rfl)
                refine lv_if_eq (tgt := 92) hx hb md_F_product_82 (by decide) (fun c_35 => ?_) (fun c_35 => ?_)
                · refine lv_aload_n hx hb md_F_product_92 rfl (lv_at hl 1 rfl) ?_
                  refine lv_iload hx hb md_F_product_93 (lv_at hl 0 rfl) ?_
                  refine lv_aload_n hx hb md_F_product_95 rfl (lv_at hl 1 rfl) ?_
                  refine va_getX hx hb hE.2.2.2.2.2.1 hk hS hown (ht _ tm_549) (fun _ h9 => h9) md_F_product_96 ?_
                  refine vp_callSl (W.runV (C := "NumberProbe$Format") (As := [.int (jb z_9), .long (kf_i k)]) (rest := []) ⟨hx, hb, hml, hown, hts⟩ (mt_F_signed l ad k hk z_9 (kf_i k)) (cwV 2 hts (gd_V tm_75 tm_77 tm_0 tm_27 tm_79) rfl rfl rfl (by decide +kernel) ⟨Nat.le_of_ble_eq_true rfl, Nat.le_of_ble_eq_true rfl⟩) ⟨fb_E, fw_recv hE hk hS, fun U hU hW => ⟨rfl, fw_use hE hS hU hW⟩⟩ rfl rfl hl.1 rfl (lv_room (Nat.le_of_ble_eq_true rfl)) md_F_product_99 ⟨Nat.zero_le _, Nat.zero_le _⟩) (fun r_40 e_41 => ?_)
                  exact J_38 r_40 ls (lv_sub hl [0, 1, 2, 3] rfl)
                · refine lv_aload_n hx hb md_F_product_85 rfl (lv_at hl 1 rfl) ?_
                  refine va_getX hx hb hE.2.2.2.2.2.2.1 hk hS hown (ht _ tm_550) (fun _ h9 => h9) md_F_product_86 ?_
                  refine lv_goto (tgt := 102) hx hb md_F_product_89 (by decide) ?_
                  exact J_38 (kf_n k) ls (lv_sub hl [0, 1, 2, 3] rfl)
            · refine lv_aload_n hx hb md_F_product_61 rfl (lv_at hl 1 rfl) ?_
              refine lv_lload_n hx hb md_F_product_62 rfl (lv_at hl 3 rfl) ?_
              refine vp_callSi (W.runV (C := "NumberProbe$Format") (As := [.long p1]) (rest := []) ⟨hx, hb, hml, hown, hts⟩ (mt_F_isInfinite l ad k hk p1) (cwV 1 hts (gd_V tm_123 tm_125 tm_1 tm_27 tm_126) rfl rfl rfl (by decide +kernel) ⟨Nat.le_of_ble_eq_true rfl, Nat.le_of_ble_eq_true rfl⟩) ⟨fb_E, fw_recv hE hk hS, fun U hU hW => ⟨rfl, fw_use hE hS hU hW⟩⟩ rfl rfl hl.1 rfl (lv_room (Nat.le_of_ble_eq_true rfl)) md_F_product_63 ⟨Nat.zero_le _, Nat.zero_le _⟩) (fun r_42 e_43 => ?_)
              obtain rfl : r_42 = jb (cf_inf k p1) := e_43
              refine lv_if_eq (tgt := 103) hx hb md_F_product_66 (by decide) (fun c_44 => ?_) (fun c_44 => ?_)
              · refine lv_aload_n hx hb md_F_product_103 rfl (lv_at hl 1 rfl) ?_
                refine lv_lload_n hx hb md_F_product_104 rfl (lv_at hl 2 rfl) ?_
                refine vp_callSi (W.runV (C := "NumberProbe$Format") (As := [.long p0]) (rest := []) ⟨hx, hb, hml, hown, hts⟩ (mt_F_isZero l ad k hk p0) (cwV 1 hts (gd_V tm_174 tm_176 tm_7 tm_27 tm_177) rfl rfl rfl (by decide +kernel) ⟨Nat.le_of_ble_eq_true rfl, Nat.le_of_ble_eq_true rfl⟩) ⟨fb_E, fw_recv hE hk hS, fun U hU hW => ⟨rfl, fw_use hE hS hU hW⟩⟩ rfl rfl hl.1 rfl (lv_room (Nat.le_of_ble_eq_true rfl)) md_F_product_105 ⟨Nat.zero_le _, Nat.zero_le _⟩) (fun r_45 e_46 => ?_)
                obtain rfl : r_45 = jb (cf_zer k p0) := e_46
                refine lv_if_ne (tgt := 119) hx hb md_F_product_108 (by decide) (fun c_47 => ?_) (fun c_47 => ?_)
                · refine lv_aload_n hx hb md_F_product_119 rfl (lv_at hl 1 rfl) ?_
                  refine lv_iload hx hb md_F_product_120 (lv_at hl 0 rfl) ?_
                  refine lv_lconst (v := 0) hx hb md_F_product_122 (by decide) ?_
                  refine vp_callSl (W.runV (C := "NumberProbe$Format") (As := [.int (jb z_9), .long 0]) (rest := []) ⟨hx, hb, hml, hown, hts⟩ (mt_F_signed l ad k hk z_9 0) (cwV 2 hts (gd_V tm_75 tm_77 tm_0 tm_27 tm_79) rfl rfl rfl (by decide +kernel) ⟨Nat.le_of_ble_eq_true rfl, Nat.le_of_ble_eq_true rfl⟩) ⟨fb_E, fw_recv hE hk hS, fun U hU hW => ⟨rfl, fw_use hE hS hU hW⟩⟩ rfl rfl hl.1 rfl (lv_room (Nat.le_of_ble_eq_true rfl)) md_F_product_123 ⟨Nat.zero_le _, Nat.zero_le _⟩) (fun r_48 e_49 => ?_)
                  exact W.lret (v := r_48) hx hb hr (fun t ht2 _ => ⟨r_48, rfl, trivial, ht2⟩) (fun q h => by cases h) md_F_product_126
                · refine lv_aload_n hx hb md_F_product_111 rfl (lv_at hl 1 rfl) ?_
                  refine lv_lload_n hx hb md_F_product_112 rfl (lv_at hl 3 rfl) ?_
                  refine vp_callSi (W.runV (C := "NumberProbe$Format") (As := [.long p1]) (rest := []) ⟨hx, hb, hml, hown, hts⟩ (mt_F_isZero l ad k hk p1) (cwV 1 hts (gd_V tm_174 tm_176 tm_7 tm_27 tm_177) rfl rfl rfl (by decide +kernel) ⟨Nat.le_of_ble_eq_true rfl, Nat.le_of_ble_eq_true rfl⟩) ⟨fb_E, fw_recv hE hk hS, fun U hU hW => ⟨rfl, fw_use hE hS hU hW⟩⟩ rfl rfl hl.1 rfl (lv_room (Nat.le_of_ble_eq_true rfl)) md_F_product_113 ⟨Nat.zero_le _, Nat.zero_le _⟩) (fun r_50 e_51 => ?_)
                  obtain rfl : r_50 = jb (cf_zer k p1) := e_51
                  refine lv_if_eq (tgt := 127) hx hb md_F_product_116 (by decide) (fun c_52 => ?_) (fun c_52 => ?_)
                  · refine lv_aload_n hx hb md_F_product_127 rfl (lv_at hl 1 rfl) ?_
                    refine lv_iload hx hb md_F_product_128 (lv_at hl 0 rfl) ?_
                    refine lv_lload_n hx hb md_F_product_130 rfl (lv_at hl 2 rfl) ?_
                    refine lv_lload_n hx hb md_F_product_131 rfl (lv_at hl 3 rfl) ?_
                    refine vp_callSl (W.runV (C := "NumberProbe$Format") (As := [.int (jb z_9), .long p0, .long p1]) (rest := []) ⟨hx, hb, hml, hown, hts⟩ (mt_F_finiteProduct l ad k hk z_9 p0 p1) (cwV 3 hts (gd_V tm_178 tm_180 tm_8 tm_27 tm_181) rfl rfl rfl (by decide +kernel) ⟨Nat.le_of_ble_eq_true rfl, Nat.le_of_ble_eq_true rfl⟩) ⟨fb_E, fw_recv hE hk hS, fun U hU hW => ⟨rfl, fw_use hE hS hU hW⟩⟩ rfl rfl hl.1 rfl (lv_room (Nat.le_of_ble_eq_true rfl)) md_F_product_132 ⟨Nat.zero_le _, Nat.zero_le _⟩) (fun r_53 e_54 => ?_)
                    exact W.lret (v := r_53) hx hb hr (fun t ht2 _ => ⟨r_53, rfl, trivial, ht2⟩) (fun q h => by cases h) md_F_product_135
                  · refine lv_aload_n hx hb md_F_product_119 rfl (lv_at hl 1 rfl) ?_
                    refine lv_iload hx hb md_F_product_120 (lv_at hl 0 rfl) ?_
                    refine lv_lconst (v := 0) hx hb md_F_product_122 (by decide) ?_
                    refine vp_callSl (W.runV (C := "NumberProbe$Format") (As := [.int (jb z_9), .long 0]) (rest := []) ⟨hx, hb, hml, hown, hts⟩ (mt_F_signed l ad k hk z_9 0) (cwV 2 hts (gd_V tm_75 tm_77 tm_0 tm_27 tm_79) rfl rfl rfl (by decide +kernel) ⟨Nat.le_of_ble_eq_true rfl, Nat.le_of_ble_eq_true rfl⟩) ⟨fb_E, fw_recv hE hk hS, fun U hU hW => ⟨rfl, fw_use hE hS hU hW⟩⟩ rfl rfl hl.1 rfl (lv_room (Nat.le_of_ble_eq_true rfl)) md_F_product_123 ⟨Nat.zero_le _, Nat.zero_le _⟩) (fun r_55 e_56 => ?_)
                    exact W.lret (v := r_55) hx hb hr (fun t ht2 _ => ⟨r_55, rfl, trivial, ht2⟩) (fun q h => by cases h) md_F_product_126
              · refine lv_aload_n hx hb md_F_product_69 rfl (lv_at hl 1 rfl) ?_
                refine lv_lload_n hx hb md_F_product_70 rfl (lv_at hl 2 rfl) ?_
                refine vp_callSi (W.runV (C := "NumberProbe$Format") (As := [.long p0]) (rest := []) ⟨hx, hb, hml, hown, hts⟩ (mt_F_isZero l ad k hk p0) (cwV 1 hts (gd_V tm_174 tm_176 tm_7 tm_27 tm_177) rfl rfl rfl (by decide +kernel) ⟨Nat.le_of_ble_eq_true rfl, Nat.le_of_ble_eq_true rfl⟩) ⟨fb_E, fw_recv hE hk hS, fun U hU hW => ⟨rfl, fw_use hE hS hU hW⟩⟩ rfl rfl hl.1 rfl (lv_room (Nat.le_of_ble_eq_true rfl)) md_F_product_71 ⟨Nat.zero_le _, Nat.zero_le _⟩) (fun r_57 e_58 => ?_)
                obtain rfl : r_57 = jb (cf_zer k p0) := e_58
                have J_69 : ∀ (z_70 : Int64) (ls : Array Slot), lv_has ls 6 [(5, .int (jb z_9)), (0, .ref (ad k)), (1, .long p0), (3, .long p1)] → WP p l e mw_F_product ({ frames := 4, cells := 0, slots := 0, locals := 109 } : Room) s m [.ref (ad k), .long p0, .long p1] below meth c (vp_Sl (fun _ => True)) (F0 m 102 ls [.long z_70]) := by
                  intro z_70 ls hl
                  exact W.lret (v := z_70) hx hb hr (fun t ht2 _ => ⟨z_70, rfl, trivial, ht2⟩) (fun q h => by cases h) md_F_product_102
                refine lv_if_ne (tgt := 85) hx hb md_F_product_74 (by decide) (fun c_59 => ?_) (fun c_59 => ?_)
                · refine lv_aload_n hx hb md_F_product_85 rfl (lv_at hl 1 rfl) ?_
                  refine va_getX hx hb hE.2.2.2.2.2.2.1 hk hS hown (ht _ tm_550) (fun _ h9 => h9) md_F_product_86 ?_
                  refine lv_goto (tgt := 102) hx hb md_F_product_89 (by decide) ?_
                  exact J_69 (kf_n k) ls (lv_sub hl [0, 1, 2, 3] rfl)
                · refine lv_aload_n hx hb md_F_product_77 rfl (lv_at hl 1 rfl) ?_
                  refine lv_lload_n hx hb md_F_product_78 rfl (lv_at hl 3 rfl) ?_
                  refine vp_callSi (W.runV (C := "NumberProbe$Format") (As := [.long p1]) (rest := []) ⟨hx, hb, hml, hown, hts⟩ (mt_F_isZero l ad k hk p1) (cwV 1 hts (gd_V tm_174 tm_176 tm_7 tm_27 tm_177) rfl rfl rfl (by decide +kernel) ⟨Nat.le_of_ble_eq_true rfl, Nat.le_of_ble_eq_true rfl⟩) ⟨fb_E, fw_recv hE hk hS, fun U hU hW => ⟨rfl, fw_use hE hS hU hW⟩⟩ rfl rfl hl.1 rfl (lv_room (Nat.le_of_ble_eq_true rfl)) md_F_product_79 ⟨Nat.zero_le _, Nat.zero_le _⟩) (fun r_71 e_72 => ?_)
                  obtain rfl : r_71 = jb (cf_zer k p1) := e_72
                  have J_76 : ∀ (z_77 : Int64) (ls : Array Slot), lv_has ls 6 [(5, .int (jb z_9)), (0, .ref (ad k)), (1, .long p0), (3, .long p1)] → WP p l e mw_F_product ({ frames := 4, cells := 0, slots := 0, locals := 109 } : Room) s m [.ref (ad k), .long p0, .long p1] below meth c (vp_Sl (fun _ => True)) (F0 m 102 ls [.long z_77]) := by
                    intro z_77 ls hl
                    exact J_69 z_77 ls (lv_sub hl [0, 1, 2, 3] rfl)
                  refine lv_if_eq (tgt := 92) hx hb md_F_product_82 (by decide) (fun c_73 => ?_) (fun c_73 => ?_)
                  · refine lv_aload_n hx hb md_F_product_92 rfl (lv_at hl 1 rfl) ?_
                    refine lv_iload hx hb md_F_product_93 (lv_at hl 0 rfl) ?_
                    refine lv_aload_n hx hb md_F_product_95 rfl (lv_at hl 1 rfl) ?_
                    refine va_getX hx hb hE.2.2.2.2.2.1 hk hS hown (ht _ tm_549) (fun _ h9 => h9) md_F_product_96 ?_
                    refine vp_callSl (W.runV (C := "NumberProbe$Format") (As := [.int (jb z_9), .long (kf_i k)]) (rest := []) ⟨hx, hb, hml, hown, hts⟩ (mt_F_signed l ad k hk z_9 (kf_i k)) (cwV 2 hts (gd_V tm_75 tm_77 tm_0 tm_27 tm_79) rfl rfl rfl (by decide +kernel) ⟨Nat.le_of_ble_eq_true rfl, Nat.le_of_ble_eq_true rfl⟩) ⟨fb_E, fw_recv hE hk hS, fun U hU hW => ⟨rfl, fw_use hE hS hU hW⟩⟩ rfl rfl hl.1 rfl (lv_room (Nat.le_of_ble_eq_true rfl)) md_F_product_99 ⟨Nat.zero_le _, Nat.zero_le _⟩) (fun r_78 e_79 => ?_)
                    exact J_76 r_78 ls (lv_sub hl [0, 1, 2, 3] rfl)
                  · refine lv_aload_n hx hb md_F_product_85 rfl (lv_at hl 1 rfl) ?_
                    refine va_getX hx hb hE.2.2.2.2.2.2.1 hk hS hown (ht _ tm_550) (fun _ h9 => h9) md_F_product_86 ?_
                    refine lv_goto (tgt := 102) hx hb md_F_product_89 (by decide) ?_
                    exact J_76 (kf_n k) ls (lv_sub hl [0, 1, 2, 3] rfl)
          · refine lv_aload_n hx hb md_F_product_48 rfl (lv_at hl 1 rfl) ?_
            refine va_getX hx hb hE.2.2.2.2.2.2.1 hk hS hown (ht _ tm_550) (fun _ h9 => h9) md_F_product_49 ?_
            exact W.lret (v := kf_n k) hx hb hr (fun t ht2 _ => ⟨(kf_n k), rfl, trivial, ht2⟩) (fun q h => by cases h) md_F_product_52
      refine lv_icmp_eq (tgt := 29) hx hb md_F_product_22 (by decide) (fun c_7 => ?_) (fun c_7 => ?_)
      · refine lv_iconst (v := 0) hx hb md_F_product_29 (by decide) ?_
        exact J_8 false ls (lv_sub hl [0, 1, 2] rfl)
      · refine lv_iconst (v := 1) hx hb md_F_product_25 (by decide) ?_
        refine lv_goto (tgt := 30) hx hb md_F_product_26 (by decide) ?_
        exact J_8 true ls (lv_sub hl [0, 1, 2] rfl)
    refine lv_if_ge (tgt := 21) hx hb md_F_product_14 (by decide) (fun c_4 => ?_) (fun c_4 => ?_)
    · refine lv_iconst (v := 0) hx hb md_F_product_21 (by decide) ?_
      exact J_5 false ls (lv_sub hl [0, 1, 2] rfl)
    · refine lv_iconst (v := 1) hx hb md_F_product_17 (by decide) ?_
      refine lv_goto (tgt := 22) hx hb md_F_product_18 (by decide) ?_
      exact J_5 true ls (lv_sub hl [0, 1, 2] rfl)
  refine lv_if_ge (tgt := 10) hx hb md_F_product_3 (by decide) (fun c_1 => ?_) (fun c_1 => ?_)
  · refine lv_iconst (v := 0) hx hb md_F_product_10 (by decide) ?_
    exact J_2 false ls (lv_sub hl [0, 1, 2] rfl)
  · refine lv_iconst (v := 1) hx hb md_F_product_6 (by decide) ?_
    refine lv_goto (tgt := 11) hx hb md_F_product_7 (by decide) ?_
    exact J_2 true ls (lv_sub hl [0, 1, 2] rfl)
set_option maxHeartbeats 4000000 in
set_option maxRecDepth 100000 in
theorem mt_F_finiteQuotient (l : Launch) (ad : Nat → Nat) (k : Nat) (hk : k < 2) (p0 : Bool) (p1 : Int64) (p2 : Int64) (hz : cf_zer k p2 = false) : Met l my_F_finiteQuotient mw_F_finiteQuotient ({ frames := 3, cells := 0, slots := 0, locals := 73 } : Room) (va_Pc [.ref (ad k), .int (jb p0), .long p1, .long p2] (fun U => FW ad (fun _ => False) U U.heap)) (vp_Sl (fun _ => True)) 0 0 (fun _ => False) := by
  refine Met.ofW (cc := mc_F_finiteQuotient) (maxL := 17) (ret := (some .long)) (by decide) rfl ?_
  intro p e s m args below meth c s₁ B hml hv
  obtain ⟨rfl, hE⟩ := hv
  have hx := B.exec
  have hb := B.bytes
  have hr := B.returns
  have hts := atoms_spec (ws := mw_F_finiteQuotient) B.pre
  have ht : ∀ w ∈ gw_tbl, w.before _ s = true := fun w h => hts w (List.mem_cons_of_mem _ h)
  have hown : s.vm.findClass "NumberProbe$Format" = some m.cls := findClass_of_methodNamed B.named
  have hlocks := B.notSynchronized
  have hS : va_S (fun _ => False) s.heap s.heap [] := va_S.rf
  have hl := lv_entry ([.ref (ad k), .int (jb p0), .long p1, .long p2]) (n := 17) (Nat.le_of_ble_eq_true rfl)
  rw [lg_entry_eq]
  generalize (lg_sl ([.ref (ad k), .int (jb p0), .long p1, .long p2]) ++ List.replicate (17 - (lg_sl ([.ref (ad k), .int (jb p0), .long p1, .long p2])).length) Slot.unset).toArray = ls at hl ⊢
  have hl : lv_has ls 17 [(0, .ref (ad k)), (1, .int (jb p0)), (2, .long p1), (4, .long p2)] := hl
  refine lv_aload_n hx hb md_F_finiteQuotient_0 rfl (lv_at hl 0 rfl) ?_
  refine lv_lload_n hx hb md_F_finiteQuotient_1 rfl (lv_at hl 2 rfl) ?_
  refine vp_callSl (W.runV (C := "NumberProbe$Format") (As := [.long p1]) (rest := []) ⟨hx, hb, hml, hown, hts⟩ (mt_F_significandOf l ad k hk p1) (cwV 1 hts (gd_V tm_142 tm_144 tm_5 tm_27 tm_145) rfl rfl rfl (by decide +kernel) ⟨Nat.le_of_ble_eq_true rfl, Nat.le_of_ble_eq_true rfl⟩) ⟨fb_E, fw_recv hE hk hS, fun U hU hW => ⟨rfl, fw_use hE hS hU hW⟩⟩ rfl rfl hl.1 rfl (lv_room (Nat.le_of_ble_eq_true rfl)) md_F_finiteQuotient_2 ⟨Nat.zero_le _, Nat.zero_le _⟩) (fun r_1 e_2 => ?_)
  obtain rfl : r_1 = cf_sig k p1 := e_2
  refine vp_callSi (W.runS (As := [.long (cf_sig k p1)]) (rest := []) ⟨hx, hb, hml, hown, hts⟩ (mt_F_widening l (cf_sig k p1)) (va_cwS 1 hts (gd_S tm_182 tm_183 tm_27 tm_184) rfl rfl rfl (by decide +kernel) ⟨Nat.le_of_ble_eq_true rfl, Nat.le_of_ble_eq_true rfl⟩) ⟨fb_0, fun U hU hW => ⟨rfl, trivial⟩⟩ rfl rfl hl.1 rfl (lv_room (Nat.le_of_ble_eq_true rfl)) md_F_finiteQuotient_5 ⟨Nat.zero_le _, Nat.zero_le _⟩) (fun r_3 e_4 => ?_)
  obtain rfl : r_3 = cf_wid (cf_sig k p1) := e_4
  refine lv_istore (lv' := [(6, .int (cf_wid (cf_sig k p1))), (0, .ref (ad k)), (1, .int (jb p0)), (2, .long p1), (4, .long p2)]) hx hb md_F_finiteQuotient_8 hl (by decide) rfl (fun ls hl => ?_)
  refine lv_aload_n hx hb md_F_finiteQuotient_10 rfl (lv_at hl 1 rfl) ?_
  refine lv_lload hx hb md_F_finiteQuotient_11 (lv_at hl 4 rfl) ?_
  refine vp_callSl (W.runV (C := "NumberProbe$Format") (As := [.long p2]) (rest := []) ⟨hx, hb, hml, hown, hts⟩ (mt_F_significandOf l ad k hk p2) (cwV 1 hts (gd_V tm_142 tm_144 tm_5 tm_27 tm_145) rfl rfl rfl (by decide +kernel) ⟨Nat.le_of_ble_eq_true rfl, Nat.le_of_ble_eq_true rfl⟩) ⟨fb_E, fw_recv hE hk hS, fun U hU hW => ⟨rfl, fw_use hE hS hU hW⟩⟩ rfl rfl hl.1 rfl (lv_room (Nat.le_of_ble_eq_true rfl)) md_F_finiteQuotient_13 ⟨Nat.zero_le _, Nat.zero_le _⟩) (fun r_5 e_6 => ?_)
  obtain rfl : r_5 = cf_sig k p2 := e_6
  refine vp_callSi (W.runS (As := [.long (cf_sig k p2)]) (rest := []) ⟨hx, hb, hml, hown, hts⟩ (mt_F_widening l (cf_sig k p2)) (va_cwS 1 hts (gd_S tm_182 tm_183 tm_27 tm_184) rfl rfl rfl (by decide +kernel) ⟨Nat.le_of_ble_eq_true rfl, Nat.le_of_ble_eq_true rfl⟩) ⟨fb_0, fun U hU hW => ⟨rfl, trivial⟩⟩ rfl rfl hl.1 rfl (lv_room (Nat.le_of_ble_eq_true rfl)) md_F_finiteQuotient_16 ⟨Nat.zero_le _, Nat.zero_le _⟩) (fun r_7 e_8 => ?_)
  obtain rfl : r_7 = cf_wid (cf_sig k p2) := e_8
  refine lv_istore (lv' := [(7, .int (cf_wid (cf_sig k p2))), (6, .int (cf_wid (cf_sig k p1))), (0, .ref (ad k)), (1, .int (jb p0)), (2, .long p1), (4, .long p2)]) hx hb md_F_finiteQuotient_19 hl (by decide) rfl (fun ls hl => ?_)
  refine lv_aload_n hx hb md_F_finiteQuotient_21 rfl (lv_at hl 2 rfl) ?_
  refine lv_lload_n hx hb md_F_finiteQuotient_22 rfl (lv_at hl 4 rfl) ?_
  refine vp_callSl (W.runV (C := "NumberProbe$Format") (As := [.long p1]) (rest := []) ⟨hx, hb, hml, hown, hts⟩ (mt_F_significandOf l ad k hk p1) (cwV 1 hts (gd_V tm_142 tm_144 tm_5 tm_27 tm_145) rfl rfl rfl (by decide +kernel) ⟨Nat.le_of_ble_eq_true rfl, Nat.le_of_ble_eq_true rfl⟩) ⟨fb_E, fw_recv hE hk hS, fun U hU hW => ⟨rfl, fw_use hE hS hU hW⟩⟩ rfl rfl hl.1 rfl (lv_room (Nat.le_of_ble_eq_true rfl)) md_F_finiteQuotient_23 ⟨Nat.zero_le _, Nat.zero_le _⟩) (fun r_9 e_10 => ?_)
  obtain rfl : r_9 = cf_sig k p1 := e_10
  refine lv_iload hx hb md_F_finiteQuotient_26 (lv_at hl 1 rfl) ?_
  refine lv_lshl (v := jl_shl (cf_sig k p1) (cf_wid (cf_sig k p1))) hx hb md_F_finiteQuotient_28 rfl ?_
  refine lv_lstore (lv' := [(8, .long (jl_shl (cf_sig k p1) (cf_wid (cf_sig k p1)))), (7, .int (cf_wid (cf_sig k p2))), (6, .int (cf_wid (cf_sig k p1))), (0, .ref (ad k)), (1, .int (jb p0)), (2, .long p1), (4, .long p2)]) hx hb md_F_finiteQuotient_29 hl (by decide) rfl (fun ls hl => ?_)
  refine lv_aload_n hx hb md_F_finiteQuotient_31 rfl (lv_at hl 3 rfl) ?_
  refine lv_lload hx hb md_F_finiteQuotient_32 (lv_at hl 6 rfl) ?_
  refine vp_callSl (W.runV (C := "NumberProbe$Format") (As := [.long p2]) (rest := []) ⟨hx, hb, hml, hown, hts⟩ (mt_F_significandOf l ad k hk p2) (cwV 1 hts (gd_V tm_142 tm_144 tm_5 tm_27 tm_145) rfl rfl rfl (by decide +kernel) ⟨Nat.le_of_ble_eq_true rfl, Nat.le_of_ble_eq_true rfl⟩) ⟨fb_E, fw_recv hE hk hS, fun U hU hW => ⟨rfl, fw_use hE hS hU hW⟩⟩ rfl rfl hl.1 rfl (lv_room (Nat.le_of_ble_eq_true rfl)) md_F_finiteQuotient_34 ⟨Nat.zero_le _, Nat.zero_le _⟩) (fun r_11 e_12 => ?_)
  obtain rfl : r_11 = cf_sig k p2 := e_12
  refine lv_iload hx hb md_F_finiteQuotient_37 (lv_at hl 1 rfl) ?_
  refine lv_lshl (v := jl_shl (cf_sig k p2) (cf_wid (cf_sig k p2))) hx hb md_F_finiteQuotient_39 rfl ?_
  refine lv_lstore (lv' := [(10, .long (jl_shl (cf_sig k p2) (cf_wid (cf_sig k p2)))), (8, .long (jl_shl (cf_sig k p1) (cf_wid (cf_sig k p1)))), (7, .int (cf_wid (cf_sig k p2))), (6, .int (cf_wid (cf_sig k p1))), (0, .ref (ad k)), (1, .int (jb p0)), (2, .long p1), (4, .long p2)]) hx hb md_F_finiteQuotient_40 hl (by decide) rfl (fun ls hl => ?_)
  refine lv_lload hx hb md_F_finiteQuotient_42 (lv_at hl 1 rfl) ?_
  refine lv_lload hx hb md_F_finiteQuotient_44 (lv_at hl 0 rfl) ?_
  refine lv_ldiv hx hb md_F_finiteQuotient_46 (fa_wid0 hk hz) ?_
  refine lv_lstore (lv' := [(12, .long ((jl_shl (cf_sig k p1) (cf_wid (cf_sig k p1))) / (jl_shl (cf_sig k p2) (cf_wid (cf_sig k p2))))), (10, .long (jl_shl (cf_sig k p2) (cf_wid (cf_sig k p2)))), (8, .long (jl_shl (cf_sig k p1) (cf_wid (cf_sig k p1)))), (7, .int (cf_wid (cf_sig k p2))), (6, .int (cf_wid (cf_sig k p1))), (0, .ref (ad k)), (1, .int (jb p0)), (2, .long p1), (4, .long p2)]) hx hb md_F_finiteQuotient_47 hl (by decide) rfl (fun ls hl => ?_)
  refine lv_lload hx hb md_F_finiteQuotient_49 (lv_at hl 2 rfl) ?_
  refine lv_lload hx hb md_F_finiteQuotient_51 (lv_at hl 1 rfl) ?_
  refine lv_lrem hx hb md_F_finiteQuotient_53 (fa_wid0 hk hz) ?_
  refine lv_lstore (lv' := [(14, .long ((jl_shl (cf_sig k p1) (cf_wid (cf_sig k p1))) - (jl_shl (cf_sig k p1) (cf_wid (cf_sig k p1))) / (jl_shl (cf_sig k p2) (cf_wid (cf_sig k p2))) * (jl_shl (cf_sig k p2) (cf_wid (cf_sig k p2))))), (12, .long ((jl_shl (cf_sig k p1) (cf_wid (cf_sig k p1))) / (jl_shl (cf_sig k p2) (cf_wid (cf_sig k p2))))), (10, .long (jl_shl (cf_sig k p2) (cf_wid (cf_sig k p2)))), (8, .long (jl_shl (cf_sig k p1) (cf_wid (cf_sig k p1)))), (7, .int (cf_wid (cf_sig k p2))), (6, .int (cf_wid (cf_sig k p1))), (0, .ref (ad k)), (1, .int (jb p0)), (2, .long p1), (4, .long p2)]) hx hb md_F_finiteQuotient_54 hl (by decide) rfl (fun ls hl => ?_)
  refine lv_iconst (v := 0) hx hb md_F_finiteQuotient_56 (by decide) ?_
  refine lv_istore (lv' := [(16, .int 0), (14, .long ((jl_shl (cf_sig k p1) (cf_wid (cf_sig k p1))) - (jl_shl (cf_sig k p1) (cf_wid (cf_sig k p1))) / (jl_shl (cf_sig k p2) (cf_wid (cf_sig k p2))) * (jl_shl (cf_sig k p2) (cf_wid (cf_sig k p2))))), (12, .long ((jl_shl (cf_sig k p1) (cf_wid (cf_sig k p1))) / (jl_shl (cf_sig k p2) (cf_wid (cf_sig k p2))))), (10, .long (jl_shl (cf_sig k p2) (cf_wid (cf_sig k p2)))), (8, .long (jl_shl (cf_sig k p1) (cf_wid (cf_sig k p1)))), (7, .int (cf_wid (cf_sig k p2))), (6, .int (cf_wid (cf_sig k p1))), (0, .ref (ad k)), (1, .int (jb p0)), (2, .long p1), (4, .long p2)]) hx hb md_F_finiteQuotient_57 hl (by decide) rfl (fun ls hl => ?_)
  have L_13 : ∀ (n : Nat) (z_14 : Int32) (z_15 : Int64) (z_16 : Int64) (ls : Array Slot), ((6 : Int32).toInt - z_14.toInt).toNat ≤ n → lv_has ls 17 [(16, .int z_14), (14, .long z_15), (12, .long z_16), (10, .long (jl_shl (cf_sig k p2) (cf_wid (cf_sig k p2)))), (8, .long (jl_shl (cf_sig k p1) (cf_wid (cf_sig k p1)))), (7, .int (cf_wid (cf_sig k p2))), (6, .int (cf_wid (cf_sig k p1))), (0, .ref (ad k)), (1, .int (jb p0)), (2, .long p1), (4, .long p2)] → WP p l e mw_F_finiteQuotient ({ frames := 3, cells := 0, slots := 0, locals := 73 } : Room) s m [.ref (ad k), .int (jb p0), .long p1, .long p2] below meth c (vp_Sl (fun _ => True)) (F0 m 59 ls []) := by
    intro n
    induction n with
    | zero =>
      intro z_14 z_15 z_16 ls hn hl
      refine lv_iload hx hb md_F_finiteQuotient_59 (lv_at hl 0 rfl) ?_
      refine lv_bipush (v := 6) hx hb md_F_finiteQuotient_61 (by decide) ?_
      refine lv_icmp_ge (tgt := 99) hx hb md_F_finiteQuotient_63 (by decide) (fun c_17 => ?_) (fun c_17 => ?_)
      · refine lv_aload_n hx hb md_F_finiteQuotient_99 rfl (lv_at hl 7 rfl) ?_
        refine lv_lload_n hx hb md_F_finiteQuotient_100 rfl (lv_at hl 9 rfl) ?_
        refine vp_callSi (W.runV (C := "NumberProbe$Format") (As := [.long p1]) (rest := []) ⟨hx, hb, hml, hown, hts⟩ (mt_F_exponentOf l ad k hk p1) (cwV 1 hts (gd_V tm_131 tm_133 tm_3 tm_27 tm_134) rfl rfl rfl (by decide +kernel) ⟨Nat.le_of_ble_eq_true rfl, Nat.le_of_ble_eq_true rfl⟩) ⟨fb_E, fw_recv hE hk hS, fun U hU hW => ⟨rfl, fw_use hE hS hU hW⟩⟩ rfl rfl hl.1 rfl (lv_room (Nat.le_of_ble_eq_true rfl)) md_F_finiteQuotient_101 ⟨Nat.zero_le _, Nat.zero_le _⟩) (fun r_18 e_19 => ?_)
        obtain rfl : r_18 = cf_exp k p1 := e_19
        refine lv_iload hx hb md_F_finiteQuotient_104 (lv_at hl 6 rfl) ?_
        refine lv_isub hx hb md_F_finiteQuotient_106 ?_
        refine lv_aload_n hx hb md_F_finiteQuotient_107 rfl (lv_at hl 7 rfl) ?_
        refine lv_lload hx hb md_F_finiteQuotient_108 (lv_at hl 10 rfl) ?_
        refine vp_callSi (W.runV (C := "NumberProbe$Format") (As := [.long p2]) (rest := [.int ((cf_exp k p1) - (cf_wid (cf_sig k p1)))]) ⟨hx, hb, hml, hown, hts⟩ (mt_F_exponentOf l ad k hk p2) (cwV 1 hts (gd_V tm_131 tm_133 tm_3 tm_27 tm_134) rfl rfl rfl (by decide +kernel) ⟨Nat.le_of_ble_eq_true rfl, Nat.le_of_ble_eq_true rfl⟩) ⟨fb_E, fw_recv hE hk hS, fun U hU hW => ⟨rfl, fw_use hE hS hU hW⟩⟩ rfl rfl hl.1 rfl (lv_room (Nat.le_of_ble_eq_true rfl)) md_F_finiteQuotient_110 ⟨Nat.zero_le _, Nat.zero_le _⟩) (fun r_20 e_21 => ?_)
        obtain rfl : r_20 = cf_exp k p2 := e_21
        refine lv_isub hx hb md_F_finiteQuotient_113 ?_
        refine lv_iload hx hb md_F_finiteQuotient_114 (lv_at hl 5 rfl) ?_
        refine lv_iadd hx hb md_F_finiteQuotient_116 ?_
        refine lv_bipush (v := 60) hx hb md_F_finiteQuotient_117 (by decide) ?_
        refine lv_isub hx hb md_F_finiteQuotient_119 ?_
        refine lv_istore (lv' := [(16, .int (((((cf_exp k p1) - (cf_wid (cf_sig k p1))) - (cf_exp k p2)) + (cf_wid (cf_sig k p2))) - 60)), (14, .long z_15), (12, .long z_16), (10, .long (jl_shl (cf_sig k p2) (cf_wid (cf_sig k p2)))), (8, .long (jl_shl (cf_sig k p1) (cf_wid (cf_sig k p1)))), (7, .int (cf_wid (cf_sig k p2))), (6, .int (cf_wid (cf_sig k p1))), (0, .ref (ad k)), (1, .int (jb p0)), (2, .long p1), (4, .long p2)]) hx hb md_F_finiteQuotient_120 hl (by decide) rfl (fun ls hl => ?_)
        refine lv_aload_n hx hb md_F_finiteQuotient_122 rfl (lv_at hl 7 rfl) ?_
        refine lv_iload_n hx hb md_F_finiteQuotient_123 rfl (lv_at hl 8 rfl) ?_
        refine lv_lload hx hb md_F_finiteQuotient_124 (lv_at hl 2 rfl) ?_
        refine lv_lload hx hb md_F_finiteQuotient_126 (lv_at hl 1 rfl) ?_
        refine vp_callSl (W.runS (As := [.long z_16, .long z_15]) (rest := [.int (jb p0), .ref (ad k)]) ⟨hx, hb, hml, hown, hts⟩ (mt_F_withRest l z_16 z_15) (va_cwS 2 hts (gd_S tm_149 tm_150 tm_27 tm_151) rfl rfl rfl (by decide +kernel) ⟨Nat.le_of_ble_eq_true rfl, Nat.le_of_ble_eq_true rfl⟩) ⟨fb_0, fun U hU hW => ⟨rfl, trivial⟩⟩ rfl rfl hl.1 rfl (lv_room (Nat.le_of_ble_eq_true rfl)) md_F_finiteQuotient_128 ⟨Nat.zero_le _, Nat.zero_le _⟩) (fun r_22 e_23 => ?_)
        refine lv_iload hx hb md_F_finiteQuotient_131 (lv_at hl 0 rfl) ?_
        refine vp_callSl (W.runV (C := "NumberProbe$Format") (As := [.int (jb p0), .long r_22, .int (((((cf_exp k p1) - (cf_wid (cf_sig k p1))) - (cf_exp k p2)) + (cf_wid (cf_sig k p2))) - 60)]) (rest := []) ⟨hx, hb, hml, hown, hts⟩ (mt_F_rounded l ad k hk p0 r_22 (((((cf_exp k p1) - (cf_wid (cf_sig k p1))) - (cf_exp k p2)) + (cf_wid (cf_sig k p2))) - 60)) (cwV 3 hts (gd_V tm_152 tm_154 tm_6 tm_27 tm_155) rfl rfl rfl (by decide +kernel) ⟨Nat.le_of_ble_eq_true rfl, Nat.le_of_ble_eq_true rfl⟩) ⟨fb_E, fw_recv hE hk hS, fun U hU hW => ⟨rfl, fw_use hE hS hU hW⟩⟩ rfl rfl hl.1 rfl (lv_room (Nat.le_of_ble_eq_true rfl)) md_F_finiteQuotient_133 ⟨Nat.zero_le _, Nat.zero_le _⟩) (fun r_24 e_25 => ?_)
        exact W.lret (v := r_24) hx hb hr (fun t ht2 _ => ⟨r_24, rfl, trivial, ht2⟩) (fun q h => by cases h) md_F_finiteQuotient_136
      · exact (lu_0 (Int32.not_le.mp c_17) hn).elim
    | succ n ih =>
      intro z_14 z_15 z_16 ls hn hl
      refine lv_iload hx hb md_F_finiteQuotient_59 (lv_at hl 0 rfl) ?_
      refine lv_bipush (v := 6) hx hb md_F_finiteQuotient_61 (by decide) ?_
      refine lv_icmp_ge (tgt := 99) hx hb md_F_finiteQuotient_63 (by decide) (fun c_26 => ?_) (fun c_26 => ?_)
      · refine lv_aload_n hx hb md_F_finiteQuotient_99 rfl (lv_at hl 7 rfl) ?_
        refine lv_lload_n hx hb md_F_finiteQuotient_100 rfl (lv_at hl 9 rfl) ?_
        refine vp_callSi (W.runV (C := "NumberProbe$Format") (As := [.long p1]) (rest := []) ⟨hx, hb, hml, hown, hts⟩ (mt_F_exponentOf l ad k hk p1) (cwV 1 hts (gd_V tm_131 tm_133 tm_3 tm_27 tm_134) rfl rfl rfl (by decide +kernel) ⟨Nat.le_of_ble_eq_true rfl, Nat.le_of_ble_eq_true rfl⟩) ⟨fb_E, fw_recv hE hk hS, fun U hU hW => ⟨rfl, fw_use hE hS hU hW⟩⟩ rfl rfl hl.1 rfl (lv_room (Nat.le_of_ble_eq_true rfl)) md_F_finiteQuotient_101 ⟨Nat.zero_le _, Nat.zero_le _⟩) (fun r_27 e_28 => ?_)
        obtain rfl : r_27 = cf_exp k p1 := e_28
        refine lv_iload hx hb md_F_finiteQuotient_104 (lv_at hl 6 rfl) ?_
        refine lv_isub hx hb md_F_finiteQuotient_106 ?_
        refine lv_aload_n hx hb md_F_finiteQuotient_107 rfl (lv_at hl 7 rfl) ?_
        refine lv_lload hx hb md_F_finiteQuotient_108 (lv_at hl 10 rfl) ?_
        refine vp_callSi (W.runV (C := "NumberProbe$Format") (As := [.long p2]) (rest := [.int ((cf_exp k p1) - (cf_wid (cf_sig k p1)))]) ⟨hx, hb, hml, hown, hts⟩ (mt_F_exponentOf l ad k hk p2) (cwV 1 hts (gd_V tm_131 tm_133 tm_3 tm_27 tm_134) rfl rfl rfl (by decide +kernel) ⟨Nat.le_of_ble_eq_true rfl, Nat.le_of_ble_eq_true rfl⟩) ⟨fb_E, fw_recv hE hk hS, fun U hU hW => ⟨rfl, fw_use hE hS hU hW⟩⟩ rfl rfl hl.1 rfl (lv_room (Nat.le_of_ble_eq_true rfl)) md_F_finiteQuotient_110 ⟨Nat.zero_le _, Nat.zero_le _⟩) (fun r_29 e_30 => ?_)
        obtain rfl : r_29 = cf_exp k p2 := e_30
        refine lv_isub hx hb md_F_finiteQuotient_113 ?_
        refine lv_iload hx hb md_F_finiteQuotient_114 (lv_at hl 5 rfl) ?_
        refine lv_iadd hx hb md_F_finiteQuotient_116 ?_
        refine lv_bipush (v := 60) hx hb md_F_finiteQuotient_117 (by decide) ?_
        refine lv_isub hx hb md_F_finiteQuotient_119 ?_
        refine lv_istore (lv' := [(16, .int (((((cf_exp k p1) - (cf_wid (cf_sig k p1))) - (cf_exp k p2)) + (cf_wid (cf_sig k p2))) - 60)), (14, .long z_15), (12, .long z_16), (10, .long (jl_shl (cf_sig k p2) (cf_wid (cf_sig k p2)))), (8, .long (jl_shl (cf_sig k p1) (cf_wid (cf_sig k p1)))), (7, .int (cf_wid (cf_sig k p2))), (6, .int (cf_wid (cf_sig k p1))), (0, .ref (ad k)), (1, .int (jb p0)), (2, .long p1), (4, .long p2)]) hx hb md_F_finiteQuotient_120 hl (by decide) rfl (fun ls hl => ?_)
        refine lv_aload_n hx hb md_F_finiteQuotient_122 rfl (lv_at hl 7 rfl) ?_
        refine lv_iload_n hx hb md_F_finiteQuotient_123 rfl (lv_at hl 8 rfl) ?_
        refine lv_lload hx hb md_F_finiteQuotient_124 (lv_at hl 2 rfl) ?_
        refine lv_lload hx hb md_F_finiteQuotient_126 (lv_at hl 1 rfl) ?_
        refine vp_callSl (W.runS (As := [.long z_16, .long z_15]) (rest := [.int (jb p0), .ref (ad k)]) ⟨hx, hb, hml, hown, hts⟩ (mt_F_withRest l z_16 z_15) (va_cwS 2 hts (gd_S tm_149 tm_150 tm_27 tm_151) rfl rfl rfl (by decide +kernel) ⟨Nat.le_of_ble_eq_true rfl, Nat.le_of_ble_eq_true rfl⟩) ⟨fb_0, fun U hU hW => ⟨rfl, trivial⟩⟩ rfl rfl hl.1 rfl (lv_room (Nat.le_of_ble_eq_true rfl)) md_F_finiteQuotient_128 ⟨Nat.zero_le _, Nat.zero_le _⟩) (fun r_31 e_32 => ?_)
        refine lv_iload hx hb md_F_finiteQuotient_131 (lv_at hl 0 rfl) ?_
        refine vp_callSl (W.runV (C := "NumberProbe$Format") (As := [.int (jb p0), .long r_31, .int (((((cf_exp k p1) - (cf_wid (cf_sig k p1))) - (cf_exp k p2)) + (cf_wid (cf_sig k p2))) - 60)]) (rest := []) ⟨hx, hb, hml, hown, hts⟩ (mt_F_rounded l ad k hk p0 r_31 (((((cf_exp k p1) - (cf_wid (cf_sig k p1))) - (cf_exp k p2)) + (cf_wid (cf_sig k p2))) - 60)) (cwV 3 hts (gd_V tm_152 tm_154 tm_6 tm_27 tm_155) rfl rfl rfl (by decide +kernel) ⟨Nat.le_of_ble_eq_true rfl, Nat.le_of_ble_eq_true rfl⟩) ⟨fb_E, fw_recv hE hk hS, fun U hU hW => ⟨rfl, fw_use hE hS hU hW⟩⟩ rfl rfl hl.1 rfl (lv_room (Nat.le_of_ble_eq_true rfl)) md_F_finiteQuotient_133 ⟨Nat.zero_le _, Nat.zero_le _⟩) (fun r_33 e_34 => ?_)
        exact W.lret (v := r_33) hx hb hr (fun t ht2 _ => ⟨r_33, rfl, trivial, ht2⟩) (fun q h => by cases h) md_F_finiteQuotient_136
      · refine lv_lload hx hb md_F_finiteQuotient_66 (lv_at hl 1 rfl) ?_
        refine lv_bipush (v := 10) hx hb md_F_finiteQuotient_68 (by decide) ?_
        refine lv_lshl (v := jl_shl z_15 10) hx hb md_F_finiteQuotient_70 rfl ?_
        refine lv_lstore (lv' := [(14, .long (jl_shl z_15 10)), (16, .int z_14), (12, .long z_16), (10, .long (jl_shl (cf_sig k p2) (cf_wid (cf_sig k p2)))), (8, .long (jl_shl (cf_sig k p1) (cf_wid (cf_sig k p1)))), (7, .int (cf_wid (cf_sig k p2))), (6, .int (cf_wid (cf_sig k p1))), (0, .ref (ad k)), (1, .int (jb p0)), (2, .long p1), (4, .long p2)]) hx hb md_F_finiteQuotient_71 hl (by decide) rfl (fun ls hl => ?_)
        refine lv_lload hx hb md_F_finiteQuotient_73 (lv_at hl 2 rfl) ?_
        refine lv_bipush (v := 10) hx hb md_F_finiteQuotient_75 (by decide) ?_
        refine lv_lshl (v := jl_shl z_16 10) hx hb md_F_finiteQuotient_77 rfl ?_
        refine lv_lload hx hb md_F_finiteQuotient_78 (lv_at hl 0 rfl) ?_
        refine lv_lload hx hb md_F_finiteQuotient_80 (lv_at hl 3 rfl) ?_
        refine lv_ldiv hx hb md_F_finiteQuotient_82 (fa_wid0 hk hz) ?_
        refine lv_ladd hx hb md_F_finiteQuotient_83 ?_
        refine lv_lstore (lv' := [(12, .long ((jl_shl z_16 10) + ((jl_shl z_15 10) / (jl_shl (cf_sig k p2) (cf_wid (cf_sig k p2)))))), (14, .long (jl_shl z_15 10)), (16, .int z_14), (10, .long (jl_shl (cf_sig k p2) (cf_wid (cf_sig k p2)))), (8, .long (jl_shl (cf_sig k p1) (cf_wid (cf_sig k p1)))), (7, .int (cf_wid (cf_sig k p2))), (6, .int (cf_wid (cf_sig k p1))), (0, .ref (ad k)), (1, .int (jb p0)), (2, .long p1), (4, .long p2)]) hx hb md_F_finiteQuotient_84 hl (by decide) rfl (fun ls hl => ?_)
        refine lv_lload hx hb md_F_finiteQuotient_86 (lv_at hl 1 rfl) ?_
        refine lv_lload hx hb md_F_finiteQuotient_88 (lv_at hl 3 rfl) ?_
        refine lv_lrem hx hb md_F_finiteQuotient_90 (fa_wid0 hk hz) ?_
        refine lv_lstore (lv' := [(14, .long ((jl_shl z_15 10) - (jl_shl z_15 10) / (jl_shl (cf_sig k p2) (cf_wid (cf_sig k p2))) * (jl_shl (cf_sig k p2) (cf_wid (cf_sig k p2))))), (12, .long ((jl_shl z_16 10) + ((jl_shl z_15 10) / (jl_shl (cf_sig k p2) (cf_wid (cf_sig k p2)))))), (16, .int z_14), (10, .long (jl_shl (cf_sig k p2) (cf_wid (cf_sig k p2)))), (8, .long (jl_shl (cf_sig k p1) (cf_wid (cf_sig k p1)))), (7, .int (cf_wid (cf_sig k p2))), (6, .int (cf_wid (cf_sig k p1))), (0, .ref (ad k)), (1, .int (jb p0)), (2, .long p1), (4, .long p2)]) hx hb md_F_finiteQuotient_91 hl (by decide) rfl (fun ls hl => ?_)
        refine lv_iinc (v := z_14 + 1) (lv' := [(16, .int (z_14 + 1)), (14, .long ((jl_shl z_15 10) - (jl_shl z_15 10) / (jl_shl (cf_sig k p2) (cf_wid (cf_sig k p2))) * (jl_shl (cf_sig k p2) (cf_wid (cf_sig k p2))))), (12, .long ((jl_shl z_16 10) + ((jl_shl z_15 10) / (jl_shl (cf_sig k p2) (cf_wid (cf_sig k p2)))))), (10, .long (jl_shl (cf_sig k p2) (cf_wid (cf_sig k p2)))), (8, .long (jl_shl (cf_sig k p1) (cf_wid (cf_sig k p1)))), (7, .int (cf_wid (cf_sig k p2))), (6, .int (cf_wid (cf_sig k p1))), (0, .ref (ad k)), (1, .int (jb p0)), (2, .long p1), (4, .long p2)]) hx hb md_F_finiteQuotient_93 hl (k := 2) rfl rfl (by decide) rfl (fun ls hl => ?_)
        refine lv_goto (tgt := 59) hx hb md_F_finiteQuotient_96 (by decide) ?_
        exact ih (z_14 + 1) ((jl_shl z_15 10) - (jl_shl z_15 10) / (jl_shl (cf_sig k p2) (cf_wid (cf_sig k p2))) * (jl_shl (cf_sig k p2) (cf_wid (cf_sig k p2)))) ((jl_shl z_16 10) + ((jl_shl z_15 10) / (jl_shl (cf_sig k p2) (cf_wid (cf_sig k p2))))) ls (lu_s (Int32.not_le.mp c_26) hn) (lv_sub hl [0, 1, 2, 3, 4, 5, 6, 7, 8, 9, 10] rfl)
  exact L_13 _ 0 ((jl_shl (cf_sig k p1) (cf_wid (cf_sig k p1))) - (jl_shl (cf_sig k p1) (cf_wid (cf_sig k p1))) / (jl_shl (cf_sig k p2) (cf_wid (cf_sig k p2))) * (jl_shl (cf_sig k p2) (cf_wid (cf_sig k p2)))) ((jl_shl (cf_sig k p1) (cf_wid (cf_sig k p1))) / (jl_shl (cf_sig k p2) (cf_wid (cf_sig k p2)))) ls (Nat.le_refl _) (lv_sub hl [0, 1, 2, 3, 4, 5, 6, 7, 8, 9, 10] rfl)
set_option maxHeartbeats 4000000 in
set_option maxRecDepth 100000 in
theorem mt_F_quotient (l : Launch) (ad : Nat → Nat) (k : Nat) (hk : k < 2) (p0 : Int64) (p1 : Int64) : Met l my_F_quotient mw_F_quotient ({ frames := 4, cells := 0, slots := 0, locals := 109 } : Room) (va_Pc [.ref (ad k), .long p0, .long p1] (fun U => FW ad (fun _ => False) U U.heap)) (vp_Sl (fun _ => True)) 0 0 (fun _ => False) := by
  refine Met.ofW (cc := mc_F_quotient) (maxL := 6) (ret := (some .long)) (by decide) rfl ?_
  intro p e s m args below meth c s₁ B hml hv
  obtain ⟨rfl, hE⟩ := hv
  have hx := B.exec
  have hb := B.bytes
  have hr := B.returns
  have hts := atoms_spec (ws := mw_F_quotient) B.pre
  have ht : ∀ w ∈ gw_tbl, w.before _ s = true := fun w h => hts w (List.mem_cons_of_mem _ h)
  have hown : s.vm.findClass "NumberProbe$Format" = some m.cls := findClass_of_methodNamed B.named
  have hlocks := B.notSynchronized
  have hS : va_S (fun _ => False) s.heap s.heap [] := va_S.rf
  have hl := lv_entry ([.ref (ad k), .long p0, .long p1]) (n := 6) (Nat.le_of_ble_eq_true rfl)
  rw [lg_entry_eq]
  generalize (lg_sl ([.ref (ad k), .long p0, .long p1]) ++ List.replicate (6 - (lg_sl ([.ref (ad k), .long p0, .long p1])).length) Slot.unset).toArray = ls at hl ⊢
  have hl : lv_has ls 6 [(0, .ref (ad k)), (1, .long p0), (3, .long p1)] := hl
  refine lv_lload_n hx hb md_F_quotient_0 rfl (lv_at hl 1 rfl) ?_
  refine lv_lconst (v := 0) hx hb md_F_quotient_1 (by decide) ?_
  refine W.lcmp hx hb md_F_quotient_2 ?_
  have J_2 : ∀ (z_3 : Bool) (ls : Array Slot), lv_has ls 6 [(0, .ref (ad k)), (1, .long p0), (3, .long p1)] → WP p l e mw_F_quotient ({ frames := 4, cells := 0, slots := 0, locals := 109 } : Room) s m [.ref (ad k), .long p0, .long p1] below meth c (vp_Sl (fun _ => True)) (F0 m 11 ls [.int (jb z_3)]) := by
    intro z_3 ls hl
    refine lv_lload_n hx hb md_F_quotient_11 rfl (lv_at hl 2 rfl) ?_
    refine lv_lconst (v := 0) hx hb md_F_quotient_12 (by decide) ?_
    refine W.lcmp hx hb md_F_quotient_13 ?_
    have J_5 : ∀ (z_6 : Bool) (ls : Array Slot), lv_has ls 6 [(0, .ref (ad k)), (1, .long p0), (3, .long p1)] → WP p l e mw_F_quotient ({ frames := 4, cells := 0, slots := 0, locals := 109 } : Room) s m [.ref (ad k), .long p0, .long p1] below meth c (vp_Sl (fun _ => True)) (F0 m 22 ls [.int (jb z_6), .int (jb z_3)]) := by
      intro z_6 ls hl
      have J_8 : ∀ (z_9 : Bool) (ls : Array Slot), lv_has ls 6 [(0, .ref (ad k)), (1, .long p0), (3, .long p1)] → WP p l e mw_F_quotient ({ frames := 4, cells := 0, slots := 0, locals := 109 } : Room) s m [.ref (ad k), .long p0, .long p1] below meth c (vp_Sl (fun _ => True)) (F0 m 30 ls [.int (jb z_9)]) := by
        intro z_9 ls hl
        refine lv_istore (lv' := [(5, .int (jb z_9)), (0, .ref (ad k)), (1, .long p0), (3, .long p1)]) hx hb md_F_quotient_30 hl (by decide) rfl (fun ls hl => ?_)
        refine lv_aload_n hx hb md_F_quotient_32 rfl (lv_at hl 1 rfl) ?_
        refine lv_lload_n hx hb md_F_quotient_33 rfl (lv_at hl 2 rfl) ?_
        refine vp_callSi (W.runV (C := "NumberProbe$Format") (As := [.long p0]) (rest := []) ⟨hx, hb, hml, hown, hts⟩ (mt_F_isNaN l ad k hk p0) (cwV 1 hts (gd_V tm_67 tm_68 tm_69 tm_27 tm_70) rfl rfl rfl (by decide +kernel) ⟨Nat.le_of_ble_eq_true rfl, Nat.le_of_ble_eq_true rfl⟩) ⟨fb_E, fw_recv hE hk hS, fun U hU hW => ⟨rfl, fw_use hE hS hU hW⟩⟩ rfl rfl hl.1 rfl (lv_room (Nat.le_of_ble_eq_true rfl)) md_F_quotient_34 ⟨Nat.zero_le _, Nat.zero_le _⟩) (fun r_10 e_11 => ?_)
        obtain rfl : r_10 = jb (cf_nan k p0) := e_11
        refine lv_if_ne (tgt := 80) hx hb md_F_quotient_37 (by decide) (fun c_12 => ?_) (fun c_12 => ?_)
        · refine lv_aload_n hx hb md_F_quotient_80 rfl (lv_at hl 1 rfl) ?_
          refine va_getX hx hb hE.2.2.2.2.2.2.1 hk hS hown (ht _ tm_550) (fun _ h9 => h9) md_F_quotient_81 ?_
          exact W.lret (v := kf_n k) hx hb hr (fun t ht2 _ => ⟨(kf_n k), rfl, trivial, ht2⟩) (fun q h => by cases h) md_F_quotient_84
        · refine lv_aload_n hx hb md_F_quotient_40 rfl (lv_at hl 1 rfl) ?_
          refine lv_lload_n hx hb md_F_quotient_41 rfl (lv_at hl 3 rfl) ?_
          refine vp_callSi (W.runV (C := "NumberProbe$Format") (As := [.long p1]) (rest := []) ⟨hx, hb, hml, hown, hts⟩ (mt_F_isNaN l ad k hk p1) (cwV 1 hts (gd_V tm_67 tm_68 tm_69 tm_27 tm_70) rfl rfl rfl (by decide +kernel) ⟨Nat.le_of_ble_eq_true rfl, Nat.le_of_ble_eq_true rfl⟩) ⟨fb_E, fw_recv hE hk hS, fun U hU hW => ⟨rfl, fw_use hE hS hU hW⟩⟩ rfl rfl hl.1 rfl (lv_room (Nat.le_of_ble_eq_true rfl)) md_F_quotient_42 ⟨Nat.zero_le _, Nat.zero_le _⟩) (fun r_13 e_14 => ?_)
          obtain rfl : r_13 = jb (cf_nan k p1) := e_14
          refine lv_if_ne (tgt := 80) hx hb md_F_quotient_45 (by decide) (fun c_15 => ?_) (fun c_15 => ?_)
          · refine lv_aload_n hx hb md_F_quotient_80 rfl (lv_at hl 1 rfl) ?_
            refine va_getX hx hb hE.2.2.2.2.2.2.1 hk hS hown (ht _ tm_550) (fun _ h9 => h9) md_F_quotient_81 ?_
            exact W.lret (v := kf_n k) hx hb hr (fun t ht2 _ => ⟨(kf_n k), rfl, trivial, ht2⟩) (fun q h => by cases h) md_F_quotient_84
          · refine lv_aload_n hx hb md_F_quotient_48 rfl (lv_at hl 1 rfl) ?_
            refine lv_lload_n hx hb md_F_quotient_49 rfl (lv_at hl 2 rfl) ?_
            refine vp_callSi (W.runV (C := "NumberProbe$Format") (As := [.long p0]) (rest := []) ⟨hx, hb, hml, hown, hts⟩ (mt_F_isInfinite l ad k hk p0) (cwV 1 hts (gd_V tm_123 tm_125 tm_1 tm_27 tm_126) rfl rfl rfl (by decide +kernel) ⟨Nat.le_of_ble_eq_true rfl, Nat.le_of_ble_eq_true rfl⟩) ⟨fb_E, fw_recv hE hk hS, fun U hU hW => ⟨rfl, fw_use hE hS hU hW⟩⟩ rfl rfl hl.1 rfl (lv_room (Nat.le_of_ble_eq_true rfl)) md_F_quotient_50 ⟨Nat.zero_le _, Nat.zero_le _⟩) (fun r_16 e_17 => ?_)
            obtain rfl : r_16 = jb (cf_inf k p0) := e_17
            refine lv_if_eq (tgt := 64) hx hb md_F_quotient_53 (by decide) (fun c_18 => ?_) (fun c_18 => ?_)
            · refine lv_aload_n hx hb md_F_quotient_64 rfl (lv_at hl 1 rfl) ?_
              refine lv_lload_n hx hb md_F_quotient_65 rfl (lv_at hl 2 rfl) ?_
              refine vp_callSi (W.runV (C := "NumberProbe$Format") (As := [.long p0]) (rest := []) ⟨hx, hb, hml, hown, hts⟩ (mt_F_isZero l ad k hk p0) (cwV 1 hts (gd_V tm_174 tm_176 tm_7 tm_27 tm_177) rfl rfl rfl (by decide +kernel) ⟨Nat.le_of_ble_eq_true rfl, Nat.le_of_ble_eq_true rfl⟩) ⟨fb_E, fw_recv hE hk hS, fun U hU hW => ⟨rfl, fw_use hE hS hU hW⟩⟩ rfl rfl hl.1 rfl (lv_room (Nat.le_of_ble_eq_true rfl)) md_F_quotient_66 ⟨Nat.zero_le _, Nat.zero_le _⟩) (fun r_19 e_20 => ?_)
              obtain rfl : r_19 = jb (cf_zer k p0) := e_20
              refine lv_if_eq (tgt := 85) hx hb md_F_quotient_69 (by decide) (fun c_21 => ?_) (fun c_21 => ?_)
              · refine lv_aload_n hx hb md_F_quotient_85 rfl (lv_at hl 1 rfl) ?_
                refine lv_lload_n hx hb md_F_quotient_86 rfl (lv_at hl 2 rfl) ?_
                refine vp_callSi (W.runV (C := "NumberProbe$Format") (As := [.long p0]) (rest := []) ⟨hx, hb, hml, hown, hts⟩ (mt_F_isInfinite l ad k hk p0) (cwV 1 hts (gd_V tm_123 tm_125 tm_1 tm_27 tm_126) rfl rfl rfl (by decide +kernel) ⟨Nat.le_of_ble_eq_true rfl, Nat.le_of_ble_eq_true rfl⟩) ⟨fb_E, fw_recv hE hk hS, fun U hU hW => ⟨rfl, fw_use hE hS hU hW⟩⟩ rfl rfl hl.1 rfl (lv_room (Nat.le_of_ble_eq_true rfl)) md_F_quotient_87 ⟨Nat.zero_le _, Nat.zero_le _⟩) (fun r_22 e_23 => ?_)
                obtain rfl : r_22 = jb (cf_inf k p0) := e_23
                refine lv_if_ne (tgt := 101) hx hb md_F_quotient_90 (by decide) (fun c_24 => ?_) (fun c_24 => ?_)
                · refine lv_aload_n hx hb md_F_quotient_101 rfl (lv_at hl 1 rfl) ?_
                  refine lv_iload hx hb md_F_quotient_102 (lv_at hl 0 rfl) ?_
                  refine lv_aload_n hx hb md_F_quotient_104 rfl (lv_at hl 1 rfl) ?_
                  refine va_getX hx hb hE.2.2.2.2.2.1 hk hS hown (ht _ tm_549) (fun _ h9 => h9) md_F_quotient_105 ?_
                  refine vp_callSl (W.runV (C := "NumberProbe$Format") (As := [.int (jb z_9), .long (kf_i k)]) (rest := []) ⟨hx, hb, hml, hown, hts⟩ (mt_F_signed l ad k hk z_9 (kf_i k)) (cwV 2 hts (gd_V tm_75 tm_77 tm_0 tm_27 tm_79) rfl rfl rfl (by decide +kernel) ⟨Nat.le_of_ble_eq_true rfl, Nat.le_of_ble_eq_true rfl⟩) ⟨fb_E, fw_recv hE hk hS, fun U hU hW => ⟨rfl, fw_use hE hS hU hW⟩⟩ rfl rfl hl.1 rfl (lv_room (Nat.le_of_ble_eq_true rfl)) md_F_quotient_108 ⟨Nat.zero_le _, Nat.zero_le _⟩) (fun r_25 e_26 => ?_)
                  exact W.lret (v := r_25) hx hb hr (fun t ht2 _ => ⟨r_25, rfl, trivial, ht2⟩) (fun q h => by cases h) md_F_quotient_111
                · refine lv_aload_n hx hb md_F_quotient_93 rfl (lv_at hl 1 rfl) ?_
                  refine lv_lload_n hx hb md_F_quotient_94 rfl (lv_at hl 3 rfl) ?_
                  refine vp_callSi (W.runV (C := "NumberProbe$Format") (As := [.long p1]) (rest := []) ⟨hx, hb, hml, hown, hts⟩ (mt_F_isZero l ad k hk p1) (cwV 1 hts (gd_V tm_174 tm_176 tm_7 tm_27 tm_177) rfl rfl rfl (by decide +kernel) ⟨Nat.le_of_ble_eq_true rfl, Nat.le_of_ble_eq_true rfl⟩) ⟨fb_E, fw_recv hE hk hS, fun U hU hW => ⟨rfl, fw_use hE hS hU hW⟩⟩ rfl rfl hl.1 rfl (lv_room (Nat.le_of_ble_eq_true rfl)) md_F_quotient_95 ⟨Nat.zero_le _, Nat.zero_le _⟩) (fun r_27 e_28 => ?_)
                  obtain rfl : r_27 = jb (cf_zer k p1) := e_28
                  refine lv_if_eq (tgt := 112) hx hb md_F_quotient_98 (by decide) (fun c_29 => ?_) (fun c_29 => ?_)
                  · refine lv_aload_n hx hb md_F_quotient_112 rfl (lv_at hl 1 rfl) ?_
                    refine lv_lload_n hx hb md_F_quotient_113 rfl (lv_at hl 2 rfl) ?_
                    refine vp_callSi (W.runV (C := "NumberProbe$Format") (As := [.long p0]) (rest := []) ⟨hx, hb, hml, hown, hts⟩ (mt_F_isZero l ad k hk p0) (cwV 1 hts (gd_V tm_174 tm_176 tm_7 tm_27 tm_177) rfl rfl rfl (by decide +kernel) ⟨Nat.le_of_ble_eq_true rfl, Nat.le_of_ble_eq_true rfl⟩) ⟨fb_E, fw_recv hE hk hS, fun U hU hW => ⟨rfl, fw_use hE hS hU hW⟩⟩ rfl rfl hl.1 rfl (lv_room (Nat.le_of_ble_eq_true rfl)) md_F_quotient_114 ⟨Nat.zero_le _, Nat.zero_le _⟩) (fun r_30 e_31 => ?_)
                    obtain rfl : r_30 = jb (cf_zer k p0) := e_31
                    refine lv_if_ne (tgt := 128) hx hb md_F_quotient_117 (by decide) (fun c_32 => ?_) (fun c_32 => ?_)
                    · refine lv_aload_n hx hb md_F_quotient_128 rfl (lv_at hl 1 rfl) ?_
                      refine lv_iload hx hb md_F_quotient_129 (lv_at hl 0 rfl) ?_
                      refine lv_lconst (v := 0) hx hb md_F_quotient_131 (by decide) ?_
                      refine vp_callSl (W.runV (C := "NumberProbe$Format") (As := [.int (jb z_9), .long 0]) (rest := []) ⟨hx, hb, hml, hown, hts⟩ (mt_F_signed l ad k hk z_9 0) (cwV 2 hts (gd_V tm_75 tm_77 tm_0 tm_27 tm_79) rfl rfl rfl (by decide +kernel) ⟨Nat.le_of_ble_eq_true rfl, Nat.le_of_ble_eq_true rfl⟩) ⟨fb_E, fw_recv hE hk hS, fun U hU hW => ⟨rfl, fw_use hE hS hU hW⟩⟩ rfl rfl hl.1 rfl (lv_room (Nat.le_of_ble_eq_true rfl)) md_F_quotient_132 ⟨Nat.zero_le _, Nat.zero_le _⟩) (fun r_33 e_34 => ?_)
                      exact W.lret (v := r_33) hx hb hr (fun t ht2 _ => ⟨r_33, rfl, trivial, ht2⟩) (fun q h => by cases h) md_F_quotient_135
                    · refine lv_aload_n hx hb md_F_quotient_120 rfl (lv_at hl 1 rfl) ?_
                      refine lv_lload_n hx hb md_F_quotient_121 rfl (lv_at hl 3 rfl) ?_
                      refine vp_callSi (W.runV (C := "NumberProbe$Format") (As := [.long p1]) (rest := []) ⟨hx, hb, hml, hown, hts⟩ (mt_F_isInfinite l ad k hk p1) (cwV 1 hts (gd_V tm_123 tm_125 tm_1 tm_27 tm_126) rfl rfl rfl (by decide +kernel) ⟨Nat.le_of_ble_eq_true rfl, Nat.le_of_ble_eq_true rfl⟩) ⟨fb_E, fw_recv hE hk hS, fun U hU hW => ⟨rfl, fw_use hE hS hU hW⟩⟩ rfl rfl hl.1 rfl (lv_room (Nat.le_of_ble_eq_true rfl)) md_F_quotient_122 ⟨Nat.zero_le _, Nat.zero_le _⟩) (fun r_35 e_36 => ?_)
                      obtain rfl : r_35 = jb (cf_inf k p1) := e_36
                      refine lv_if_eq (tgt := 136) hx hb md_F_quotient_125 (by decide) (fun c_37 => ?_) (fun c_37 => ?_)
                      · refine lv_aload_n hx hb md_F_quotient_136 rfl (lv_at hl 1 rfl) ?_
                        refine lv_iload hx hb md_F_quotient_137 (lv_at hl 0 rfl) ?_
                        refine lv_lload_n hx hb md_F_quotient_139 rfl (lv_at hl 2 rfl) ?_
                        refine lv_lload_n hx hb md_F_quotient_140 rfl (lv_at hl 3 rfl) ?_
                        refine vp_callSl (W.runV (C := "NumberProbe$Format") (As := [.int (jb z_9), .long p0, .long p1]) (rest := []) ⟨hx, hb, hml, hown, hts⟩ (mt_F_finiteQuotient l ad k hk z_9 p0 p1 (jb_0.mp c_29)) (cwV 3 hts (gd_V tm_193 tm_195 tm_9 tm_27 tm_196) rfl rfl rfl (by decide +kernel) ⟨Nat.le_of_ble_eq_true rfl, Nat.le_of_ble_eq_true rfl⟩) ⟨fb_E, fw_recv hE hk hS, fun U hU hW => ⟨rfl, fw_use hE hS hU hW⟩⟩ rfl rfl hl.1 rfl (lv_room (Nat.le_of_ble_eq_true rfl)) md_F_quotient_141 ⟨Nat.zero_le _, Nat.zero_le _⟩) (fun r_38 e_39 => ?_)
                        exact W.lret (v := r_38) hx hb hr (fun t ht2 _ => ⟨r_38, rfl, trivial, ht2⟩) (fun q h => by cases h) md_F_quotient_144
                      · refine lv_aload_n hx hb md_F_quotient_128 rfl (lv_at hl 1 rfl) ?_
                        refine lv_iload hx hb md_F_quotient_129 (lv_at hl 0 rfl) ?_
                        refine lv_lconst (v := 0) hx hb md_F_quotient_131 (by decide) ?_
                        refine vp_callSl (W.runV (C := "NumberProbe$Format") (As := [.int (jb z_9), .long 0]) (rest := []) ⟨hx, hb, hml, hown, hts⟩ (mt_F_signed l ad k hk z_9 0) (cwV 2 hts (gd_V tm_75 tm_77 tm_0 tm_27 tm_79) rfl rfl rfl (by decide +kernel) ⟨Nat.le_of_ble_eq_true rfl, Nat.le_of_ble_eq_true rfl⟩) ⟨fb_E, fw_recv hE hk hS, fun U hU hW => ⟨rfl, fw_use hE hS hU hW⟩⟩ rfl rfl hl.1 rfl (lv_room (Nat.le_of_ble_eq_true rfl)) md_F_quotient_132 ⟨Nat.zero_le _, Nat.zero_le _⟩) (fun r_40 e_41 => ?_)
                        exact W.lret (v := r_40) hx hb hr (fun t ht2 _ => ⟨r_40, rfl, trivial, ht2⟩) (fun q h => by cases h) md_F_quotient_135
                  · refine lv_aload_n hx hb md_F_quotient_101 rfl (lv_at hl 1 rfl) ?_
                    refine lv_iload hx hb md_F_quotient_102 (lv_at hl 0 rfl) ?_
                    refine lv_aload_n hx hb md_F_quotient_104 rfl (lv_at hl 1 rfl) ?_
                    refine va_getX hx hb hE.2.2.2.2.2.1 hk hS hown (ht _ tm_549) (fun _ h9 => h9) md_F_quotient_105 ?_
                    refine vp_callSl (W.runV (C := "NumberProbe$Format") (As := [.int (jb z_9), .long (kf_i k)]) (rest := []) ⟨hx, hb, hml, hown, hts⟩ (mt_F_signed l ad k hk z_9 (kf_i k)) (cwV 2 hts (gd_V tm_75 tm_77 tm_0 tm_27 tm_79) rfl rfl rfl (by decide +kernel) ⟨Nat.le_of_ble_eq_true rfl, Nat.le_of_ble_eq_true rfl⟩) ⟨fb_E, fw_recv hE hk hS, fun U hU hW => ⟨rfl, fw_use hE hS hU hW⟩⟩ rfl rfl hl.1 rfl (lv_room (Nat.le_of_ble_eq_true rfl)) md_F_quotient_108 ⟨Nat.zero_le _, Nat.zero_le _⟩) (fun r_42 e_43 => ?_)
                    exact W.lret (v := r_42) hx hb hr (fun t ht2 _ => ⟨r_42, rfl, trivial, ht2⟩) (fun q h => by cases h) md_F_quotient_111
              · refine lv_aload_n hx hb md_F_quotient_72 rfl (lv_at hl 1 rfl) ?_
                refine lv_lload_n hx hb md_F_quotient_73 rfl (lv_at hl 3 rfl) ?_
                refine vp_callSi (W.runV (C := "NumberProbe$Format") (As := [.long p1]) (rest := []) ⟨hx, hb, hml, hown, hts⟩ (mt_F_isZero l ad k hk p1) (cwV 1 hts (gd_V tm_174 tm_176 tm_7 tm_27 tm_177) rfl rfl rfl (by decide +kernel) ⟨Nat.le_of_ble_eq_true rfl, Nat.le_of_ble_eq_true rfl⟩) ⟨fb_E, fw_recv hE hk hS, fun U hU hW => ⟨rfl, fw_use hE hS hU hW⟩⟩ rfl rfl hl.1 rfl (lv_room (Nat.le_of_ble_eq_true rfl)) md_F_quotient_74 ⟨Nat.zero_le _, Nat.zero_le _⟩) (fun r_44 e_45 => ?_)
                obtain rfl : r_44 = jb (cf_zer k p1) := e_45
                refine lv_if_eq (tgt := 85) hx hb md_F_quotient_77 (by decide) (fun c_46 => ?_) (fun c_46 => ?_)
                · refine lv_aload_n hx hb md_F_quotient_85 rfl (lv_at hl 1 rfl) ?_
                  refine lv_lload_n hx hb md_F_quotient_86 rfl (lv_at hl 2 rfl) ?_
                  refine vp_callSi (W.runV (C := "NumberProbe$Format") (As := [.long p0]) (rest := []) ⟨hx, hb, hml, hown, hts⟩ (mt_F_isInfinite l ad k hk p0) (cwV 1 hts (gd_V tm_123 tm_125 tm_1 tm_27 tm_126) rfl rfl rfl (by decide +kernel) ⟨Nat.le_of_ble_eq_true rfl, Nat.le_of_ble_eq_true rfl⟩) ⟨fb_E, fw_recv hE hk hS, fun U hU hW => ⟨rfl, fw_use hE hS hU hW⟩⟩ rfl rfl hl.1 rfl (lv_room (Nat.le_of_ble_eq_true rfl)) md_F_quotient_87 ⟨Nat.zero_le _, Nat.zero_le _⟩) (fun r_47 e_48 => ?_)
                  obtain rfl : r_47 = jb (cf_inf k p0) := e_48
                  refine lv_if_ne (tgt := 101) hx hb md_F_quotient_90 (by decide) (fun c_49 => ?_) (fun c_49 => ?_)
                  · refine lv_aload_n hx hb md_F_quotient_101 rfl (lv_at hl 1 rfl) ?_
                    refine lv_iload hx hb md_F_quotient_102 (lv_at hl 0 rfl) ?_
                    refine lv_aload_n hx hb md_F_quotient_104 rfl (lv_at hl 1 rfl) ?_
                    refine va_getX hx hb hE.2.2.2.2.2.1 hk hS hown (ht _ tm_549) (fun _ h9 => h9) md_F_quotient_105 ?_
                    refine vp_callSl (W.runV (C := "NumberProbe$Format") (As := [.int (jb z_9), .long (kf_i k)]) (rest := []) ⟨hx, hb, hml, hown, hts⟩ (mt_F_signed l ad k hk z_9 (kf_i k)) (cwV 2 hts (gd_V tm_75 tm_77 tm_0 tm_27 tm_79) rfl rfl rfl (by decide +kernel) ⟨Nat.le_of_ble_eq_true rfl, Nat.le_of_ble_eq_true rfl⟩) ⟨fb_E, fw_recv hE hk hS, fun U hU hW => ⟨rfl, fw_use hE hS hU hW⟩⟩ rfl rfl hl.1 rfl (lv_room (Nat.le_of_ble_eq_true rfl)) md_F_quotient_108 ⟨Nat.zero_le _, Nat.zero_le _⟩) (fun r_50 e_51 => ?_)
                    exact W.lret (v := r_50) hx hb hr (fun t ht2 _ => ⟨r_50, rfl, trivial, ht2⟩) (fun q h => by cases h) md_F_quotient_111
                  · refine lv_aload_n hx hb md_F_quotient_93 rfl (lv_at hl 1 rfl) ?_
                    refine lv_lload_n hx hb md_F_quotient_94 rfl (lv_at hl 3 rfl) ?_
                    refine vp_callSi (W.runV (C := "NumberProbe$Format") (As := [.long p1]) (rest := []) ⟨hx, hb, hml, hown, hts⟩ (mt_F_isZero l ad k hk p1) (cwV 1 hts (gd_V tm_174 tm_176 tm_7 tm_27 tm_177) rfl rfl rfl (by decide +kernel) ⟨Nat.le_of_ble_eq_true rfl, Nat.le_of_ble_eq_true rfl⟩) ⟨fb_E, fw_recv hE hk hS, fun U hU hW => ⟨rfl, fw_use hE hS hU hW⟩⟩ rfl rfl hl.1 rfl (lv_room (Nat.le_of_ble_eq_true rfl)) md_F_quotient_95 ⟨Nat.zero_le _, Nat.zero_le _⟩) (fun r_52 e_53 => ?_)
                    obtain rfl : r_52 = jb (cf_zer k p1) := e_53
                    refine lv_if_eq (tgt := 112) hx hb md_F_quotient_98 (by decide) (fun c_54 => ?_) (fun c_54 => ?_)
                    · refine lv_aload_n hx hb md_F_quotient_112 rfl (lv_at hl 1 rfl) ?_
                      refine lv_lload_n hx hb md_F_quotient_113 rfl (lv_at hl 2 rfl) ?_
                      refine vp_callSi (W.runV (C := "NumberProbe$Format") (As := [.long p0]) (rest := []) ⟨hx, hb, hml, hown, hts⟩ (mt_F_isZero l ad k hk p0) (cwV 1 hts (gd_V tm_174 tm_176 tm_7 tm_27 tm_177) rfl rfl rfl (by decide +kernel) ⟨Nat.le_of_ble_eq_true rfl, Nat.le_of_ble_eq_true rfl⟩) ⟨fb_E, fw_recv hE hk hS, fun U hU hW => ⟨rfl, fw_use hE hS hU hW⟩⟩ rfl rfl hl.1 rfl (lv_room (Nat.le_of_ble_eq_true rfl)) md_F_quotient_114 ⟨Nat.zero_le _, Nat.zero_le _⟩) (fun r_55 e_56 => ?_)
                      obtain rfl : r_55 = jb (cf_zer k p0) := e_56
                      refine lv_if_ne (tgt := 128) hx hb md_F_quotient_117 (by decide) (fun c_57 => ?_) (fun c_57 => ?_)
                      · refine lv_aload_n hx hb md_F_quotient_128 rfl (lv_at hl 1 rfl) ?_
                        refine lv_iload hx hb md_F_quotient_129 (lv_at hl 0 rfl) ?_
                        refine lv_lconst (v := 0) hx hb md_F_quotient_131 (by decide) ?_
                        refine vp_callSl (W.runV (C := "NumberProbe$Format") (As := [.int (jb z_9), .long 0]) (rest := []) ⟨hx, hb, hml, hown, hts⟩ (mt_F_signed l ad k hk z_9 0) (cwV 2 hts (gd_V tm_75 tm_77 tm_0 tm_27 tm_79) rfl rfl rfl (by decide +kernel) ⟨Nat.le_of_ble_eq_true rfl, Nat.le_of_ble_eq_true rfl⟩) ⟨fb_E, fw_recv hE hk hS, fun U hU hW => ⟨rfl, fw_use hE hS hU hW⟩⟩ rfl rfl hl.1 rfl (lv_room (Nat.le_of_ble_eq_true rfl)) md_F_quotient_132 ⟨Nat.zero_le _, Nat.zero_le _⟩) (fun r_58 e_59 => ?_)
                        exact W.lret (v := r_58) hx hb hr (fun t ht2 _ => ⟨r_58, rfl, trivial, ht2⟩) (fun q h => by cases h) md_F_quotient_135
                      · refine lv_aload_n hx hb md_F_quotient_120 rfl (lv_at hl 1 rfl) ?_
                        refine lv_lload_n hx hb md_F_quotient_121 rfl (lv_at hl 3 rfl) ?_
                        refine vp_callSi (W.runV (C := "NumberProbe$Format") (As := [.long p1]) (rest := []) ⟨hx, hb, hml, hown, hts⟩ (mt_F_isInfinite l ad k hk p1) (cwV 1 hts (gd_V tm_123 tm_125 tm_1 tm_27 tm_126) rfl rfl rfl (by decide +kernel) ⟨Nat.le_of_ble_eq_true rfl, Nat.le_of_ble_eq_true rfl⟩) ⟨fb_E, fw_recv hE hk hS, fun U hU hW => ⟨rfl, fw_use hE hS hU hW⟩⟩ rfl rfl hl.1 rfl (lv_room (Nat.le_of_ble_eq_true rfl)) md_F_quotient_122 ⟨Nat.zero_le _, Nat.zero_le _⟩) (fun r_60 e_61 => ?_)
                        obtain rfl : r_60 = jb (cf_inf k p1) := e_61
                        refine lv_if_eq (tgt := 136) hx hb md_F_quotient_125 (by decide) (fun c_62 => ?_) (fun c_62 => ?_)
                        · refine lv_aload_n hx hb md_F_quotient_136 rfl (lv_at hl 1 rfl) ?_
                          refine lv_iload hx hb md_F_quotient_137 (lv_at hl 0 rfl) ?_
                          refine lv_lload_n hx hb md_F_quotient_139 rfl (lv_at hl 2 rfl) ?_
                          refine lv_lload_n hx hb md_F_quotient_140 rfl (lv_at hl 3 rfl) ?_
                          refine vp_callSl (W.runV (C := "NumberProbe$Format") (As := [.int (jb z_9), .long p0, .long p1]) (rest := []) ⟨hx, hb, hml, hown, hts⟩ (mt_F_finiteQuotient l ad k hk z_9 p0 p1 (jb_0.mp c_54)) (cwV 3 hts (gd_V tm_193 tm_195 tm_9 tm_27 tm_196) rfl rfl rfl (by decide +kernel) ⟨Nat.le_of_ble_eq_true rfl, Nat.le_of_ble_eq_true rfl⟩) ⟨fb_E, fw_recv hE hk hS, fun U hU hW => ⟨rfl, fw_use hE hS hU hW⟩⟩ rfl rfl hl.1 rfl (lv_room (Nat.le_of_ble_eq_true rfl)) md_F_quotient_141 ⟨Nat.zero_le _, Nat.zero_le _⟩) (fun r_63 e_64 => ?_)
                          exact W.lret (v := r_63) hx hb hr (fun t ht2 _ => ⟨r_63, rfl, trivial, ht2⟩) (fun q h => by cases h) md_F_quotient_144
                        · refine lv_aload_n hx hb md_F_quotient_128 rfl (lv_at hl 1 rfl) ?_
                          refine lv_iload hx hb md_F_quotient_129 (lv_at hl 0 rfl) ?_
                          refine lv_lconst (v := 0) hx hb md_F_quotient_131 (by decide) ?_
                          refine vp_callSl (W.runV (C := "NumberProbe$Format") (As := [.int (jb z_9), .long 0]) (rest := []) ⟨hx, hb, hml, hown, hts⟩ (mt_F_signed l ad k hk z_9 0) (cwV 2 hts (gd_V tm_75 tm_77 tm_0 tm_27 tm_79) rfl rfl rfl (by decide +kernel) ⟨Nat.le_of_ble_eq_true rfl, Nat.le_of_ble_eq_true rfl⟩) ⟨fb_E, fw_recv hE hk hS, fun U hU hW => ⟨rfl, fw_use hE hS hU hW⟩⟩ rfl rfl hl.1 rfl (lv_room (Nat.le_of_ble_eq_true rfl)) md_F_quotient_132 ⟨Nat.zero_le _, Nat.zero_le _⟩) (fun r_65 e_66 => ?_)
                          exact W.lret (v := r_65) hx hb hr (fun t ht2 _ => ⟨r_65, rfl, trivial, ht2⟩) (fun q h => by cases h) md_F_quotient_135
                    · refine lv_aload_n hx hb md_F_quotient_101 rfl (lv_at hl 1 rfl) ?_
                      refine lv_iload hx hb md_F_quotient_102 (lv_at hl 0 rfl) ?_
                      refine lv_aload_n hx hb md_F_quotient_104 rfl (lv_at hl 1 rfl) ?_
                      refine va_getX hx hb hE.2.2.2.2.2.1 hk hS hown (ht _ tm_549) (fun _ h9 => h9) md_F_quotient_105 ?_
                      refine vp_callSl (W.runV (C := "NumberProbe$Format") (As := [.int (jb z_9), .long (kf_i k)]) (rest := []) ⟨hx, hb, hml, hown, hts⟩ (mt_F_signed l ad k hk z_9 (kf_i k)) (cwV 2 hts (gd_V tm_75 tm_77 tm_0 tm_27 tm_79) rfl rfl rfl (by decide +kernel) ⟨Nat.le_of_ble_eq_true rfl, Nat.le_of_ble_eq_true rfl⟩) ⟨fb_E, fw_recv hE hk hS, fun U hU hW => ⟨rfl, fw_use hE hS hU hW⟩⟩ rfl rfl hl.1 rfl (lv_room (Nat.le_of_ble_eq_true rfl)) md_F_quotient_108 ⟨Nat.zero_le _, Nat.zero_le _⟩) (fun r_67 e_68 => ?_)
                      exact W.lret (v := r_67) hx hb hr (fun t ht2 _ => ⟨r_67, rfl, trivial, ht2⟩) (fun q h => by cases h) md_F_quotient_111
                · refine lv_aload_n hx hb md_F_quotient_80 rfl (lv_at hl 1 rfl) ?_
                  refine va_getX hx hb hE.2.2.2.2.2.2.1 hk hS hown (ht _ tm_550) (fun _ h9 => h9) md_F_quotient_81 ?_
                  exact W.lret (v := kf_n k) hx hb hr (fun t ht2 _ => ⟨(kf_n k), rfl, trivial, ht2⟩) (fun q h => by cases h) md_F_quotient_84
            · refine lv_aload_n hx hb md_F_quotient_56 rfl (lv_at hl 1 rfl) ?_
              refine lv_lload_n hx hb md_F_quotient_57 rfl (lv_at hl 3 rfl) ?_
              refine vp_callSi (W.runV (C := "NumberProbe$Format") (As := [.long p1]) (rest := []) ⟨hx, hb, hml, hown, hts⟩ (mt_F_isInfinite l ad k hk p1) (cwV 1 hts (gd_V tm_123 tm_125 tm_1 tm_27 tm_126) rfl rfl rfl (by decide +kernel) ⟨Nat.le_of_ble_eq_true rfl, Nat.le_of_ble_eq_true rfl⟩) ⟨fb_E, fw_recv hE hk hS, fun U hU hW => ⟨rfl, fw_use hE hS hU hW⟩⟩ rfl rfl hl.1 rfl (lv_room (Nat.le_of_ble_eq_true rfl)) md_F_quotient_58 ⟨Nat.zero_le _, Nat.zero_le _⟩) (fun r_69 e_70 => ?_)
              obtain rfl : r_69 = jb (cf_inf k p1) := e_70
              refine lv_if_ne (tgt := 80) hx hb md_F_quotient_61 (by decide) (fun c_71 => ?_) (fun c_71 => ?_)
              · refine lv_aload_n hx hb md_F_quotient_80 rfl (lv_at hl 1 rfl) ?_
                refine va_getX hx hb hE.2.2.2.2.2.2.1 hk hS hown (ht _ tm_550) (fun _ h9 => h9) md_F_quotient_81 ?_
                exact W.lret (v := kf_n k) hx hb hr (fun t ht2 _ => ⟨(kf_n k), rfl, trivial, ht2⟩) (fun q h => by cases h) md_F_quotient_84
              · refine lv_aload_n hx hb md_F_quotient_64 rfl (lv_at hl 1 rfl) ?_
                refine lv_lload_n hx hb md_F_quotient_65 rfl (lv_at hl 2 rfl) ?_
                refine vp_callSi (W.runV (C := "NumberProbe$Format") (As := [.long p0]) (rest := []) ⟨hx, hb, hml, hown, hts⟩ (mt_F_isZero l ad k hk p0) (cwV 1 hts (gd_V tm_174 tm_176 tm_7 tm_27 tm_177) rfl rfl rfl (by decide +kernel) ⟨Nat.le_of_ble_eq_true rfl, Nat.le_of_ble_eq_true rfl⟩) ⟨fb_E, fw_recv hE hk hS, fun U hU hW => ⟨rfl, fw_use hE hS hU hW⟩⟩ rfl rfl hl.1 rfl (lv_room (Nat.le_of_ble_eq_true rfl)) md_F_quotient_66 ⟨Nat.zero_le _, Nat.zero_le _⟩) (fun r_72 e_73 => ?_)
                obtain rfl : r_72 = jb (cf_zer k p0) := e_73
                refine lv_if_eq (tgt := 85) hx hb md_F_quotient_69 (by decide) (fun c_74 => ?_) (fun c_74 => ?_)
                · refine lv_aload_n hx hb md_F_quotient_85 rfl (lv_at hl 1 rfl) ?_
                  refine lv_lload_n hx hb md_F_quotient_86 rfl (lv_at hl 2 rfl) ?_
                  refine vp_callSi (W.runV (C := "NumberProbe$Format") (As := [.long p0]) (rest := []) ⟨hx, hb, hml, hown, hts⟩ (mt_F_isInfinite l ad k hk p0) (cwV 1 hts (gd_V tm_123 tm_125 tm_1 tm_27 tm_126) rfl rfl rfl (by decide +kernel) ⟨Nat.le_of_ble_eq_true rfl, Nat.le_of_ble_eq_true rfl⟩) ⟨fb_E, fw_recv hE hk hS, fun U hU hW => ⟨rfl, fw_use hE hS hU hW⟩⟩ rfl rfl hl.1 rfl (lv_room (Nat.le_of_ble_eq_true rfl)) md_F_quotient_87 ⟨Nat.zero_le _, Nat.zero_le _⟩) (fun r_75 e_76 => ?_)
                  obtain rfl : r_75 = jb (cf_inf k p0) := e_76
                  refine lv_if_ne (tgt := 101) hx hb md_F_quotient_90 (by decide) (fun c_77 => ?_) (fun c_77 => ?_)
                  · refine lv_aload_n hx hb md_F_quotient_101 rfl (lv_at hl 1 rfl) ?_
                    refine lv_iload hx hb md_F_quotient_102 (lv_at hl 0 rfl) ?_
                    refine lv_aload_n hx hb md_F_quotient_104 rfl (lv_at hl 1 rfl) ?_
                    refine va_getX hx hb hE.2.2.2.2.2.1 hk hS hown (ht _ tm_549) (fun _ h9 => h9) md_F_quotient_105 ?_
                    refine vp_callSl (W.runV (C := "NumberProbe$Format") (As := [.int (jb z_9), .long (kf_i k)]) (rest := []) ⟨hx, hb, hml, hown, hts⟩ (mt_F_signed l ad k hk z_9 (kf_i k)) (cwV 2 hts (gd_V tm_75 tm_77 tm_0 tm_27 tm_79) rfl rfl rfl (by decide +kernel) ⟨Nat.le_of_ble_eq_true rfl, Nat.le_of_ble_eq_true rfl⟩) ⟨fb_E, fw_recv hE hk hS, fun U hU hW => ⟨rfl, fw_use hE hS hU hW⟩⟩ rfl rfl hl.1 rfl (lv_room (Nat.le_of_ble_eq_true rfl)) md_F_quotient_108 ⟨Nat.zero_le _, Nat.zero_le _⟩) (fun r_78 e_79 => ?_)
                    exact W.lret (v := r_78) hx hb hr (fun t ht2 _ => ⟨r_78, rfl, trivial, ht2⟩) (fun q h => by cases h) md_F_quotient_111
                  · refine lv_aload_n hx hb md_F_quotient_93 rfl (lv_at hl 1 rfl) ?_
                    refine lv_lload_n hx hb md_F_quotient_94 rfl (lv_at hl 3 rfl) ?_
                    refine vp_callSi (W.runV (C := "NumberProbe$Format") (As := [.long p1]) (rest := []) ⟨hx, hb, hml, hown, hts⟩ (mt_F_isZero l ad k hk p1) (cwV 1 hts (gd_V tm_174 tm_176 tm_7 tm_27 tm_177) rfl rfl rfl (by decide +kernel) ⟨Nat.le_of_ble_eq_true rfl, Nat.le_of_ble_eq_true rfl⟩) ⟨fb_E, fw_recv hE hk hS, fun U hU hW => ⟨rfl, fw_use hE hS hU hW⟩⟩ rfl rfl hl.1 rfl (lv_room (Nat.le_of_ble_eq_true rfl)) md_F_quotient_95 ⟨Nat.zero_le _, Nat.zero_le _⟩) (fun r_80 e_81 => ?_)
                    obtain rfl : r_80 = jb (cf_zer k p1) := e_81
                    refine lv_if_eq (tgt := 112) hx hb md_F_quotient_98 (by decide) (fun c_82 => ?_) (fun c_82 => ?_)
                    · refine lv_aload_n hx hb md_F_quotient_112 rfl (lv_at hl 1 rfl) ?_
                      refine lv_lload_n hx hb md_F_quotient_113 rfl (lv_at hl 2 rfl) ?_
                      refine vp_callSi (W.runV (C := "NumberProbe$Format") (As := [.long p0]) (rest := []) ⟨hx, hb, hml, hown, hts⟩ (mt_F_isZero l ad k hk p0) (cwV 1 hts (gd_V tm_174 tm_176 tm_7 tm_27 tm_177) rfl rfl rfl (by decide +kernel) ⟨Nat.le_of_ble_eq_true rfl, Nat.le_of_ble_eq_true rfl⟩) ⟨fb_E, fw_recv hE hk hS, fun U hU hW => ⟨rfl, fw_use hE hS hU hW⟩⟩ rfl rfl hl.1 rfl (lv_room (Nat.le_of_ble_eq_true rfl)) md_F_quotient_114 ⟨Nat.zero_le _, Nat.zero_le _⟩) (fun r_83 e_84 => ?_)
                      obtain rfl : r_83 = jb (cf_zer k p0) := e_84
                      refine lv_if_ne (tgt := 128) hx hb md_F_quotient_117 (by decide) (fun c_85 => ?_) (fun c_85 => ?_)
                      · refine lv_aload_n hx hb md_F_quotient_128 rfl (lv_at hl 1 rfl) ?_
                        refine lv_iload hx hb md_F_quotient_129 (lv_at hl 0 rfl) ?_
                        refine lv_lconst (v := 0) hx hb md_F_quotient_131 (by decide) ?_
                        refine vp_callSl (W.runV (C := "NumberProbe$Format") (As := [.int (jb z_9), .long 0]) (rest := []) ⟨hx, hb, hml, hown, hts⟩ (mt_F_signed l ad k hk z_9 0) (cwV 2 hts (gd_V tm_75 tm_77 tm_0 tm_27 tm_79) rfl rfl rfl (by decide +kernel) ⟨Nat.le_of_ble_eq_true rfl, Nat.le_of_ble_eq_true rfl⟩) ⟨fb_E, fw_recv hE hk hS, fun U hU hW => ⟨rfl, fw_use hE hS hU hW⟩⟩ rfl rfl hl.1 rfl (lv_room (Nat.le_of_ble_eq_true rfl)) md_F_quotient_132 ⟨Nat.zero_le _, Nat.zero_le _⟩) (fun r_86 e_87 => ?_)
                        exact W.lret (v := r_86) hx hb hr (fun t ht2 _ => ⟨r_86, rfl, trivial, ht2⟩) (fun q h => by cases h) md_F_quotient_135
                      · refine lv_aload_n hx hb md_F_quotient_120 rfl (lv_at hl 1 rfl) ?_
                        refine lv_lload_n hx hb md_F_quotient_121 rfl (lv_at hl 3 rfl) ?_
                        refine vp_callSi (W.runV (C := "NumberProbe$Format") (As := [.long p1]) (rest := []) ⟨hx, hb, hml, hown, hts⟩ (mt_F_isInfinite l ad k hk p1) (cwV 1 hts (gd_V tm_123 tm_125 tm_1 tm_27 tm_126) rfl rfl rfl (by decide +kernel) ⟨Nat.le_of_ble_eq_true rfl, Nat.le_of_ble_eq_true rfl⟩) ⟨fb_E, fw_recv hE hk hS, fun U hU hW => ⟨rfl, fw_use hE hS hU hW⟩⟩ rfl rfl hl.1 rfl (lv_room (Nat.le_of_ble_eq_true rfl)) md_F_quotient_122 ⟨Nat.zero_le _, Nat.zero_le _⟩) (fun r_88 e_89 => ?_)
                        obtain rfl : r_88 = jb (cf_inf k p1) := e_89
                        refine lv_if_eq (tgt := 136) hx hb md_F_quotient_125 (by decide) (fun c_90 => ?_) (fun c_90 => ?_)
                        · refine lv_aload_n hx hb md_F_quotient_136 rfl (lv_at hl 1 rfl) ?_
                          refine lv_iload hx hb md_F_quotient_137 (lv_at hl 0 rfl) ?_
                          refine lv_lload_n hx hb md_F_quotient_139 rfl (lv_at hl 2 rfl) ?_
                          refine lv_lload_n hx hb md_F_quotient_140 rfl (lv_at hl 3 rfl) ?_
                          refine vp_callSl (W.runV (C := "NumberProbe$Format") (As := [.int (jb z_9), .long p0, .long p1]) (rest := []) ⟨hx, hb, hml, hown, hts⟩ (mt_F_finiteQuotient l ad k hk z_9 p0 p1 (jb_0.mp c_82)) (cwV 3 hts (gd_V tm_193 tm_195 tm_9 tm_27 tm_196) rfl rfl rfl (by decide +kernel) ⟨Nat.le_of_ble_eq_true rfl, Nat.le_of_ble_eq_true rfl⟩) ⟨fb_E, fw_recv hE hk hS, fun U hU hW => ⟨rfl, fw_use hE hS hU hW⟩⟩ rfl rfl hl.1 rfl (lv_room (Nat.le_of_ble_eq_true rfl)) md_F_quotient_141 ⟨Nat.zero_le _, Nat.zero_le _⟩) (fun r_91 e_92 => ?_)
                          exact W.lret (v := r_91) hx hb hr (fun t ht2 _ => ⟨r_91, rfl, trivial, ht2⟩) (fun q h => by cases h) md_F_quotient_144
                        · refine lv_aload_n hx hb md_F_quotient_128 rfl (lv_at hl 1 rfl) ?_
                          refine lv_iload hx hb md_F_quotient_129 (lv_at hl 0 rfl) ?_
                          refine lv_lconst (v := 0) hx hb md_F_quotient_131 (by decide) ?_
                          refine vp_callSl (W.runV (C := "NumberProbe$Format") (As := [.int (jb z_9), .long 0]) (rest := []) ⟨hx, hb, hml, hown, hts⟩ (mt_F_signed l ad k hk z_9 0) (cwV 2 hts (gd_V tm_75 tm_77 tm_0 tm_27 tm_79) rfl rfl rfl (by decide +kernel) ⟨Nat.le_of_ble_eq_true rfl, Nat.le_of_ble_eq_true rfl⟩) ⟨fb_E, fw_recv hE hk hS, fun U hU hW => ⟨rfl, fw_use hE hS hU hW⟩⟩ rfl rfl hl.1 rfl (lv_room (Nat.le_of_ble_eq_true rfl)) md_F_quotient_132 ⟨Nat.zero_le _, Nat.zero_le _⟩) (fun r_93 e_94 => ?_)
                          exact W.lret (v := r_93) hx hb hr (fun t ht2 _ => ⟨r_93, rfl, trivial, ht2⟩) (fun q h => by cases h) md_F_quotient_135
                    · refine lv_aload_n hx hb md_F_quotient_101 rfl (lv_at hl 1 rfl) ?_
                      refine lv_iload hx hb md_F_quotient_102 (lv_at hl 0 rfl) ?_
                      refine lv_aload_n hx hb md_F_quotient_104 rfl (lv_at hl 1 rfl) ?_
                      refine va_getX hx hb hE.2.2.2.2.2.1 hk hS hown (ht _ tm_549) (fun _ h9 => h9) md_F_quotient_105 ?_
                      refine vp_callSl (W.runV (C := "NumberProbe$Format") (As := [.int (jb z_9), .long (kf_i k)]) (rest := []) ⟨hx, hb, hml, hown, hts⟩ (mt_F_signed l ad k hk z_9 (kf_i k)) (cwV 2 hts (gd_V tm_75 tm_77 tm_0 tm_27 tm_79) rfl rfl rfl (by decide +kernel) ⟨Nat.le_of_ble_eq_true rfl, Nat.le_of_ble_eq_true rfl⟩) ⟨fb_E, fw_recv hE hk hS, fun U hU hW => ⟨rfl, fw_use hE hS hU hW⟩⟩ rfl rfl hl.1 rfl (lv_room (Nat.le_of_ble_eq_true rfl)) md_F_quotient_108 ⟨Nat.zero_le _, Nat.zero_le _⟩) (fun r_95 e_96 => ?_)
                      exact W.lret (v := r_95) hx hb hr (fun t ht2 _ => ⟨r_95, rfl, trivial, ht2⟩) (fun q h => by cases h) md_F_quotient_111
                · refine lv_aload_n hx hb md_F_quotient_72 rfl (lv_at hl 1 rfl) ?_
                  refine lv_lload_n hx hb md_F_quotient_73 rfl (lv_at hl 3 rfl) ?_
                  refine vp_callSi (W.runV (C := "NumberProbe$Format") (As := [.long p1]) (rest := []) ⟨hx, hb, hml, hown, hts⟩ (mt_F_isZero l ad k hk p1) (cwV 1 hts (gd_V tm_174 tm_176 tm_7 tm_27 tm_177) rfl rfl rfl (by decide +kernel) ⟨Nat.le_of_ble_eq_true rfl, Nat.le_of_ble_eq_true rfl⟩) ⟨fb_E, fw_recv hE hk hS, fun U hU hW => ⟨rfl, fw_use hE hS hU hW⟩⟩ rfl rfl hl.1 rfl (lv_room (Nat.le_of_ble_eq_true rfl)) md_F_quotient_74 ⟨Nat.zero_le _, Nat.zero_le _⟩) (fun r_97 e_98 => ?_)
                  obtain rfl : r_97 = jb (cf_zer k p1) := e_98
                  refine lv_if_eq (tgt := 85) hx hb md_F_quotient_77 (by decide) (fun c_99 => ?_) (fun c_99 => ?_)
                  · refine lv_aload_n hx hb md_F_quotient_85 rfl (lv_at hl 1 rfl) ?_
                    refine lv_lload_n hx hb md_F_quotient_86 rfl (lv_at hl 2 rfl) ?_
                    refine vp_callSi (W.runV (C := "NumberProbe$Format") (As := [.long p0]) (rest := []) ⟨hx, hb, hml, hown, hts⟩ (mt_F_isInfinite l ad k hk p0) (cwV 1 hts (gd_V tm_123 tm_125 tm_1 tm_27 tm_126) rfl rfl rfl (by decide +kernel) ⟨Nat.le_of_ble_eq_true rfl, Nat.le_of_ble_eq_true rfl⟩) ⟨fb_E, fw_recv hE hk hS, fun U hU hW => ⟨rfl, fw_use hE hS hU hW⟩⟩ rfl rfl hl.1 rfl (lv_room (Nat.le_of_ble_eq_true rfl)) md_F_quotient_87 ⟨Nat.zero_le _, Nat.zero_le _⟩) (fun r_100 e_101 => ?_)
                    obtain rfl : r_100 = jb (cf_inf k p0) := e_101
                    refine lv_if_ne (tgt := 101) hx hb md_F_quotient_90 (by decide) (fun c_102 => ?_) (fun c_102 => ?_)
                    · refine lv_aload_n hx hb md_F_quotient_101 rfl (lv_at hl 1 rfl) ?_
                      refine lv_iload hx hb md_F_quotient_102 (lv_at hl 0 rfl) ?_
                      refine lv_aload_n hx hb md_F_quotient_104 rfl (lv_at hl 1 rfl) ?_
                      refine va_getX hx hb hE.2.2.2.2.2.1 hk hS hown (ht _ tm_549) (fun _ h9 => h9) md_F_quotient_105 ?_
                      refine vp_callSl (W.runV (C := "NumberProbe$Format") (As := [.int (jb z_9), .long (kf_i k)]) (rest := []) ⟨hx, hb, hml, hown, hts⟩ (mt_F_signed l ad k hk z_9 (kf_i k)) (cwV 2 hts (gd_V tm_75 tm_77 tm_0 tm_27 tm_79) rfl rfl rfl (by decide +kernel) ⟨Nat.le_of_ble_eq_true rfl, Nat.le_of_ble_eq_true rfl⟩) ⟨fb_E, fw_recv hE hk hS, fun U hU hW => ⟨rfl, fw_use hE hS hU hW⟩⟩ rfl rfl hl.1 rfl (lv_room (Nat.le_of_ble_eq_true rfl)) md_F_quotient_108 ⟨Nat.zero_le _, Nat.zero_le _⟩) (fun r_103 e_104 => ?_)
                      exact W.lret (v := r_103) hx hb hr (fun t ht2 _ => ⟨r_103, rfl, trivial, ht2⟩) (fun q h => by cases h) md_F_quotient_111
                    · refine lv_aload_n hx hb md_F_quotient_93 rfl (lv_at hl 1 rfl) ?_
                      refine lv_lload_n hx hb md_F_quotient_94 rfl (lv_at hl 3 rfl) ?_
                      refine vp_callSi (W.runV (C := "NumberProbe$Format") (As := [.long p1]) (rest := []) ⟨hx, hb, hml, hown, hts⟩ (mt_F_isZero l ad k hk p1) (cwV 1 hts (gd_V tm_174 tm_176 tm_7 tm_27 tm_177) rfl rfl rfl (by decide +kernel) ⟨Nat.le_of_ble_eq_true rfl, Nat.le_of_ble_eq_true rfl⟩) ⟨fb_E, fw_recv hE hk hS, fun U hU hW => ⟨rfl, fw_use hE hS hU hW⟩⟩ rfl rfl hl.1 rfl (lv_room (Nat.le_of_ble_eq_true rfl)) md_F_quotient_95 ⟨Nat.zero_le _, Nat.zero_le _⟩) (fun r_105 e_106 => ?_)
                      obtain rfl : r_105 = jb (cf_zer k p1) := e_106
                      refine lv_if_eq (tgt := 112) hx hb md_F_quotient_98 (by decide) (fun c_107 => ?_) (fun c_107 => ?_)
                      · refine lv_aload_n hx hb md_F_quotient_112 rfl (lv_at hl 1 rfl) ?_
                        refine lv_lload_n hx hb md_F_quotient_113 rfl (lv_at hl 2 rfl) ?_
                        refine vp_callSi (W.runV (C := "NumberProbe$Format") (As := [.long p0]) (rest := []) ⟨hx, hb, hml, hown, hts⟩ (mt_F_isZero l ad k hk p0) (cwV 1 hts (gd_V tm_174 tm_176 tm_7 tm_27 tm_177) rfl rfl rfl (by decide +kernel) ⟨Nat.le_of_ble_eq_true rfl, Nat.le_of_ble_eq_true rfl⟩) ⟨fb_E, fw_recv hE hk hS, fun U hU hW => ⟨rfl, fw_use hE hS hU hW⟩⟩ rfl rfl hl.1 rfl (lv_room (Nat.le_of_ble_eq_true rfl)) md_F_quotient_114 ⟨Nat.zero_le _, Nat.zero_le _⟩) (fun r_108 e_109 => ?_)
                        obtain rfl : r_108 = jb (cf_zer k p0) := e_109
                        refine lv_if_ne (tgt := 128) hx hb md_F_quotient_117 (by decide) (fun c_110 => ?_) (fun c_110 => ?_)
                        · refine lv_aload_n hx hb md_F_quotient_128 rfl (lv_at hl 1 rfl) ?_
                          refine lv_iload hx hb md_F_quotient_129 (lv_at hl 0 rfl) ?_
                          refine lv_lconst (v := 0) hx hb md_F_quotient_131 (by decide) ?_
                          refine vp_callSl (W.runV (C := "NumberProbe$Format") (As := [.int (jb z_9), .long 0]) (rest := []) ⟨hx, hb, hml, hown, hts⟩ (mt_F_signed l ad k hk z_9 0) (cwV 2 hts (gd_V tm_75 tm_77 tm_0 tm_27 tm_79) rfl rfl rfl (by decide +kernel) ⟨Nat.le_of_ble_eq_true rfl, Nat.le_of_ble_eq_true rfl⟩) ⟨fb_E, fw_recv hE hk hS, fun U hU hW => ⟨rfl, fw_use hE hS hU hW⟩⟩ rfl rfl hl.1 rfl (lv_room (Nat.le_of_ble_eq_true rfl)) md_F_quotient_132 ⟨Nat.zero_le _, Nat.zero_le _⟩) (fun r_111 e_112 => ?_)
                          exact W.lret (v := r_111) hx hb hr (fun t ht2 _ => ⟨r_111, rfl, trivial, ht2⟩) (fun q h => by cases h) md_F_quotient_135
                        · refine lv_aload_n hx hb md_F_quotient_120 rfl (lv_at hl 1 rfl) ?_
                          refine lv_lload_n hx hb md_F_quotient_121 rfl (lv_at hl 3 rfl) ?_
                          refine vp_callSi (W.runV (C := "NumberProbe$Format") (As := [.long p1]) (rest := []) ⟨hx, hb, hml, hown, hts⟩ (mt_F_isInfinite l ad k hk p1) (cwV 1 hts (gd_V tm_123 tm_125 tm_1 tm_27 tm_126) rfl rfl rfl (by decide +kernel) ⟨Nat.le_of_ble_eq_true rfl, Nat.le_of_ble_eq_true rfl⟩) ⟨fb_E, fw_recv hE hk hS, fun U hU hW => ⟨rfl, fw_use hE hS hU hW⟩⟩ rfl rfl hl.1 rfl (lv_room (Nat.le_of_ble_eq_true rfl)) md_F_quotient_122 ⟨Nat.zero_le _, Nat.zero_le _⟩) (fun r_113 e_114 => ?_)
                          obtain rfl : r_113 = jb (cf_inf k p1) := e_114
                          refine lv_if_eq (tgt := 136) hx hb md_F_quotient_125 (by decide) (fun c_115 => ?_) (fun c_115 => ?_)
                          · refine lv_aload_n hx hb md_F_quotient_136 rfl (lv_at hl 1 rfl) ?_
                            refine lv_iload hx hb md_F_quotient_137 (lv_at hl 0 rfl) ?_
                            refine lv_lload_n hx hb md_F_quotient_139 rfl (lv_at hl 2 rfl) ?_
                            refine lv_lload_n hx hb md_F_quotient_140 rfl (lv_at hl 3 rfl) ?_
                            refine vp_callSl (W.runV (C := "NumberProbe$Format") (As := [.int (jb z_9), .long p0, .long p1]) (rest := []) ⟨hx, hb, hml, hown, hts⟩ (mt_F_finiteQuotient l ad k hk z_9 p0 p1 (jb_0.mp c_107)) (cwV 3 hts (gd_V tm_193 tm_195 tm_9 tm_27 tm_196) rfl rfl rfl (by decide +kernel) ⟨Nat.le_of_ble_eq_true rfl, Nat.le_of_ble_eq_true rfl⟩) ⟨fb_E, fw_recv hE hk hS, fun U hU hW => ⟨rfl, fw_use hE hS hU hW⟩⟩ rfl rfl hl.1 rfl (lv_room (Nat.le_of_ble_eq_true rfl)) md_F_quotient_141 ⟨Nat.zero_le _, Nat.zero_le _⟩) (fun r_116 e_117 => ?_)
                            exact W.lret (v := r_116) hx hb hr (fun t ht2 _ => ⟨r_116, rfl, trivial, ht2⟩) (fun q h => by cases h) md_F_quotient_144
                          · refine lv_aload_n hx hb md_F_quotient_128 rfl (lv_at hl 1 rfl) ?_
                            refine lv_iload hx hb md_F_quotient_129 (lv_at hl 0 rfl) ?_
                            refine lv_lconst (v := 0) hx hb md_F_quotient_131 (by decide) ?_
                            refine vp_callSl (W.runV (C := "NumberProbe$Format") (As := [.int (jb z_9), .long 0]) (rest := []) ⟨hx, hb, hml, hown, hts⟩ (mt_F_signed l ad k hk z_9 0) (cwV 2 hts (gd_V tm_75 tm_77 tm_0 tm_27 tm_79) rfl rfl rfl (by decide +kernel) ⟨Nat.le_of_ble_eq_true rfl, Nat.le_of_ble_eq_true rfl⟩) ⟨fb_E, fw_recv hE hk hS, fun U hU hW => ⟨rfl, fw_use hE hS hU hW⟩⟩ rfl rfl hl.1 rfl (lv_room (Nat.le_of_ble_eq_true rfl)) md_F_quotient_132 ⟨Nat.zero_le _, Nat.zero_le _⟩) (fun r_118 e_119 => ?_)
                            exact W.lret (v := r_118) hx hb hr (fun t ht2 _ => ⟨r_118, rfl, trivial, ht2⟩) (fun q h => by cases h) md_F_quotient_135
                      · refine lv_aload_n hx hb md_F_quotient_101 rfl (lv_at hl 1 rfl) ?_
                        refine lv_iload hx hb md_F_quotient_102 (lv_at hl 0 rfl) ?_
                        refine lv_aload_n hx hb md_F_quotient_104 rfl (lv_at hl 1 rfl) ?_
                        refine va_getX hx hb hE.2.2.2.2.2.1 hk hS hown (ht _ tm_549) (fun _ h9 => h9) md_F_quotient_105 ?_
                        refine vp_callSl (W.runV (C := "NumberProbe$Format") (As := [.int (jb z_9), .long (kf_i k)]) (rest := []) ⟨hx, hb, hml, hown, hts⟩ (mt_F_signed l ad k hk z_9 (kf_i k)) (cwV 2 hts (gd_V tm_75 tm_77 tm_0 tm_27 tm_79) rfl rfl rfl (by decide +kernel) ⟨Nat.le_of_ble_eq_true rfl, Nat.le_of_ble_eq_true rfl⟩) ⟨fb_E, fw_recv hE hk hS, fun U hU hW => ⟨rfl, fw_use hE hS hU hW⟩⟩ rfl rfl hl.1 rfl (lv_room (Nat.le_of_ble_eq_true rfl)) md_F_quotient_108 ⟨Nat.zero_le _, Nat.zero_le _⟩) (fun r_120 e_121 => ?_)
                        exact W.lret (v := r_120) hx hb hr (fun t ht2 _ => ⟨r_120, rfl, trivial, ht2⟩) (fun q h => by cases h) md_F_quotient_111
                  · refine lv_aload_n hx hb md_F_quotient_80 rfl (lv_at hl 1 rfl) ?_
                    refine va_getX hx hb hE.2.2.2.2.2.2.1 hk hS hown (ht _ tm_550) (fun _ h9 => h9) md_F_quotient_81 ?_
                    exact W.lret (v := kf_n k) hx hb hr (fun t ht2 _ => ⟨(kf_n k), rfl, trivial, ht2⟩) (fun q h => by cases h) md_F_quotient_84
      refine lv_icmp_eq (tgt := 29) hx hb md_F_quotient_22 (by decide) (fun c_7 => ?_) (fun c_7 => ?_)
      · refine lv_iconst (v := 0) hx hb md_F_quotient_29 (by decide) ?_
        exact J_8 false ls (lv_sub hl [0, 1, 2] rfl)
      · refine lv_iconst (v := 1) hx hb md_F_quotient_25 (by decide) ?_
        refine lv_goto (tgt := 30) hx hb md_F_quotient_26 (by decide) ?_
        exact J_8 true ls (lv_sub hl [0, 1, 2] rfl)
    refine lv_if_ge (tgt := 21) hx hb md_F_quotient_14 (by decide) (fun c_4 => ?_) (fun c_4 => ?_)
    · refine lv_iconst (v := 0) hx hb md_F_quotient_21 (by decide) ?_
      exact J_5 false ls (lv_sub hl [0, 1, 2] rfl)
    · refine lv_iconst (v := 1) hx hb md_F_quotient_17 (by decide) ?_
      refine lv_goto (tgt := 22) hx hb md_F_quotient_18 (by decide) ?_
      exact J_5 true ls (lv_sub hl [0, 1, 2] rfl)
  refine lv_if_ge (tgt := 10) hx hb md_F_quotient_3 (by decide) (fun c_1 => ?_) (fun c_1 => ?_)
  · refine lv_iconst (v := 0) hx hb md_F_quotient_10 (by decide) ?_
    exact J_2 false ls (lv_sub hl [0, 1, 2] rfl)
  · refine lv_iconst (v := 1) hx hb md_F_quotient_6 (by decide) ?_
    refine lv_goto (tgt := 11) hx hb md_F_quotient_7 (by decide) ?_
    exact J_2 true ls (lv_sub hl [0, 1, 2] rfl)
set_option maxHeartbeats 4000000 in
set_option maxRecDepth 100000 in
theorem mt_F_remainder (l : Launch) (ad : Nat → Nat) (k : Nat) (hk : k < 2) (p0 : Int64) (p1 : Int64) : Met l my_F_remainder mw_F_remainder ({ frames := 3, cells := 0, slots := 0, locals := 73 } : Room) (va_Pc [.ref (ad k), .long p0, .long p1] (fun U => FW ad (fun _ => False) U U.heap)) (vp_Sl (fun _ => True)) 0 0 (fun _ => False) := by
  refine Met.ofW (cc := mc_F_remainder) (maxL := 10) (ret := (some .long)) (by decide) rfl ?_
  intro p e s m args below meth c s₁ B hml hv
  obtain ⟨rfl, hE⟩ := hv
  have hx := B.exec
  have hb := B.bytes
  have hr := B.returns
  have hts := atoms_spec (ws := mw_F_remainder) B.pre
  have ht : ∀ w ∈ gw_tbl, w.before _ s = true := fun w h => hts w (List.mem_cons_of_mem _ h)
  have hown : s.vm.findClass "NumberProbe$Format" = some m.cls := findClass_of_methodNamed B.named
  have hlocks := B.notSynchronized
  have hS : va_S (fun _ => False) s.heap s.heap [] := va_S.rf
  have hl := lv_entry ([.ref (ad k), .long p0, .long p1]) (n := 10) (Nat.le_of_ble_eq_true rfl)
  rw [lg_entry_eq]
  generalize (lg_sl ([.ref (ad k), .long p0, .long p1]) ++ List.replicate (10 - (lg_sl ([.ref (ad k), .long p0, .long p1])).length) Slot.unset).toArray = ls at hl ⊢
  have hl : lv_has ls 10 [(0, .ref (ad k)), (1, .long p0), (3, .long p1)] := hl
  refine lv_aload_n hx hb md_F_remainder_0 rfl (lv_at hl 0 rfl) ?_
  refine lv_lload_n hx hb md_F_remainder_1 rfl (lv_at hl 1 rfl) ?_
  refine vp_callSi (W.runV (C := "NumberProbe$Format") (As := [.long p0]) (rest := []) ⟨hx, hb, hml, hown, hts⟩ (mt_F_isNaN l ad k hk p0) (cwV 1 hts (gd_V tm_67 tm_68 tm_69 tm_27 tm_70) rfl rfl rfl (by decide +kernel) ⟨Nat.le_of_ble_eq_true rfl, Nat.le_of_ble_eq_true rfl⟩) ⟨fb_E, fw_recv hE hk hS, fun U hU hW => ⟨rfl, fw_use hE hS hU hW⟩⟩ rfl rfl hl.1 rfl (lv_room (Nat.le_of_ble_eq_true rfl)) md_F_remainder_2 ⟨Nat.zero_le _, Nat.zero_le _⟩) (fun r_1 e_2 => ?_)
  obtain rfl : r_1 = jb (cf_nan k p0) := e_2
  refine lv_if_ne (tgt := 32) hx hb md_F_remainder_5 (by decide) (fun c_3 => ?_) (fun c_3 => ?_)
  · refine lv_aload_n hx hb md_F_remainder_32 rfl (lv_at hl 0 rfl) ?_
    refine va_getX hx hb hE.2.2.2.2.2.2.1 hk hS hown (ht _ tm_550) (fun _ h9 => h9) md_F_remainder_33 ?_
    exact W.lret (v := kf_n k) hx hb hr (fun t ht2 _ => ⟨(kf_n k), rfl, trivial, ht2⟩) (fun q h => by cases h) md_F_remainder_36
  · refine lv_aload_n hx hb md_F_remainder_8 rfl (lv_at hl 0 rfl) ?_
    refine lv_lload_n hx hb md_F_remainder_9 rfl (lv_at hl 2 rfl) ?_
    refine vp_callSi (W.runV (C := "NumberProbe$Format") (As := [.long p1]) (rest := []) ⟨hx, hb, hml, hown, hts⟩ (mt_F_isNaN l ad k hk p1) (cwV 1 hts (gd_V tm_67 tm_68 tm_69 tm_27 tm_70) rfl rfl rfl (by decide +kernel) ⟨Nat.le_of_ble_eq_true rfl, Nat.le_of_ble_eq_true rfl⟩) ⟨fb_E, fw_recv hE hk hS, fun U hU hW => ⟨rfl, fw_use hE hS hU hW⟩⟩ rfl rfl hl.1 rfl (lv_room (Nat.le_of_ble_eq_true rfl)) md_F_remainder_10 ⟨Nat.zero_le _, Nat.zero_le _⟩) (fun r_4 e_5 => ?_)
    obtain rfl : r_4 = jb (cf_nan k p1) := e_5
    refine lv_if_ne (tgt := 32) hx hb md_F_remainder_13 (by decide) (fun c_6 => ?_) (fun c_6 => ?_)
    · refine lv_aload_n hx hb md_F_remainder_32 rfl (lv_at hl 0 rfl) ?_
      refine va_getX hx hb hE.2.2.2.2.2.2.1 hk hS hown (ht _ tm_550) (fun _ h9 => h9) md_F_remainder_33 ?_
      exact W.lret (v := kf_n k) hx hb hr (fun t ht2 _ => ⟨(kf_n k), rfl, trivial, ht2⟩) (fun q h => by cases h) md_F_remainder_36
    · refine lv_aload_n hx hb md_F_remainder_16 rfl (lv_at hl 0 rfl) ?_
      refine lv_lload_n hx hb md_F_remainder_17 rfl (lv_at hl 1 rfl) ?_
      refine vp_callSi (W.runV (C := "NumberProbe$Format") (As := [.long p0]) (rest := []) ⟨hx, hb, hml, hown, hts⟩ (mt_F_isInfinite l ad k hk p0) (cwV 1 hts (gd_V tm_123 tm_125 tm_1 tm_27 tm_126) rfl rfl rfl (by decide +kernel) ⟨Nat.le_of_ble_eq_true rfl, Nat.le_of_ble_eq_true rfl⟩) ⟨fb_E, fw_recv hE hk hS, fun U hU hW => ⟨rfl, fw_use hE hS hU hW⟩⟩ rfl rfl hl.1 rfl (lv_room (Nat.le_of_ble_eq_true rfl)) md_F_remainder_18 ⟨Nat.zero_le _, Nat.zero_le _⟩) (fun r_7 e_8 => ?_)
      obtain rfl : r_7 = jb (cf_inf k p0) := e_8
      refine lv_if_ne (tgt := 32) hx hb md_F_remainder_21 (by decide) (fun c_9 => ?_) (fun c_9 => ?_)
      · refine lv_aload_n hx hb md_F_remainder_32 rfl (lv_at hl 0 rfl) ?_
        refine va_getX hx hb hE.2.2.2.2.2.2.1 hk hS hown (ht _ tm_550) (fun _ h9 => h9) md_F_remainder_33 ?_
        exact W.lret (v := kf_n k) hx hb hr (fun t ht2 _ => ⟨(kf_n k), rfl, trivial, ht2⟩) (fun q h => by cases h) md_F_remainder_36
      · refine lv_aload_n hx hb md_F_remainder_24 rfl (lv_at hl 0 rfl) ?_
        refine lv_lload_n hx hb md_F_remainder_25 rfl (lv_at hl 2 rfl) ?_
        refine vp_callSi (W.runV (C := "NumberProbe$Format") (As := [.long p1]) (rest := []) ⟨hx, hb, hml, hown, hts⟩ (mt_F_isZero l ad k hk p1) (cwV 1 hts (gd_V tm_174 tm_176 tm_7 tm_27 tm_177) rfl rfl rfl (by decide +kernel) ⟨Nat.le_of_ble_eq_true rfl, Nat.le_of_ble_eq_true rfl⟩) ⟨fb_E, fw_recv hE hk hS, fun U hU hW => ⟨rfl, fw_use hE hS hU hW⟩⟩ rfl rfl hl.1 rfl (lv_room (Nat.le_of_ble_eq_true rfl)) md_F_remainder_26 ⟨Nat.zero_le _, Nat.zero_le _⟩) (fun r_10 e_11 => ?_)
        obtain rfl : r_10 = jb (cf_zer k p1) := e_11
        refine lv_if_eq (tgt := 37) hx hb md_F_remainder_29 (by decide) (fun c_12 => ?_) (fun c_12 => ?_)
        · refine lv_aload_n hx hb md_F_remainder_37 rfl (lv_at hl 0 rfl) ?_
          refine lv_lload_n hx hb md_F_remainder_38 rfl (lv_at hl 1 rfl) ?_
          refine vp_callSl (W.runV (C := "NumberProbe$Format") (As := [.long p0]) (rest := []) ⟨hx, hb, hml, hown, hts⟩ (mt_F_magnitude l ad k hk p0) (cwV 1 hts (gd_V tm_71 tm_72 tm_73 tm_27 tm_74) rfl rfl rfl (by decide +kernel) ⟨Nat.le_of_ble_eq_true rfl, Nat.le_of_ble_eq_true rfl⟩) ⟨fb_E, fw_recv hE hk hS, fun U hU hW => ⟨rfl, fw_use hE hS hU hW⟩⟩ rfl rfl hl.1 rfl (lv_room (Nat.le_of_ble_eq_true rfl)) md_F_remainder_39 ⟨Nat.zero_le _, Nat.zero_le _⟩) (fun r_13 e_14 => ?_)
          obtain rfl : r_13 = cf_mag k p0 := e_14
          refine lv_aload_n hx hb md_F_remainder_42 rfl (lv_at hl 0 rfl) ?_
          refine lv_lload_n hx hb md_F_remainder_43 rfl (lv_at hl 2 rfl) ?_
          refine vp_callSl (W.runV (C := "NumberProbe$Format") (As := [.long p1]) (rest := [.long (cf_mag k p0)]) ⟨hx, hb, hml, hown, hts⟩ (mt_F_magnitude l ad k hk p1) (cwV 1 hts (gd_V tm_71 tm_72 tm_73 tm_27 tm_74) rfl rfl rfl (by decide +kernel) ⟨Nat.le_of_ble_eq_true rfl, Nat.le_of_ble_eq_true rfl⟩) ⟨fb_E, fw_recv hE hk hS, fun U hU hW => ⟨rfl, fw_use hE hS hU hW⟩⟩ rfl rfl hl.1 rfl (lv_room (Nat.le_of_ble_eq_true rfl)) md_F_remainder_44 ⟨Nat.zero_le _, Nat.zero_le _⟩) (fun r_15 e_16 => ?_)
          obtain rfl : r_15 = cf_mag k p1 := e_16
          refine W.lcmp hx hb md_F_remainder_47 ?_
          refine lv_if_ge (tgt := 53) hx hb md_F_remainder_48 (by decide) (fun c_17 => ?_) (fun c_17 => ?_)
          · refine lv_aload_n hx hb md_F_remainder_53 rfl (lv_at hl 0 rfl) ?_
            refine lv_lload_n hx hb md_F_remainder_54 rfl (lv_at hl 2 rfl) ?_
            refine vp_callSl (W.runV (C := "NumberProbe$Format") (As := [.long p1]) (rest := []) ⟨hx, hb, hml, hown, hts⟩ (mt_F_significandOf l ad k hk p1) (cwV 1 hts (gd_V tm_142 tm_144 tm_5 tm_27 tm_145) rfl rfl rfl (by decide +kernel) ⟨Nat.le_of_ble_eq_true rfl, Nat.le_of_ble_eq_true rfl⟩) ⟨fb_E, fw_recv hE hk hS, fun U hU hW => ⟨rfl, fw_use hE hS hU hW⟩⟩ rfl rfl hl.1 rfl (lv_room (Nat.le_of_ble_eq_true rfl)) md_F_remainder_55 ⟨Nat.zero_le _, Nat.zero_le _⟩) (fun r_18 e_19 => ?_)
            obtain rfl : r_18 = cf_sig k p1 := e_19
            refine lv_lstore (lv' := [(5, .long (cf_sig k p1)), (0, .ref (ad k)), (1, .long p0), (3, .long p1)]) hx hb md_F_remainder_58 hl (by decide) rfl (fun ls hl => ?_)
            refine lv_aload_n hx hb md_F_remainder_60 rfl (lv_at hl 1 rfl) ?_
            refine lv_lload_n hx hb md_F_remainder_61 rfl (lv_at hl 2 rfl) ?_
            refine vp_callSl (W.runV (C := "NumberProbe$Format") (As := [.long p0]) (rest := []) ⟨hx, hb, hml, hown, hts⟩ (mt_F_significandOf l ad k hk p0) (cwV 1 hts (gd_V tm_142 tm_144 tm_5 tm_27 tm_145) rfl rfl rfl (by decide +kernel) ⟨Nat.le_of_ble_eq_true rfl, Nat.le_of_ble_eq_true rfl⟩) ⟨fb_E, fw_recv hE hk hS, fun U hU hW => ⟨rfl, fw_use hE hS hU hW⟩⟩ rfl rfl hl.1 rfl (lv_room (Nat.le_of_ble_eq_true rfl)) md_F_remainder_62 ⟨Nat.zero_le _, Nat.zero_le _⟩) (fun r_20 e_21 => ?_)
            obtain rfl : r_20 = cf_sig k p0 := e_21
            refine lv_lload hx hb md_F_remainder_65 (lv_at hl 0 rfl) ?_
            refine lv_lrem hx hb md_F_remainder_67 (fa_sig0 hk (jb_0.mp c_12)) ?_
            refine lv_lstore (lv' := [(7, .long ((cf_sig k p0) - (cf_sig k p0) / (cf_sig k p1) * (cf_sig k p1))), (5, .long (cf_sig k p1)), (0, .ref (ad k)), (1, .long p0), (3, .long p1)]) hx hb md_F_remainder_68 hl (by decide) rfl (fun ls hl => ?_)
            refine lv_aload_n hx hb md_F_remainder_70 rfl (lv_at hl 2 rfl) ?_
            refine lv_lload_n hx hb md_F_remainder_71 rfl (lv_at hl 3 rfl) ?_
            refine vp_callSi (W.runV (C := "NumberProbe$Format") (As := [.long p0]) (rest := []) ⟨hx, hb, hml, hown, hts⟩ (mt_F_exponentOf l ad k hk p0) (cwV 1 hts (gd_V tm_131 tm_133 tm_3 tm_27 tm_134) rfl rfl rfl (by decide +kernel) ⟨Nat.le_of_ble_eq_true rfl, Nat.le_of_ble_eq_true rfl⟩) ⟨fb_E, fw_recv hE hk hS, fun U hU hW => ⟨rfl, fw_use hE hS hU hW⟩⟩ rfl rfl hl.1 rfl (lv_room (Nat.le_of_ble_eq_true rfl)) md_F_remainder_72 ⟨Nat.zero_le _, Nat.zero_le _⟩) (fun r_22 e_23 => ?_)
            obtain rfl : r_22 = cf_exp k p0 := e_23
            refine lv_aload_n hx hb md_F_remainder_75 rfl (lv_at hl 2 rfl) ?_
            refine lv_lload_n hx hb md_F_remainder_76 rfl (lv_at hl 4 rfl) ?_
            refine vp_callSi (W.runV (C := "NumberProbe$Format") (As := [.long p1]) (rest := [.int (cf_exp k p0)]) ⟨hx, hb, hml, hown, hts⟩ (mt_F_exponentOf l ad k hk p1) (cwV 1 hts (gd_V tm_131 tm_133 tm_3 tm_27 tm_134) rfl rfl rfl (by decide +kernel) ⟨Nat.le_of_ble_eq_true rfl, Nat.le_of_ble_eq_true rfl⟩) ⟨fb_E, fw_recv hE hk hS, fun U hU hW => ⟨rfl, fw_use hE hS hU hW⟩⟩ rfl rfl hl.1 rfl (lv_room (Nat.le_of_ble_eq_true rfl)) md_F_remainder_77 ⟨Nat.zero_le _, Nat.zero_le _⟩) (fun r_24 e_25 => ?_)
            obtain rfl : r_24 = cf_exp k p1 := e_25
            refine lv_isub hx hb md_F_remainder_80 ?_
            refine lv_istore (lv' := [(9, .int ((cf_exp k p0) - (cf_exp k p1))), (7, .long ((cf_sig k p0) - (cf_sig k p0) / (cf_sig k p1) * (cf_sig k p1))), (5, .long (cf_sig k p1)), (0, .ref (ad k)), (1, .long p0), (3, .long p1)]) hx hb md_F_remainder_81 hl (by decide) rfl (fun ls hl => ?_)
            have L_26 : ∀ (n : Nat) (z_27 : Int32) (z_28 : Int64) (ls : Array Slot), z_27.toInt.toNat ≤ n → lv_has ls 10 [(9, .int z_27), (7, .long z_28), (5, .long (cf_sig k p1)), (0, .ref (ad k)), (1, .long p0), (3, .long p1)] → WP p l e mw_F_remainder ({ frames := 3, cells := 0, slots := 0, locals := 73 } : Room) s m [.ref (ad k), .long p0, .long p1] below meth c (vp_Sl (fun _ => True)) (F0 m 83 ls []) := by
              intro n
              induction n with
              | zero =>
                intro z_27 z_28 ls hn hl
                refine lv_iload hx hb md_F_remainder_83 (lv_at hl 0 rfl) ?_
                refine lv_if_le (tgt := 109) hx hb md_F_remainder_85 (by decide) (fun c_29 => ?_) (fun c_29 => ?_)
                · refine lv_aload_n hx hb md_F_remainder_109 rfl (lv_at hl 3 rfl) ?_
                  refine lv_lload_n hx hb md_F_remainder_110 rfl (lv_at hl 4 rfl) ?_
                  refine lv_lconst (v := 0) hx hb md_F_remainder_111 (by decide) ?_
                  refine W.lcmp hx hb md_F_remainder_112 ?_
                  have J_31 : ∀ (z_32 : Bool) (ls : Array Slot), lv_has ls 10 [(9, .int z_27), (7, .long z_28), (5, .long (cf_sig k p1)), (0, .ref (ad k)), (1, .long p0), (3, .long p1)] → WP p l e mw_F_remainder ({ frames := 3, cells := 0, slots := 0, locals := 73 } : Room) s m [.ref (ad k), .long p0, .long p1] below meth c (vp_Sl (fun _ => True)) (F0 m 121 ls [.int (jb z_32), .ref (ad k)]) := by
                    intro z_32 ls hl
                    refine lv_lload hx hb md_F_remainder_121 (lv_at hl 1 rfl) ?_
                    refine lv_aload_n hx hb md_F_remainder_123 rfl (lv_at hl 3 rfl) ?_
                    refine lv_lload_n hx hb md_F_remainder_124 rfl (lv_at hl 5 rfl) ?_
                    refine vp_callSi (W.runV (C := "NumberProbe$Format") (As := [.long p1]) (rest := [.long z_28, .int (jb z_32), .ref (ad k)]) ⟨hx, hb, hml, hown, hts⟩ (mt_F_exponentOf l ad k hk p1) (cwV 1 hts (gd_V tm_131 tm_133 tm_3 tm_27 tm_134) rfl rfl rfl (by decide +kernel) ⟨Nat.le_of_ble_eq_true rfl, Nat.le_of_ble_eq_true rfl⟩) ⟨fb_E, fw_recv hE hk hS, fun U hU hW => ⟨rfl, fw_use hE hS hU hW⟩⟩ rfl rfl hl.1 rfl (lv_room (Nat.le_of_ble_eq_true rfl)) md_F_remainder_125 ⟨Nat.zero_le _, Nat.zero_le _⟩) (fun r_33 e_34 => ?_)
                    obtain rfl : r_33 = cf_exp k p1 := e_34
                    refine vp_callSl (W.runV (C := "NumberProbe$Format") (As := [.int (jb z_32), .long z_28, .int (cf_exp k p1)]) (rest := []) ⟨hx, hb, hml, hown, hts⟩ (mt_F_rounded l ad k hk z_32 z_28 (cf_exp k p1)) (cwV 3 hts (gd_V tm_152 tm_154 tm_6 tm_27 tm_155) rfl rfl rfl (by decide +kernel) ⟨Nat.le_of_ble_eq_true rfl, Nat.le_of_ble_eq_true rfl⟩) ⟨fb_E, fw_recv hE hk hS, fun U hU hW => ⟨rfl, fw_use hE hS hU hW⟩⟩ rfl rfl hl.1 rfl (lv_room (Nat.le_of_ble_eq_true rfl)) md_F_remainder_128 ⟨Nat.zero_le _, Nat.zero_le _⟩) (fun r_35 e_36 => ?_)
                    exact W.lret (v := r_35) hx hb hr (fun t ht2 _ => ⟨r_35, rfl, trivial, ht2⟩) (fun q h => by cases h) md_F_remainder_131
                  refine lv_if_ge (tgt := 120) hx hb md_F_remainder_113 (by decide) (fun c_30 => ?_) (fun c_30 => ?_)
                  · refine lv_iconst (v := 0) hx hb md_F_remainder_120 (by decide) ?_
                    exact J_31 false ls (lv_sub hl [0, 1, 2, 3, 4, 5] rfl)
                  · refine lv_iconst (v := 1) hx hb md_F_remainder_116 (by decide) ?_
                    refine lv_goto (tgt := 121) hx hb md_F_remainder_117 (by decide) ?_
                    exact J_31 true ls (lv_sub hl [0, 1, 2, 3, 4, 5] rfl)
                · exact (ld_0 (Int32.not_le.mp c_29) hn).elim
              | succ n ih =>
                intro z_27 z_28 ls hn hl
                refine lv_iload hx hb md_F_remainder_83 (lv_at hl 0 rfl) ?_
                refine lv_if_le (tgt := 109) hx hb md_F_remainder_85 (by decide) (fun c_37 => ?_) (fun c_37 => ?_)
                · refine lv_aload_n hx hb md_F_remainder_109 rfl (lv_at hl 3 rfl) ?_
                  refine lv_lload_n hx hb md_F_remainder_110 rfl (lv_at hl 4 rfl) ?_
                  refine lv_lconst (v := 0) hx hb md_F_remainder_111 (by decide) ?_
                  refine W.lcmp hx hb md_F_remainder_112 ?_
                  have J_39 : ∀ (z_40 : Bool) (ls : Array Slot), lv_has ls 10 [(9, .int z_27), (7, .long z_28), (5, .long (cf_sig k p1)), (0, .ref (ad k)), (1, .long p0), (3, .long p1)] → WP p l e mw_F_remainder ({ frames := 3, cells := 0, slots := 0, locals := 73 } : Room) s m [.ref (ad k), .long p0, .long p1] below meth c (vp_Sl (fun _ => True)) (F0 m 121 ls [.int (jb z_40), .ref (ad k)]) := by
                    intro z_40 ls hl
                    refine lv_lload hx hb md_F_remainder_121 (lv_at hl 1 rfl) ?_
                    refine lv_aload_n hx hb md_F_remainder_123 rfl (lv_at hl 3 rfl) ?_
                    refine lv_lload_n hx hb md_F_remainder_124 rfl (lv_at hl 5 rfl) ?_
                    refine vp_callSi (W.runV (C := "NumberProbe$Format") (As := [.long p1]) (rest := [.long z_28, .int (jb z_40), .ref (ad k)]) ⟨hx, hb, hml, hown, hts⟩ (mt_F_exponentOf l ad k hk p1) (cwV 1 hts (gd_V tm_131 tm_133 tm_3 tm_27 tm_134) rfl rfl rfl (by decide +kernel) ⟨Nat.le_of_ble_eq_true rfl, Nat.le_of_ble_eq_true rfl⟩) ⟨fb_E, fw_recv hE hk hS, fun U hU hW => ⟨rfl, fw_use hE hS hU hW⟩⟩ rfl rfl hl.1 rfl (lv_room (Nat.le_of_ble_eq_true rfl)) md_F_remainder_125 ⟨Nat.zero_le _, Nat.zero_le _⟩) (fun r_41 e_42 => ?_)
                    obtain rfl : r_41 = cf_exp k p1 := e_42
                    refine vp_callSl (W.runV (C := "NumberProbe$Format") (As := [.int (jb z_40), .long z_28, .int (cf_exp k p1)]) (rest := []) ⟨hx, hb, hml, hown, hts⟩ (mt_F_rounded l ad k hk z_40 z_28 (cf_exp k p1)) (cwV 3 hts (gd_V tm_152 tm_154 tm_6 tm_27 tm_155) rfl rfl rfl (by decide +kernel) ⟨Nat.le_of_ble_eq_true rfl, Nat.le_of_ble_eq_true rfl⟩) ⟨fb_E, fw_recv hE hk hS, fun U hU hW => ⟨rfl, fw_use hE hS hU hW⟩⟩ rfl rfl hl.1 rfl (lv_room (Nat.le_of_ble_eq_true rfl)) md_F_remainder_128 ⟨Nat.zero_le _, Nat.zero_le _⟩) (fun r_43 e_44 => ?_)
                    exact W.lret (v := r_43) hx hb hr (fun t ht2 _ => ⟨r_43, rfl, trivial, ht2⟩) (fun q h => by cases h) md_F_remainder_131
                  refine lv_if_ge (tgt := 120) hx hb md_F_remainder_113 (by decide) (fun c_38 => ?_) (fun c_38 => ?_)
                  · refine lv_iconst (v := 0) hx hb md_F_remainder_120 (by decide) ?_
                    exact J_39 false ls (lv_sub hl [0, 1, 2, 3, 4, 5] rfl)
                  · refine lv_iconst (v := 1) hx hb md_F_remainder_116 (by decide) ?_
                    refine lv_goto (tgt := 121) hx hb md_F_remainder_117 (by decide) ?_
                    exact J_39 true ls (lv_sub hl [0, 1, 2, 3, 4, 5] rfl)
                · refine lv_lload hx hb md_F_remainder_88 (lv_at hl 1 rfl) ?_
                  refine lv_iload hx hb md_F_remainder_90 (lv_at hl 0 rfl) ?_
                  refine lv_bipush (v := 10) hx hb md_F_remainder_92 (by decide) ?_
                  refine va_mmin hx hb (by rw [hml]; exact hl.1.symm) hown (ht _ tm_201) (ht _ tm_202) (ht _ tm_28) (ht _ tm_203) (Nat.le_of_ble_eq_true rfl) (Nat.le_of_ble_eq_true rfl) (Nat.zero_le _) (Nat.zero_le _) md_F_remainder_94 ?_
                  refine lv_lshl (v := jl_shl z_28 (if 10 < z_27 then 10 else z_27)) hx hb md_F_remainder_97 rfl ?_
                  refine lv_lload hx hb md_F_remainder_98 (lv_at hl 2 rfl) ?_
                  refine lv_lrem hx hb md_F_remainder_100 (fa_sig0 hk (jb_0.mp c_12)) ?_
                  refine lv_lstore (lv' := [(7, .long ((jl_shl z_28 (if 10 < z_27 then 10 else z_27)) - (jl_shl z_28 (if 10 < z_27 then 10 else z_27)) / (cf_sig k p1) * (cf_sig k p1))), (9, .int z_27), (5, .long (cf_sig k p1)), (0, .ref (ad k)), (1, .long p0), (3, .long p1)]) hx hb md_F_remainder_101 hl (by decide) rfl (fun ls hl => ?_)
                  refine lv_iinc (v := z_27 + (-10)) (lv' := [(9, .int (z_27 + (-10))), (7, .long ((jl_shl z_28 (if 10 < z_27 then 10 else z_27)) - (jl_shl z_28 (if 10 < z_27 then 10 else z_27)) / (cf_sig k p1) * (cf_sig k p1))), (5, .long (cf_sig k p1)), (0, .ref (ad k)), (1, .long p0), (3, .long p1)]) hx hb md_F_remainder_103 hl (k := 1) rfl rfl (by decide) rfl (fun ls hl => ?_)
                  refine lv_goto (tgt := 83) hx hb md_F_remainder_106 (by decide) ?_
                  exact ih (z_27 + (-10)) ((jl_shl z_28 (if 10 < z_27 then 10 else z_27)) - (jl_shl z_28 (if 10 < z_27 then 10 else z_27)) / (cf_sig k p1) * (cf_sig k p1)) ls (ld_s (Int32.not_le.mp c_37) hn) (lv_sub hl [0, 1, 2, 3, 4, 5] rfl)
            exact L_26 _ ((cf_exp k p0) - (cf_exp k p1)) ((cf_sig k p0) - (cf_sig k p0) / (cf_sig k p1) * (cf_sig k p1)) ls (Nat.le_refl _) (lv_sub hl [0, 1, 2, 3, 4, 5] rfl)
          · refine lv_lload_n hx hb md_F_remainder_51 rfl (lv_at hl 1 rfl) ?_
            exact W.lret (v := p0) hx hb hr (fun t ht2 _ => ⟨p0, rfl, trivial, ht2⟩) (fun q h => by cases h) md_F_remainder_52
        · refine lv_aload_n hx hb md_F_remainder_32 rfl (lv_at hl 0 rfl) ?_
          refine va_getX hx hb hE.2.2.2.2.2.2.1 hk hS hown (ht _ tm_550) (fun _ h9 => h9) md_F_remainder_33 ?_
          exact W.lret (v := kf_n k) hx hb hr (fun t ht2 _ => ⟨(kf_n k), rfl, trivial, ht2⟩) (fun q h => by cases h) md_F_remainder_36
set_option maxHeartbeats 4000000 in
set_option maxRecDepth 100000 in
theorem mt_F_nearestTo (l : Launch) (ad : Nat → Nat) (k : Nat) (hk : k < 2) (p0 : Nat) (hp0 : p0 < 2) (p1 : Int64) : Met l my_F_nearestTo mw_F_nearestTo ({ frames := 3, cells := 0, slots := 0, locals := 73 } : Room) (va_Pc [.ref (ad k), .ref (ad p0), .long p1] (fun U => FW ad (fun _ => False) U U.heap)) (vp_Sl (fun _ => True)) 0 0 (fun _ => False) := by
  refine Met.ofW (cc := mc_F_nearestTo) (maxL := 4) (ret := (some .long)) (by decide) rfl ?_
  intro p e s m args below meth c s₁ B hml hv
  obtain ⟨rfl, hE⟩ := hv
  have hx := B.exec
  have hb := B.bytes
  have hr := B.returns
  have hts := atoms_spec (ws := mw_F_nearestTo) B.pre
  have ht : ∀ w ∈ gw_tbl, w.before _ s = true := fun w h => hts w (List.mem_cons_of_mem _ h)
  have hown : s.vm.findClass "NumberProbe$Format" = some m.cls := findClass_of_methodNamed B.named
  have hlocks := B.notSynchronized
  have hS : va_S (fun _ => False) s.heap s.heap [] := va_S.rf
  have hl := lv_entry ([.ref (ad k), .ref (ad p0), .long p1]) (n := 4) (Nat.le_of_ble_eq_true rfl)
  rw [lg_entry_eq]
  generalize (lg_sl ([.ref (ad k), .ref (ad p0), .long p1]) ++ List.replicate (4 - (lg_sl ([.ref (ad k), .ref (ad p0), .long p1])).length) Slot.unset).toArray = ls at hl ⊢
  have hl : lv_has ls 4 [(0, .ref (ad k)), (1, .ref (ad p0)), (2, .long p1)] := hl
  refine lv_aload_n hx hb md_F_nearestTo_0 rfl (lv_at hl 1 rfl) ?_
  refine lv_lload_n hx hb md_F_nearestTo_1 rfl (lv_at hl 2 rfl) ?_
  refine vp_callSi (W.runV (C := "NumberProbe$Format") (As := [.long p1]) (rest := []) ⟨hx, hb, hml, hown, hts⟩ (mt_F_isNaN l ad p0 hp0 p1) (cwV 1 hts (gd_V tm_67 tm_68 tm_69 tm_27 tm_70) rfl rfl rfl (by decide +kernel) ⟨Nat.le_of_ble_eq_true rfl, Nat.le_of_ble_eq_true rfl⟩) ⟨fb_E, fw_recv hE hp0 hS, fun U hU hW => ⟨rfl, fw_use hE hS hU hW⟩⟩ rfl rfl hl.1 rfl (lv_room (Nat.le_of_ble_eq_true rfl)) md_F_nearestTo_2 ⟨Nat.zero_le _, Nat.zero_le _⟩) (fun r_1 e_2 => ?_)
  obtain rfl : r_1 = jb (cf_nan p0 p1) := e_2
  refine lv_if_eq (tgt := 13) hx hb md_F_nearestTo_5 (by decide) (fun c_3 => ?_) (fun c_3 => ?_)
  · refine lv_aload_n hx hb md_F_nearestTo_13 rfl (lv_at hl 1 rfl) ?_
    refine lv_lload_n hx hb md_F_nearestTo_14 rfl (lv_at hl 2 rfl) ?_
    refine vp_callSi (W.runV (C := "NumberProbe$Format") (As := [.long p1]) (rest := []) ⟨hx, hb, hml, hown, hts⟩ (mt_F_isInfinite l ad p0 hp0 p1) (cwV 1 hts (gd_V tm_123 tm_125 tm_1 tm_27 tm_126) rfl rfl rfl (by decide +kernel) ⟨Nat.le_of_ble_eq_true rfl, Nat.le_of_ble_eq_true rfl⟩) ⟨fb_E, fw_recv hE hp0 hS, fun U hU hW => ⟨rfl, fw_use hE hS hU hW⟩⟩ rfl rfl hl.1 rfl (lv_room (Nat.le_of_ble_eq_true rfl)) md_F_nearestTo_15 ⟨Nat.zero_le _, Nat.zero_le _⟩) (fun r_4 e_5 => ?_)
    obtain rfl : r_4 = jb (cf_inf p0 p1) := e_5
    refine lv_if_eq (tgt := 41) hx hb md_F_nearestTo_18 (by decide) (fun c_6 => ?_) (fun c_6 => ?_)
    · refine lv_aload_n hx hb md_F_nearestTo_41 rfl (lv_at hl 0 rfl) ?_
      refine lv_lload_n hx hb md_F_nearestTo_42 rfl (lv_at hl 2 rfl) ?_
      refine lv_lconst (v := 0) hx hb md_F_nearestTo_43 (by decide) ?_
      refine W.lcmp hx hb md_F_nearestTo_44 ?_
      have J_8 : ∀ (z_9 : Bool) (ls : Array Slot), lv_has ls 4 [(0, .ref (ad k)), (1, .ref (ad p0)), (2, .long p1)] → WP p l e mw_F_nearestTo ({ frames := 3, cells := 0, slots := 0, locals := 73 } : Room) s m [.ref (ad k), .ref (ad p0), .long p1] below meth c (vp_Sl (fun _ => True)) (F0 m 53 ls [.int (jb z_9), .ref (ad k)]) := by
        intro z_9 ls hl
        refine lv_aload_n hx hb md_F_nearestTo_53 rfl (lv_at hl 1 rfl) ?_
        refine lv_lload_n hx hb md_F_nearestTo_54 rfl (lv_at hl 2 rfl) ?_
        refine vp_callSl (W.runV (C := "NumberProbe$Format") (As := [.long p1]) (rest := [.int (jb z_9), .ref (ad k)]) ⟨hx, hb, hml, hown, hts⟩ (mt_F_significandOf l ad p0 hp0 p1) (cwV 1 hts (gd_V tm_142 tm_144 tm_5 tm_27 tm_145) rfl rfl rfl (by decide +kernel) ⟨Nat.le_of_ble_eq_true rfl, Nat.le_of_ble_eq_true rfl⟩) ⟨fb_E, fw_recv hE hp0 hS, fun U hU hW => ⟨rfl, fw_use hE hS hU hW⟩⟩ rfl rfl hl.1 rfl (lv_room (Nat.le_of_ble_eq_true rfl)) md_F_nearestTo_55 ⟨Nat.zero_le _, Nat.zero_le _⟩) (fun r_10 e_11 => ?_)
        obtain rfl : r_10 = cf_sig p0 p1 := e_11
        refine lv_aload_n hx hb md_F_nearestTo_58 rfl (lv_at hl 1 rfl) ?_
        refine lv_lload_n hx hb md_F_nearestTo_59 rfl (lv_at hl 2 rfl) ?_
        refine vp_callSi (W.runV (C := "NumberProbe$Format") (As := [.long p1]) (rest := [.long (cf_sig p0 p1), .int (jb z_9), .ref (ad k)]) ⟨hx, hb, hml, hown, hts⟩ (mt_F_exponentOf l ad p0 hp0 p1) (cwV 1 hts (gd_V tm_131 tm_133 tm_3 tm_27 tm_134) rfl rfl rfl (by decide +kernel) ⟨Nat.le_of_ble_eq_true rfl, Nat.le_of_ble_eq_true rfl⟩) ⟨fb_E, fw_recv hE hp0 hS, fun U hU hW => ⟨rfl, fw_use hE hS hU hW⟩⟩ rfl rfl hl.1 rfl (lv_room (Nat.le_of_ble_eq_true rfl)) md_F_nearestTo_60 ⟨Nat.zero_le _, Nat.zero_le _⟩) (fun r_12 e_13 => ?_)
        obtain rfl : r_12 = cf_exp p0 p1 := e_13
        refine vp_callSl (W.runV (C := "NumberProbe$Format") (As := [.int (jb z_9), .long (cf_sig p0 p1), .int (cf_exp p0 p1)]) (rest := []) ⟨hx, hb, hml, hown, hts⟩ (mt_F_rounded l ad k hk z_9 (cf_sig p0 p1) (cf_exp p0 p1)) (cwV 3 hts (gd_V tm_152 tm_154 tm_6 tm_27 tm_155) rfl rfl rfl (by decide +kernel) ⟨Nat.le_of_ble_eq_true rfl, Nat.le_of_ble_eq_true rfl⟩) ⟨fb_E, fw_recv hE hk hS, fun U hU hW => ⟨rfl, fw_use hE hS hU hW⟩⟩ rfl rfl hl.1 rfl (lv_room (Nat.le_of_ble_eq_true rfl)) md_F_nearestTo_63 ⟨Nat.zero_le _, Nat.zero_le _⟩) (fun r_14 e_15 => ?_)
        exact W.lret (v := r_14) hx hb hr (fun t ht2 _ => ⟨r_14, rfl, trivial, ht2⟩) (fun q h => by cases h) md_F_nearestTo_66
      refine lv_if_ge (tgt := 52) hx hb md_F_nearestTo_45 (by decide) (fun c_7 => ?_) (fun c_7 => ?_)
      · refine lv_iconst (v := 0) hx hb md_F_nearestTo_52 (by decide) ?_
        exact J_8 false ls (lv_sub hl [0, 1, 2] rfl)
      · refine lv_iconst (v := 1) hx hb md_F_nearestTo_48 (by decide) ?_
        refine lv_goto (tgt := 53) hx hb md_F_nearestTo_49 (by decide) ?_
        exact J_8 true ls (lv_sub hl [0, 1, 2] rfl)
    · refine lv_aload_n hx hb md_F_nearestTo_21 rfl (lv_at hl 0 rfl) ?_
      refine lv_lload_n hx hb md_F_nearestTo_22 rfl (lv_at hl 2 rfl) ?_
      refine lv_lconst (v := 0) hx hb md_F_nearestTo_23 (by decide) ?_
      refine W.lcmp hx hb md_F_nearestTo_24 ?_
      have J_17 : ∀ (z_18 : Bool) (ls : Array Slot), lv_has ls 4 [(0, .ref (ad k)), (1, .ref (ad p0)), (2, .long p1)] → WP p l e mw_F_nearestTo ({ frames := 3, cells := 0, slots := 0, locals := 73 } : Room) s m [.ref (ad k), .ref (ad p0), .long p1] below meth c (vp_Sl (fun _ => True)) (F0 m 33 ls [.int (jb z_18), .ref (ad k)]) := by
        intro z_18 ls hl
        refine lv_aload_n hx hb md_F_nearestTo_33 rfl (lv_at hl 0 rfl) ?_
        refine va_getX hx hb hE.2.2.2.2.2.1 hk hS hown (ht _ tm_549) (fun _ h9 => h9) md_F_nearestTo_34 ?_
        refine vp_callSl (W.runV (C := "NumberProbe$Format") (As := [.int (jb z_18), .long (kf_i k)]) (rest := []) ⟨hx, hb, hml, hown, hts⟩ (mt_F_signed l ad k hk z_18 (kf_i k)) (cwV 2 hts (gd_V tm_75 tm_77 tm_0 tm_27 tm_79) rfl rfl rfl (by decide +kernel) ⟨Nat.le_of_ble_eq_true rfl, Nat.le_of_ble_eq_true rfl⟩) ⟨fb_E, fw_recv hE hk hS, fun U hU hW => ⟨rfl, fw_use hE hS hU hW⟩⟩ rfl rfl hl.1 rfl (lv_room (Nat.le_of_ble_eq_true rfl)) md_F_nearestTo_37 ⟨Nat.zero_le _, Nat.zero_le _⟩) (fun r_19 e_20 => ?_)
        exact W.lret (v := r_19) hx hb hr (fun t ht2 _ => ⟨r_19, rfl, trivial, ht2⟩) (fun q h => by cases h) md_F_nearestTo_40
      refine lv_if_ge (tgt := 32) hx hb md_F_nearestTo_25 (by decide) (fun c_16 => ?_) (fun c_16 => ?_)
      · refine lv_iconst (v := 0) hx hb md_F_nearestTo_32 (by decide) ?_
        exact J_17 false ls (lv_sub hl [0, 1, 2] rfl)
      · refine lv_iconst (v := 1) hx hb md_F_nearestTo_28 (by decide) ?_
        refine lv_goto (tgt := 33) hx hb md_F_nearestTo_29 (by decide) ?_
        exact J_17 true ls (lv_sub hl [0, 1, 2] rfl)
  · refine lv_aload_n hx hb md_F_nearestTo_8 rfl (lv_at hl 0 rfl) ?_
    refine va_getX hx hb hE.2.2.2.2.2.2.1 hk hS hown (ht _ tm_550) (fun _ h9 => h9) md_F_nearestTo_9 ?_
    exact W.lret (v := kf_n k) hx hb hr (fun t ht2 _ => ⟨(kf_n k), rfl, trivial, ht2⟩) (fun q h => by cases h) md_F_nearestTo_12
set_option maxHeartbeats 4000000 in
set_option maxRecDepth 100000 in
theorem mt_F_nearestToWhole (l : Launch) (ad : Nat → Nat) (k : Nat) (hk : k < 2) (p0 : Int64) : Met l my_F_nearestToWhole mw_F_nearestToWhole ({ frames := 3, cells := 0, slots := 0, locals := 73 } : Room) (va_Pc [.ref (ad k), .long p0] (fun U => FW ad (fun _ => False) U U.heap)) (vp_Sl (fun _ => True)) 0 0 (fun _ => False) := by
  refine Met.ofW (cc := mc_F_nearestToWhole) (maxL := 5) (ret := (some .long)) (by decide) rfl ?_
  intro p e s m args below meth c s₁ B hml hv
  obtain ⟨rfl, hE⟩ := hv
  have hx := B.exec
  have hb := B.bytes
  have hr := B.returns
  have hts := atoms_spec (ws := mw_F_nearestToWhole) B.pre
  have ht : ∀ w ∈ gw_tbl, w.before _ s = true := fun w h => hts w (List.mem_cons_of_mem _ h)
  have hown : s.vm.findClass "NumberProbe$Format" = some m.cls := findClass_of_methodNamed B.named
  have hlocks := B.notSynchronized
  have hS : va_S (fun _ => False) s.heap s.heap [] := va_S.rf
  have hl := lv_entry ([.ref (ad k), .long p0]) (n := 5) (Nat.le_of_ble_eq_true rfl)
  rw [lg_entry_eq]
  generalize (lg_sl ([.ref (ad k), .long p0]) ++ List.replicate (5 - (lg_sl ([.ref (ad k), .long p0])).length) Slot.unset).toArray = ls at hl ⊢
  have hl : lv_has ls 5 [(0, .ref (ad k)), (1, .long p0)] := hl
  refine lv_lload_n hx hb md_F_nearestToWhole_0 rfl (lv_at hl 1 rfl) ?_
  refine lv_lconst (v := 0) hx hb md_F_nearestToWhole_1 (by decide) ?_
  refine W.lcmp hx hb md_F_nearestToWhole_2 ?_
  have J_2 : ∀ (z_3 : Int64) (ls : Array Slot), lv_has ls 5 [(0, .ref (ad k)), (1, .long p0)] → WP p l e mw_F_nearestToWhole ({ frames := 3, cells := 0, slots := 0, locals := 73 } : Room) s m [.ref (ad k), .long p0] below meth c (vp_Sl (fun _ => True)) (F0 m 12 ls [.long z_3]) := by
    intro z_3 ls hl
    refine lv_lstore_n (lv' := [(3, .long z_3), (0, .ref (ad k)), (1, .long p0)]) hx hb md_F_nearestToWhole_12 rfl hl (by decide) rfl (fun ls hl => ?_)
    refine lv_lload_n hx hb md_F_nearestToWhole_13 rfl (lv_at hl 0 rfl) ?_
    refine lv_lconst (v := 0) hx hb md_F_nearestToWhole_14 (by decide) ?_
    refine W.lcmp hx hb md_F_nearestToWhole_15 ?_
    have J_12 : ∀ (z_13 : Int64) (ls : Array Slot), lv_has ls 5 [(3, .long z_3), (0, .ref (ad k)), (1, .long p0)] → WP p l e mw_F_nearestToWhole ({ frames := 3, cells := 0, slots := 0, locals := 73 } : Room) s m [.ref (ad k), .long p0] below meth c (vp_Sl (fun _ => True)) (F0 m 48 ls [.long z_13]) := by
      intro z_13 ls hl
      exact W.lret (v := z_13) hx hb hr (fun t ht2 _ => ⟨z_13, rfl, trivial, ht2⟩) (fun q h => by cases h) md_F_nearestToWhole_48
    refine lv_if_ge (tgt := 31) hx hb md_F_nearestToWhole_16 (by decide) (fun c_4 => ?_) (fun c_4 => ?_)
    · refine lv_aload_n hx hb md_F_nearestToWhole_31 rfl (lv_at hl 1 rfl) ?_
      refine lv_lload_n hx hb md_F_nearestToWhole_32 rfl (lv_at hl 2 rfl) ?_
      refine lv_lconst (v := 0) hx hb md_F_nearestToWhole_33 (by decide) ?_
      refine W.lcmp hx hb md_F_nearestToWhole_34 ?_
      have J_15 : ∀ (z_16 : Bool) (ls : Array Slot), lv_has ls 5 [(3, .long z_3), (0, .ref (ad k)), (1, .long p0)] → WP p l e mw_F_nearestToWhole ({ frames := 3, cells := 0, slots := 0, locals := 73 } : Room) s m [.ref (ad k), .long p0] below meth c (vp_Sl (fun _ => True)) (F0 m 43 ls [.int (jb z_16), .ref (ad k)]) := by
        intro z_16 ls hl
        refine lv_lload_n hx hb md_F_nearestToWhole_43 rfl (lv_at hl 0 rfl) ?_
        refine lv_iconst (v := 0) hx hb md_F_nearestToWhole_44 (by decide) ?_
        refine vp_callSl (W.runV (C := "NumberProbe$Format") (As := [.int (jb z_16), .long z_3, .int 0]) (rest := []) ⟨hx, hb, hml, hown, hts⟩ (mt_F_rounded l ad k hk z_16 z_3 0) (cwV 3 hts (gd_V tm_152 tm_154 tm_6 tm_27 tm_155) rfl rfl rfl (by decide +kernel) ⟨Nat.le_of_ble_eq_true rfl, Nat.le_of_ble_eq_true rfl⟩) ⟨fb_E, fw_recv hE hk hS, fun U hU hW => ⟨rfl, fw_use hE hS hU hW⟩⟩ rfl rfl hl.1 rfl (lv_room (Nat.le_of_ble_eq_true rfl)) md_F_nearestToWhole_45 ⟨Nat.zero_le _, Nat.zero_le _⟩) (fun r_17 e_18 => ?_)
        exact J_12 r_17 ls (lv_sub hl [0, 1, 2] rfl)
      refine lv_if_ge (tgt := 42) hx hb md_F_nearestToWhole_35 (by decide) (fun c_14 => ?_) (fun c_14 => ?_)
      · refine lv_iconst (v := 0) hx hb md_F_nearestToWhole_42 (by decide) ?_
        exact J_15 false ls (lv_sub hl [0, 1, 2] rfl)
      · refine lv_iconst (v := 1) hx hb md_F_nearestToWhole_38 (by decide) ?_
        refine lv_goto (tgt := 43) hx hb md_F_nearestToWhole_39 (by decide) ?_
        exact J_15 true ls (lv_sub hl [0, 1, 2] rfl)
    · refine lv_aload_n hx hb md_F_nearestToWhole_19 rfl (lv_at hl 1 rfl) ?_
      refine lv_iconst (v := 1) hx hb md_F_nearestToWhole_20 (by decide) ?_
      refine lv_lload_n hx hb md_F_nearestToWhole_21 rfl (lv_at hl 0 rfl) ?_
      refine lv_iconst (v := 1) hx hb md_F_nearestToWhole_22 (by decide) ?_
      refine lv_lushr (v := jl_ush z_3 1) hx hb md_F_nearestToWhole_23 rfl ?_
      refine lv_iconst (v := 1) hx hb md_F_nearestToWhole_24 (by decide) ?_
      refine vp_callSl (W.runV (C := "NumberProbe$Format") (As := [.int 1, .long (jl_ush z_3 1), .int 1]) (rest := []) ⟨hx, hb, hml, hown, hts⟩ (mt_F_rounded l ad k hk true (jl_ush z_3 1) 1) (cwV 3 hts (gd_V tm_152 tm_154 tm_6 tm_27 tm_155) rfl rfl rfl (by decide +kernel) ⟨Nat.le_of_ble_eq_true rfl, Nat.le_of_ble_eq_true rfl⟩) ⟨fb_E, fw_recv hE hk hS, fun U hU hW => ⟨rfl, fw_use hE hS hU hW⟩⟩ rfl rfl hl.1 rfl (lv_room (Nat.le_of_ble_eq_true rfl)) md_F_nearestToWhole_25 ⟨Nat.zero_le _, Nat.zero_le _⟩) (fun r_19 e_20 => ?_)
      refine lv_goto (tgt := 48) hx hb md_F_nearestToWhole_28 (by decide) ?_
      exact J_12 r_19 ls (lv_sub hl [0, 1, 2] rfl)
  refine lv_if_ge (tgt := 11) hx hb md_F_nearestToWhole_3 (by decide) (fun c_1 => ?_) (fun c_1 => ?_)
  · refine lv_lload_n hx hb md_F_nearestToWhole_11 rfl (lv_at hl 1 rfl) ?_
    exact J_2 p0 ls (lv_sub hl [0, 1] rfl)
  · refine lv_lload_n hx hb md_F_nearestToWhole_6 rfl (lv_at hl 1 rfl) ?_
    refine lv_lneg hx hb md_F_nearestToWhole_7 ?_
    refine lv_goto (tgt := 12) hx hb md_F_nearestToWhole_8 (by decide) ?_
    exact J_2 (-p0) ls (lv_sub hl [0, 1] rfl)
end
