def cn_num (k i : Int32) : Bool := decide (¬ k < 0 ∧ ¬ 4 ≤ k ∧ ¬ i < 0 ∧ ¬ 6 ≤ i)
def cn_flt (k : Int32) : Bool := decide (k = 0 ∨ k = 1)
def cn_opn (k op : Int32) : Bool := decide (¬ op < 0 ∧ ¬ (if cn_flt k = true then (8 : Int32) else 14) < op)
def cn_wid (k : Int32) : Int32 := if cn_flt k = true then k + 2 else k - 2
def cn_fit (k : Int32) (w : Int64) : Int64 := if k = 3 then w else w.toInt32.toInt64
def cn_dbz (k op : Int32) (y : Int64) : Bool := decide (¬ cn_flt k = true ∧ (op = 3 ∨ op = 4) ∧ y = 0)
theorem cn_dbz_use {k op : Int32} {y : Int64} (h : cn_dbz k op y = false) (hf : cn_flt k = false) (ho : op = 3 ∨ op = 4) : ¬ y = 0 := by
  intro q
  have := of_decide_eq_false h
  exact this ⟨by rw [hf]; decide, ho, q⟩
set_option maxHeartbeats 4000000 in
set_option maxRecDepth 100000 in
theorem mt_N_isNumber (l : Launch) (p0 : Int32) (p1 : Int32) : Met l my_N_isNumber mw_N_isNumber ({ frames := 0, cells := 0, slots := 0, locals := 0 } : Room) (va_Pc [.int p0, .int p1] (fun _ => True)) (vp_Si (fun r => r = jb (cn_num p0 p1))) 0 0 (fun _ => False) := by
  refine Met.ofW (cc := mc_N_isNumber) (maxL := 2) (ret := (some .boolean)) (by decide) rfl ?_
  intro p e s m args below meth c s₁ B hml hv
  obtain ⟨rfl, -⟩ := hv
  have hx := B.exec
  have hb := B.bytes
  have hr := B.returns
  have hts := atoms_spec (ws := mw_N_isNumber) B.pre
  have ht : ∀ w ∈ gw_tbl, w.before _ s = true := fun w h => hts w (List.mem_cons_of_mem _ h)
  have hown : s.vm.findClass "NumberProbe" = some m.cls := findClass_of_methodNamed B.named
  have hlocks := B.notSynchronized
  have hl := lv_entry ([.int p0, .int p1]) (n := 2) (Nat.le_of_ble_eq_true rfl)
  rw [lg_entry_eq]
  generalize (lg_sl ([.int p0, .int p1]) ++ List.replicate (2 - (lg_sl ([.int p0, .int p1])).length) Slot.unset).toArray = ls at hl ⊢
  have hl : lv_has ls 2 [(0, .int p0), (1, .int p1)] := hl
  refine lv_iload_n hx hb md_N_isNumber_0 rfl (lv_at hl 0 rfl) ?_
  refine lv_if_lt (tgt := 23) hx hb md_N_isNumber_1 (by decide) (fun c_1 => ?_) (fun c_1 => ?_)
  · refine lv_iconst (v := 0) hx hb md_N_isNumber_23 (by decide) ?_
    have hq : 0 = jb (cn_num p0 p1) := by simp [cn_num, jb, c_1]
    exact W.zret (v := 0) (ty := .boolean) hx hb hr (by rw [hq]; cases (cn_num p0 p1) <;> rfl) (fun t ht2 _ => ⟨0, rfl, hq, ht2⟩) (fun q h => by cases h) md_N_isNumber_24
  · refine lv_iload_n hx hb md_N_isNumber_4 rfl (lv_at hl 0 rfl) ?_
    refine lv_iconst (v := 4) hx hb md_N_isNumber_5 (by decide) ?_
    refine lv_icmp_ge (tgt := 23) hx hb md_N_isNumber_6 (by decide) (fun c_2 => ?_) (fun c_2 => ?_)
    · refine lv_iconst (v := 0) hx hb md_N_isNumber_23 (by decide) ?_
      have hq : 0 = jb (cn_num p0 p1) := by simp [cn_num, jb, c_1, c_2]
      exact W.zret (v := 0) (ty := .boolean) hx hb hr (by rw [hq]; cases (cn_num p0 p1) <;> rfl) (fun t ht2 _ => ⟨0, rfl, hq, ht2⟩) (fun q h => by cases h) md_N_isNumber_24
    · refine lv_iload_n hx hb md_N_isNumber_9 rfl (lv_at hl 1 rfl) ?_
      refine lv_if_lt (tgt := 23) hx hb md_N_isNumber_10 (by decide) (fun c_3 => ?_) (fun c_3 => ?_)
      · refine lv_iconst (v := 0) hx hb md_N_isNumber_23 (by decide) ?_
        have hq : 0 = jb (cn_num p0 p1) := by simp [cn_num, jb, c_1, c_2, c_3]
        exact W.zret (v := 0) (ty := .boolean) hx hb hr (by rw [hq]; cases (cn_num p0 p1) <;> rfl) (fun t ht2 _ => ⟨0, rfl, hq, ht2⟩) (fun q h => by cases h) md_N_isNumber_24
      · refine lv_iload_n hx hb md_N_isNumber_13 rfl (lv_at hl 1 rfl) ?_
        refine lv_bipush (v := 6) hx hb md_N_isNumber_14 (by decide) ?_
        refine lv_icmp_ge (tgt := 23) hx hb md_N_isNumber_16 (by decide) (fun c_4 => ?_) (fun c_4 => ?_)
        · refine lv_iconst (v := 0) hx hb md_N_isNumber_23 (by decide) ?_
          have hq : 0 = jb (cn_num p0 p1) := by simp [cn_num, jb, c_1, c_2, c_3, c_4]
          exact W.zret (v := 0) (ty := .boolean) hx hb hr (by rw [hq]; cases (cn_num p0 p1) <;> rfl) (fun t ht2 _ => ⟨0, rfl, hq, ht2⟩) (fun q h => by cases h) md_N_isNumber_24
        · refine lv_iconst (v := 1) hx hb md_N_isNumber_19 (by decide) ?_
          refine lv_goto (tgt := 24) hx hb md_N_isNumber_20 (by decide) ?_
          have hq : 1 = jb (cn_num p0 p1) := by simp [cn_num, jb, c_1, c_2, c_3, c_4]
          exact W.zret (v := 1) (ty := .boolean) hx hb hr (by rw [hq]; cases (cn_num p0 p1) <;> rfl) (fun t ht2 _ => ⟨1, rfl, hq, ht2⟩) (fun q h => by cases h) md_N_isNumber_24
set_option maxHeartbeats 4000000 in
set_option maxRecDepth 100000 in
theorem mt_N_isFloating (l : Launch) (p0 : Int32) : Met l my_N_isFloating mw_N_isFloating ({ frames := 0, cells := 0, slots := 0, locals := 0 } : Room) (va_Pc [.int p0] (fun _ => True)) (vp_Si (fun r => r = jb (cn_flt p0))) 0 0 (fun _ => False) := by
  refine Met.ofW (cc := mc_N_isFloating) (maxL := 1) (ret := (some .boolean)) (by decide) rfl ?_
  intro p e s m args below meth c s₁ B hml hv
  obtain ⟨rfl, -⟩ := hv
  have hx := B.exec
  have hb := B.bytes
  have hr := B.returns
  have hts := atoms_spec (ws := mw_N_isFloating) B.pre
  have ht : ∀ w ∈ gw_tbl, w.before _ s = true := fun w h => hts w (List.mem_cons_of_mem _ h)
  have hown : s.vm.findClass "NumberProbe" = some m.cls := findClass_of_methodNamed B.named
  have hlocks := B.notSynchronized
  have hl := lv_entry ([.int p0]) (n := 1) (Nat.le_of_ble_eq_true rfl)
  rw [lg_entry_eq]
  generalize (lg_sl ([.int p0]) ++ List.replicate (1 - (lg_sl ([.int p0])).length) Slot.unset).toArray = ls at hl ⊢
  have hl : lv_has ls 1 [(0, .int p0)] := hl
  refine lv_iload_n hx hb md_N_isFloating_0 rfl (lv_at hl 0 rfl) ?_
  refine lv_if_eq (tgt := 9) hx hb md_N_isFloating_1 (by decide) (fun c_1 => ?_) (fun c_1 => ?_)
  · refine lv_iconst (v := 1) hx hb md_N_isFloating_9 (by decide) ?_
    refine lv_goto (tgt := 14) hx hb md_N_isFloating_10 (by decide) ?_
    have hq : 1 = jb (cn_flt p0) := by simp [cn_flt, jb, c_1]
    exact W.zret (v := 1) (ty := .boolean) hx hb hr (by rw [hq]; cases (cn_flt p0) <;> rfl) (fun t ht2 _ => ⟨1, rfl, hq, ht2⟩) (fun q h => by cases h) md_N_isFloating_14
  · refine lv_iload_n hx hb md_N_isFloating_4 rfl (lv_at hl 0 rfl) ?_
    refine lv_iconst (v := 1) hx hb md_N_isFloating_5 (by decide) ?_
    refine lv_icmp_ne (tgt := 13) hx hb md_N_isFloating_6 (by decide) (fun c_2 => ?_) (fun c_2 => ?_)
    · refine lv_iconst (v := 0) hx hb md_N_isFloating_13 (by decide) ?_
      have hq : 0 = jb (cn_flt p0) := by simp [cn_flt, jb, c_1, c_2]
      exact W.zret (v := 0) (ty := .boolean) hx hb hr (by rw [hq]; cases (cn_flt p0) <;> rfl) (fun t ht2 _ => ⟨0, rfl, hq, ht2⟩) (fun q h => by cases h) md_N_isFloating_14
    · refine lv_iconst (v := 1) hx hb md_N_isFloating_9 (by decide) ?_
      refine lv_goto (tgt := 14) hx hb md_N_isFloating_10 (by decide) ?_
      have hq : 1 = jb (cn_flt p0) := by simp [cn_flt, jb, c_1, c_2]
      exact W.zret (v := 1) (ty := .boolean) hx hb hr (by rw [hq]; cases (cn_flt p0) <;> rfl) (fun t ht2 _ => ⟨1, rfl, hq, ht2⟩) (fun q h => by cases h) md_N_isFloating_14
set_option maxHeartbeats 4000000 in
set_option maxRecDepth 100000 in
theorem mt_N_isOperation (l : Launch) (p0 : Int32) (p1 : Int32) : Met l my_N_isOperation mw_N_isOperation ({ frames := 1, cells := 0, slots := 0, locals := 20 } : Room) (va_Pc [.int p0, .int p1] (fun _ => True)) (vp_Si (fun r => r = jb (cn_opn p0 p1))) 0 0 (fun _ => False) := by
  refine Met.ofW (cc := mc_N_isOperation) (maxL := 2) (ret := (some .boolean)) (by decide) rfl ?_
  intro p e s m args below meth c s₁ B hml hv
  obtain ⟨rfl, -⟩ := hv
  have hx := B.exec
  have hb := B.bytes
  have hr := B.returns
  have hts := atoms_spec (ws := mw_N_isOperation) B.pre
  have ht : ∀ w ∈ gw_tbl, w.before _ s = true := fun w h => hts w (List.mem_cons_of_mem _ h)
  have hown : s.vm.findClass "NumberProbe" = some m.cls := findClass_of_methodNamed B.named
  have hlocks := B.notSynchronized
  have hl := lv_entry ([.int p0, .int p1]) (n := 2) (Nat.le_of_ble_eq_true rfl)
  rw [lg_entry_eq]
  generalize (lg_sl ([.int p0, .int p1]) ++ List.replicate (2 - (lg_sl ([.int p0, .int p1])).length) Slot.unset).toArray = ls at hl ⊢
  have hl : lv_has ls 2 [(0, .int p0), (1, .int p1)] := hl
  refine lv_iload_n hx hb md_N_isOperation_0 rfl (lv_at hl 1 rfl) ?_
  refine lv_if_lt (tgt := 26) hx hb md_N_isOperation_1 (by decide) (fun c_1 => ?_) (fun c_1 => ?_)
  · refine lv_iconst (v := 0) hx hb md_N_isOperation_26 (by decide) ?_
    have hq : 0 = jb (cn_opn p0 p1) := by simp [cn_opn, jb, c_1]
    exact W.zret (v := 0) (ty := .boolean) hx hb hr (by rw [hq]; cases (cn_opn p0 p1) <;> rfl) (fun t ht2 _ => ⟨0, rfl, hq, ht2⟩) (fun q h => by cases h) md_N_isOperation_27
  · refine lv_iload_n hx hb md_N_isOperation_4 rfl (lv_at hl 1 rfl) ?_
    refine lv_iload_n hx hb md_N_isOperation_5 rfl (lv_at hl 0 rfl) ?_
    refine vp_callSi (W.runS (As := [.int p0]) (rest := [.int p1]) ⟨hx, hb, hml, hown, hts⟩ (mt_N_isFloating l p0) (va_cwS 1 hts (gd_S tm_53 tm_54 tm_24 tm_55) rfl rfl rfl (by decide +kernel) ⟨Nat.le_of_ble_eq_true rfl, Nat.le_of_ble_eq_true rfl⟩) ⟨fb_0, fun U hU hW => ⟨rfl, trivial⟩⟩ rfl rfl hl.1 rfl (lv_room (Nat.le_of_ble_eq_true rfl)) md_N_isOperation_6 ⟨Nat.zero_le _, Nat.zero_le _⟩) (fun r_2 e_3 => ?_)
    obtain rfl : r_2 = jb (cn_flt p0) := e_3
    refine lv_if_eq (tgt := 17) hx hb md_N_isOperation_9 (by decide) (fun c_4 => ?_) (fun c_4 => ?_)
    · refine lv_bipush (v := 14) hx hb md_N_isOperation_17 (by decide) ?_
      refine lv_icmp_gt (tgt := 26) hx hb md_N_isOperation_19 (by decide) (fun c_5 => ?_) (fun c_5 => ?_)
      · refine lv_iconst (v := 0) hx hb md_N_isOperation_26 (by decide) ?_
        have hq : 0 = jb (cn_opn p0 p1) := by simp [cn_opn, jb, c_1, (jb_0.mp c_4), c_5]
        exact W.zret (v := 0) (ty := .boolean) hx hb hr (by rw [hq]; cases (cn_opn p0 p1) <;> rfl) (fun t ht2 _ => ⟨0, rfl, hq, ht2⟩) (fun q h => by cases h) md_N_isOperation_27
      · refine lv_iconst (v := 1) hx hb md_N_isOperation_22 (by decide) ?_
        refine lv_goto (tgt := 27) hx hb md_N_isOperation_23 (by decide) ?_
        have hq : 1 = jb (cn_opn p0 p1) := by simp [cn_opn, jb, c_1, (jb_0.mp c_4), c_5]
        exact W.zret (v := 1) (ty := .boolean) hx hb hr (by rw [hq]; cases (cn_opn p0 p1) <;> rfl) (fun t ht2 _ => ⟨1, rfl, hq, ht2⟩) (fun q h => by cases h) md_N_isOperation_27
    · refine lv_bipush (v := 8) hx hb md_N_isOperation_12 (by decide) ?_
      refine lv_goto (tgt := 19) hx hb md_N_isOperation_14 (by decide) ?_
      refine lv_icmp_gt (tgt := 26) hx hb md_N_isOperation_19 (by decide) (fun c_6 => ?_) (fun c_6 => ?_)
      · refine lv_iconst (v := 0) hx hb md_N_isOperation_26 (by decide) ?_
        have hq : 0 = jb (cn_opn p0 p1) := by simp [cn_opn, jb, c_1, (jb_n0.mp c_4), c_6]
        exact W.zret (v := 0) (ty := .boolean) hx hb hr (by rw [hq]; cases (cn_opn p0 p1) <;> rfl) (fun t ht2 _ => ⟨0, rfl, hq, ht2⟩) (fun q h => by cases h) md_N_isOperation_27
      · refine lv_iconst (v := 1) hx hb md_N_isOperation_22 (by decide) ?_
        refine lv_goto (tgt := 27) hx hb md_N_isOperation_23 (by decide) ?_
        have hq : 1 = jb (cn_opn p0 p1) := by simp [cn_opn, jb, c_1, (jb_n0.mp c_4), c_6]
        exact W.zret (v := 1) (ty := .boolean) hx hb hr (by rw [hq]; cases (cn_opn p0 p1) <;> rfl) (fun t ht2 _ => ⟨1, rfl, hq, ht2⟩) (fun q h => by cases h) md_N_isOperation_27
set_option maxHeartbeats 4000000 in
set_option maxRecDepth 100000 in
theorem mt_N_widthOf (l : Launch) (p0 : Int32) : Met l my_N_widthOf mw_N_widthOf ({ frames := 1, cells := 0, slots := 0, locals := 20 } : Room) (va_Pc [.int p0] (fun _ => True)) (vp_Si (fun r => r = cn_wid p0)) 0 0 (fun _ => False) := by
  refine Met.ofW (cc := mc_N_widthOf) (maxL := 1) (ret := (some .int)) (by decide) rfl ?_
  intro p e s m args below meth c s₁ B hml hv
  obtain ⟨rfl, -⟩ := hv
  have hx := B.exec
  have hb := B.bytes
  have hr := B.returns
  have hts := atoms_spec (ws := mw_N_widthOf) B.pre
  have ht : ∀ w ∈ gw_tbl, w.before _ s = true := fun w h => hts w (List.mem_cons_of_mem _ h)
  have hown : s.vm.findClass "NumberProbe" = some m.cls := findClass_of_methodNamed B.named
  have hlocks := B.notSynchronized
  have hl := lv_entry ([.int p0]) (n := 1) (Nat.le_of_ble_eq_true rfl)
  rw [lg_entry_eq]
  generalize (lg_sl ([.int p0]) ++ List.replicate (1 - (lg_sl ([.int p0])).length) Slot.unset).toArray = ls at hl ⊢
  have hl : lv_has ls 1 [(0, .int p0)] := hl
  refine lv_iload_n hx hb md_N_widthOf_0 rfl (lv_at hl 0 rfl) ?_
  refine vp_callSi (W.runS (As := [.int p0]) (rest := []) ⟨hx, hb, hml, hown, hts⟩ (mt_N_isFloating l p0) (va_cwS 1 hts (gd_S tm_53 tm_54 tm_24 tm_55) rfl rfl rfl (by decide +kernel) ⟨Nat.le_of_ble_eq_true rfl, Nat.le_of_ble_eq_true rfl⟩) ⟨fb_0, fun U hU hW => ⟨rfl, trivial⟩⟩ rfl rfl hl.1 rfl (lv_room (Nat.le_of_ble_eq_true rfl)) md_N_widthOf_1 ⟨Nat.zero_le _, Nat.zero_le _⟩) (fun r_1 e_2 => ?_)
  obtain rfl : r_1 = jb (cn_flt p0) := e_2
  refine lv_if_eq (tgt := 13) hx hb md_N_widthOf_4 (by decide) (fun c_3 => ?_) (fun c_3 => ?_)
  · refine lv_iload_n hx hb md_N_widthOf_13 rfl (lv_at hl 0 rfl) ?_
    refine lv_iconst (v := 2) hx hb md_N_widthOf_14 (by decide) ?_
    refine lv_isub hx hb md_N_widthOf_15 ?_
    have hq : p0 - 2 = cn_wid p0 := by simp [cn_wid, (jb_0.mp c_3)]
    exact W.iret (v := p0 - 2) hx hb hr (fun t ht2 _ => ⟨(p0 - 2), rfl, hq, ht2⟩) (fun q h => by cases h) md_N_widthOf_16
  · refine lv_iload_n hx hb md_N_widthOf_7 rfl (lv_at hl 0 rfl) ?_
    refine lv_iconst (v := 2) hx hb md_N_widthOf_8 (by decide) ?_
    refine lv_iadd hx hb md_N_widthOf_9 ?_
    refine lv_goto (tgt := 16) hx hb md_N_widthOf_10 (by decide) ?_
    have hq : p0 + 2 = cn_wid p0 := by simp [cn_wid, (jb_n0.mp c_3)]
    exact W.iret (v := p0 + 2) hx hb hr (fun t ht2 _ => ⟨(p0 + 2), rfl, hq, ht2⟩) (fun q h => by cases h) md_N_widthOf_16
set_option maxHeartbeats 4000000 in
set_option maxRecDepth 100000 in
theorem mt_N_fitted (l : Launch) (p0 : Int32) (p1 : Int64) : Met l my_N_fitted mw_N_fitted ({ frames := 0, cells := 0, slots := 0, locals := 0 } : Room) (va_Pc [.int p0, .long p1] (fun _ => True)) (vp_Sl (fun r => r = cn_fit p0 p1)) 0 0 (fun _ => False) := by
  refine Met.ofW (cc := mc_N_fitted) (maxL := 3) (ret := (some .long)) (by decide) rfl ?_
  intro p e s m args below meth c s₁ B hml hv
  obtain ⟨rfl, -⟩ := hv
  have hx := B.exec
  have hb := B.bytes
  have hr := B.returns
  have hts := atoms_spec (ws := mw_N_fitted) B.pre
  have ht : ∀ w ∈ gw_tbl, w.before _ s = true := fun w h => hts w (List.mem_cons_of_mem _ h)
  have hown : s.vm.findClass "NumberProbe" = some m.cls := findClass_of_methodNamed B.named
  have hlocks := B.notSynchronized
  have hl := lv_entry ([.int p0, .long p1]) (n := 3) (Nat.le_of_ble_eq_true rfl)
  rw [lg_entry_eq]
  generalize (lg_sl ([.int p0, .long p1]) ++ List.replicate (3 - (lg_sl ([.int p0, .long p1])).length) Slot.unset).toArray = ls at hl ⊢
  have hl : lv_has ls 3 [(0, .int p0), (1, .long p1)] := hl
  refine lv_iload_n hx hb md_N_fitted_0 rfl (lv_at hl 0 rfl) ?_
  refine lv_iconst (v := 3) hx hb md_N_fitted_1 (by decide) ?_
  refine lv_icmp_ne (tgt := 9) hx hb md_N_fitted_2 (by decide) (fun c_1 => ?_) (fun c_1 => ?_)
  · refine lv_lload_n hx hb md_N_fitted_9 rfl (lv_at hl 1 rfl) ?_
    refine lv_l2i (v := p1.toInt32) hx hb md_N_fitted_10 rfl ?_
    refine lv_i2l (v := p1.toInt32.toInt64) hx hb md_N_fitted_11 rfl ?_
    have hq : p1.toInt32.toInt64 = cn_fit p0 p1 := by simp [cn_fit, c_1]
    exact W.lret (v := p1.toInt32.toInt64) hx hb hr (fun t ht2 _ => ⟨p1.toInt32.toInt64, rfl, hq, ht2⟩) (fun q h => by cases h) md_N_fitted_12
  · refine lv_lload_n hx hb md_N_fitted_5 rfl (lv_at hl 1 rfl) ?_
    refine lv_goto (tgt := 12) hx hb md_N_fitted_6 (by decide) ?_
    have hq : p1 = cn_fit p0 p1 := by simp [cn_fit, c_1]
    exact W.lret (v := p1) hx hb hr (fun t ht2 _ => ⟨p1, rfl, hq, ht2⟩) (fun q h => by cases h) md_N_fitted_12
set_option maxHeartbeats 4000000 in
set_option maxRecDepth 100000 in
theorem mt_N_dividesByZero (l : Launch) (p0 : Int32) (p1 : Int32) (p2 : Int64) : Met l my_N_dividesByZero mw_N_dividesByZero ({ frames := 1, cells := 0, slots := 0, locals := 20 } : Room) (va_Pc [.int p0, .int p1, .long p2] (fun _ => True)) (vp_Si (fun r => r = jb (cn_dbz p0 p1 p2))) 0 0 (fun _ => False) := by
  refine Met.ofW (cc := mc_N_dividesByZero) (maxL := 4) (ret := (some .boolean)) (by decide) rfl ?_
  intro p e s m args below meth c s₁ B hml hv
  obtain ⟨rfl, -⟩ := hv
  have hx := B.exec
  have hb := B.bytes
  have hr := B.returns
  have hts := atoms_spec (ws := mw_N_dividesByZero) B.pre
  have ht : ∀ w ∈ gw_tbl, w.before _ s = true := fun w h => hts w (List.mem_cons_of_mem _ h)
  have hown : s.vm.findClass "NumberProbe" = some m.cls := findClass_of_methodNamed B.named
  have hlocks := B.notSynchronized
  have hl := lv_entry ([.int p0, .int p1, .long p2]) (n := 4) (Nat.le_of_ble_eq_true rfl)
  rw [lg_entry_eq]
  generalize (lg_sl ([.int p0, .int p1, .long p2]) ++ List.replicate (4 - (lg_sl ([.int p0, .int p1, .long p2])).length) Slot.unset).toArray = ls at hl ⊢
  have hl : lv_has ls 4 [(0, .int p0), (1, .int p1), (2, .long p2)] := hl
  refine lv_iload_n hx hb md_N_dividesByZero_0 rfl (lv_at hl 0 rfl) ?_
  refine vp_callSi (W.runS (As := [.int p0]) (rest := []) ⟨hx, hb, hml, hown, hts⟩ (mt_N_isFloating l p0) (va_cwS 1 hts (gd_S tm_53 tm_54 tm_24 tm_55) rfl rfl rfl (by decide +kernel) ⟨Nat.le_of_ble_eq_true rfl, Nat.le_of_ble_eq_true rfl⟩) ⟨fb_0, fun U hU hW => ⟨rfl, trivial⟩⟩ rfl rfl hl.1 rfl (lv_room (Nat.le_of_ble_eq_true rfl)) md_N_dividesByZero_1 ⟨Nat.zero_le _, Nat.zero_le _⟩) (fun r_1 e_2 => ?_)
  obtain rfl : r_1 = jb (cn_flt p0) := e_2
  refine lv_if_ne (tgt := 27) hx hb md_N_dividesByZero_4 (by decide) (fun c_3 => ?_) (fun c_3 => ?_)
  · refine lv_iconst (v := 0) hx hb md_N_dividesByZero_27 (by decide) ?_
    have hq : 0 = jb (cn_dbz p0 p1 p2) := by simp [cn_dbz, jb, (jb_n0.mp c_3)]
    exact W.zret (v := 0) (ty := .boolean) hx hb hr (by rw [hq]; cases (cn_dbz p0 p1 p2) <;> rfl) (fun t ht2 _ => ⟨0, rfl, hq, ht2⟩) (fun q h => by cases h) md_N_dividesByZero_28
  · refine lv_iload_n hx hb md_N_dividesByZero_7 rfl (lv_at hl 1 rfl) ?_
    refine lv_iconst (v := 3) hx hb md_N_dividesByZero_8 (by decide) ?_
    refine lv_icmp_eq (tgt := 17) hx hb md_N_dividesByZero_9 (by decide) (fun c_4 => ?_) (fun c_4 => ?_)
    · refine lv_lload_n hx hb md_N_dividesByZero_17 rfl (lv_at hl 2 rfl) ?_
      refine lv_lconst (v := 0) hx hb md_N_dividesByZero_18 (by decide) ?_
      refine W.lcmp hx hb md_N_dividesByZero_19 ?_
      refine lv_if_ne (tgt := 27) hx hb md_N_dividesByZero_20 (by decide) (fun c_5 => ?_) (fun c_5 => ?_)
      · refine lv_iconst (v := 0) hx hb md_N_dividesByZero_27 (by decide) ?_
        have hq : 0 = jb (cn_dbz p0 p1 p2) := by simp [cn_dbz, jb, (jb_0.mp c_3), c_4, (mt (lg_cmp_eq _ _).mpr c_5)]
        exact W.zret (v := 0) (ty := .boolean) hx hb hr (by rw [hq]; cases (cn_dbz p0 p1 p2) <;> rfl) (fun t ht2 _ => ⟨0, rfl, hq, ht2⟩) (fun q h => by cases h) md_N_dividesByZero_28
      · refine lv_iconst (v := 1) hx hb md_N_dividesByZero_23 (by decide) ?_
        refine lv_goto (tgt := 28) hx hb md_N_dividesByZero_24 (by decide) ?_
        have hq : 1 = jb (cn_dbz p0 p1 p2) := by simp [cn_dbz, jb, (jb_0.mp c_3), c_4, ((lg_cmp_eq _ _).mp c_5)]
        exact W.zret (v := 1) (ty := .boolean) hx hb hr (by rw [hq]; cases (cn_dbz p0 p1 p2) <;> rfl) (fun t ht2 _ => ⟨1, rfl, hq, ht2⟩) (fun q h => by cases h) md_N_dividesByZero_28
    · refine lv_iload_n hx hb md_N_dividesByZero_12 rfl (lv_at hl 1 rfl) ?_
      refine lv_iconst (v := 4) hx hb md_N_dividesByZero_13 (by decide) ?_
      refine lv_icmp_ne (tgt := 27) hx hb md_N_dividesByZero_14 (by decide) (fun c_6 => ?_) (fun c_6 => ?_)
      · refine lv_iconst (v := 0) hx hb md_N_dividesByZero_27 (by decide) ?_
        have hq : 0 = jb (cn_dbz p0 p1 p2) := by simp [cn_dbz, jb, (jb_0.mp c_3), c_4, c_6]
        exact W.zret (v := 0) (ty := .boolean) hx hb hr (by rw [hq]; cases (cn_dbz p0 p1 p2) <;> rfl) (fun t ht2 _ => ⟨0, rfl, hq, ht2⟩) (fun q h => by cases h) md_N_dividesByZero_28
      · refine lv_lload_n hx hb md_N_dividesByZero_17 rfl (lv_at hl 2 rfl) ?_
        refine lv_lconst (v := 0) hx hb md_N_dividesByZero_18 (by decide) ?_
        refine W.lcmp hx hb md_N_dividesByZero_19 ?_
        refine lv_if_ne (tgt := 27) hx hb md_N_dividesByZero_20 (by decide) (fun c_7 => ?_) (fun c_7 => ?_)
        · refine lv_iconst (v := 0) hx hb md_N_dividesByZero_27 (by decide) ?_
          have hq : 0 = jb (cn_dbz p0 p1 p2) := by simp [cn_dbz, jb, (jb_0.mp c_3), c_4, c_6, (mt (lg_cmp_eq _ _).mpr c_7)]
          exact W.zret (v := 0) (ty := .boolean) hx hb hr (by rw [hq]; cases (cn_dbz p0 p1 p2) <;> rfl) (fun t ht2 _ => ⟨0, rfl, hq, ht2⟩) (fun q h => by cases h) md_N_dividesByZero_28
        · refine lv_iconst (v := 1) hx hb md_N_dividesByZero_23 (by decide) ?_
          refine lv_goto (tgt := 28) hx hb md_N_dividesByZero_24 (by decide) ?_
          have hq : 1 = jb (cn_dbz p0 p1 p2) := by simp [cn_dbz, jb, (jb_0.mp c_3), c_4, c_6, ((lg_cmp_eq _ _).mp c_7)]
          exact W.zret (v := 1) (ty := .boolean) hx hb hr (by rw [hq]; cases (cn_dbz p0 p1 p2) <;> rfl) (fun t ht2 _ => ⟨1, rfl, hq, ht2⟩) (fun q h => by cases h) md_N_dividesByZero_28
set_option maxHeartbeats 4000000 in
set_option maxRecDepth 100000 in
theorem mt_N_formatOf (l : Launch) (ad : Nat → Nat) (p0 : Int32) : Met l my_N_formatOf mw_N_formatOf ({ frames := 0, cells := 0, slots := 0, locals := 0 } : Room) (va_Pc [.int p0] (fun U => FW ad (fun _ => False) U U.heap)) (va_Sr (fun q => q < 2 ∧ (q = 0 ↔ p0 = 0)) (fun q => .ref (ad q))) 0 0 (fun _ => False) := by
  refine Met.ofW (cc := mc_N_formatOf) (maxL := 1) (ret := (some (.object "NumberProbe$Format"))) (by decide) rfl ?_
  intro p e s m args below meth c s₁ B hml hv
  obtain ⟨rfl, hE⟩ := hv
  have hx := B.exec
  have hb := B.bytes
  have hr := B.returns
  have hts := atoms_spec (ws := mw_N_formatOf) B.pre
  have ht : ∀ w ∈ gw_tbl, w.before _ s = true := fun w h => hts w (List.mem_cons_of_mem _ h)
  have hown : s.vm.findClass "NumberProbe" = some m.cls := findClass_of_methodNamed B.named
  have hlocks := B.notSynchronized
  have hS : va_S (fun _ => False) s.heap s.heap [] := va_S.rf
  have hl := lv_entry ([.int p0]) (n := 1) (Nat.le_of_ble_eq_true rfl)
  rw [lg_entry_eq]
  generalize (lg_sl ([.int p0]) ++ List.replicate (1 - (lg_sl ([.int p0])).length) Slot.unset).toArray = ls at hl ⊢
  have hl : lv_has ls 1 [(0, .int p0)] := hl
  refine lv_iload_n hx hb md_N_formatOf_0 rfl (lv_at hl 0 rfl) ?_
  refine lv_if_ne (tgt := 10) hx hb md_N_formatOf_1 (by decide) (fun c_1 => ?_) (fun c_1 => ?_)
  · refine va_gets hx hb hE.2.2.2.2.2.2.2.2 hS hown (ht _ tm_61) (fun _ h9 => h9) md_N_formatOf_10 ?_
    exact W.aret (v := .ref (ad 1)) hx hb hr (by first | exact Or.inl ⟨_, rfl⟩ | exact Or.inr ⟨_, rfl⟩) (Or.inr ⟨_, rfl⟩) (fun t ht2 _ => ⟨1, rfl, ⟨by decide, by simp [c_1]⟩, ht2⟩) (fun q h => by cases h) md_N_formatOf_13
  · refine va_gets hx hb hE.2.2.2.2.2.2.2.1 hS hown (ht _ tm_59) (fun _ h9 => h9) md_N_formatOf_4 ?_
    refine lv_goto (tgt := 13) hx hb md_N_formatOf_7 (by decide) ?_
    exact W.aret (v := .ref (ad 0)) hx hb hr (by first | exact Or.inl ⟨_, rfl⟩ | exact Or.inr ⟨_, rfl⟩) (Or.inr ⟨_, rfl⟩) (fun t ht2 _ => ⟨0, rfl, ⟨by decide, by simp [c_1]⟩, ht2⟩) (fun q h => by cases h) md_N_formatOf_13
set_option maxHeartbeats 4000000 in
set_option maxRecDepth 100000 in
theorem mt_N_boundariesOf (l : Launch) (tb : Nat → Nat) (p0 : Int32) : Met l my_N_boundariesOf mw_N_boundariesOf ({ frames := 0, cells := 0, slots := 0, locals := 0 } : Room) (va_Pc [.int p0] (fun U => TW tb (fun _ => False) U U.heap)) (va_Sr (fun q => q < 4 ∧ (q = 2 ↔ p0 = 2)) (fun q => .ref (tb q))) 0 0 (fun _ => False) := by
  refine Met.ofW (cc := mc_N_boundariesOf) (maxL := 1) (ret := (some (.array .long))) (by decide) rfl ?_
  intro p e s m args below meth c s₁ B hml hv
  obtain ⟨rfl, hT⟩ := hv
  have hx := B.exec
  have hb := B.bytes
  have hr := B.returns
  have hts := atoms_spec (ws := mw_N_boundariesOf) B.pre
  have ht : ∀ w ∈ gw_tbl, w.before _ s = true := fun w h => hts w (List.mem_cons_of_mem _ h)
  have hown : s.vm.findClass "NumberProbe" = some m.cls := findClass_of_methodNamed B.named
  have hlocks := B.notSynchronized
  have hS : va_S (fun _ => False) s.heap s.heap [] := va_S.rf
  have hl := lv_entry ([.int p0]) (n := 1) (Nat.le_of_ble_eq_true rfl)
  rw [lg_entry_eq]
  generalize (lg_sl ([.int p0]) ++ List.replicate (1 - (lg_sl ([.int p0])).length) Slot.unset).toArray = ls at hl ⊢
  have hl : lv_has ls 1 [(0, .int p0)] := hl
  refine lv_iload_n hx hb md_N_boundariesOf_0 rfl (lv_at hl 0 rfl) ?_
  by_cases k_1 : p0 = 0
  · refine lv_tableIn (off := 27) (tgt := 28) hx hb md_N_boundariesOf_1 (by rw [k_1]; decide) (by rw [k_1]; decide) (by rw [k_1]; rfl) (by decide) ?_
    refine va_gets hx hb (hT 0 (by decide)).1 hS hown (ht _ tm_91) (fun _ h9 => h9) md_N_boundariesOf_28 ?_
    exact W.aret (v := .ref (tb 0)) hx hb hr (by first | exact Or.inl ⟨_, rfl⟩ | exact Or.inr ⟨_, rfl⟩) (Or.inr ⟨_, rfl⟩) (fun t ht2 _ => ⟨0, rfl, ⟨by decide, by simp [k_1]⟩, ht2⟩) (fun q h => by cases h) md_N_boundariesOf_31
  by_cases k_2 : p0 = 1
  · refine lv_tableIn (off := 31) (tgt := 32) hx hb md_N_boundariesOf_1 (by rw [k_2]; decide) (by rw [k_2]; decide) (by rw [k_2]; rfl) (by decide) ?_
    refine va_gets hx hb (hT 1 (by decide)).1 hS hown (ht _ tm_93) (fun _ h9 => h9) md_N_boundariesOf_32 ?_
    exact W.aret (v := .ref (tb 1)) hx hb hr (by first | exact Or.inl ⟨_, rfl⟩ | exact Or.inr ⟨_, rfl⟩) (Or.inr ⟨_, rfl⟩) (fun t ht2 _ => ⟨1, rfl, ⟨by decide, by simp [k_2]⟩, ht2⟩) (fun q h => by cases h) md_N_boundariesOf_35
  by_cases k_3 : p0 = 2
  · refine lv_tableIn (off := 35) (tgt := 36) hx hb md_N_boundariesOf_1 (by rw [k_3]; decide) (by rw [k_3]; decide) (by rw [k_3]; rfl) (by decide) ?_
    refine va_gets hx hb (hT 2 (by decide)).1 hS hown (ht _ tm_95) (fun _ h9 => h9) md_N_boundariesOf_36 ?_
    exact W.aret (v := .ref (tb 2)) hx hb hr (by first | exact Or.inl ⟨_, rfl⟩ | exact Or.inr ⟨_, rfl⟩) (Or.inr ⟨_, rfl⟩) (fun t ht2 _ => ⟨2, rfl, ⟨by decide, by simp [k_3]⟩, ht2⟩) (fun q h => by cases h) md_N_boundariesOf_39
  refine lv_tableOut (tgt := 40) hx hb md_N_boundariesOf_1 (by have := lv_neT k_1 (a := 0) rfl; have := lv_neT k_2 (a := 1) rfl; have := lv_neT k_3 (a := 2) rfl; omega) (by decide) ?_
  refine va_gets hx hb (hT 3 (by decide)).1 hS hown (ht _ tm_97) (fun _ h9 => h9) md_N_boundariesOf_40 ?_
  exact W.aret (v := .ref (tb 3)) hx hb hr (by first | exact Or.inl ⟨_, rfl⟩ | exact Or.inr ⟨_, rfl⟩) (Or.inr ⟨_, rfl⟩) (fun t ht2 _ => ⟨3, rfl, ⟨by decide, by simp [k_1, k_2, k_3]⟩, ht2⟩) (fun q h => by cases h) md_N_boundariesOf_43
set_option maxHeartbeats 4000000 in
set_option maxRecDepth 100000 in
theorem mt_N_shifted (l : Launch) (p0 : Int32) (p1 : Int32) (p2 : Int64) (p3 : Int64) : Met l my_N_shifted mw_N_shifted ({ frames := 0, cells := 0, slots := 0, locals := 0 } : Room) (va_Pc [.int p0, .int p1, .long p2, .long p3] (fun _ => True)) (vp_Sl (fun _ => True)) 0 0 (fun _ => False) := by
  refine Met.ofW (cc := mc_N_shifted) (maxL := 8) (ret := (some .long)) (by decide) rfl ?_
  intro p e s m args below meth c s₁ B hml hv
  obtain ⟨rfl, -⟩ := hv
  have hx := B.exec
  have hb := B.bytes
  have hr := B.returns
  have hts := atoms_spec (ws := mw_N_shifted) B.pre
  have ht : ∀ w ∈ gw_tbl, w.before _ s = true := fun w h => hts w (List.mem_cons_of_mem _ h)
  have hown : s.vm.findClass "NumberProbe" = some m.cls := findClass_of_methodNamed B.named
  have hlocks := B.notSynchronized
  have hl := lv_entry ([.int p0, .int p1, .long p2, .long p3]) (n := 8) (Nat.le_of_ble_eq_true rfl)
  rw [lg_entry_eq]
  generalize (lg_sl ([.int p0, .int p1, .long p2, .long p3]) ++ List.replicate (8 - (lg_sl ([.int p0, .int p1, .long p2, .long p3])).length) Slot.unset).toArray = ls at hl ⊢
  have hl : lv_has ls 8 [(0, .int p0), (1, .int p1), (2, .long p2), (4, .long p3)] := hl
  refine lv_iload_n hx hb md_N_shifted_0 rfl (lv_at hl 0 rfl) ?_
  refine lv_iconst (v := 2) hx hb md_N_shifted_1 (by decide) ?_
  refine lv_icmp_ne (tgt := 52) hx hb md_N_shifted_2 (by decide) (fun c_1 => ?_) (fun c_1 => ?_)
  · refine lv_lload hx hb md_N_shifted_52 (lv_at hl 3 rfl) ?_
    refine lv_l2i (v := p3.toInt32) hx hb md_N_shifted_54 rfl ?_
    refine lv_bipush (v := 63) hx hb md_N_shifted_55 (by decide) ?_
    refine lv_iand hx hb md_N_shifted_57 ?_
    refine lv_istore (lv' := [(6, .int (p3.toInt32 &&& 63)), (0, .int p0), (1, .int p1), (2, .long p2), (4, .long p3)]) hx hb md_N_shifted_58 hl (by decide) rfl (fun ls hl => ?_)
    refine lv_iload_n hx hb md_N_shifted_60 rfl (lv_at hl 2 rfl) ?_
    refine lv_bipush (v := 9) hx hb md_N_shifted_61 (by decide) ?_
    refine lv_icmp_ne (tgt := 71) hx hb md_N_shifted_63 (by decide) (fun c_2 => ?_) (fun c_2 => ?_)
    · refine lv_iload_n hx hb md_N_shifted_71 rfl (lv_at hl 2 rfl) ?_
      refine lv_bipush (v := 10) hx hb md_N_shifted_72 (by decide) ?_
      have J_4 : ∀ (z_5 : Int64) (ls : Array Slot), lv_has ls 8 [(6, .int (p3.toInt32 &&& 63)), (0, .int p0), (1, .int p1), (2, .long p2), (4, .long p3)] → WP p l e mw_N_shifted ({ frames := 0, cells := 0, slots := 0, locals := 0 } : Room) s m [.int p0, .int p1, .long p2, .long p3] below meth c (vp_Sl (fun _ => True)) (F0 m 88 ls [.long z_5]) := by
        intro z_5 ls hl
        exact W.lret (v := z_5) hx hb hr (fun t ht2 _ => ⟨z_5, rfl, trivial, ht2⟩) (fun q h => by cases h) md_N_shifted_88
      refine lv_icmp_ne (tgt := 84) hx hb md_N_shifted_74 (by decide) (fun c_3 => ?_) (fun c_3 => ?_)
      · refine lv_lload_n hx hb md_N_shifted_84 rfl (lv_at hl 3 rfl) ?_
        refine lv_iload hx hb md_N_shifted_85 (lv_at hl 0 rfl) ?_
        refine lv_lushr (v := jl_ush p2 (p3.toInt32 &&& 63)) hx hb md_N_shifted_87 rfl ?_
        exact J_4 (jl_ush p2 (p3.toInt32 &&& 63)) ls (lv_sub hl [0, 1, 2, 3, 4] rfl)
      · refine lv_lload_n hx hb md_N_shifted_77 rfl (lv_at hl 3 rfl) ?_
        refine lv_iload hx hb md_N_shifted_78 (lv_at hl 0 rfl) ?_
        refine lv_lshr (v := jl_shr p2 (p3.toInt32 &&& 63)) hx hb md_N_shifted_80 rfl ?_
        refine lv_goto (tgt := 88) hx hb md_N_shifted_81 (by decide) ?_
        exact J_4 (jl_shr p2 (p3.toInt32 &&& 63)) ls (lv_sub hl [0, 1, 2, 3, 4] rfl)
    · refine lv_lload_n hx hb md_N_shifted_66 rfl (lv_at hl 3 rfl) ?_
      refine lv_iload hx hb md_N_shifted_67 (lv_at hl 0 rfl) ?_
      refine lv_lshl (v := jl_shl p2 (p3.toInt32 &&& 63)) hx hb md_N_shifted_69 rfl ?_
      exact W.lret (v := jl_shl p2 (p3.toInt32 &&& 63)) hx hb hr (fun t ht2 _ => ⟨(jl_shl p2 (p3.toInt32 &&& 63)), rfl, trivial, ht2⟩) (fun q h => by cases h) md_N_shifted_70
  · refine lv_lload_n hx hb md_N_shifted_5 rfl (lv_at hl 2 rfl) ?_
    refine lv_l2i (v := p2.toInt32) hx hb md_N_shifted_6 rfl ?_
    refine lv_istore (lv' := [(6, .int p2.toInt32), (0, .int p0), (1, .int p1), (2, .long p2), (4, .long p3)]) hx hb md_N_shifted_7 hl (by decide) rfl (fun ls hl => ?_)
    refine lv_lload hx hb md_N_shifted_9 (lv_at hl 4 rfl) ?_
    refine lv_l2i (v := p3.toInt32) hx hb md_N_shifted_11 rfl ?_
    refine lv_bipush (v := 31) hx hb md_N_shifted_12 (by decide) ?_
    refine lv_iand hx hb md_N_shifted_14 ?_
    refine lv_istore (lv' := [(7, .int (p3.toInt32 &&& 31)), (6, .int p2.toInt32), (0, .int p0), (1, .int p1), (2, .long p2), (4, .long p3)]) hx hb md_N_shifted_15 hl (by decide) rfl (fun ls hl => ?_)
    refine lv_iload_n hx hb md_N_shifted_17 rfl (lv_at hl 3 rfl) ?_
    refine lv_bipush (v := 9) hx hb md_N_shifted_18 (by decide) ?_
    refine lv_icmp_ne (tgt := 30) hx hb md_N_shifted_20 (by decide) (fun c_6 => ?_) (fun c_6 => ?_)
    · refine lv_iload_n hx hb md_N_shifted_30 rfl (lv_at hl 3 rfl) ?_
      refine lv_bipush (v := 10) hx hb md_N_shifted_31 (by decide) ?_
      have J_8 : ∀ (z_9 : Int64) (ls : Array Slot), lv_has ls 8 [(7, .int (p3.toInt32 &&& 31)), (6, .int p2.toInt32), (0, .int p0), (1, .int p1), (2, .long p2), (4, .long p3)] → WP p l e mw_N_shifted ({ frames := 0, cells := 0, slots := 0, locals := 0 } : Room) s m [.int p0, .int p1, .long p2, .long p3] below meth c (vp_Sl (fun _ => True)) (F0 m 51 ls [.long z_9]) := by
        intro z_9 ls hl
        exact W.lret (v := z_9) hx hb hr (fun t ht2 _ => ⟨z_9, rfl, trivial, ht2⟩) (fun q h => by cases h) md_N_shifted_51
      refine lv_icmp_ne (tgt := 45) hx hb md_N_shifted_33 (by decide) (fun c_7 => ?_) (fun c_7 => ?_)
      · refine lv_iload hx hb md_N_shifted_45 (lv_at hl 1 rfl) ?_
        refine lv_iload hx hb md_N_shifted_47 (lv_at hl 0 rfl) ?_
        refine lv_iushr (v := ji_ush p2.toInt32 (p3.toInt32 &&& 31)) hx hb md_N_shifted_49 rfl ?_
        refine lv_i2l (v := (ji_ush p2.toInt32 (p3.toInt32 &&& 31)).toInt64) hx hb md_N_shifted_50 rfl ?_
        exact J_8 ((ji_ush p2.toInt32 (p3.toInt32 &&& 31)).toInt64) ls (lv_sub hl [0, 1, 2, 3, 4, 5] rfl)
      · refine lv_iload hx hb md_N_shifted_36 (lv_at hl 1 rfl) ?_
        refine lv_iload hx hb md_N_shifted_38 (lv_at hl 0 rfl) ?_
        refine lv_ishr hx hb md_N_shifted_40 ?_
        refine lv_i2l (v := (p2.toInt32 >>> ((p3.toInt32 &&& 31) &&& 31)).toInt64) hx hb md_N_shifted_41 rfl ?_
        refine lv_goto (tgt := 51) hx hb md_N_shifted_42 (by decide) ?_
        exact J_8 ((p2.toInt32 >>> ((p3.toInt32 &&& 31) &&& 31)).toInt64) ls (lv_sub hl [0, 1, 2, 3, 4, 5] rfl)
    · refine lv_iload hx hb md_N_shifted_23 (lv_at hl 1 rfl) ?_
      refine lv_iload hx hb md_N_shifted_25 (lv_at hl 0 rfl) ?_
      refine lv_ishl hx hb md_N_shifted_27 ?_
      refine lv_i2l (v := (p2.toInt32 <<< ((p3.toInt32 &&& 31) &&& 31)).toInt64) hx hb md_N_shifted_28 rfl ?_
      exact W.lret (v := (p2.toInt32 <<< ((p3.toInt32 &&& 31) &&& 31)).toInt64) hx hb hr (fun t ht2 _ => ⟨((p2.toInt32 <<< ((p3.toInt32 &&& 31) &&& 31)).toInt64), rfl, trivial, ht2⟩) (fun q h => by cases h) md_N_shifted_29
set_option maxHeartbeats 4000000 in
set_option maxRecDepth 100000 in
theorem mt_N_wholeResult (l : Launch) (p0 : Int32) (p1 : Int64) (p2 : Int64) (hd : p0 = 3 ∨ p0 = 4 → ¬ p2 = 0) : Met l my_N_wholeResult mw_N_wholeResult ({ frames := 1, cells := 0, slots := 0, locals := 23 } : Room) (va_Pc [.int p0, .long p1, .long p2] (fun _ => True)) (vp_Sl (fun _ => True)) 0 0 (fun _ => False) := by
  refine Met.ofW (cc := mc_N_wholeResult) (maxL := 5) (ret := (some .long)) (by decide) rfl ?_
  intro p e s m args below meth c s₁ B hml hv
  obtain ⟨rfl, -⟩ := hv
  have hx := B.exec
  have hb := B.bytes
  have hr := B.returns
  have hts := atoms_spec (ws := mw_N_wholeResult) B.pre
  have ht : ∀ w ∈ gw_tbl, w.before _ s = true := fun w h => hts w (List.mem_cons_of_mem _ h)
  have hown : s.vm.findClass "NumberProbe" = some m.cls := findClass_of_methodNamed B.named
  have hlocks := B.notSynchronized
  have hl := lv_entry ([.int p0, .long p1, .long p2]) (n := 5) (Nat.le_of_ble_eq_true rfl)
  rw [lg_entry_eq]
  generalize (lg_sl ([.int p0, .long p1, .long p2]) ++ List.replicate (5 - (lg_sl ([.int p0, .long p1, .long p2])).length) Slot.unset).toArray = ls at hl ⊢
  have hl : lv_has ls 5 [(0, .int p0), (1, .long p1), (3, .long p2)] := hl
  refine lv_iload_n hx hb md_N_wholeResult_0 rfl (lv_at hl 0 rfl) ?_
  by_cases k_1 : p0 = 0
  · refine lv_tableIn (off := 71) (tgt := 72) hx hb md_N_wholeResult_1 (by rw [k_1]; decide) (by rw [k_1]; decide) (by rw [k_1]; rfl) (by decide) ?_
    refine lv_lload_n hx hb md_N_wholeResult_72 rfl (lv_at hl 1 rfl) ?_
    refine lv_lload_n hx hb md_N_wholeResult_73 rfl (lv_at hl 2 rfl) ?_
    refine lv_ladd hx hb md_N_wholeResult_74 ?_
    exact W.lret (v := p1 + p2) hx hb hr (fun t ht2 _ => ⟨(p1 + p2), rfl, trivial, ht2⟩) (fun q h => by cases h) md_N_wholeResult_75
  by_cases k_2 : p0 = 1
  · refine lv_tableIn (off := 75) (tgt := 76) hx hb md_N_wholeResult_1 (by rw [k_2]; decide) (by rw [k_2]; decide) (by rw [k_2]; rfl) (by decide) ?_
    refine lv_lload_n hx hb md_N_wholeResult_76 rfl (lv_at hl 1 rfl) ?_
    refine lv_lload_n hx hb md_N_wholeResult_77 rfl (lv_at hl 2 rfl) ?_
    refine lv_lsub hx hb md_N_wholeResult_78 ?_
    exact W.lret (v := p1 - p2) hx hb hr (fun t ht2 _ => ⟨(p1 - p2), rfl, trivial, ht2⟩) (fun q h => by cases h) md_N_wholeResult_79
  by_cases k_3 : p0 = 2
  · refine lv_tableIn (off := 79) (tgt := 80) hx hb md_N_wholeResult_1 (by rw [k_3]; decide) (by rw [k_3]; decide) (by rw [k_3]; rfl) (by decide) ?_
    refine lv_lload_n hx hb md_N_wholeResult_80 rfl (lv_at hl 1 rfl) ?_
    refine lv_lload_n hx hb md_N_wholeResult_81 rfl (lv_at hl 2 rfl) ?_
    refine lv_lmul hx hb md_N_wholeResult_82 ?_
    exact W.lret (v := p1 * p2) hx hb hr (fun t ht2 _ => ⟨(p1 * p2), rfl, trivial, ht2⟩) (fun q h => by cases h) md_N_wholeResult_83
  by_cases k_4 : p0 = 3
  · refine lv_tableIn (off := 83) (tgt := 84) hx hb md_N_wholeResult_1 (by rw [k_4]; decide) (by rw [k_4]; decide) (by rw [k_4]; rfl) (by decide) ?_
    refine lv_lload_n hx hb md_N_wholeResult_84 rfl (lv_at hl 1 rfl) ?_
    refine lv_lload_n hx hb md_N_wholeResult_85 rfl (lv_at hl 2 rfl) ?_
    refine lv_ldiv hx hb md_N_wholeResult_86 (hd (Or.inl k_4)) ?_
    exact W.lret (v := p1 / p2) hx hb hr (fun t ht2 _ => ⟨(p1 / p2), rfl, trivial, ht2⟩) (fun q h => by cases h) md_N_wholeResult_87
  by_cases k_5 : p0 = 4
  · refine lv_tableIn (off := 87) (tgt := 88) hx hb md_N_wholeResult_1 (by rw [k_5]; decide) (by rw [k_5]; decide) (by rw [k_5]; rfl) (by decide) ?_
    refine lv_lload_n hx hb md_N_wholeResult_88 rfl (lv_at hl 1 rfl) ?_
    refine lv_lload_n hx hb md_N_wholeResult_89 rfl (lv_at hl 2 rfl) ?_
    refine lv_lrem hx hb md_N_wholeResult_90 (hd (Or.inr k_5)) ?_
    exact W.lret (v := p1 - p1 / p2 * p2) hx hb hr (fun t ht2 _ => ⟨(p1 - p1 / p2 * p2), rfl, trivial, ht2⟩) (fun q h => by cases h) md_N_wholeResult_91
  by_cases k_6 : p0 = 5
  · refine lv_tableIn (off := 91) (tgt := 92) hx hb md_N_wholeResult_1 (by rw [k_6]; decide) (by rw [k_6]; decide) (by rw [k_6]; rfl) (by decide) ?_
    refine lv_lload_n hx hb md_N_wholeResult_92 rfl (lv_at hl 1 rfl) ?_
    refine lv_lload_n hx hb md_N_wholeResult_93 rfl (lv_at hl 2 rfl) ?_
    refine va_mmin_long hx hb (by rw [hml]; exact hl.1.symm) hown (ht _ tm_223) (ht _ tm_224) (ht _ tm_28) (ht _ tm_225) (Nat.le_of_ble_eq_true rfl) (Nat.le_of_ble_eq_true rfl) (Nat.zero_le _) (Nat.zero_le _) md_N_wholeResult_94 ?_
    exact W.lret (v := (if p2 < p1 then p2 else p1)) hx hb hr (fun t ht2 _ => ⟨(if p2 < p1 then p2 else p1), rfl, trivial, ht2⟩) (fun q h => by cases h) md_N_wholeResult_97
  by_cases k_7 : p0 = 6
  · refine lv_tableIn (off := 97) (tgt := 98) hx hb md_N_wholeResult_1 (by rw [k_7]; decide) (by rw [k_7]; decide) (by rw [k_7]; rfl) (by decide) ?_
    refine lv_lload_n hx hb md_N_wholeResult_98 rfl (lv_at hl 1 rfl) ?_
    refine lv_lload_n hx hb md_N_wholeResult_99 rfl (lv_at hl 2 rfl) ?_
    refine va_mmax_long hx hb (by rw [hml]; exact hl.1.symm) hown (ht _ tm_226) (ht _ tm_227) (ht _ tm_28) (ht _ tm_228) (Nat.le_of_ble_eq_true rfl) (Nat.le_of_ble_eq_true rfl) (Nat.zero_le _) (Nat.zero_le _) md_N_wholeResult_100 ?_
    exact W.lret (v := (if p2 < p1 then p1 else p2)) hx hb hr (fun t ht2 _ => ⟨(if p2 < p1 then p1 else p2), rfl, trivial, ht2⟩) (fun q h => by cases h) md_N_wholeResult_103
  by_cases k_8 : p0 = 7
  · refine lv_tableIn (off := 103) (tgt := 104) hx hb md_N_wholeResult_1 (by rw [k_8]; decide) (by rw [k_8]; decide) (by rw [k_8]; rfl) (by decide) ?_
    refine lv_lload_n hx hb md_N_wholeResult_104 rfl (lv_at hl 1 rfl) ?_
    refine lv_lneg hx hb md_N_wholeResult_105 ?_
    exact W.lret (v := -p1) hx hb hr (fun t ht2 _ => ⟨(-p1), rfl, trivial, ht2⟩) (fun q h => by cases h) md_N_wholeResult_106
  by_cases k_9 : p0 = 8
  · refine lv_tableIn (off := 106) (tgt := 107) hx hb md_N_wholeResult_1 (by rw [k_9]; decide) (by rw [k_9]; decide) (by rw [k_9]; rfl) (by decide) ?_
    refine lv_lload_n hx hb md_N_wholeResult_107 rfl (lv_at hl 1 rfl) ?_
    refine lv_lconst (v := 0) hx hb md_N_wholeResult_108 (by decide) ?_
    refine W.lcmp hx hb md_N_wholeResult_109 ?_
    have J_11 : ∀ (z_12 : Int64) (ls : Array Slot), lv_has ls 5 [(0, .int p0), (1, .long p1), (3, .long p2)] → WP p l e mw_N_wholeResult ({ frames := 1, cells := 0, slots := 0, locals := 23 } : Room) s m [.int p0, .long p1, .long p2] below meth c (vp_Sl (fun _ => True)) (F0 m 119 ls [.long z_12]) := by
      intro z_12 ls hl
      exact W.lret (v := z_12) hx hb hr (fun t ht2 _ => ⟨z_12, rfl, trivial, ht2⟩) (fun q h => by cases h) md_N_wholeResult_119
    refine lv_if_ge (tgt := 118) hx hb md_N_wholeResult_110 (by decide) (fun c_10 => ?_) (fun c_10 => ?_)
    · refine lv_lload_n hx hb md_N_wholeResult_118 rfl (lv_at hl 1 rfl) ?_
      exact J_11 p1 ls (lv_sub hl [0, 1, 2] rfl)
    · refine lv_lload_n hx hb md_N_wholeResult_113 rfl (lv_at hl 1 rfl) ?_
      refine lv_lneg hx hb md_N_wholeResult_114 ?_
      refine lv_goto (tgt := 119) hx hb md_N_wholeResult_115 (by decide) ?_
      exact J_11 (-p1) ls (lv_sub hl [0, 1, 2] rfl)
  by_cases k_13 : p0 = 9
  · refine lv_tableIn (off := 127) (tgt := 128) hx hb md_N_wholeResult_1 (by rw [k_13]; decide) (by rw [k_13]; decide) (by rw [k_13]; rfl) (by decide) ?_
    refine lv_lload_n hx hb md_N_wholeResult_128 rfl (lv_at hl 1 rfl) ?_
    refine lv_lload_n hx hb md_N_wholeResult_129 rfl (lv_at hl 2 rfl) ?_
    refine lv_lxor hx hb md_N_wholeResult_130 ?_
    exact W.lret (v := p1 ^^^ p2) hx hb hr (fun t ht2 _ => ⟨(p1 ^^^ p2), rfl, trivial, ht2⟩) (fun q h => by cases h) md_N_wholeResult_131
  by_cases k_14 : p0 = 10
  · refine lv_tableIn (off := 127) (tgt := 128) hx hb md_N_wholeResult_1 (by rw [k_14]; decide) (by rw [k_14]; decide) (by rw [k_14]; rfl) (by decide) ?_
    refine lv_lload_n hx hb md_N_wholeResult_128 rfl (lv_at hl 1 rfl) ?_
    refine lv_lload_n hx hb md_N_wholeResult_129 rfl (lv_at hl 2 rfl) ?_
    refine lv_lxor hx hb md_N_wholeResult_130 ?_
    exact W.lret (v := p1 ^^^ p2) hx hb hr (fun t ht2 _ => ⟨(p1 ^^^ p2), rfl, trivial, ht2⟩) (fun q h => by cases h) md_N_wholeResult_131
  by_cases k_15 : p0 = 11
  · refine lv_tableIn (off := 127) (tgt := 128) hx hb md_N_wholeResult_1 (by rw [k_15]; decide) (by rw [k_15]; decide) (by rw [k_15]; rfl) (by decide) ?_
    refine lv_lload_n hx hb md_N_wholeResult_128 rfl (lv_at hl 1 rfl) ?_
    refine lv_lload_n hx hb md_N_wholeResult_129 rfl (lv_at hl 2 rfl) ?_
    refine lv_lxor hx hb md_N_wholeResult_130 ?_
    exact W.lret (v := p1 ^^^ p2) hx hb hr (fun t ht2 _ => ⟨(p1 ^^^ p2), rfl, trivial, ht2⟩) (fun q h => by cases h) md_N_wholeResult_131
  by_cases k_16 : p0 = 12
  · refine lv_tableIn (off := 119) (tgt := 120) hx hb md_N_wholeResult_1 (by rw [k_16]; decide) (by rw [k_16]; decide) (by rw [k_16]; rfl) (by decide) ?_
    refine lv_lload_n hx hb md_N_wholeResult_120 rfl (lv_at hl 1 rfl) ?_
    refine lv_lload_n hx hb md_N_wholeResult_121 rfl (lv_at hl 2 rfl) ?_
    refine lv_land hx hb md_N_wholeResult_122 ?_
    exact W.lret (v := p1 &&& p2) hx hb hr (fun t ht2 _ => ⟨(p1 &&& p2), rfl, trivial, ht2⟩) (fun q h => by cases h) md_N_wholeResult_123
  by_cases k_17 : p0 = 13
  · refine lv_tableIn (off := 123) (tgt := 124) hx hb md_N_wholeResult_1 (by rw [k_17]; decide) (by rw [k_17]; decide) (by rw [k_17]; rfl) (by decide) ?_
    refine lv_lload_n hx hb md_N_wholeResult_124 rfl (lv_at hl 1 rfl) ?_
    refine lv_lload_n hx hb md_N_wholeResult_125 rfl (lv_at hl 2 rfl) ?_
    refine lv_lor hx hb md_N_wholeResult_126 ?_
    exact W.lret (v := p1 ||| p2) hx hb hr (fun t ht2 _ => ⟨(p1 ||| p2), rfl, trivial, ht2⟩) (fun q h => by cases h) md_N_wholeResult_127
  refine lv_tableOut (tgt := 128) hx hb md_N_wholeResult_1 (by have := lv_neT k_1 (a := 0) rfl; have := lv_neT k_2 (a := 1) rfl; have := lv_neT k_3 (a := 2) rfl; have := lv_neT k_4 (a := 3) rfl; have := lv_neT k_5 (a := 4) rfl; have := lv_neT k_6 (a := 5) rfl; have := lv_neT k_7 (a := 6) rfl; have := lv_neT k_8 (a := 7) rfl; have := lv_neT k_9 (a := 8) rfl; have := lv_neT k_13 (a := 9) rfl; have := lv_neT k_14 (a := 10) rfl; have := lv_neT k_15 (a := 11) rfl; have := lv_neT k_16 (a := 12) rfl; have := lv_neT k_17 (a := 13) rfl; omega) (by decide) ?_
  refine lv_lload_n hx hb md_N_wholeResult_128 rfl (lv_at hl 1 rfl) ?_
  refine lv_lload_n hx hb md_N_wholeResult_129 rfl (lv_at hl 2 rfl) ?_
  refine lv_lxor hx hb md_N_wholeResult_130 ?_
  exact W.lret (v := p1 ^^^ p2) hx hb hr (fun t ht2 _ => ⟨(p1 ^^^ p2), rfl, trivial, ht2⟩) (fun q h => by cases h) md_N_wholeResult_131
set_option maxHeartbeats 4000000 in
set_option maxRecDepth 100000 in
theorem mt_N_floatingResult (l : Launch) (ad : Nat → Nat) (p0 : Nat) (hp0 : p0 < 2) (p1 : Int32) (p2 : Int64) (p3 : Int64) : Met l my_N_floatingResult mw_N_floatingResult ({ frames := 5, cells := 0, slots := 0, locals := 134 } : Room) (va_Pc [.ref (ad p0), .int p1, .long p2, .long p3] (fun U => FW ad (fun _ => False) U U.heap)) (vp_Sl (fun _ => True)) 0 0 (fun _ => False) := by
  refine Met.ofW (cc := mc_N_floatingResult) (maxL := 6) (ret := (some .long)) (by decide) rfl ?_
  intro p e s m args below meth c s₁ B hml hv
  obtain ⟨rfl, hE⟩ := hv
  have hx := B.exec
  have hb := B.bytes
  have hr := B.returns
  have hts := atoms_spec (ws := mw_N_floatingResult) B.pre
  have ht : ∀ w ∈ gw_tbl, w.before _ s = true := fun w h => hts w (List.mem_cons_of_mem _ h)
  have hown : s.vm.findClass "NumberProbe" = some m.cls := findClass_of_methodNamed B.named
  have hlocks := B.notSynchronized
  have hS : va_S (fun _ => False) s.heap s.heap [] := va_S.rf
  have hl := lv_entry ([.ref (ad p0), .int p1, .long p2, .long p3]) (n := 6) (Nat.le_of_ble_eq_true rfl)
  rw [lg_entry_eq]
  generalize (lg_sl ([.ref (ad p0), .int p1, .long p2, .long p3]) ++ List.replicate (6 - (lg_sl ([.ref (ad p0), .int p1, .long p2, .long p3])).length) Slot.unset).toArray = ls at hl ⊢
  have hl : lv_has ls 6 [(0, .ref (ad p0)), (1, .int p1), (2, .long p2), (4, .long p3)] := hl
  refine lv_iload_n hx hb md_N_floatingResult_0 rfl (lv_at hl 1 rfl) ?_
  by_cases k_1 : p1 = 0
  · refine lv_tableIn (off := 47) (tgt := 48) hx hb md_N_floatingResult_1 (by rw [k_1]; decide) (by rw [k_1]; decide) (by rw [k_1]; rfl) (by decide) ?_
    refine lv_aload_n hx hb md_N_floatingResult_48 rfl (lv_at hl 0 rfl) ?_
    refine lv_lload_n hx hb md_N_floatingResult_49 rfl (lv_at hl 2 rfl) ?_
    refine lv_lload hx hb md_N_floatingResult_50 (lv_at hl 3 rfl) ?_
    refine vp_callSl (W.runV (C := "NumberProbe$Format") (As := [.long p2, .long p3]) (rest := []) ⟨hx, hb, hml, hown, hts⟩ (mt_F_sum l ad p0 hp0 p2 p3) (cwV 2 hts (gd_V tm_119 tm_120 tm_121 tm_27 tm_122) rfl rfl rfl (by decide +kernel) ⟨Nat.le_of_ble_eq_true rfl, Nat.le_of_ble_eq_true rfl⟩) ⟨fb_E, fw_recv hE hp0 hS, fun U hU hW => ⟨rfl, fw_use hE hS hU hW⟩⟩ rfl rfl hl.1 rfl (lv_room (Nat.le_of_ble_eq_true rfl)) md_N_floatingResult_52 ⟨Nat.zero_le _, Nat.zero_le _⟩) (fun r_2 e_3 => ?_)
    exact W.lret (v := r_2) hx hb hr (fun t ht2 _ => ⟨r_2, rfl, trivial, ht2⟩) (fun q h => by cases h) md_N_floatingResult_55
  by_cases k_4 : p1 = 1
  · refine lv_tableIn (off := 55) (tgt := 56) hx hb md_N_floatingResult_1 (by rw [k_4]; decide) (by rw [k_4]; decide) (by rw [k_4]; rfl) (by decide) ?_
    refine lv_aload_n hx hb md_N_floatingResult_56 rfl (lv_at hl 0 rfl) ?_
    refine lv_lload_n hx hb md_N_floatingResult_57 rfl (lv_at hl 2 rfl) ?_
    refine lv_aload_n hx hb md_N_floatingResult_58 rfl (lv_at hl 0 rfl) ?_
    refine lv_lload hx hb md_N_floatingResult_59 (lv_at hl 3 rfl) ?_
    refine vp_callSl (W.runV (C := "NumberProbe$Format") (As := [.long p3]) (rest := [.long p2, .ref (ad p0)]) ⟨hx, hb, hml, hown, hts⟩ (mt_F_negated l ad p0 hp0 p3) (cwV 1 hts (gd_V tm_166 tm_167 tm_168 tm_27 tm_169) rfl rfl rfl (by decide +kernel) ⟨Nat.le_of_ble_eq_true rfl, Nat.le_of_ble_eq_true rfl⟩) ⟨fb_E, fw_recv hE hp0 hS, fun U hU hW => ⟨rfl, fw_use hE hS hU hW⟩⟩ rfl rfl hl.1 rfl (lv_room (Nat.le_of_ble_eq_true rfl)) md_N_floatingResult_61 ⟨Nat.zero_le _, Nat.zero_le _⟩) (fun r_5 e_6 => ?_)
    refine vp_callSl (W.runV (C := "NumberProbe$Format") (As := [.long p2, .long r_5]) (rest := []) ⟨hx, hb, hml, hown, hts⟩ (mt_F_sum l ad p0 hp0 p2 r_5) (cwV 2 hts (gd_V tm_119 tm_120 tm_121 tm_27 tm_122) rfl rfl rfl (by decide +kernel) ⟨Nat.le_of_ble_eq_true rfl, Nat.le_of_ble_eq_true rfl⟩) ⟨fb_E, fw_recv hE hp0 hS, fun U hU hW => ⟨rfl, fw_use hE hS hU hW⟩⟩ rfl rfl hl.1 rfl (lv_room (Nat.le_of_ble_eq_true rfl)) md_N_floatingResult_64 ⟨Nat.zero_le _, Nat.zero_le _⟩) (fun r_7 e_8 => ?_)
    exact W.lret (v := r_7) hx hb hr (fun t ht2 _ => ⟨r_7, rfl, trivial, ht2⟩) (fun q h => by cases h) md_N_floatingResult_67
  by_cases k_9 : p1 = 2
  · refine lv_tableIn (off := 67) (tgt := 68) hx hb md_N_floatingResult_1 (by rw [k_9]; decide) (by rw [k_9]; decide) (by rw [k_9]; rfl) (by decide) ?_
    refine lv_aload_n hx hb md_N_floatingResult_68 rfl (lv_at hl 0 rfl) ?_
    refine lv_lload_n hx hb md_N_floatingResult_69 rfl (lv_at hl 2 rfl) ?_
    refine lv_lload hx hb md_N_floatingResult_70 (lv_at hl 3 rfl) ?_
    refine vp_callSl (W.runV (C := "NumberProbe$Format") (As := [.long p2, .long p3]) (rest := []) ⟨hx, hb, hml, hown, hts⟩ (mt_F_product l ad p0 hp0 p2 p3) (cwV 2 hts (gd_V tm_170 tm_171 tm_172 tm_27 tm_173) rfl rfl rfl (by decide +kernel) ⟨Nat.le_of_ble_eq_true rfl, Nat.le_of_ble_eq_true rfl⟩) ⟨fb_E, fw_recv hE hp0 hS, fun U hU hW => ⟨rfl, fw_use hE hS hU hW⟩⟩ rfl rfl hl.1 rfl (lv_room (Nat.le_of_ble_eq_true rfl)) md_N_floatingResult_72 ⟨Nat.zero_le _, Nat.zero_le _⟩) (fun r_10 e_11 => ?_)
    exact W.lret (v := r_10) hx hb hr (fun t ht2 _ => ⟨r_10, rfl, trivial, ht2⟩) (fun q h => by cases h) md_N_floatingResult_75
  by_cases k_12 : p1 = 3
  · refine lv_tableIn (off := 75) (tgt := 76) hx hb md_N_floatingResult_1 (by rw [k_12]; decide) (by rw [k_12]; decide) (by rw [k_12]; rfl) (by decide) ?_
    refine lv_aload_n hx hb md_N_floatingResult_76 rfl (lv_at hl 0 rfl) ?_
    refine lv_lload_n hx hb md_N_floatingResult_77 rfl (lv_at hl 2 rfl) ?_
    refine lv_lload hx hb md_N_floatingResult_78 (lv_at hl 3 rfl) ?_
    refine vp_callSl (W.runV (C := "NumberProbe$Format") (As := [.long p2, .long p3]) (rest := []) ⟨hx, hb, hml, hown, hts⟩ (mt_F_quotient l ad p0 hp0 p2 p3) (cwV 2 hts (gd_V tm_189 tm_190 tm_191 tm_27 tm_192) rfl rfl rfl (by decide +kernel) ⟨Nat.le_of_ble_eq_true rfl, Nat.le_of_ble_eq_true rfl⟩) ⟨fb_E, fw_recv hE hp0 hS, fun U hU hW => ⟨rfl, fw_use hE hS hU hW⟩⟩ rfl rfl hl.1 rfl (lv_room (Nat.le_of_ble_eq_true rfl)) md_N_floatingResult_80 ⟨Nat.zero_le _, Nat.zero_le _⟩) (fun r_13 e_14 => ?_)
    exact W.lret (v := r_13) hx hb hr (fun t ht2 _ => ⟨r_13, rfl, trivial, ht2⟩) (fun q h => by cases h) md_N_floatingResult_83
  by_cases k_15 : p1 = 4
  · refine lv_tableIn (off := 83) (tgt := 84) hx hb md_N_floatingResult_1 (by rw [k_15]; decide) (by rw [k_15]; decide) (by rw [k_15]; rfl) (by decide) ?_
    refine lv_aload_n hx hb md_N_floatingResult_84 rfl (lv_at hl 0 rfl) ?_
    refine lv_lload_n hx hb md_N_floatingResult_85 rfl (lv_at hl 2 rfl) ?_
    refine lv_lload hx hb md_N_floatingResult_86 (lv_at hl 3 rfl) ?_
    refine vp_callSl (W.runV (C := "NumberProbe$Format") (As := [.long p2, .long p3]) (rest := []) ⟨hx, hb, hml, hown, hts⟩ (mt_F_remainder l ad p0 hp0 p2 p3) (cwV 2 hts (gd_V tm_197 tm_198 tm_199 tm_27 tm_200) rfl rfl rfl (by decide +kernel) ⟨Nat.le_of_ble_eq_true rfl, Nat.le_of_ble_eq_true rfl⟩) ⟨fb_E, fw_recv hE hp0 hS, fun U hU hW => ⟨rfl, fw_use hE hS hU hW⟩⟩ rfl rfl hl.1 rfl (lv_room (Nat.le_of_ble_eq_true rfl)) md_N_floatingResult_88 ⟨Nat.zero_le _, Nat.zero_le _⟩) (fun r_16 e_17 => ?_)
    exact W.lret (v := r_16) hx hb hr (fun t ht2 _ => ⟨r_16, rfl, trivial, ht2⟩) (fun q h => by cases h) md_N_floatingResult_91
  by_cases k_18 : p1 = 5
  · refine lv_tableIn (off := 91) (tgt := 92) hx hb md_N_floatingResult_1 (by rw [k_18]; decide) (by rw [k_18]; decide) (by rw [k_18]; rfl) (by decide) ?_
    refine lv_aload_n hx hb md_N_floatingResult_92 rfl (lv_at hl 0 rfl) ?_
    refine lv_lload_n hx hb md_N_floatingResult_93 rfl (lv_at hl 2 rfl) ?_
    refine lv_lload hx hb md_N_floatingResult_94 (lv_at hl 3 rfl) ?_
    refine vp_callSl (W.runV (C := "NumberProbe$Format") (As := [.long p2, .long p3]) (rest := []) ⟨hx, hb, hml, hown, hts⟩ (mt_F_lesser l ad p0 hp0 p2 p3) (cwV 2 hts (gd_V tm_204 tm_205 tm_206 tm_27 tm_207) rfl rfl rfl (by decide +kernel) ⟨Nat.le_of_ble_eq_true rfl, Nat.le_of_ble_eq_true rfl⟩) ⟨fb_E, fw_recv hE hp0 hS, fun U hU hW => ⟨rfl, fw_use hE hS hU hW⟩⟩ rfl rfl hl.1 rfl (lv_room (Nat.le_of_ble_eq_true rfl)) md_N_floatingResult_96 ⟨Nat.zero_le _, Nat.zero_le _⟩) (fun r_19 e_20 => ?_)
    exact W.lret (v := r_19) hx hb hr (fun t ht2 _ => ⟨r_19, rfl, trivial, ht2⟩) (fun q h => by cases h) md_N_floatingResult_99
  by_cases k_21 : p1 = 6
  · refine lv_tableIn (off := 99) (tgt := 100) hx hb md_N_floatingResult_1 (by rw [k_21]; decide) (by rw [k_21]; decide) (by rw [k_21]; rfl) (by decide) ?_
    refine lv_aload_n hx hb md_N_floatingResult_100 rfl (lv_at hl 0 rfl) ?_
    refine lv_lload_n hx hb md_N_floatingResult_101 rfl (lv_at hl 2 rfl) ?_
    refine lv_lload hx hb md_N_floatingResult_102 (lv_at hl 3 rfl) ?_
    refine vp_callSl (W.runV (C := "NumberProbe$Format") (As := [.long p2, .long p3]) (rest := []) ⟨hx, hb, hml, hown, hts⟩ (mt_F_greater l ad p0 hp0 p2 p3) (cwV 2 hts (gd_V tm_212 tm_213 tm_214 tm_27 tm_215) rfl rfl rfl (by decide +kernel) ⟨Nat.le_of_ble_eq_true rfl, Nat.le_of_ble_eq_true rfl⟩) ⟨fb_E, fw_recv hE hp0 hS, fun U hU hW => ⟨rfl, fw_use hE hS hU hW⟩⟩ rfl rfl hl.1 rfl (lv_room (Nat.le_of_ble_eq_true rfl)) md_N_floatingResult_104 ⟨Nat.zero_le _, Nat.zero_le _⟩) (fun r_22 e_23 => ?_)
    exact W.lret (v := r_22) hx hb hr (fun t ht2 _ => ⟨r_22, rfl, trivial, ht2⟩) (fun q h => by cases h) md_N_floatingResult_107
  by_cases k_24 : p1 = 7
  · refine lv_tableIn (off := 107) (tgt := 108) hx hb md_N_floatingResult_1 (by rw [k_24]; decide) (by rw [k_24]; decide) (by rw [k_24]; rfl) (by decide) ?_
    refine lv_aload_n hx hb md_N_floatingResult_108 rfl (lv_at hl 0 rfl) ?_
    refine lv_lload_n hx hb md_N_floatingResult_109 rfl (lv_at hl 2 rfl) ?_
    refine vp_callSl (W.runV (C := "NumberProbe$Format") (As := [.long p2]) (rest := []) ⟨hx, hb, hml, hown, hts⟩ (mt_F_negated l ad p0 hp0 p2) (cwV 1 hts (gd_V tm_166 tm_167 tm_168 tm_27 tm_169) rfl rfl rfl (by decide +kernel) ⟨Nat.le_of_ble_eq_true rfl, Nat.le_of_ble_eq_true rfl⟩) ⟨fb_E, fw_recv hE hp0 hS, fun U hU hW => ⟨rfl, fw_use hE hS hU hW⟩⟩ rfl rfl hl.1 rfl (lv_room (Nat.le_of_ble_eq_true rfl)) md_N_floatingResult_110 ⟨Nat.zero_le _, Nat.zero_le _⟩) (fun r_25 e_26 => ?_)
    exact W.lret (v := r_25) hx hb hr (fun t ht2 _ => ⟨r_25, rfl, trivial, ht2⟩) (fun q h => by cases h) md_N_floatingResult_113
  refine lv_tableOut (tgt := 114) hx hb md_N_floatingResult_1 (by have := lv_neT k_1 (a := 0) rfl; have := lv_neT k_4 (a := 1) rfl; have := lv_neT k_9 (a := 2) rfl; have := lv_neT k_12 (a := 3) rfl; have := lv_neT k_15 (a := 4) rfl; have := lv_neT k_18 (a := 5) rfl; have := lv_neT k_21 (a := 6) rfl; have := lv_neT k_24 (a := 7) rfl; omega) (by decide) ?_
  refine lv_aload_n hx hb md_N_floatingResult_114 rfl (lv_at hl 0 rfl) ?_
  refine lv_lload_n hx hb md_N_floatingResult_115 rfl (lv_at hl 2 rfl) ?_
  refine vp_callSl (W.runV (C := "NumberProbe$Format") (As := [.long p2]) (rest := []) ⟨hx, hb, hml, hown, hts⟩ (mt_F_magnitude l ad p0 hp0 p2) (cwV 1 hts (gd_V tm_216 tm_72 tm_73 tm_27 tm_74) rfl rfl rfl (by decide +kernel) ⟨Nat.le_of_ble_eq_true rfl, Nat.le_of_ble_eq_true rfl⟩) ⟨fb_E, fw_recv hE hp0 hS, fun U hU hW => ⟨rfl, fw_use hE hS hU hW⟩⟩ rfl rfl hl.1 rfl (lv_room (Nat.le_of_ble_eq_true rfl)) md_N_floatingResult_116 ⟨Nat.zero_le _, Nat.zero_le _⟩) (fun r_27 e_28 => ?_)
  obtain rfl : r_27 = cf_mag p0 p2 := e_28
  exact W.lret (v := cf_mag p0 p2) hx hb hr (fun t ht2 _ => ⟨(cf_mag p0 p2), rfl, trivial, ht2⟩) (fun q h => by cases h) md_N_floatingResult_119
set_option maxHeartbeats 4000000 in
set_option maxRecDepth 100000 in
theorem mt_N_result (l : Launch) (ad : Nat → Nat) (p0 : Int32) (p1 : Int32) (p2 : Int64) (p3 : Int64) (hd : cn_dbz p0 p1 p3 = false) : Met l my_N_result mw_N_result ({ frames := 6, cells := 0, slots := 0, locals := 159 } : Room) (va_Pc [.int p0, .int p1, .long p2, .long p3] (fun U => FW ad (fun _ => False) U U.heap)) (vp_Sl (fun _ => True)) 0 0 (fun _ => False) := by
  refine Met.ofW (cc := mc_N_result) (maxL := 6) (ret := (some .long)) (by decide) rfl ?_
  intro p e s m args below meth c s₁ B hml hv
  obtain ⟨rfl, hE⟩ := hv
  have hx := B.exec
  have hb := B.bytes
  have hr := B.returns
  have hts := atoms_spec (ws := mw_N_result) B.pre
  have ht : ∀ w ∈ gw_tbl, w.before _ s = true := fun w h => hts w (List.mem_cons_of_mem _ h)
  have hown : s.vm.findClass "NumberProbe" = some m.cls := findClass_of_methodNamed B.named
  have hlocks := B.notSynchronized
  have hS : va_S (fun _ => False) s.heap s.heap [] := va_S.rf
  have hl := lv_entry ([.int p0, .int p1, .long p2, .long p3]) (n := 6) (Nat.le_of_ble_eq_true rfl)
  rw [lg_entry_eq]
  generalize (lg_sl ([.int p0, .int p1, .long p2, .long p3]) ++ List.replicate (6 - (lg_sl ([.int p0, .int p1, .long p2, .long p3])).length) Slot.unset).toArray = ls at hl ⊢
  have hl : lv_has ls 6 [(0, .int p0), (1, .int p1), (2, .long p2), (4, .long p3)] := hl
  refine lv_iload_n hx hb md_N_result_0 rfl (lv_at hl 0 rfl) ?_
  refine vp_callSi (W.runS (As := [.int p0]) (rest := []) ⟨hx, hb, hml, hown, hts⟩ (mt_N_isFloating l p0) (va_cwS 1 hts (gd_S tm_53 tm_54 tm_24 tm_55) rfl rfl rfl (by decide +kernel) ⟨Nat.le_of_ble_eq_true rfl, Nat.le_of_ble_eq_true rfl⟩) ⟨fb_0, fun U hU hW => ⟨rfl, trivial⟩⟩ rfl rfl hl.1 rfl (lv_room (Nat.le_of_ble_eq_true rfl)) md_N_result_1 ⟨Nat.zero_le _, Nat.zero_le _⟩) (fun r_1 e_2 => ?_)
  obtain rfl : r_1 = jb (cn_flt p0) := e_2
  refine lv_if_eq (tgt := 19) hx hb md_N_result_4 (by decide) (fun c_3 => ?_) (fun c_3 => ?_)
  · refine lv_iload_n hx hb md_N_result_19 rfl (lv_at hl 1 rfl) ?_
    refine lv_bipush (v := 9) hx hb md_N_result_20 (by decide) ?_
    refine lv_icmp_lt (tgt := 40) hx hb md_N_result_22 (by decide) (fun c_4 => ?_) (fun c_4 => ?_)
    · refine lv_iload_n hx hb md_N_result_40 rfl (lv_at hl 0 rfl) ?_
      refine lv_iload_n hx hb md_N_result_41 rfl (lv_at hl 1 rfl) ?_
      refine lv_lload_n hx hb md_N_result_42 rfl (lv_at hl 2 rfl) ?_
      refine lv_lload hx hb md_N_result_43 (lv_at hl 3 rfl) ?_
      refine vp_callSl (W.runS (As := [.int p1, .long p2, .long p3]) (rest := [.int p0]) ⟨hx, hb, hml, hown, hts⟩ (mt_N_wholeResult l p1 p2 p3 (fun q => cn_dbz_use hd (jb_0.mp c_3) q)) (va_cwS 3 hts (gd_S tm_220 tm_221 tm_24 tm_222) rfl rfl rfl (by decide +kernel) ⟨Nat.le_of_ble_eq_true rfl, Nat.le_of_ble_eq_true rfl⟩) ⟨fb_0, fun U hU hW => ⟨rfl, trivial⟩⟩ rfl rfl hl.1 rfl (lv_room (Nat.le_of_ble_eq_true rfl)) md_N_result_45 ⟨Nat.zero_le _, Nat.zero_le _⟩) (fun r_5 e_6 => ?_)
      refine vp_callSl (W.runS (As := [.int p0, .long r_5]) (rest := []) ⟨hx, hb, hml, hown, hts⟩ (mt_N_fitted l p0 r_5) (va_cwS 2 hts (gd_S tm_81 tm_82 tm_24 tm_83) rfl rfl rfl (by decide +kernel) ⟨Nat.le_of_ble_eq_true rfl, Nat.le_of_ble_eq_true rfl⟩) ⟨fb_0, fun U hU hW => ⟨rfl, trivial⟩⟩ rfl rfl hl.1 rfl (lv_room (Nat.le_of_ble_eq_true rfl)) md_N_result_48 ⟨Nat.zero_le _, Nat.zero_le _⟩) (fun r_7 e_8 => ?_)
      obtain rfl : r_7 = cn_fit p0 r_5 := e_8
      exact W.lret (v := cn_fit p0 r_5) hx hb hr (fun t ht2 _ => ⟨(cn_fit p0 r_5), rfl, trivial, ht2⟩) (fun q h => by cases h) md_N_result_51
    · refine lv_iload_n hx hb md_N_result_25 rfl (lv_at hl 1 rfl) ?_
      refine lv_bipush (v := 11) hx hb md_N_result_26 (by decide) ?_
      refine lv_icmp_gt (tgt := 40) hx hb md_N_result_28 (by decide) (fun c_9 => ?_) (fun c_9 => ?_)
      · refine lv_iload_n hx hb md_N_result_40 rfl (lv_at hl 0 rfl) ?_
        refine lv_iload_n hx hb md_N_result_41 rfl (lv_at hl 1 rfl) ?_
        refine lv_lload_n hx hb md_N_result_42 rfl (lv_at hl 2 rfl) ?_
        refine lv_lload hx hb md_N_result_43 (lv_at hl 3 rfl) ?_
        refine vp_callSl (W.runS (As := [.int p1, .long p2, .long p3]) (rest := [.int p0]) ⟨hx, hb, hml, hown, hts⟩ (mt_N_wholeResult l p1 p2 p3 (fun q => cn_dbz_use hd (jb_0.mp c_3) q)) (va_cwS 3 hts (gd_S tm_220 tm_221 tm_24 tm_222) rfl rfl rfl (by decide +kernel) ⟨Nat.le_of_ble_eq_true rfl, Nat.le_of_ble_eq_true rfl⟩) ⟨fb_0, fun U hU hW => ⟨rfl, trivial⟩⟩ rfl rfl hl.1 rfl (lv_room (Nat.le_of_ble_eq_true rfl)) md_N_result_45 ⟨Nat.zero_le _, Nat.zero_le _⟩) (fun r_10 e_11 => ?_)
        refine vp_callSl (W.runS (As := [.int p0, .long r_10]) (rest := []) ⟨hx, hb, hml, hown, hts⟩ (mt_N_fitted l p0 r_10) (va_cwS 2 hts (gd_S tm_81 tm_82 tm_24 tm_83) rfl rfl rfl (by decide +kernel) ⟨Nat.le_of_ble_eq_true rfl, Nat.le_of_ble_eq_true rfl⟩) ⟨fb_0, fun U hU hW => ⟨rfl, trivial⟩⟩ rfl rfl hl.1 rfl (lv_room (Nat.le_of_ble_eq_true rfl)) md_N_result_48 ⟨Nat.zero_le _, Nat.zero_le _⟩) (fun r_12 e_13 => ?_)
        obtain rfl : r_12 = cn_fit p0 r_10 := e_13
        exact W.lret (v := cn_fit p0 r_10) hx hb hr (fun t ht2 _ => ⟨(cn_fit p0 r_10), rfl, trivial, ht2⟩) (fun q h => by cases h) md_N_result_51
      · refine lv_iload_n hx hb md_N_result_31 rfl (lv_at hl 0 rfl) ?_
        refine lv_iload_n hx hb md_N_result_32 rfl (lv_at hl 1 rfl) ?_
        refine lv_lload_n hx hb md_N_result_33 rfl (lv_at hl 2 rfl) ?_
        refine lv_lload hx hb md_N_result_34 (lv_at hl 3 rfl) ?_
        refine vp_callSl (W.runS (As := [.int p0, .int p1, .long p2, .long p3]) (rest := []) ⟨hx, hb, hml, hown, hts⟩ (mt_N_shifted l p0 p1 p2 p3) (va_cwS 4 hts (gd_S tm_217 tm_218 tm_24 tm_219) rfl rfl rfl (by decide +kernel) ⟨Nat.le_of_ble_eq_true rfl, Nat.le_of_ble_eq_true rfl⟩) ⟨fb_0, fun U hU hW => ⟨rfl, trivial⟩⟩ rfl rfl hl.1 rfl (lv_room (Nat.le_of_ble_eq_true rfl)) md_N_result_36 ⟨Nat.zero_le _, Nat.zero_le _⟩) (fun r_14 e_15 => ?_)
        exact W.lret (v := r_14) hx hb hr (fun t ht2 _ => ⟨r_14, rfl, trivial, ht2⟩) (fun q h => by cases h) md_N_result_39
  · refine lv_iload_n hx hb md_N_result_7 rfl (lv_at hl 0 rfl) ?_
    refine va_csr (W.runS (As := [.int p0]) (rest := []) ⟨hx, hb, hml, hown, hts⟩ (mt_N_formatOf l ad p0) (va_cwS 1 hts (gd_S tm_56 tm_57 tm_24 tm_58) rfl rfl rfl (by decide +kernel) ⟨Nat.le_of_ble_eq_true rfl, Nat.le_of_ble_eq_true rfl⟩) ⟨fb_E, fun U hU hW => ⟨rfl, fw_use hE hS hU hW⟩⟩ rfl rfl hl.1 rfl (lv_room (Nat.le_of_ble_eq_true rfl)) md_N_result_8 ⟨Nat.zero_le _, Nat.zero_le _⟩) (fun r_16 e_17 => ?_)
    have hr_16 : r_16 < 2 := e_17.1
    refine lv_iload_n hx hb md_N_result_11 rfl (lv_at hl 1 rfl) ?_
    refine lv_lload_n hx hb md_N_result_12 rfl (lv_at hl 2 rfl) ?_
    refine lv_lload hx hb md_N_result_13 (lv_at hl 3 rfl) ?_
    refine vp_callSl (W.runS (As := [.ref (ad r_16), .int p1, .long p2, .long p3]) (rest := []) ⟨hx, hb, hml, hown, hts⟩ (mt_N_floatingResult l ad r_16 hr_16 p1 p2 p3) (va_cwS 4 hts (gd_S tm_116 tm_117 tm_24 tm_118) rfl rfl rfl (by decide +kernel) ⟨Nat.le_of_ble_eq_true rfl, Nat.le_of_ble_eq_true rfl⟩) ⟨fb_E, fun U hU hW => ⟨rfl, fw_use hE hS hU hW⟩⟩ rfl rfl hl.1 rfl (lv_room (Nat.le_of_ble_eq_true rfl)) md_N_result_15 ⟨Nat.zero_le _, Nat.zero_le _⟩) (fun r_18 e_19 => ?_)
    exact W.lret (v := r_18) hx hb hr (fun t ht2 _ => ⟨r_18, rfl, trivial, ht2⟩) (fun q h => by cases h) md_N_result_18
set_option maxHeartbeats 4000000 in
set_option maxRecDepth 100000 in
theorem mt_N_converted (l : Launch) (ad : Nat → Nat) (p0 : Int32) (p1 : Int64) (p2 : Int32) : Met l my_N_converted mw_N_converted ({ frames := 4, cells := 0, slots := 0, locals := 97 } : Room) (va_Pc [.int p0, .long p1, .int p2] (fun U => FW ad (fun _ => False) U U.heap)) (vp_Sl (fun _ => True)) 0 0 (fun _ => False) := by
  refine Met.ofW (cc := mc_N_converted) (maxL := 6) (ret := (some .long)) (by decide) rfl ?_
  intro p e s m args below meth c s₁ B hml hv
  obtain ⟨rfl, hE⟩ := hv
  have hx := B.exec
  have hb := B.bytes
  have hr := B.returns
  have hts := atoms_spec (ws := mw_N_converted) B.pre
  have ht : ∀ w ∈ gw_tbl, w.before _ s = true := fun w h => hts w (List.mem_cons_of_mem _ h)
  have hown : s.vm.findClass "NumberProbe" = some m.cls := findClass_of_methodNamed B.named
  have hlocks := B.notSynchronized
  have hS : va_S (fun _ => False) s.heap s.heap [] := va_S.rf
  have hl := lv_entry ([.int p0, .long p1, .int p2]) (n := 6) (Nat.le_of_ble_eq_true rfl)
  rw [lg_entry_eq]
  generalize (lg_sl ([.int p0, .long p1, .int p2]) ++ List.replicate (6 - (lg_sl ([.int p0, .long p1, .int p2])).length) Slot.unset).toArray = ls at hl ⊢
  have hl : lv_has ls 6 [(0, .int p0), (1, .long p1), (3, .int p2)] := hl
  refine lv_iload_n hx hb md_N_converted_0 rfl (lv_at hl 2 rfl) ?_
  refine vp_callSi (W.runS (As := [.int p2]) (rest := []) ⟨hx, hb, hml, hown, hts⟩ (mt_N_isFloating l p2) (va_cwS 1 hts (gd_S tm_53 tm_54 tm_24 tm_55) rfl rfl rfl (by decide +kernel) ⟨Nat.le_of_ble_eq_true rfl, Nat.le_of_ble_eq_true rfl⟩) ⟨fb_0, fun U hU hW => ⟨rfl, trivial⟩⟩ rfl rfl hl.1 rfl (lv_room (Nat.le_of_ble_eq_true rfl)) md_N_converted_1 ⟨Nat.zero_le _, Nat.zero_le _⟩) (fun r_1 e_2 => ?_)
  obtain rfl : r_1 = jb (cn_flt p2) := e_2
  refine lv_if_eq (tgt := 38) hx hb md_N_converted_4 (by decide) (fun c_3 => ?_) (fun c_3 => ?_)
  · refine lv_iload_n hx hb md_N_converted_38 rfl (lv_at hl 0 rfl) ?_
    refine vp_callSi (W.runS (As := [.int p0]) (rest := []) ⟨hx, hb, hml, hown, hts⟩ (mt_N_isFloating l p0) (va_cwS 1 hts (gd_S tm_53 tm_54 tm_24 tm_55) rfl rfl rfl (by decide +kernel) ⟨Nat.le_of_ble_eq_true rfl, Nat.le_of_ble_eq_true rfl⟩) ⟨fb_0, fun U hU hW => ⟨rfl, trivial⟩⟩ rfl rfl hl.1 rfl (lv_room (Nat.le_of_ble_eq_true rfl)) md_N_converted_39 ⟨Nat.zero_le _, Nat.zero_le _⟩) (fun r_4 e_5 => ?_)
    obtain rfl : r_4 = jb (cn_flt p0) := e_5
    refine lv_if_ne (tgt := 51) hx hb md_N_converted_42 (by decide) (fun c_6 => ?_) (fun c_6 => ?_)
    · refine lv_iload_n hx hb md_N_converted_51 rfl (lv_at hl 0 rfl) ?_
      refine va_csr (W.runS (As := [.int p0]) (rest := []) ⟨hx, hb, hml, hown, hts⟩ (mt_N_formatOf l ad p0) (va_cwS 1 hts (gd_S tm_56 tm_57 tm_24 tm_58) rfl rfl rfl (by decide +kernel) ⟨Nat.le_of_ble_eq_true rfl, Nat.le_of_ble_eq_true rfl⟩) ⟨fb_E, fun U hU hW => ⟨rfl, fw_use hE hS hU hW⟩⟩ rfl rfl hl.1 rfl (lv_room (Nat.le_of_ble_eq_true rfl)) md_N_converted_52 ⟨Nat.zero_le _, Nat.zero_le _⟩) (fun r_7 e_8 => ?_)
      have hr_7 : r_7 < 2 := e_8.1
      refine lv_lload_n hx hb md_N_converted_55 rfl (lv_at hl 1 rfl) ?_
      refine vp_callSl (W.runV (C := "NumberProbe$Format") (As := [.long p1]) (rest := []) ⟨hx, hb, hml, hown, hts⟩ (mt_F_towardsZero l ad r_7 hr_7 p1) (cwV 1 hts (gd_V tm_247 tm_248 tm_249 tm_27 tm_250) rfl rfl rfl (by decide +kernel) ⟨Nat.le_of_ble_eq_true rfl, Nat.le_of_ble_eq_true rfl⟩) ⟨fb_E, fw_recv hE hr_7 hS, fun U hU hW => ⟨rfl, fw_use hE hS hU hW⟩⟩ rfl rfl hl.1 rfl (lv_room (Nat.le_of_ble_eq_true rfl)) md_N_converted_56 ⟨Nat.zero_le _, Nat.zero_le _⟩) (fun r_9 e_10 => ?_)
      refine lv_lstore (lv' := [(4, .long r_9), (0, .int p0), (1, .long p1), (3, .int p2)]) hx hb md_N_converted_59 hl (by decide) rfl (fun ls hl => ?_)
      refine lv_iload_n hx hb md_N_converted_61 rfl (lv_at hl 3 rfl) ?_
      refine lv_iconst (v := 3) hx hb md_N_converted_62 (by decide) ?_
      have J_12 : ∀ (z_13 : Int64) (ls : Array Slot), lv_has ls 6 [(4, .long r_9), (0, .int p0), (1, .long p1), (3, .int p2)] → WP p l e mw_N_converted ({ frames := 4, cells := 0, slots := 0, locals := 97 } : Room) s m [.int p0, .long p1, .int p2] below meth c (vp_Sl (fun _ => True)) (F0 m 85 ls [.long z_13]) := by
        intro z_13 ls hl
        exact W.lret (v := z_13) hx hb hr (fun t ht2 _ => ⟨z_13, rfl, trivial, ht2⟩) (fun q h => by cases h) md_N_converted_85
      refine lv_icmp_ne (tgt := 71) hx hb md_N_converted_63 (by decide) (fun c_11 => ?_) (fun c_11 => ?_)
      · refine lv_ldc2 (v := (-2147483648)) hx hb hown (ht _ tm_253) md_N_converted_71 ?_
        refine lv_ldc2 (v := 2147483647) hx hb hown (ht _ tm_254) md_N_converted_74 ?_
        refine lv_lload hx hb md_N_converted_77 (lv_at hl 0 rfl) ?_
        refine va_mmin_long hx hb (by rw [hml]; exact hl.1.symm) hown (ht _ tm_223) (ht _ tm_224) (ht _ tm_28) (ht _ tm_225) (Nat.le_of_ble_eq_true rfl) (Nat.le_of_ble_eq_true rfl) (Nat.zero_le _) (Nat.zero_le _) md_N_converted_79 ?_
        refine va_mmax_long hx hb (by rw [hml]; exact hl.1.symm) hown (ht _ tm_226) (ht _ tm_227) (ht _ tm_28) (ht _ tm_228) (Nat.le_of_ble_eq_true rfl) (Nat.le_of_ble_eq_true rfl) (Nat.zero_le _) (Nat.zero_le _) md_N_converted_82 ?_
        exact J_12 (if (if r_9 < 2147483647 then r_9 else 2147483647) < (-2147483648) then (-2147483648) else (if r_9 < 2147483647 then r_9 else 2147483647)) ls (lv_sub hl [0, 1, 2, 3] rfl)
      · refine lv_lload hx hb md_N_converted_66 (lv_at hl 0 rfl) ?_
        refine lv_goto (tgt := 85) hx hb md_N_converted_68 (by decide) ?_
        exact J_12 r_9 ls (lv_sub hl [0, 1, 2, 3] rfl)
    · refine lv_iload_n hx hb md_N_converted_45 rfl (lv_at hl 2 rfl) ?_
      refine lv_lload_n hx hb md_N_converted_46 rfl (lv_at hl 1 rfl) ?_
      refine vp_callSl (W.runS (As := [.int p2, .long p1]) (rest := []) ⟨hx, hb, hml, hown, hts⟩ (mt_N_fitted l p2 p1) (va_cwS 2 hts (gd_S tm_81 tm_82 tm_24 tm_83) rfl rfl rfl (by decide +kernel) ⟨Nat.le_of_ble_eq_true rfl, Nat.le_of_ble_eq_true rfl⟩) ⟨fb_0, fun U hU hW => ⟨rfl, trivial⟩⟩ rfl rfl hl.1 rfl (lv_room (Nat.le_of_ble_eq_true rfl)) md_N_converted_47 ⟨Nat.zero_le _, Nat.zero_le _⟩) (fun r_14 e_15 => ?_)
      obtain rfl : r_14 = cn_fit p2 p1 := e_15
      exact W.lret (v := cn_fit p2 p1) hx hb hr (fun t ht2 _ => ⟨(cn_fit p2 p1), rfl, trivial, ht2⟩) (fun q h => by cases h) md_N_converted_50
  · refine lv_iload_n hx hb md_N_converted_7 rfl (lv_at hl 0 rfl) ?_
    refine vp_callSi (W.runS (As := [.int p0]) (rest := []) ⟨hx, hb, hml, hown, hts⟩ (mt_N_isFloating l p0) (va_cwS 1 hts (gd_S tm_53 tm_54 tm_24 tm_55) rfl rfl rfl (by decide +kernel) ⟨Nat.le_of_ble_eq_true rfl, Nat.le_of_ble_eq_true rfl⟩) ⟨fb_0, fun U hU hW => ⟨rfl, trivial⟩⟩ rfl rfl hl.1 rfl (lv_room (Nat.le_of_ble_eq_true rfl)) md_N_converted_8 ⟨Nat.zero_le _, Nat.zero_le _⟩) (fun r_16 e_17 => ?_)
    obtain rfl : r_16 = jb (cn_flt p0) := e_17
    have J_29 : ∀ (z_30 : Int64) (ls : Array Slot), lv_has ls 6 [(0, .int p0), (1, .long p1), (3, .int p2)] → WP p l e mw_N_converted ({ frames := 4, cells := 0, slots := 0, locals := 97 } : Room) s m [.int p0, .long p1, .int p2] below meth c (vp_Sl (fun _ => True)) (F0 m 37 ls [.long z_30]) := by
      intro z_30 ls hl
      exact W.lret (v := z_30) hx hb hr (fun t ht2 _ => ⟨z_30, rfl, trivial, ht2⟩) (fun q h => by cases h) md_N_converted_37
    refine lv_if_eq (tgt := 29) hx hb md_N_converted_11 (by decide) (fun c_18 => ?_) (fun c_18 => ?_)
    · refine lv_iload_n hx hb md_N_converted_29 rfl (lv_at hl 2 rfl) ?_
      refine va_csr (W.runS (As := [.int p2]) (rest := []) ⟨hx, hb, hml, hown, hts⟩ (mt_N_formatOf l ad p2) (va_cwS 1 hts (gd_S tm_56 tm_57 tm_24 tm_58) rfl rfl rfl (by decide +kernel) ⟨Nat.le_of_ble_eq_true rfl, Nat.le_of_ble_eq_true rfl⟩) ⟨fb_E, fun U hU hW => ⟨rfl, fw_use hE hS hU hW⟩⟩ rfl rfl hl.1 rfl (lv_room (Nat.le_of_ble_eq_true rfl)) md_N_converted_30 ⟨Nat.zero_le _, Nat.zero_le _⟩) (fun r_31 e_32 => ?_)
      have hr_31 : r_31 < 2 := e_32.1
      refine lv_lload_n hx hb md_N_converted_33 rfl (lv_at hl 1 rfl) ?_
      refine vp_callSl (W.runV (C := "NumberProbe$Format") (As := [.long p1]) (rest := []) ⟨hx, hb, hml, hown, hts⟩ (mt_F_nearestToWhole l ad r_31 hr_31 p1) (cwV 1 hts (gd_V tm_243 tm_244 tm_245 tm_27 tm_246) rfl rfl rfl (by decide +kernel) ⟨Nat.le_of_ble_eq_true rfl, Nat.le_of_ble_eq_true rfl⟩) ⟨fb_E, fw_recv hE hr_31 hS, fun U hU hW => ⟨rfl, fw_use hE hS hU hW⟩⟩ rfl rfl hl.1 rfl (lv_room (Nat.le_of_ble_eq_true rfl)) md_N_converted_34 ⟨Nat.zero_le _, Nat.zero_le _⟩) (fun r_33 e_34 => ?_)
      exact J_29 r_33 ls (lv_sub hl [0, 1, 2] rfl)
    · refine lv_iload_n hx hb md_N_converted_14 rfl (lv_at hl 2 rfl) ?_
      refine va_csr (W.runS (As := [.int p2]) (rest := []) ⟨hx, hb, hml, hown, hts⟩ (mt_N_formatOf l ad p2) (va_cwS 1 hts (gd_S tm_56 tm_57 tm_24 tm_58) rfl rfl rfl (by decide +kernel) ⟨Nat.le_of_ble_eq_true rfl, Nat.le_of_ble_eq_true rfl⟩) ⟨fb_E, fun U hU hW => ⟨rfl, fw_use hE hS hU hW⟩⟩ rfl rfl hl.1 rfl (lv_room (Nat.le_of_ble_eq_true rfl)) md_N_converted_15 ⟨Nat.zero_le _, Nat.zero_le _⟩) (fun r_35 e_36 => ?_)
      have hr_35 : r_35 < 2 := e_36.1
      refine lv_iload_n hx hb md_N_converted_18 rfl (lv_at hl 0 rfl) ?_
      refine va_csr (W.runS (As := [.int p0]) (rest := [.ref (ad r_35)]) ⟨hx, hb, hml, hown, hts⟩ (mt_N_formatOf l ad p0) (va_cwS 1 hts (gd_S tm_56 tm_57 tm_24 tm_58) rfl rfl rfl (by decide +kernel) ⟨Nat.le_of_ble_eq_true rfl, Nat.le_of_ble_eq_true rfl⟩) ⟨fb_E, fun U hU hW => ⟨rfl, fw_use hE hS hU hW⟩⟩ rfl rfl hl.1 rfl (lv_room (Nat.le_of_ble_eq_true rfl)) md_N_converted_19 ⟨Nat.zero_le _, Nat.zero_le _⟩) (fun r_37 e_38 => ?_)
      have hr_37 : r_37 < 2 := e_38.1
      refine lv_lload_n hx hb md_N_converted_22 rfl (lv_at hl 1 rfl) ?_
      refine vp_callSl (W.runV (C := "NumberProbe$Format") (As := [.ref (ad r_37), .long p1]) (rest := []) ⟨hx, hb, hml, hown, hts⟩ (mt_F_nearestTo l ad r_35 hr_35 r_37 hr_37 p1) (cwV 2 hts (gd_V tm_239 tm_240 tm_241 tm_27 tm_242) rfl rfl rfl (by decide +kernel) ⟨Nat.le_of_ble_eq_true rfl, Nat.le_of_ble_eq_true rfl⟩) ⟨fb_E, fw_recv hE hr_35 hS, fun U hU hW => ⟨rfl, fw_use hE hS hU hW⟩⟩ rfl rfl hl.1 rfl (lv_room (Nat.le_of_ble_eq_true rfl)) md_N_converted_23 ⟨Nat.zero_le _, Nat.zero_le _⟩) (fun r_39 e_40 => ?_)
      refine lv_goto (tgt := 37) hx hb md_N_converted_26 (by decide) ?_
      exact J_29 r_39 ls (lv_sub hl [0, 1, 2] rfl)
