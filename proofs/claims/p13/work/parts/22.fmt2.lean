set_option maxHeartbeats 4000000 in
set_option maxRecDepth 100000 in
theorem mt_F_lesser (l : Launch) (ad : Nat → Nat) (k : Nat) (hk : k < 2) (p0 : Int64) (p1 : Int64) : Met l my_F_lesser mw_F_lesser ({ frames := 2, cells := 0, slots := 0, locals := 44 } : Room) (va_Pc [.ref (ad k), .long p0, .long p1] (fun U => FW ad (fun _ => False) U U.heap)) (vp_Sl (fun _ => True)) 0 0 (fun _ => False) := by
  refine Met.ofW (cc := mc_F_lesser) (maxL := 5) (ret := (some .long)) (by decide) rfl ?_
  intro p e s m args below meth c s₁ B hml hv
  obtain ⟨rfl, hE⟩ := hv
  have hx := B.exec
  have hb := B.bytes
  have hr := B.returns
  have hts := atoms_spec (ws := mw_F_lesser) B.pre
  have ht : ∀ w ∈ gw_tbl, w.before _ s = true := fun w h => hts w (List.mem_cons_of_mem _ h)
  have hown : s.vm.findClass "NumberProbe$Format" = some m.cls := findClass_of_methodNamed B.named
  have hlocks := B.notSynchronized
  have hS : va_S (fun _ => False) s.heap s.heap [] := va_S.rf
  have hl := lv_entry ([.ref (ad k), .long p0, .long p1]) (n := 5) (Nat.le_of_ble_eq_true rfl)
  rw [lg_entry_eq]
  generalize (lg_sl ([.ref (ad k), .long p0, .long p1]) ++ List.replicate (5 - (lg_sl ([.ref (ad k), .long p0, .long p1])).length) Slot.unset).toArray = ls at hl ⊢
  have hl : lv_has ls 5 [(0, .ref (ad k)), (1, .long p0), (3, .long p1)] := hl
  refine lv_aload_n hx hb md_F_lesser_0 rfl (lv_at hl 0 rfl) ?_
  refine lv_lload_n hx hb md_F_lesser_1 rfl (lv_at hl 1 rfl) ?_
  refine vp_callSi (W.runV (C := "NumberProbe$Format") (As := [.long p0]) (rest := []) ⟨hx, hb, hml, hown, hts⟩ (mt_F_isNaN l ad k hk p0) (cwV 1 hts (gd_V tm_67 tm_68 tm_69 tm_27 tm_70) rfl rfl rfl (by decide +kernel) ⟨Nat.le_of_ble_eq_true rfl, Nat.le_of_ble_eq_true rfl⟩) ⟨fb_E, fw_recv hE hk hS, fun U hU hW => ⟨rfl, fw_use hE hS hU hW⟩⟩ rfl rfl hl.1 rfl (lv_room (Nat.le_of_ble_eq_true rfl)) md_F_lesser_2 ⟨Nat.zero_le _, Nat.zero_le _⟩) (fun r_1 e_2 => ?_)
  obtain rfl : r_1 = jb (cf_nan k p0) := e_2
  refine lv_if_ne (tgt := 16) hx hb md_F_lesser_5 (by decide) (fun c_3 => ?_) (fun c_3 => ?_)
  · refine lv_aload_n hx hb md_F_lesser_16 rfl (lv_at hl 0 rfl) ?_
    refine va_getX hx hb hE.2.2.2.2.2.2.1 hk hS hown (ht _ tm_550) (fun _ h9 => h9) md_F_lesser_17 ?_
    exact W.lret (v := kf_n k) hx hb hr (fun t ht2 _ => ⟨(kf_n k), rfl, trivial, ht2⟩) (fun q h => by cases h) md_F_lesser_20
  · refine lv_aload_n hx hb md_F_lesser_8 rfl (lv_at hl 0 rfl) ?_
    refine lv_lload_n hx hb md_F_lesser_9 rfl (lv_at hl 2 rfl) ?_
    refine vp_callSi (W.runV (C := "NumberProbe$Format") (As := [.long p1]) (rest := []) ⟨hx, hb, hml, hown, hts⟩ (mt_F_isNaN l ad k hk p1) (cwV 1 hts (gd_V tm_67 tm_68 tm_69 tm_27 tm_70) rfl rfl rfl (by decide +kernel) ⟨Nat.le_of_ble_eq_true rfl, Nat.le_of_ble_eq_true rfl⟩) ⟨fb_E, fw_recv hE hk hS, fun U hU hW => ⟨rfl, fw_use hE hS hU hW⟩⟩ rfl rfl hl.1 rfl (lv_room (Nat.le_of_ble_eq_true rfl)) md_F_lesser_10 ⟨Nat.zero_le _, Nat.zero_le _⟩) (fun r_4 e_5 => ?_)
    obtain rfl : r_4 = jb (cf_nan k p1) := e_5
    refine lv_if_eq (tgt := 21) hx hb md_F_lesser_13 (by decide) (fun c_6 => ?_) (fun c_6 => ?_)
    · refine lv_aload_n hx hb md_F_lesser_21 rfl (lv_at hl 0 rfl) ?_
      refine lv_lload_n hx hb md_F_lesser_22 rfl (lv_at hl 1 rfl) ?_
      refine vp_callSl (W.runV (C := "NumberProbe$Format") (As := [.long p0]) (rest := []) ⟨hx, hb, hml, hown, hts⟩ (mt_F_rankInSorting l ad k hk p0) (cwV 1 hts (gd_V tm_208 tm_209 tm_210 tm_27 tm_211) rfl rfl rfl (by decide +kernel) ⟨Nat.le_of_ble_eq_true rfl, Nat.le_of_ble_eq_true rfl⟩) ⟨fb_E, fw_recv hE hk hS, fun U hU hW => ⟨rfl, fw_use hE hS hU hW⟩⟩ rfl rfl hl.1 rfl (lv_room (Nat.le_of_ble_eq_true rfl)) md_F_lesser_23 ⟨Nat.zero_le _, Nat.zero_le _⟩) (fun r_7 e_8 => ?_)
      obtain rfl : r_7 = cf_ris k p0 := e_8
      refine lv_aload_n hx hb md_F_lesser_26 rfl (lv_at hl 0 rfl) ?_
      refine lv_lload_n hx hb md_F_lesser_27 rfl (lv_at hl 2 rfl) ?_
      refine vp_callSl (W.runV (C := "NumberProbe$Format") (As := [.long p1]) (rest := [.long (cf_ris k p0)]) ⟨hx, hb, hml, hown, hts⟩ (mt_F_rankInSorting l ad k hk p1) (cwV 1 hts (gd_V tm_208 tm_209 tm_210 tm_27 tm_211) rfl rfl rfl (by decide +kernel) ⟨Nat.le_of_ble_eq_true rfl, Nat.le_of_ble_eq_true rfl⟩) ⟨fb_E, fw_recv hE hk hS, fun U hU hW => ⟨rfl, fw_use hE hS hU hW⟩⟩ rfl rfl hl.1 rfl (lv_room (Nat.le_of_ble_eq_true rfl)) md_F_lesser_28 ⟨Nat.zero_le _, Nat.zero_le _⟩) (fun r_9 e_10 => ?_)
      obtain rfl : r_9 = cf_ris k p1 := e_10
      refine W.lcmp hx hb md_F_lesser_31 ?_
      have J_12 : ∀ (z_13 : Int64) (ls : Array Slot), lv_has ls 5 [(0, .ref (ad k)), (1, .long p0), (3, .long p1)] → WP p l e mw_F_lesser ({ frames := 2, cells := 0, slots := 0, locals := 44 } : Room) s m [.ref (ad k), .long p0, .long p1] below meth c (vp_Sl (fun _ => True)) (F0 m 40 ls [.long z_13]) := by
        intro z_13 ls hl
        exact W.lret (v := z_13) hx hb hr (fun t ht2 _ => ⟨z_13, rfl, trivial, ht2⟩) (fun q h => by cases h) md_F_lesser_40
      refine lv_if_gt (tgt := 39) hx hb md_F_lesser_32 (by decide) (fun c_11 => ?_) (fun c_11 => ?_)
      · refine lv_lload_n hx hb md_F_lesser_39 rfl (lv_at hl 2 rfl) ?_
        exact J_12 p1 ls (lv_sub hl [0, 1, 2] rfl)
      · refine lv_lload_n hx hb md_F_lesser_35 rfl (lv_at hl 1 rfl) ?_
        refine lv_goto (tgt := 40) hx hb md_F_lesser_36 (by decide) ?_
        exact J_12 p0 ls (lv_sub hl [0, 1, 2] rfl)
    · refine lv_aload_n hx hb md_F_lesser_16 rfl (lv_at hl 0 rfl) ?_
      refine va_getX hx hb hE.2.2.2.2.2.2.1 hk hS hown (ht _ tm_550) (fun _ h9 => h9) md_F_lesser_17 ?_
      exact W.lret (v := kf_n k) hx hb hr (fun t ht2 _ => ⟨(kf_n k), rfl, trivial, ht2⟩) (fun q h => by cases h) md_F_lesser_20
set_option maxHeartbeats 4000000 in
set_option maxRecDepth 100000 in
theorem mt_F_greater (l : Launch) (ad : Nat → Nat) (k : Nat) (hk : k < 2) (p0 : Int64) (p1 : Int64) : Met l my_F_greater mw_F_greater ({ frames := 2, cells := 0, slots := 0, locals := 44 } : Room) (va_Pc [.ref (ad k), .long p0, .long p1] (fun U => FW ad (fun _ => False) U U.heap)) (vp_Sl (fun _ => True)) 0 0 (fun _ => False) := by
  refine Met.ofW (cc := mc_F_greater) (maxL := 5) (ret := (some .long)) (by decide) rfl ?_
  intro p e s m args below meth c s₁ B hml hv
  obtain ⟨rfl, hE⟩ := hv
  have hx := B.exec
  have hb := B.bytes
  have hr := B.returns
  have hts := atoms_spec (ws := mw_F_greater) B.pre
  have ht : ∀ w ∈ gw_tbl, w.before _ s = true := fun w h => hts w (List.mem_cons_of_mem _ h)
  have hown : s.vm.findClass "NumberProbe$Format" = some m.cls := findClass_of_methodNamed B.named
  have hlocks := B.notSynchronized
  have hS : va_S (fun _ => False) s.heap s.heap [] := va_S.rf
  have hl := lv_entry ([.ref (ad k), .long p0, .long p1]) (n := 5) (Nat.le_of_ble_eq_true rfl)
  rw [lg_entry_eq]
  generalize (lg_sl ([.ref (ad k), .long p0, .long p1]) ++ List.replicate (5 - (lg_sl ([.ref (ad k), .long p0, .long p1])).length) Slot.unset).toArray = ls at hl ⊢
  have hl : lv_has ls 5 [(0, .ref (ad k)), (1, .long p0), (3, .long p1)] := hl
  refine lv_aload_n hx hb md_F_greater_0 rfl (lv_at hl 0 rfl) ?_
  refine lv_lload_n hx hb md_F_greater_1 rfl (lv_at hl 1 rfl) ?_
  refine vp_callSi (W.runV (C := "NumberProbe$Format") (As := [.long p0]) (rest := []) ⟨hx, hb, hml, hown, hts⟩ (mt_F_isNaN l ad k hk p0) (cwV 1 hts (gd_V tm_67 tm_68 tm_69 tm_27 tm_70) rfl rfl rfl (by decide +kernel) ⟨Nat.le_of_ble_eq_true rfl, Nat.le_of_ble_eq_true rfl⟩) ⟨fb_E, fw_recv hE hk hS, fun U hU hW => ⟨rfl, fw_use hE hS hU hW⟩⟩ rfl rfl hl.1 rfl (lv_room (Nat.le_of_ble_eq_true rfl)) md_F_greater_2 ⟨Nat.zero_le _, Nat.zero_le _⟩) (fun r_1 e_2 => ?_)
  obtain rfl : r_1 = jb (cf_nan k p0) := e_2
  refine lv_if_ne (tgt := 16) hx hb md_F_greater_5 (by decide) (fun c_3 => ?_) (fun c_3 => ?_)
  · refine lv_aload_n hx hb md_F_greater_16 rfl (lv_at hl 0 rfl) ?_
    refine va_getX hx hb hE.2.2.2.2.2.2.1 hk hS hown (ht _ tm_550) (fun _ h9 => h9) md_F_greater_17 ?_
    exact W.lret (v := kf_n k) hx hb hr (fun t ht2 _ => ⟨(kf_n k), rfl, trivial, ht2⟩) (fun q h => by cases h) md_F_greater_20
  · refine lv_aload_n hx hb md_F_greater_8 rfl (lv_at hl 0 rfl) ?_
    refine lv_lload_n hx hb md_F_greater_9 rfl (lv_at hl 2 rfl) ?_
    refine vp_callSi (W.runV (C := "NumberProbe$Format") (As := [.long p1]) (rest := []) ⟨hx, hb, hml, hown, hts⟩ (mt_F_isNaN l ad k hk p1) (cwV 1 hts (gd_V tm_67 tm_68 tm_69 tm_27 tm_70) rfl rfl rfl (by decide +kernel) ⟨Nat.le_of_ble_eq_true rfl, Nat.le_of_ble_eq_true rfl⟩) ⟨fb_E, fw_recv hE hk hS, fun U hU hW => ⟨rfl, fw_use hE hS hU hW⟩⟩ rfl rfl hl.1 rfl (lv_room (Nat.le_of_ble_eq_true rfl)) md_F_greater_10 ⟨Nat.zero_le _, Nat.zero_le _⟩) (fun r_4 e_5 => ?_)
    obtain rfl : r_4 = jb (cf_nan k p1) := e_5
    refine lv_if_eq (tgt := 21) hx hb md_F_greater_13 (by decide) (fun c_6 => ?_) (fun c_6 => ?_)
    · refine lv_aload_n hx hb md_F_greater_21 rfl (lv_at hl 0 rfl) ?_
      refine lv_lload_n hx hb md_F_greater_22 rfl (lv_at hl 1 rfl) ?_
      refine vp_callSl (W.runV (C := "NumberProbe$Format") (As := [.long p0]) (rest := []) ⟨hx, hb, hml, hown, hts⟩ (mt_F_rankInSorting l ad k hk p0) (cwV 1 hts (gd_V tm_208 tm_209 tm_210 tm_27 tm_211) rfl rfl rfl (by decide +kernel) ⟨Nat.le_of_ble_eq_true rfl, Nat.le_of_ble_eq_true rfl⟩) ⟨fb_E, fw_recv hE hk hS, fun U hU hW => ⟨rfl, fw_use hE hS hU hW⟩⟩ rfl rfl hl.1 rfl (lv_room (Nat.le_of_ble_eq_true rfl)) md_F_greater_23 ⟨Nat.zero_le _, Nat.zero_le _⟩) (fun r_7 e_8 => ?_)
      obtain rfl : r_7 = cf_ris k p0 := e_8
      refine lv_aload_n hx hb md_F_greater_26 rfl (lv_at hl 0 rfl) ?_
      refine lv_lload_n hx hb md_F_greater_27 rfl (lv_at hl 2 rfl) ?_
      refine vp_callSl (W.runV (C := "NumberProbe$Format") (As := [.long p1]) (rest := [.long (cf_ris k p0)]) ⟨hx, hb, hml, hown, hts⟩ (mt_F_rankInSorting l ad k hk p1) (cwV 1 hts (gd_V tm_208 tm_209 tm_210 tm_27 tm_211) rfl rfl rfl (by decide +kernel) ⟨Nat.le_of_ble_eq_true rfl, Nat.le_of_ble_eq_true rfl⟩) ⟨fb_E, fw_recv hE hk hS, fun U hU hW => ⟨rfl, fw_use hE hS hU hW⟩⟩ rfl rfl hl.1 rfl (lv_room (Nat.le_of_ble_eq_true rfl)) md_F_greater_28 ⟨Nat.zero_le _, Nat.zero_le _⟩) (fun r_9 e_10 => ?_)
      obtain rfl : r_9 = cf_ris k p1 := e_10
      refine W.lcmp hx hb md_F_greater_31 ?_
      have J_12 : ∀ (z_13 : Int64) (ls : Array Slot), lv_has ls 5 [(0, .ref (ad k)), (1, .long p0), (3, .long p1)] → WP p l e mw_F_greater ({ frames := 2, cells := 0, slots := 0, locals := 44 } : Room) s m [.ref (ad k), .long p0, .long p1] below meth c (vp_Sl (fun _ => True)) (F0 m 40 ls [.long z_13]) := by
        intro z_13 ls hl
        exact W.lret (v := z_13) hx hb hr (fun t ht2 _ => ⟨z_13, rfl, trivial, ht2⟩) (fun q h => by cases h) md_F_greater_40
      refine lv_if_lt (tgt := 39) hx hb md_F_greater_32 (by decide) (fun c_11 => ?_) (fun c_11 => ?_)
      · refine lv_lload_n hx hb md_F_greater_39 rfl (lv_at hl 2 rfl) ?_
        exact J_12 p1 ls (lv_sub hl [0, 1, 2] rfl)
      · refine lv_lload_n hx hb md_F_greater_35 rfl (lv_at hl 1 rfl) ?_
        refine lv_goto (tgt := 40) hx hb md_F_greater_36 (by decide) ?_
        exact J_12 p0 ls (lv_sub hl [0, 1, 2] rfl)
    · refine lv_aload_n hx hb md_F_greater_16 rfl (lv_at hl 0 rfl) ?_
      refine va_getX hx hb hE.2.2.2.2.2.2.1 hk hS hown (ht _ tm_550) (fun _ h9 => h9) md_F_greater_17 ?_
      exact W.lret (v := kf_n k) hx hb hr (fun t ht2 _ => ⟨(kf_n k), rfl, trivial, ht2⟩) (fun q h => by cases h) md_F_greater_20
set_option maxHeartbeats 4000000 in
set_option maxRecDepth 100000 in
theorem mt_F_withRest (l : Launch) (p0 : Int64) (p1 : Int64) : Met l my_F_withRest mw_F_withRest ({ frames := 0, cells := 0, slots := 0, locals := 0 } : Room) (va_Pc [.long p0, .long p1] (fun _ => True)) (vp_Sl (fun _ => True)) 0 0 (fun _ => False) := by
  refine Met.ofW (cc := mc_F_withRest) (maxL := 4) (ret := (some .long)) (by decide) rfl ?_
  intro p e s m args below meth c s₁ B hml hv
  obtain ⟨rfl, -⟩ := hv
  have hx := B.exec
  have hb := B.bytes
  have hr := B.returns
  have hts := atoms_spec (ws := mw_F_withRest) B.pre
  have ht : ∀ w ∈ gw_tbl, w.before _ s = true := fun w h => hts w (List.mem_cons_of_mem _ h)
  have hown : s.vm.findClass "NumberProbe$Format" = some m.cls := findClass_of_methodNamed B.named
  have hlocks := B.notSynchronized
  have hl := lv_entry ([.long p0, .long p1]) (n := 4) (Nat.le_of_ble_eq_true rfl)
  rw [lg_entry_eq]
  generalize (lg_sl ([.long p0, .long p1]) ++ List.replicate (4 - (lg_sl ([.long p0, .long p1])).length) Slot.unset).toArray = ls at hl ⊢
  have hl : lv_has ls 4 [(0, .long p0), (2, .long p1)] := hl
  refine lv_lload_n hx hb md_F_withRest_0 rfl (lv_at hl 1 rfl) ?_
  refine lv_lconst (v := 0) hx hb md_F_withRest_1 (by decide) ?_
  refine W.lcmp hx hb md_F_withRest_2 ?_
  have J_2 : ∀ (z_3 : Int64) (ls : Array Slot), lv_has ls 4 [(0, .long p0), (2, .long p1)] → WP p l e mw_F_withRest ({ frames := 0, cells := 0, slots := 0, locals := 0 } : Room) s m [.long p0, .long p1] below meth c (vp_Sl (fun _ => True)) (F0 m 13 ls [.long z_3]) := by
    intro z_3 ls hl
    exact W.lret (v := z_3) hx hb hr (fun t ht2 _ => ⟨z_3, rfl, trivial, ht2⟩) (fun q h => by cases h) md_F_withRest_13
  refine lv_if_ne (tgt := 10) hx hb md_F_withRest_3 (by decide) (fun c_1 => ?_) (fun c_1 => ?_)
  · refine lv_lload_n hx hb md_F_withRest_10 rfl (lv_at hl 0 rfl) ?_
    refine lv_lconst (v := 1) hx hb md_F_withRest_11 (by decide) ?_
    refine lv_lor hx hb md_F_withRest_12 ?_
    exact J_2 (p0 ||| 1) ls (lv_sub hl [0, 1] rfl)
  · refine lv_lload_n hx hb md_F_withRest_6 rfl (lv_at hl 0 rfl) ?_
    refine lv_goto (tgt := 13) hx hb md_F_withRest_7 (by decide) ?_
    exact J_2 p0 ls (lv_sub hl [0, 1] rfl)
set_option maxHeartbeats 4000000 in
set_option maxRecDepth 100000 in
theorem mt_F_shiftedRight (l : Launch) (p0 : Int64) (p1 : Int32) : Met l my_F_shiftedRight mw_F_shiftedRight ({ frames := 1, cells := 0, slots := 0, locals := 23 } : Room) (va_Pc [.long p0, .int p1] (fun _ => True)) (vp_Sl (fun _ => True)) 0 0 (fun _ => False) := by
  refine Met.ofW (cc := mc_F_shiftedRight) (maxL := 5) (ret := (some .long)) (by decide) rfl ?_
  intro p e s m args below meth c s₁ B hml hv
  obtain ⟨rfl, -⟩ := hv
  have hx := B.exec
  have hb := B.bytes
  have hr := B.returns
  have hts := atoms_spec (ws := mw_F_shiftedRight) B.pre
  have ht : ∀ w ∈ gw_tbl, w.before _ s = true := fun w h => hts w (List.mem_cons_of_mem _ h)
  have hown : s.vm.findClass "NumberProbe$Format" = some m.cls := findClass_of_methodNamed B.named
  have hlocks := B.notSynchronized
  have hl := lv_entry ([.long p0, .int p1]) (n := 5) (Nat.le_of_ble_eq_true rfl)
  rw [lg_entry_eq]
  generalize (lg_sl ([.long p0, .int p1]) ++ List.replicate (5 - (lg_sl ([.long p0, .int p1])).length) Slot.unset).toArray = ls at hl ⊢
  have hl : lv_has ls 5 [(0, .long p0), (2, .int p1)] := hl
  refine lv_iload_n hx hb md_F_shiftedRight_0 rfl (lv_at hl 1 rfl) ?_
  refine lv_bipush (v := 64) hx hb md_F_shiftedRight_1 (by decide) ?_
  refine lv_icmp_lt (tgt := 12) hx hb md_F_shiftedRight_3 (by decide) (fun c_1 => ?_) (fun c_1 => ?_)
  · refine lv_lload_n hx hb md_F_shiftedRight_12 rfl (lv_at hl 0 rfl) ?_
    refine lv_iload_n hx hb md_F_shiftedRight_13 rfl (lv_at hl 1 rfl) ?_
    refine lv_lushr (v := jl_ush p0 p1) hx hb md_F_shiftedRight_14 rfl ?_
    refine lv_lstore_n (lv' := [(3, .long (jl_ush p0 p1)), (0, .long p0), (2, .int p1)]) hx hb md_F_shiftedRight_15 rfl hl (by decide) rfl (fun ls hl => ?_)
    refine lv_lload_n hx hb md_F_shiftedRight_16 rfl (lv_at hl 0 rfl) ?_
    refine lv_lload_n hx hb md_F_shiftedRight_17 rfl (lv_at hl 1 rfl) ?_
    refine lv_lload_n hx hb md_F_shiftedRight_18 rfl (lv_at hl 0 rfl) ?_
    refine lv_iload_n hx hb md_F_shiftedRight_19 rfl (lv_at hl 2 rfl) ?_
    refine lv_lshl (v := jl_shl (jl_ush p0 p1) p1) hx hb md_F_shiftedRight_20 rfl ?_
    refine lv_lsub hx hb md_F_shiftedRight_21 ?_
    refine vp_callSl (W.runS (As := [.long (jl_ush p0 p1), .long (p0 - (jl_shl (jl_ush p0 p1) p1))]) (rest := []) ⟨hx, hb, hml, hown, hts⟩ (mt_F_withRest l (jl_ush p0 p1) (p0 - (jl_shl (jl_ush p0 p1) p1))) (va_cwS 2 hts (gd_S tm_149 tm_150 tm_27 tm_151) rfl rfl rfl (by decide +kernel) ⟨Nat.le_of_ble_eq_true rfl, Nat.le_of_ble_eq_true rfl⟩) ⟨fb_0, fun U hU hW => ⟨rfl, trivial⟩⟩ rfl rfl hl.1 rfl (lv_room (Nat.le_of_ble_eq_true rfl)) md_F_shiftedRight_22 ⟨Nat.zero_le _, Nat.zero_le _⟩) (fun r_2 e_3 => ?_)
    exact W.lret (v := r_2) hx hb hr (fun t ht2 _ => ⟨r_2, rfl, trivial, ht2⟩) (fun q h => by cases h) md_F_shiftedRight_25
  · refine lv_lconst (v := 0) hx hb md_F_shiftedRight_6 (by decide) ?_
    refine lv_lload_n hx hb md_F_shiftedRight_7 rfl (lv_at hl 0 rfl) ?_
    refine vp_callSl (W.runS (As := [.long 0, .long p0]) (rest := []) ⟨hx, hb, hml, hown, hts⟩ (mt_F_withRest l 0 p0) (va_cwS 2 hts (gd_S tm_149 tm_150 tm_27 tm_151) rfl rfl rfl (by decide +kernel) ⟨Nat.le_of_ble_eq_true rfl, Nat.le_of_ble_eq_true rfl⟩) ⟨fb_0, fun U hU hW => ⟨rfl, trivial⟩⟩ rfl rfl hl.1 rfl (lv_room (Nat.le_of_ble_eq_true rfl)) md_F_shiftedRight_8 ⟨Nat.zero_le _, Nat.zero_le _⟩) (fun r_4 e_5 => ?_)
    exact W.lret (v := r_4) hx hb hr (fun t ht2 _ => ⟨r_4, rfl, trivial, ht2⟩) (fun q h => by cases h) md_F_shiftedRight_11
set_option maxHeartbeats 4000000 in
set_option maxRecDepth 100000 in
theorem mt_F_cutToEven (l : Launch) (p0 : Int64) (p1 : Int32) : Met l my_F_cutToEven mw_F_cutToEven ({ frames := 0, cells := 0, slots := 0, locals := 0 } : Room) (va_Pc [.long p0, .int p1] (fun _ => True)) (vp_Sl (fun _ => True)) 0 0 (fun _ => False) := by
  refine Met.ofW (cc := mc_F_cutToEven) (maxL := 10) (ret := (some .long)) (by decide) rfl ?_
  intro p e s m args below meth c s₁ B hml hv
  obtain ⟨rfl, -⟩ := hv
  have hx := B.exec
  have hb := B.bytes
  have hr := B.returns
  have hts := atoms_spec (ws := mw_F_cutToEven) B.pre
  have ht : ∀ w ∈ gw_tbl, w.before _ s = true := fun w h => hts w (List.mem_cons_of_mem _ h)
  have hown : s.vm.findClass "NumberProbe$Format" = some m.cls := findClass_of_methodNamed B.named
  have hlocks := B.notSynchronized
  have hl := lv_entry ([.long p0, .int p1]) (n := 10) (Nat.le_of_ble_eq_true rfl)
  rw [lg_entry_eq]
  generalize (lg_sl ([.long p0, .int p1]) ++ List.replicate (10 - (lg_sl ([.long p0, .int p1])).length) Slot.unset).toArray = ls at hl ⊢
  have hl : lv_has ls 10 [(0, .long p0), (2, .int p1)] := hl
  refine lv_iload_n hx hb md_F_cutToEven_0 rfl (lv_at hl 1 rfl) ?_
  refine lv_bipush (v := 64) hx hb md_F_cutToEven_1 (by decide) ?_
  refine lv_icmp_lt (tgt := 8) hx hb md_F_cutToEven_3 (by decide) (fun c_1 => ?_) (fun c_1 => ?_)
  · refine lv_lload_n hx hb md_F_cutToEven_8 rfl (lv_at hl 0 rfl) ?_
    refine lv_iload_n hx hb md_F_cutToEven_9 rfl (lv_at hl 1 rfl) ?_
    refine lv_lushr (v := jl_ush p0 p1) hx hb md_F_cutToEven_10 rfl ?_
    refine lv_lstore_n (lv' := [(3, .long (jl_ush p0 p1)), (0, .long p0), (2, .int p1)]) hx hb md_F_cutToEven_11 rfl hl (by decide) rfl (fun ls hl => ?_)
    refine lv_lload_n hx hb md_F_cutToEven_12 rfl (lv_at hl 1 rfl) ?_
    refine lv_lload_n hx hb md_F_cutToEven_13 rfl (lv_at hl 0 rfl) ?_
    refine lv_iload_n hx hb md_F_cutToEven_14 rfl (lv_at hl 2 rfl) ?_
    refine lv_lshl (v := jl_shl (jl_ush p0 p1) p1) hx hb md_F_cutToEven_15 rfl ?_
    refine lv_lsub hx hb md_F_cutToEven_16 ?_
    refine lv_lstore (lv' := [(5, .long (p0 - (jl_shl (jl_ush p0 p1) p1))), (3, .long (jl_ush p0 p1)), (0, .long p0), (2, .int p1)]) hx hb md_F_cutToEven_17 hl (by decide) rfl (fun ls hl => ?_)
    refine lv_lconst (v := 1) hx hb md_F_cutToEven_19 (by decide) ?_
    refine lv_iload_n hx hb md_F_cutToEven_20 rfl (lv_at hl 3 rfl) ?_
    refine lv_iconst (v := 1) hx hb md_F_cutToEven_21 (by decide) ?_
    refine lv_isub hx hb md_F_cutToEven_22 ?_
    refine lv_lshl (v := jl_shl 1 (p1 - 1)) hx hb md_F_cutToEven_23 rfl ?_
    refine lv_lstore (lv' := [(7, .long (jl_shl 1 (p1 - 1))), (5, .long (p0 - (jl_shl (jl_ush p0 p1) p1))), (3, .long (jl_ush p0 p1)), (0, .long p0), (2, .int p1)]) hx hb md_F_cutToEven_24 hl (by decide) rfl (fun ls hl => ?_)
    refine lv_lload hx hb md_F_cutToEven_26 (lv_at hl 1 rfl) ?_
    refine lv_lload hx hb md_F_cutToEven_28 (lv_at hl 0 rfl) ?_
    refine W.lcmp hx hb md_F_cutToEven_30 ?_
    have J_12 : ∀ (z_13 : Bool) (ls : Array Slot), lv_has ls 10 [(7, .long (jl_shl 1 (p1 - 1))), (5, .long (p0 - (jl_shl (jl_ush p0 p1) p1))), (3, .long (jl_ush p0 p1)), (0, .long p0), (2, .int p1)] → WP p l e mw_F_cutToEven ({ frames := 0, cells := 0, slots := 0, locals := 0 } : Room) s m [.long p0, .int p1] below meth c (vp_Sl (fun _ => True)) (F0 m 55 ls [.int (jb z_13)]) := by
      intro z_13 ls hl
      refine lv_istore (lv' := [(9, .int (jb z_13)), (7, .long (jl_shl 1 (p1 - 1))), (5, .long (p0 - (jl_shl (jl_ush p0 p1) p1))), (3, .long (jl_ush p0 p1)), (0, .long p0), (2, .int p1)]) hx hb md_F_cutToEven_55 hl (by decide) rfl (fun ls hl => ?_)
      refine lv_iload hx hb md_F_cutToEven_57 (lv_at hl 0 rfl) ?_
      have J_15 : ∀ (z_16 : Int64) (ls : Array Slot), lv_has ls 10 [(9, .int (jb z_13)), (7, .long (jl_shl 1 (p1 - 1))), (5, .long (p0 - (jl_shl (jl_ush p0 p1) p1))), (3, .long (jl_ush p0 p1)), (0, .long p0), (2, .int p1)] → WP p l e mw_F_cutToEven ({ frames := 0, cells := 0, slots := 0, locals := 0 } : Room) s m [.long p0, .int p1] below meth c (vp_Sl (fun _ => True)) (F0 m 69 ls [.long z_16]) := by
        intro z_16 ls hl
        exact W.lret (v := z_16) hx hb hr (fun t ht2 _ => ⟨z_16, rfl, trivial, ht2⟩) (fun q h => by cases h) md_F_cutToEven_69
      refine lv_if_eq (tgt := 68) hx hb md_F_cutToEven_59 (by decide) (fun c_14 => ?_) (fun c_14 => ?_)
      · refine lv_lload_n hx hb md_F_cutToEven_68 rfl (lv_at hl 3 rfl) ?_
        exact J_15 (jl_ush p0 p1) ls (lv_sub hl [0, 1, 2, 3, 4, 5] rfl)
      · refine lv_lload_n hx hb md_F_cutToEven_62 rfl (lv_at hl 3 rfl) ?_
        refine lv_lconst (v := 1) hx hb md_F_cutToEven_63 (by decide) ?_
        refine lv_ladd hx hb md_F_cutToEven_64 ?_
        refine lv_goto (tgt := 69) hx hb md_F_cutToEven_65 (by decide) ?_
        exact J_15 ((jl_ush p0 p1) + 1) ls (lv_sub hl [0, 1, 2, 3, 4, 5] rfl)
    refine lv_if_gt (tgt := 50) hx hb md_F_cutToEven_31 (by decide) (fun c_2 => ?_) (fun c_2 => ?_)
    · refine lv_iconst (v := 1) hx hb md_F_cutToEven_50 (by decide) ?_
      refine lv_goto (tgt := 55) hx hb md_F_cutToEven_51 (by decide) ?_
      exact J_12 true ls (lv_sub hl [0, 1, 2, 3, 4] rfl)
    · refine lv_lload hx hb md_F_cutToEven_34 (lv_at hl 1 rfl) ?_
      refine lv_lload hx hb md_F_cutToEven_36 (lv_at hl 0 rfl) ?_
      refine W.lcmp hx hb md_F_cutToEven_38 ?_
      have J_21 : ∀ (z_22 : Bool) (ls : Array Slot), lv_has ls 10 [(7, .long (jl_shl 1 (p1 - 1))), (5, .long (p0 - (jl_shl (jl_ush p0 p1) p1))), (3, .long (jl_ush p0 p1)), (0, .long p0), (2, .int p1)] → WP p l e mw_F_cutToEven ({ frames := 0, cells := 0, slots := 0, locals := 0 } : Room) s m [.long p0, .int p1] below meth c (vp_Sl (fun _ => True)) (F0 m 55 ls [.int (jb z_22)]) := by
        intro z_22 ls hl
        exact J_12 z_22 ls (lv_sub hl [0, 1, 2, 3, 4] rfl)
      refine lv_if_ne (tgt := 54) hx hb md_F_cutToEven_39 (by decide) (fun c_17 => ?_) (fun c_17 => ?_)
      · refine lv_iconst (v := 0) hx hb md_F_cutToEven_54 (by decide) ?_
        exact J_21 false ls (lv_sub hl [0, 1, 2, 3, 4] rfl)
      · refine lv_lload_n hx hb md_F_cutToEven_42 rfl (lv_at hl 2 rfl) ?_
        refine lv_lconst (v := 1) hx hb md_F_cutToEven_43 (by decide) ?_
        refine lv_land hx hb md_F_cutToEven_44 ?_
        refine lv_lconst (v := 1) hx hb md_F_cutToEven_45 (by decide) ?_
        refine W.lcmp hx hb md_F_cutToEven_46 ?_
        have J_24 : ∀ (z_25 : Bool) (ls : Array Slot), lv_has ls 10 [(7, .long (jl_shl 1 (p1 - 1))), (5, .long (p0 - (jl_shl (jl_ush p0 p1) p1))), (3, .long (jl_ush p0 p1)), (0, .long p0), (2, .int p1)] → WP p l e mw_F_cutToEven ({ frames := 0, cells := 0, slots := 0, locals := 0 } : Room) s m [.long p0, .int p1] below meth c (vp_Sl (fun _ => True)) (F0 m 55 ls [.int (jb z_25)]) := by
          intro z_25 ls hl
          exact J_21 z_25 ls (lv_sub hl [0, 1, 2, 3, 4] rfl)
        refine lv_if_ne (tgt := 54) hx hb md_F_cutToEven_47 (by decide) (fun c_23 => ?_) (fun c_23 => ?_)
        · refine lv_iconst (v := 0) hx hb md_F_cutToEven_54 (by decide) ?_
          exact J_24 false ls (lv_sub hl [0, 1, 2, 3, 4] rfl)
        · refine lv_iconst (v := 1) hx hb md_F_cutToEven_50 (by decide) ?_
          refine lv_goto (tgt := 55) hx hb md_F_cutToEven_51 (by decide) ?_
          exact J_24 true ls (lv_sub hl [0, 1, 2, 3, 4] rfl)
  · refine lv_lconst (v := 0) hx hb md_F_cutToEven_6 (by decide) ?_
    exact W.lret (v := 0) hx hb hr (fun t ht2 _ => ⟨0, rfl, trivial, ht2⟩) (fun q h => by cases h) md_F_cutToEven_7
set_option maxHeartbeats 4000000 in
set_option maxRecDepth 100000 in
theorem mt_F_rounded (l : Launch) (ad : Nat → Nat) (k : Nat) (hk : k < 2) (p0 : Bool) (p1 : Int64) (p2 : Int32) : Met l my_F_rounded mw_F_rounded ({ frames := 2, cells := 0, slots := 0, locals := 43 } : Room) (va_Pc [.ref (ad k), .int (jb p0), .long p1, .int p2] (fun U => FW ad (fun _ => False) U U.heap)) (vp_Sl (fun _ => True)) 0 0 (fun _ => False) := by
  refine Met.ofW (cc := mc_F_rounded) (maxL := 11) (ret := (some .long)) (by decide) rfl ?_
  intro p e s m args below meth c s₁ B hml hv
  obtain ⟨rfl, hE⟩ := hv
  have hx := B.exec
  have hb := B.bytes
  have hr := B.returns
  have hts := atoms_spec (ws := mw_F_rounded) B.pre
  have ht : ∀ w ∈ gw_tbl, w.before _ s = true := fun w h => hts w (List.mem_cons_of_mem _ h)
  have hown : s.vm.findClass "NumberProbe$Format" = some m.cls := findClass_of_methodNamed B.named
  have hlocks := B.notSynchronized
  have hS : va_S (fun _ => False) s.heap s.heap [] := va_S.rf
  have hl := lv_entry ([.ref (ad k), .int (jb p0), .long p1, .int p2]) (n := 11) (Nat.le_of_ble_eq_true rfl)
  rw [lg_entry_eq]
  generalize (lg_sl ([.ref (ad k), .int (jb p0), .long p1, .int p2]) ++ List.replicate (11 - (lg_sl ([.ref (ad k), .int (jb p0), .long p1, .int p2])).length) Slot.unset).toArray = ls at hl ⊢
  have hl : lv_has ls 11 [(0, .ref (ad k)), (1, .int (jb p0)), (2, .long p1), (4, .int p2)] := hl
  refine lv_lload_n hx hb md_F_rounded_0 rfl (lv_at hl 2 rfl) ?_
  refine lv_lconst (v := 0) hx hb md_F_rounded_1 (by decide) ?_
  refine W.lcmp hx hb md_F_rounded_2 ?_
  refine lv_if_ne (tgt := 13) hx hb md_F_rounded_3 (by decide) (fun c_1 => ?_) (fun c_1 => ?_)
  · refine lv_lload_n hx hb md_F_rounded_13 rfl (lv_at hl 2 rfl) ?_
    refine vp_callSi (W.runS (As := [.long p1]) (rest := []) ⟨hx, hb, hml, hown, hts⟩ (mt_JL_numberOfLeadingZeros l p1) (va_cwS 1 hts (gd_S tm_156 tm_157 tm_29 tm_158) rfl rfl rfl (by decide +kernel) ⟨Nat.le_of_ble_eq_true rfl, Nat.le_of_ble_eq_true rfl⟩) ⟨fb_0, fun U hU hW => ⟨rfl, trivial⟩⟩ rfl rfl hl.1 rfl (lv_room (Nat.le_of_ble_eq_true rfl)) md_F_rounded_14 ⟨Nat.zero_le _, Nat.zero_le _⟩) (fun r_2 e_3 => ?_)
    obtain rfl : r_2 = jd_nlz p1 := e_3
    refine lv_iconst (v := 1) hx hb md_F_rounded_17 (by decide) ?_
    refine lv_isub hx hb md_F_rounded_18 ?_
    refine lv_istore (lv' := [(5, .int ((jd_nlz p1) - 1)), (0, .ref (ad k)), (1, .int (jb p0)), (2, .long p1), (4, .int p2)]) hx hb md_F_rounded_19 hl (by decide) rfl (fun ls hl => ?_)
    refine lv_bipush (v := 62) hx hb md_F_rounded_21 (by decide) ?_
    refine lv_aload_n hx hb md_F_rounded_23 rfl (lv_at hl 1 rfl) ?_
    refine va_getX hx hb hE.2.1 hk hS hown (ht _ tm_552) (fun _ h9 => h9) md_F_rounded_24 ?_
    refine lv_isub hx hb md_F_rounded_27 ?_
    refine lv_istore (lv' := [(6, .int (62 - (kf_b k))), (5, .int ((jd_nlz p1) - 1)), (0, .ref (ad k)), (1, .int (jb p0)), (2, .long p1), (4, .int p2)]) hx hb md_F_rounded_28 hl (by decide) rfl (fun ls hl => ?_)
    refine lv_iload hx hb md_F_rounded_30 (lv_at hl 5 rfl) ?_
    refine lv_iload hx hb md_F_rounded_32 (lv_at hl 1 rfl) ?_
    refine lv_isub hx hb md_F_rounded_34 ?_
    refine lv_iload hx hb md_F_rounded_35 (lv_at hl 0 rfl) ?_
    refine lv_iadd hx hb md_F_rounded_37 ?_
    refine lv_istore (lv' := [(7, .int ((p2 - ((jd_nlz p1) - 1)) + (62 - (kf_b k)))), (6, .int (62 - (kf_b k))), (5, .int ((jd_nlz p1) - 1)), (0, .ref (ad k)), (1, .int (jb p0)), (2, .long p1), (4, .int p2)]) hx hb md_F_rounded_38 hl (by decide) rfl (fun ls hl => ?_)
    refine lv_iload hx hb md_F_rounded_40 (lv_at hl 0 rfl) ?_
    refine lv_aload_n hx hb md_F_rounded_42 rfl (lv_at hl 3 rfl) ?_
    refine va_getX hx hb hE.2.2.2.1 hk hS hown (ht _ tm_551) (fun _ h9 => h9) md_F_rounded_43 ?_
    have J_5 : ∀ (z_6 : Int32) (z_7 : Int32) (ls : Array Slot), lv_has ls 11 [(7, .int z_6), (6, .int z_7), (5, .int ((jd_nlz p1) - 1)), (0, .ref (ad k)), (1, .int (jb p0)), (2, .long p1), (4, .int p2)] → WP p l e mw_F_rounded ({ frames := 2, cells := 0, slots := 0, locals := 43 } : Room) s m [.ref (ad k), .int (jb p0), .long p1, .int p2] below meth c (vp_Sl (fun _ => True)) (F0 m 67 ls []) := by
      intro z_6 z_7 ls hl
      refine lv_iload hx hb md_F_rounded_67 (lv_at hl 0 rfl) ?_
      refine lv_aload_n hx hb md_F_rounded_69 rfl (lv_at hl 3 rfl) ?_
      refine va_getX hx hb hE.2.2.2.1 hk hS hown (ht _ tm_551) (fun _ h9 => h9) md_F_rounded_70 ?_
      refine lv_isub hx hb md_F_rounded_73 ?_
      refine lv_istore (lv' := [(8, .int (z_6 - (kf_l k))), (7, .int z_6), (6, .int z_7), (5, .int ((jd_nlz p1) - 1)), (0, .ref (ad k)), (1, .int (jb p0)), (2, .long p1), (4, .int p2)]) hx hb md_F_rounded_74 hl (by decide) rfl (fun ls hl => ?_)
      refine lv_iload hx hb md_F_rounded_76 (lv_at hl 0 rfl) ?_
      refine lv_aload_n hx hb md_F_rounded_78 rfl (lv_at hl 4 rfl) ?_
      refine va_getX hx hb hE.2.2.1 hk hS hown (ht _ tm_553) (fun _ h9 => h9) md_F_rounded_79 ?_
      refine lv_iconst (v := 1) hx hb md_F_rounded_82 (by decide) ?_
      refine lv_isub hx hb md_F_rounded_83 ?_
      refine lv_icmp_lt (tgt := 97) hx hb md_F_rounded_84 (by decide) (fun c_8 => ?_) (fun c_8 => ?_)
      · refine lv_iload hx hb md_F_rounded_97 (lv_at hl 0 rfl) ?_
        refine lv_i2l (v := (z_6 - (kf_l k)).toInt64) hx hb md_F_rounded_99 rfl ?_
        refine lv_aload_n hx hb md_F_rounded_100 rfl (lv_at hl 4 rfl) ?_
        refine va_getX hx hb hE.2.1 hk hS hown (ht _ tm_552) (fun _ h9 => h9) md_F_rounded_101 ?_
        refine lv_lshl (v := jl_shl ((z_6 - (kf_l k)).toInt64) (kf_b k)) hx hb md_F_rounded_104 rfl ?_
        refine lv_lload_n hx hb md_F_rounded_105 rfl (lv_at hl 6 rfl) ?_
        refine lv_iload hx hb md_F_rounded_106 (lv_at hl 3 rfl) ?_
        refine lv_lshl (v := jl_shl p1 ((jd_nlz p1) - 1)) hx hb md_F_rounded_108 rfl ?_
        refine lv_iload hx hb md_F_rounded_109 (lv_at hl 2 rfl) ?_
        refine vp_callSl (W.runS (As := [.long (jl_shl p1 ((jd_nlz p1) - 1)), .int z_7]) (rest := [.long (jl_shl ((z_6 - (kf_l k)).toInt64) (kf_b k))]) ⟨hx, hb, hml, hown, hts⟩ (mt_F_cutToEven l (jl_shl p1 ((jd_nlz p1) - 1)) z_7) (va_cwS 2 hts (gd_S tm_163 tm_164 tm_27 tm_165) rfl rfl rfl (by decide +kernel) ⟨Nat.le_of_ble_eq_true rfl, Nat.le_of_ble_eq_true rfl⟩) ⟨fb_0, fun U hU hW => ⟨rfl, trivial⟩⟩ rfl rfl hl.1 rfl (lv_room (Nat.le_of_ble_eq_true rfl)) md_F_rounded_111 ⟨Nat.zero_le _, Nat.zero_le _⟩) (fun r_9 e_10 => ?_)
        refine lv_ladd hx hb md_F_rounded_114 ?_
        refine lv_lstore (lv' := [(9, .long ((jl_shl ((z_6 - (kf_l k)).toInt64) (kf_b k)) + r_9)), (8, .int (z_6 - (kf_l k))), (7, .int z_6), (6, .int z_7), (5, .int ((jd_nlz p1) - 1)), (0, .ref (ad k)), (1, .int (jb p0)), (2, .long p1), (4, .int p2)]) hx hb md_F_rounded_115 hl (by decide) rfl (fun ls hl => ?_)
        refine lv_aload_n hx hb md_F_rounded_117 rfl (lv_at hl 5 rfl) ?_
        refine lv_iload_n hx hb md_F_rounded_118 rfl (lv_at hl 6 rfl) ?_
        refine lv_lload hx hb md_F_rounded_119 (lv_at hl 0 rfl) ?_
        refine vp_callSl (W.runV (C := "NumberProbe$Format") (As := [.int (jb p0), .long ((jl_shl ((z_6 - (kf_l k)).toInt64) (kf_b k)) + r_9)]) (rest := []) ⟨hx, hb, hml, hown, hts⟩ (mt_F_signed l ad k hk p0 ((jl_shl ((z_6 - (kf_l k)).toInt64) (kf_b k)) + r_9)) (cwV 2 hts (gd_V tm_75 tm_77 tm_0 tm_27 tm_79) rfl rfl rfl (by decide +kernel) ⟨Nat.le_of_ble_eq_true rfl, Nat.le_of_ble_eq_true rfl⟩) ⟨fb_E, fw_recv hE hk hS, fun U hU hW => ⟨rfl, fw_use hE hS hU hW⟩⟩ rfl rfl hl.1 rfl (lv_room (Nat.le_of_ble_eq_true rfl)) md_F_rounded_121 ⟨Nat.zero_le _, Nat.zero_le _⟩) (fun r_11 e_12 => ?_)
        exact W.lret (v := r_11) hx hb hr (fun t ht2 _ => ⟨r_11, rfl, trivial, ht2⟩) (fun q h => by cases h) md_F_rounded_124
      · refine lv_aload_n hx hb md_F_rounded_87 rfl (lv_at hl 4 rfl) ?_
        refine lv_iload_n hx hb md_F_rounded_88 rfl (lv_at hl 5 rfl) ?_
        refine lv_aload_n hx hb md_F_rounded_89 rfl (lv_at hl 4 rfl) ?_
        refine va_getX hx hb hE.2.2.2.2.2.1 hk hS hown (ht _ tm_549) (fun _ h9 => h9) md_F_rounded_90 ?_
        refine vp_callSl (W.runV (C := "NumberProbe$Format") (As := [.int (jb p0), .long (kf_i k)]) (rest := []) ⟨hx, hb, hml, hown, hts⟩ (mt_F_signed l ad k hk p0 (kf_i k)) (cwV 2 hts (gd_V tm_75 tm_77 tm_0 tm_27 tm_79) rfl rfl rfl (by decide +kernel) ⟨Nat.le_of_ble_eq_true rfl, Nat.le_of_ble_eq_true rfl⟩) ⟨fb_E, fw_recv hE hk hS, fun U hU hW => ⟨rfl, fw_use hE hS hU hW⟩⟩ rfl rfl hl.1 rfl (lv_room (Nat.le_of_ble_eq_true rfl)) md_F_rounded_93 ⟨Nat.zero_le _, Nat.zero_le _⟩) (fun r_13 e_14 => ?_)
        exact W.lret (v := r_13) hx hb hr (fun t ht2 _ => ⟨r_13, rfl, trivial, ht2⟩) (fun q h => by cases h) md_F_rounded_96
    refine lv_icmp_ge (tgt := 67) hx hb md_F_rounded_46 (by decide) (fun c_4 => ?_) (fun c_4 => ?_)
    · exact J_5 ((p2 - ((jd_nlz p1) - 1)) + (62 - (kf_b k))) (62 - (kf_b k)) ls (lv_sub hl [0, 1, 2, 3, 4, 5, 6] rfl)
    · refine lv_iload hx hb md_F_rounded_49 (lv_at hl 1 rfl) ?_
      refine lv_aload_n hx hb md_F_rounded_51 rfl (lv_at hl 3 rfl) ?_
      refine va_getX hx hb hE.2.2.2.1 hk hS hown (ht _ tm_551) (fun _ h9 => h9) md_F_rounded_52 ?_
      refine lv_iload hx hb md_F_rounded_55 (lv_at hl 0 rfl) ?_
      refine lv_isub hx hb md_F_rounded_57 ?_
      refine lv_iadd hx hb md_F_rounded_58 ?_
      refine lv_istore (lv' := [(6, .int ((62 - (kf_b k)) + ((kf_l k) - ((p2 - ((jd_nlz p1) - 1)) + (62 - (kf_b k)))))), (7, .int ((p2 - ((jd_nlz p1) - 1)) + (62 - (kf_b k)))), (5, .int ((jd_nlz p1) - 1)), (0, .ref (ad k)), (1, .int (jb p0)), (2, .long p1), (4, .int p2)]) hx hb md_F_rounded_59 hl (by decide) rfl (fun ls hl => ?_)
      refine lv_aload_n hx hb md_F_rounded_61 rfl (lv_at hl 3 rfl) ?_
      refine va_getX hx hb hE.2.2.2.1 hk hS hown (ht _ tm_551) (fun _ h9 => h9) md_F_rounded_62 ?_
      refine lv_istore (lv' := [(7, .int (kf_l k)), (6, .int ((62 - (kf_b k)) + ((kf_l k) - ((p2 - ((jd_nlz p1) - 1)) + (62 - (kf_b k)))))), (5, .int ((jd_nlz p1) - 1)), (0, .ref (ad k)), (1, .int (jb p0)), (2, .long p1), (4, .int p2)]) hx hb md_F_rounded_65 hl (by decide) rfl (fun ls hl => ?_)
      exact J_5 (kf_l k) ((62 - (kf_b k)) + ((kf_l k) - ((p2 - ((jd_nlz p1) - 1)) + (62 - (kf_b k))))) ls (lv_sub hl [0, 1, 2, 3, 4, 5, 6] rfl)
  · refine lv_aload_n hx hb md_F_rounded_6 rfl (lv_at hl 0 rfl) ?_
    refine lv_iload_n hx hb md_F_rounded_7 rfl (lv_at hl 1 rfl) ?_
    refine lv_lconst (v := 0) hx hb md_F_rounded_8 (by decide) ?_
    refine vp_callSl (W.runV (C := "NumberProbe$Format") (As := [.int (jb p0), .long 0]) (rest := []) ⟨hx, hb, hml, hown, hts⟩ (mt_F_signed l ad k hk p0 0) (cwV 2 hts (gd_V tm_75 tm_77 tm_0 tm_27 tm_79) rfl rfl rfl (by decide +kernel) ⟨Nat.le_of_ble_eq_true rfl, Nat.le_of_ble_eq_true rfl⟩) ⟨fb_E, fw_recv hE hk hS, fun U hU hW => ⟨rfl, fw_use hE hS hU hW⟩⟩ rfl rfl hl.1 rfl (lv_room (Nat.le_of_ble_eq_true rfl)) md_F_rounded_9 ⟨Nat.zero_le _, Nat.zero_le _⟩) (fun r_15 e_16 => ?_)
    exact W.lret (v := r_15) hx hb hr (fun t ht2 _ => ⟨r_15, rfl, trivial, ht2⟩) (fun q h => by cases h) md_F_rounded_12
set_option maxHeartbeats 4000000 in
set_option maxRecDepth 100000 in
theorem mt_F_finiteSum (l : Launch) (ad : Nat → Nat) (k : Nat) (hk : k < 2) (p0 : Int64) (p1 : Int64) : Met l my_F_finiteSum mw_F_finiteSum ({ frames := 3, cells := 0, slots := 0, locals := 73 } : Room) (va_Pc [.ref (ad k), .long p0, .long p1] (fun U => FW ad (fun _ => False) U U.heap)) (vp_Sl (fun _ => True)) 0 0 (fun _ => False) := by
  refine Met.ofW (cc := mc_F_finiteSum) (maxL := 14) (ret := (some .long)) (by decide) rfl ?_
  intro p e s m args below meth c s₁ B hml hv
  obtain ⟨rfl, hE⟩ := hv
  have hx := B.exec
  have hb := B.bytes
  have hr := B.returns
  have hts := atoms_spec (ws := mw_F_finiteSum) B.pre
  have ht : ∀ w ∈ gw_tbl, w.before _ s = true := fun w h => hts w (List.mem_cons_of_mem _ h)
  have hown : s.vm.findClass "NumberProbe$Format" = some m.cls := findClass_of_methodNamed B.named
  have hlocks := B.notSynchronized
  have hS : va_S (fun _ => False) s.heap s.heap [] := va_S.rf
  have hl := lv_entry ([.ref (ad k), .long p0, .long p1]) (n := 14) (Nat.le_of_ble_eq_true rfl)
  rw [lg_entry_eq]
  generalize (lg_sl ([.ref (ad k), .long p0, .long p1]) ++ List.replicate (14 - (lg_sl ([.ref (ad k), .long p0, .long p1])).length) Slot.unset).toArray = ls at hl ⊢
  have hl : lv_has ls 14 [(0, .ref (ad k)), (1, .long p0), (3, .long p1)] := hl
  refine lv_aload_n hx hb md_F_finiteSum_0 rfl (lv_at hl 0 rfl) ?_
  refine lv_lload_n hx hb md_F_finiteSum_1 rfl (lv_at hl 1 rfl) ?_
  refine vp_callSi (W.runV (C := "NumberProbe$Format") (As := [.long p0]) (rest := []) ⟨hx, hb, hml, hown, hts⟩ (mt_F_exponentOf l ad k hk p0) (cwV 1 hts (gd_V tm_131 tm_133 tm_3 tm_27 tm_134) rfl rfl rfl (by decide +kernel) ⟨Nat.le_of_ble_eq_true rfl, Nat.le_of_ble_eq_true rfl⟩) ⟨fb_E, fw_recv hE hk hS, fun U hU hW => ⟨rfl, fw_use hE hS hU hW⟩⟩ rfl rfl hl.1 rfl (lv_room (Nat.le_of_ble_eq_true rfl)) md_F_finiteSum_2 ⟨Nat.zero_le _, Nat.zero_le _⟩) (fun r_1 e_2 => ?_)
  obtain rfl : r_1 = cf_exp k p0 := e_2
  refine lv_istore (lv' := [(5, .int (cf_exp k p0)), (0, .ref (ad k)), (1, .long p0), (3, .long p1)]) hx hb md_F_finiteSum_5 hl (by decide) rfl (fun ls hl => ?_)
  refine lv_aload_n hx hb md_F_finiteSum_7 rfl (lv_at hl 1 rfl) ?_
  refine lv_lload_n hx hb md_F_finiteSum_8 rfl (lv_at hl 2 rfl) ?_
  refine vp_callSl (W.runV (C := "NumberProbe$Format") (As := [.long p0]) (rest := []) ⟨hx, hb, hml, hown, hts⟩ (mt_F_significandOf l ad k hk p0) (cwV 1 hts (gd_V tm_142 tm_144 tm_5 tm_27 tm_145) rfl rfl rfl (by decide +kernel) ⟨Nat.le_of_ble_eq_true rfl, Nat.le_of_ble_eq_true rfl⟩) ⟨fb_E, fw_recv hE hk hS, fun U hU hW => ⟨rfl, fw_use hE hS hU hW⟩⟩ rfl rfl hl.1 rfl (lv_room (Nat.le_of_ble_eq_true rfl)) md_F_finiteSum_9 ⟨Nat.zero_le _, Nat.zero_le _⟩) (fun r_3 e_4 => ?_)
  obtain rfl : r_3 = cf_sig k p0 := e_4
  refine lv_bipush (v := 9) hx hb md_F_finiteSum_12 (by decide) ?_
  refine lv_lshl (v := jl_shl (cf_sig k p0) 9) hx hb md_F_finiteSum_14 rfl ?_
  refine lv_lstore (lv' := [(6, .long (jl_shl (cf_sig k p0) 9)), (5, .int (cf_exp k p0)), (0, .ref (ad k)), (1, .long p0), (3, .long p1)]) hx hb md_F_finiteSum_15 hl (by decide) rfl (fun ls hl => ?_)
  refine lv_aload_n hx hb md_F_finiteSum_17 rfl (lv_at hl 2 rfl) ?_
  refine lv_lload_n hx hb md_F_finiteSum_18 rfl (lv_at hl 4 rfl) ?_
  refine vp_callSl (W.runV (C := "NumberProbe$Format") (As := [.long p1]) (rest := []) ⟨hx, hb, hml, hown, hts⟩ (mt_F_significandOf l ad k hk p1) (cwV 1 hts (gd_V tm_142 tm_144 tm_5 tm_27 tm_145) rfl rfl rfl (by decide +kernel) ⟨Nat.le_of_ble_eq_true rfl, Nat.le_of_ble_eq_true rfl⟩) ⟨fb_E, fw_recv hE hk hS, fun U hU hW => ⟨rfl, fw_use hE hS hU hW⟩⟩ rfl rfl hl.1 rfl (lv_room (Nat.le_of_ble_eq_true rfl)) md_F_finiteSum_19 ⟨Nat.zero_le _, Nat.zero_le _⟩) (fun r_5 e_6 => ?_)
  obtain rfl : r_5 = cf_sig k p1 := e_6
  refine lv_bipush (v := 9) hx hb md_F_finiteSum_22 (by decide) ?_
  refine lv_lshl (v := jl_shl (cf_sig k p1) 9) hx hb md_F_finiteSum_24 rfl ?_
  refine lv_iload hx hb md_F_finiteSum_25 (lv_at hl 1 rfl) ?_
  refine lv_aload_n hx hb md_F_finiteSum_27 rfl (lv_at hl 2 rfl) ?_
  refine lv_lload_n hx hb md_F_finiteSum_28 rfl (lv_at hl 4 rfl) ?_
  refine vp_callSi (W.runV (C := "NumberProbe$Format") (As := [.long p1]) (rest := [.int (cf_exp k p0), .long (jl_shl (cf_sig k p1) 9)]) ⟨hx, hb, hml, hown, hts⟩ (mt_F_exponentOf l ad k hk p1) (cwV 1 hts (gd_V tm_131 tm_133 tm_3 tm_27 tm_134) rfl rfl rfl (by decide +kernel) ⟨Nat.le_of_ble_eq_true rfl, Nat.le_of_ble_eq_true rfl⟩) ⟨fb_E, fw_recv hE hk hS, fun U hU hW => ⟨rfl, fw_use hE hS hU hW⟩⟩ rfl rfl hl.1 rfl (lv_room (Nat.le_of_ble_eq_true rfl)) md_F_finiteSum_29 ⟨Nat.zero_le _, Nat.zero_le _⟩) (fun r_7 e_8 => ?_)
  obtain rfl : r_7 = cf_exp k p1 := e_8
  refine lv_isub hx hb md_F_finiteSum_32 ?_
  refine vp_callSl (W.runS (As := [.long (jl_shl (cf_sig k p1) 9), .int ((cf_exp k p0) - (cf_exp k p1))]) (rest := []) ⟨hx, hb, hml, hown, hts⟩ (mt_F_shiftedRight l (jl_shl (cf_sig k p1) 9) ((cf_exp k p0) - (cf_exp k p1))) (va_cwS 2 hts (gd_S tm_146 tm_147 tm_27 tm_148) rfl rfl rfl (by decide +kernel) ⟨Nat.le_of_ble_eq_true rfl, Nat.le_of_ble_eq_true rfl⟩) ⟨fb_0, fun U hU hW => ⟨rfl, trivial⟩⟩ rfl rfl hl.1 rfl (lv_room (Nat.le_of_ble_eq_true rfl)) md_F_finiteSum_33 ⟨Nat.zero_le _, Nat.zero_le _⟩) (fun r_9 e_10 => ?_)
  refine lv_lstore (lv' := [(8, .long r_9), (6, .long (jl_shl (cf_sig k p0) 9)), (5, .int (cf_exp k p0)), (0, .ref (ad k)), (1, .long p0), (3, .long p1)]) hx hb md_F_finiteSum_36 hl (by decide) rfl (fun ls hl => ?_)
  refine lv_lload_n hx hb md_F_finiteSum_38 rfl (lv_at hl 4 rfl) ?_
  refine lv_lconst (v := 0) hx hb md_F_finiteSum_39 (by decide) ?_
  refine W.lcmp hx hb md_F_finiteSum_40 ?_
  have J_12 : ∀ (z_13 : Bool) (ls : Array Slot), lv_has ls 14 [(8, .long r_9), (6, .long (jl_shl (cf_sig k p0) 9)), (5, .int (cf_exp k p0)), (0, .ref (ad k)), (1, .long p0), (3, .long p1)] → WP p l e mw_F_finiteSum ({ frames := 3, cells := 0, slots := 0, locals := 73 } : Room) s m [.ref (ad k), .long p0, .long p1] below meth c (vp_Sl (fun _ => True)) (F0 m 49 ls [.int (jb z_13)]) := by
    intro z_13 ls hl
    refine lv_lload_n hx hb md_F_finiteSum_49 rfl (lv_at hl 5 rfl) ?_
    refine lv_lconst (v := 0) hx hb md_F_finiteSum_50 (by decide) ?_
    refine W.lcmp hx hb md_F_finiteSum_51 ?_
    have J_15 : ∀ (z_16 : Bool) (ls : Array Slot), lv_has ls 14 [(8, .long r_9), (6, .long (jl_shl (cf_sig k p0) 9)), (5, .int (cf_exp k p0)), (0, .ref (ad k)), (1, .long p0), (3, .long p1)] → WP p l e mw_F_finiteSum ({ frames := 3, cells := 0, slots := 0, locals := 73 } : Room) s m [.ref (ad k), .long p0, .long p1] below meth c (vp_Sl (fun _ => True)) (F0 m 60 ls [.int (jb z_16), .int (jb z_13)]) := by
      intro z_16 ls hl
      have J_18 : ∀ (z_19 : Bool) (ls : Array Slot), lv_has ls 14 [(8, .long r_9), (6, .long (jl_shl (cf_sig k p0) 9)), (5, .int (cf_exp k p0)), (0, .ref (ad k)), (1, .long p0), (3, .long p1)] → WP p l e mw_F_finiteSum ({ frames := 3, cells := 0, slots := 0, locals := 73 } : Room) s m [.ref (ad k), .long p0, .long p1] below meth c (vp_Sl (fun _ => True)) (F0 m 68 ls [.int (jb z_19)]) := by
        intro z_19 ls hl
        refine lv_istore (lv' := [(10, .int (jb z_19)), (8, .long r_9), (6, .long (jl_shl (cf_sig k p0) 9)), (5, .int (cf_exp k p0)), (0, .ref (ad k)), (1, .long p0), (3, .long p1)]) hx hb md_F_finiteSum_68 hl (by decide) rfl (fun ls hl => ?_)
        refine lv_iload hx hb md_F_finiteSum_70 (lv_at hl 0 rfl) ?_
        have J_21 : ∀ (z_22 : Int64) (ls : Array Slot), lv_has ls 14 [(10, .int (jb z_19)), (8, .long r_9), (6, .long (jl_shl (cf_sig k p0) 9)), (5, .int (cf_exp k p0)), (0, .ref (ad k)), (1, .long p0), (3, .long p1)] → WP p l e mw_F_finiteSum ({ frames := 3, cells := 0, slots := 0, locals := 73 } : Room) s m [.ref (ad k), .long p0, .long p1] below meth c (vp_Sl (fun _ => True)) (F0 m 88 ls [.long z_22]) := by
          intro z_22 ls hl
          refine lv_lstore (lv' := [(11, .long z_22), (10, .int (jb z_19)), (8, .long r_9), (6, .long (jl_shl (cf_sig k p0) 9)), (5, .int (cf_exp k p0)), (0, .ref (ad k)), (1, .long p0), (3, .long p1)]) hx hb md_F_finiteSum_88 hl (by decide) rfl (fun ls hl => ?_)
          refine lv_lload_n hx hb md_F_finiteSum_90 rfl (lv_at hl 6 rfl) ?_
          refine lv_lconst (v := 0) hx hb md_F_finiteSum_91 (by decide) ?_
          refine W.lcmp hx hb md_F_finiteSum_92 ?_
          have J_33 : ∀ (z_34 : Bool) (ls : Array Slot), lv_has ls 14 [(11, .long z_22), (10, .int (jb z_19)), (8, .long r_9), (6, .long (jl_shl (cf_sig k p0) 9)), (5, .int (cf_exp k p0)), (0, .ref (ad k)), (1, .long p0), (3, .long p1)] → WP p l e mw_F_finiteSum ({ frames := 3, cells := 0, slots := 0, locals := 73 } : Room) s m [.ref (ad k), .long p0, .long p1] below meth c (vp_Sl (fun _ => True)) (F0 m 113 ls [.int (jb z_34)]) := by
            intro z_34 ls hl
            refine lv_istore (lv' := [(13, .int (jb z_34)), (11, .long z_22), (10, .int (jb z_19)), (8, .long r_9), (6, .long (jl_shl (cf_sig k p0) 9)), (5, .int (cf_exp k p0)), (0, .ref (ad k)), (1, .long p0), (3, .long p1)]) hx hb md_F_finiteSum_113 hl (by decide) rfl (fun ls hl => ?_)
            refine lv_aload_n hx hb md_F_finiteSum_115 rfl (lv_at hl 6 rfl) ?_
            refine lv_iload hx hb md_F_finiteSum_116 (lv_at hl 0 rfl) ?_
            refine lv_lload hx hb md_F_finiteSum_118 (lv_at hl 1 rfl) ?_
            refine lv_iload hx hb md_F_finiteSum_120 (lv_at hl 5 rfl) ?_
            refine lv_bipush (v := 9) hx hb md_F_finiteSum_122 (by decide) ?_
            refine lv_isub hx hb md_F_finiteSum_124 ?_
            refine vp_callSl (W.runV (C := "NumberProbe$Format") (As := [.int (jb z_34), .long z_22, .int ((cf_exp k p0) - 9)]) (rest := []) ⟨hx, hb, hml, hown, hts⟩ (mt_F_rounded l ad k hk z_34 z_22 ((cf_exp k p0) - 9)) (cwV 3 hts (gd_V tm_152 tm_154 tm_6 tm_27 tm_155) rfl rfl rfl (by decide +kernel) ⟨Nat.le_of_ble_eq_true rfl, Nat.le_of_ble_eq_true rfl⟩) ⟨fb_E, fw_recv hE hk hS, fun U hU hW => ⟨rfl, fw_use hE hS hU hW⟩⟩ rfl rfl hl.1 rfl (lv_room (Nat.le_of_ble_eq_true rfl)) md_F_finiteSum_125 ⟨Nat.zero_le _, Nat.zero_le _⟩) (fun r_35 e_36 => ?_)
            exact W.lret (v := r_35) hx hb hr (fun t ht2 _ => ⟨r_35, rfl, trivial, ht2⟩) (fun q h => by cases h) md_F_finiteSum_128
          refine lv_if_ge (tgt := 112) hx hb md_F_finiteSum_93 (by decide) (fun c_23 => ?_) (fun c_23 => ?_)
          · refine lv_iconst (v := 0) hx hb md_F_finiteSum_112 (by decide) ?_
            exact J_33 false ls (lv_sub hl [0, 1, 2, 3, 4, 5, 6, 7] rfl)
          · refine lv_iload hx hb md_F_finiteSum_96 (lv_at hl 1 rfl) ?_
            have J_41 : ∀ (z_42 : Bool) (ls : Array Slot), lv_has ls 14 [(11, .long z_22), (10, .int (jb z_19)), (8, .long r_9), (6, .long (jl_shl (cf_sig k p0) 9)), (5, .int (cf_exp k p0)), (0, .ref (ad k)), (1, .long p0), (3, .long p1)] → WP p l e mw_F_finiteSum ({ frames := 3, cells := 0, slots := 0, locals := 73 } : Room) s m [.ref (ad k), .long p0, .long p1] below meth c (vp_Sl (fun _ => True)) (F0 m 113 ls [.int (jb z_42)]) := by
              intro z_42 ls hl
              exact J_33 z_42 ls (lv_sub hl [0, 1, 2, 3, 4, 5, 6, 7] rfl)
            refine lv_if_ne (tgt := 108) hx hb md_F_finiteSum_98 (by decide) (fun c_37 => ?_) (fun c_37 => ?_)
            · refine lv_iconst (v := 1) hx hb md_F_finiteSum_108 (by decide) ?_
              refine lv_goto (tgt := 113) hx hb md_F_finiteSum_109 (by decide) ?_
              exact J_41 true ls (lv_sub hl [0, 1, 2, 3, 4, 5, 6, 7] rfl)
            · refine lv_lload hx hb md_F_finiteSum_101 (lv_at hl 0 rfl) ?_
              refine lv_lconst (v := 0) hx hb md_F_finiteSum_103 (by decide) ?_
              refine W.lcmp hx hb md_F_finiteSum_104 ?_
              have J_44 : ∀ (z_45 : Bool) (ls : Array Slot), lv_has ls 14 [(11, .long z_22), (10, .int (jb z_19)), (8, .long r_9), (6, .long (jl_shl (cf_sig k p0) 9)), (5, .int (cf_exp k p0)), (0, .ref (ad k)), (1, .long p0), (3, .long p1)] → WP p l e mw_F_finiteSum ({ frames := 3, cells := 0, slots := 0, locals := 73 } : Room) s m [.ref (ad k), .long p0, .long p1] below meth c (vp_Sl (fun _ => True)) (F0 m 113 ls [.int (jb z_45)]) := by
                intro z_45 ls hl
                exact J_41 z_45 ls (lv_sub hl [0, 1, 2, 3, 4, 5, 6, 7] rfl)
              refine lv_if_eq (tgt := 112) hx hb md_F_finiteSum_105 (by decide) (fun c_43 => ?_) (fun c_43 => ?_)
              · refine lv_iconst (v := 0) hx hb md_F_finiteSum_112 (by decide) ?_
                exact J_44 false ls (lv_sub hl [0, 1, 2, 3, 4, 5, 6, 7] rfl)
              · refine lv_iconst (v := 1) hx hb md_F_finiteSum_108 (by decide) ?_
                refine lv_goto (tgt := 113) hx hb md_F_finiteSum_109 (by decide) ?_
                exact J_44 true ls (lv_sub hl [0, 1, 2, 3, 4, 5, 6, 7] rfl)
        refine lv_if_eq (tgt := 83) hx hb md_F_finiteSum_72 (by decide) (fun c_20 => ?_) (fun c_20 => ?_)
        · refine lv_lload hx hb md_F_finiteSum_83 (lv_at hl 2 rfl) ?_
          refine lv_lload hx hb md_F_finiteSum_85 (lv_at hl 1 rfl) ?_
          refine lv_lsub hx hb md_F_finiteSum_87 ?_
          exact J_21 ((jl_shl (cf_sig k p0) 9) - r_9) ls (lv_sub hl [0, 1, 2, 3, 4, 5, 6] rfl)
        · refine lv_lload hx hb md_F_finiteSum_75 (lv_at hl 2 rfl) ?_
          refine lv_lload hx hb md_F_finiteSum_77 (lv_at hl 1 rfl) ?_
          refine lv_ladd hx hb md_F_finiteSum_79 ?_
          refine lv_goto (tgt := 88) hx hb md_F_finiteSum_80 (by decide) ?_
          exact J_21 ((jl_shl (cf_sig k p0) 9) + r_9) ls (lv_sub hl [0, 1, 2, 3, 4, 5, 6] rfl)
      refine lv_icmp_ne (tgt := 67) hx hb md_F_finiteSum_60 (by decide) (fun c_17 => ?_) (fun c_17 => ?_)
      · refine lv_iconst (v := 0) hx hb md_F_finiteSum_67 (by decide) ?_
        exact J_18 false ls (lv_sub hl [0, 1, 2, 3, 4, 5] rfl)
      · refine lv_iconst (v := 1) hx hb md_F_finiteSum_63 (by decide) ?_
        refine lv_goto (tgt := 68) hx hb md_F_finiteSum_64 (by decide) ?_
        exact J_18 true ls (lv_sub hl [0, 1, 2, 3, 4, 5] rfl)
    refine lv_if_ge (tgt := 59) hx hb md_F_finiteSum_52 (by decide) (fun c_14 => ?_) (fun c_14 => ?_)
    · refine lv_iconst (v := 0) hx hb md_F_finiteSum_59 (by decide) ?_
      exact J_15 false ls (lv_sub hl [0, 1, 2, 3, 4, 5] rfl)
    · refine lv_iconst (v := 1) hx hb md_F_finiteSum_55 (by decide) ?_
      refine lv_goto (tgt := 60) hx hb md_F_finiteSum_56 (by decide) ?_
      exact J_15 true ls (lv_sub hl [0, 1, 2, 3, 4, 5] rfl)
  refine lv_if_ge (tgt := 48) hx hb md_F_finiteSum_41 (by decide) (fun c_11 => ?_) (fun c_11 => ?_)
  · refine lv_iconst (v := 0) hx hb md_F_finiteSum_48 (by decide) ?_
    exact J_12 false ls (lv_sub hl [0, 1, 2, 3, 4, 5] rfl)
  · refine lv_iconst (v := 1) hx hb md_F_finiteSum_44 (by decide) ?_
    refine lv_goto (tgt := 49) hx hb md_F_finiteSum_45 (by decide) ?_
    exact J_12 true ls (lv_sub hl [0, 1, 2, 3, 4, 5] rfl)
set_option maxHeartbeats 4000000 in
set_option maxRecDepth 100000 in
theorem mt_F_sum (l : Launch) (ad : Nat → Nat) (k : Nat) (hk : k < 2) (p0 : Int64) (p1 : Int64) : Met l my_F_sum mw_F_sum ({ frames := 4, cells := 0, slots := 0, locals := 106 } : Room) (va_Pc [.ref (ad k), .long p0, .long p1] (fun U => FW ad (fun _ => False) U U.heap)) (vp_Sl (fun _ => True)) 0 0 (fun _ => False) := by
  refine Met.ofW (cc := mc_F_sum) (maxL := 5) (ret := (some .long)) (by decide) rfl ?_
  intro p e s m args below meth c s₁ B hml hv
  obtain ⟨rfl, hE⟩ := hv
  have hx := B.exec
  have hb := B.bytes
  have hr := B.returns
  have hts := atoms_spec (ws := mw_F_sum) B.pre
  have ht : ∀ w ∈ gw_tbl, w.before _ s = true := fun w h => hts w (List.mem_cons_of_mem _ h)
  have hown : s.vm.findClass "NumberProbe$Format" = some m.cls := findClass_of_methodNamed B.named
  have hlocks := B.notSynchronized
  have hS : va_S (fun _ => False) s.heap s.heap [] := va_S.rf
  have hl := lv_entry ([.ref (ad k), .long p0, .long p1]) (n := 5) (Nat.le_of_ble_eq_true rfl)
  rw [lg_entry_eq]
  generalize (lg_sl ([.ref (ad k), .long p0, .long p1]) ++ List.replicate (5 - (lg_sl ([.ref (ad k), .long p0, .long p1])).length) Slot.unset).toArray = ls at hl ⊢
  have hl : lv_has ls 5 [(0, .ref (ad k)), (1, .long p0), (3, .long p1)] := hl
  refine lv_aload_n hx hb md_F_sum_0 rfl (lv_at hl 0 rfl) ?_
  refine lv_lload_n hx hb md_F_sum_1 rfl (lv_at hl 1 rfl) ?_
  refine vp_callSi (W.runV (C := "NumberProbe$Format") (As := [.long p0]) (rest := []) ⟨hx, hb, hml, hown, hts⟩ (mt_F_isNaN l ad k hk p0) (cwV 1 hts (gd_V tm_67 tm_68 tm_69 tm_27 tm_70) rfl rfl rfl (by decide +kernel) ⟨Nat.le_of_ble_eq_true rfl, Nat.le_of_ble_eq_true rfl⟩) ⟨fb_E, fw_recv hE hk hS, fun U hU hW => ⟨rfl, fw_use hE hS hU hW⟩⟩ rfl rfl hl.1 rfl (lv_room (Nat.le_of_ble_eq_true rfl)) md_F_sum_2 ⟨Nat.zero_le _, Nat.zero_le _⟩) (fun r_1 e_2 => ?_)
  obtain rfl : r_1 = jb (cf_nan k p0) := e_2
  refine lv_if_ne (tgt := 16) hx hb md_F_sum_5 (by decide) (fun c_3 => ?_) (fun c_3 => ?_)
  · refine lv_aload_n hx hb md_F_sum_16 rfl (lv_at hl 0 rfl) ?_
    refine va_getX hx hb hE.2.2.2.2.2.2.1 hk hS hown (ht _ tm_550) (fun _ h9 => h9) md_F_sum_17 ?_
    exact W.lret (v := kf_n k) hx hb hr (fun t ht2 _ => ⟨(kf_n k), rfl, trivial, ht2⟩) (fun q h => by cases h) md_F_sum_20
  · refine lv_aload_n hx hb md_F_sum_8 rfl (lv_at hl 0 rfl) ?_
    refine lv_lload_n hx hb md_F_sum_9 rfl (lv_at hl 2 rfl) ?_
    refine vp_callSi (W.runV (C := "NumberProbe$Format") (As := [.long p1]) (rest := []) ⟨hx, hb, hml, hown, hts⟩ (mt_F_isNaN l ad k hk p1) (cwV 1 hts (gd_V tm_67 tm_68 tm_69 tm_27 tm_70) rfl rfl rfl (by decide +kernel) ⟨Nat.le_of_ble_eq_true rfl, Nat.le_of_ble_eq_true rfl⟩) ⟨fb_E, fw_recv hE hk hS, fun U hU hW => ⟨rfl, fw_use hE hS hU hW⟩⟩ rfl rfl hl.1 rfl (lv_room (Nat.le_of_ble_eq_true rfl)) md_F_sum_10 ⟨Nat.zero_le _, Nat.zero_le _⟩) (fun r_4 e_5 => ?_)
    obtain rfl : r_4 = jb (cf_nan k p1) := e_5
    refine lv_if_eq (tgt := 21) hx hb md_F_sum_13 (by decide) (fun c_6 => ?_) (fun c_6 => ?_)
    · refine lv_aload_n hx hb md_F_sum_21 rfl (lv_at hl 0 rfl) ?_
      refine lv_lload_n hx hb md_F_sum_22 rfl (lv_at hl 1 rfl) ?_
      refine vp_callSi (W.runV (C := "NumberProbe$Format") (As := [.long p0]) (rest := []) ⟨hx, hb, hml, hown, hts⟩ (mt_F_isInfinite l ad k hk p0) (cwV 1 hts (gd_V tm_123 tm_125 tm_1 tm_27 tm_126) rfl rfl rfl (by decide +kernel) ⟨Nat.le_of_ble_eq_true rfl, Nat.le_of_ble_eq_true rfl⟩) ⟨fb_E, fw_recv hE hk hS, fun U hU hW => ⟨rfl, fw_use hE hS hU hW⟩⟩ rfl rfl hl.1 rfl (lv_room (Nat.le_of_ble_eq_true rfl)) md_F_sum_23 ⟨Nat.zero_le _, Nat.zero_le _⟩) (fun r_7 e_8 => ?_)
      obtain rfl : r_7 = jb (cf_inf k p0) := e_8
      refine lv_if_eq (tgt := 52) hx hb md_F_sum_26 (by decide) (fun c_9 => ?_) (fun c_9 => ?_)
      · refine lv_aload_n hx hb md_F_sum_52 rfl (lv_at hl 0 rfl) ?_
        refine lv_lload_n hx hb md_F_sum_53 rfl (lv_at hl 2 rfl) ?_
        refine vp_callSi (W.runV (C := "NumberProbe$Format") (As := [.long p1]) (rest := []) ⟨hx, hb, hml, hown, hts⟩ (mt_F_isInfinite l ad k hk p1) (cwV 1 hts (gd_V tm_123 tm_125 tm_1 tm_27 tm_126) rfl rfl rfl (by decide +kernel) ⟨Nat.le_of_ble_eq_true rfl, Nat.le_of_ble_eq_true rfl⟩) ⟨fb_E, fw_recv hE hk hS, fun U hU hW => ⟨rfl, fw_use hE hS hU hW⟩⟩ rfl rfl hl.1 rfl (lv_room (Nat.le_of_ble_eq_true rfl)) md_F_sum_54 ⟨Nat.zero_le _, Nat.zero_le _⟩) (fun r_10 e_11 => ?_)
        obtain rfl : r_10 = jb (cf_inf k p1) := e_11
        refine lv_if_eq (tgt := 62) hx hb md_F_sum_57 (by decide) (fun c_12 => ?_) (fun c_12 => ?_)
        · refine lv_aload_n hx hb md_F_sum_62 rfl (lv_at hl 0 rfl) ?_
          refine lv_lload_n hx hb md_F_sum_63 rfl (lv_at hl 1 rfl) ?_
          refine vp_callSl (W.runV (C := "NumberProbe$Format") (As := [.long p0]) (rest := []) ⟨hx, hb, hml, hown, hts⟩ (mt_F_magnitude l ad k hk p0) (cwV 1 hts (gd_V tm_71 tm_72 tm_73 tm_27 tm_74) rfl rfl rfl (by decide +kernel) ⟨Nat.le_of_ble_eq_true rfl, Nat.le_of_ble_eq_true rfl⟩) ⟨fb_E, fw_recv hE hk hS, fun U hU hW => ⟨rfl, fw_use hE hS hU hW⟩⟩ rfl rfl hl.1 rfl (lv_room (Nat.le_of_ble_eq_true rfl)) md_F_sum_64 ⟨Nat.zero_le _, Nat.zero_le _⟩) (fun r_13 e_14 => ?_)
          obtain rfl : r_13 = cf_mag k p0 := e_14
          refine lv_aload_n hx hb md_F_sum_67 rfl (lv_at hl 0 rfl) ?_
          refine lv_lload_n hx hb md_F_sum_68 rfl (lv_at hl 2 rfl) ?_
          refine vp_callSl (W.runV (C := "NumberProbe$Format") (As := [.long p1]) (rest := [.long (cf_mag k p0)]) ⟨hx, hb, hml, hown, hts⟩ (mt_F_magnitude l ad k hk p1) (cwV 1 hts (gd_V tm_71 tm_72 tm_73 tm_27 tm_74) rfl rfl rfl (by decide +kernel) ⟨Nat.le_of_ble_eq_true rfl, Nat.le_of_ble_eq_true rfl⟩) ⟨fb_E, fw_recv hE hk hS, fun U hU hW => ⟨rfl, fw_use hE hS hU hW⟩⟩ rfl rfl hl.1 rfl (lv_room (Nat.le_of_ble_eq_true rfl)) md_F_sum_69 ⟨Nat.zero_le _, Nat.zero_le _⟩) (fun r_15 e_16 => ?_)
          obtain rfl : r_15 = cf_mag k p1 := e_16
          refine W.lcmp hx hb md_F_sum_72 ?_
          have J_22 : ∀ (z_23 : Int64) (ls : Array Slot), lv_has ls 5 [(0, .ref (ad k)), (1, .long p0), (3, .long p1)] → WP p l e mw_F_sum ({ frames := 4, cells := 0, slots := 0, locals := 106 } : Room) s m [.ref (ad k), .long p0, .long p1] below meth c (vp_Sl (fun _ => True)) (F0 m 91 ls [.long z_23]) := by
            intro z_23 ls hl
            exact W.lret (v := z_23) hx hb hr (fun t ht2 _ => ⟨z_23, rfl, trivial, ht2⟩) (fun q h => by cases h) md_F_sum_91
          refine lv_if_lt (tgt := 85) hx hb md_F_sum_73 (by decide) (fun c_17 => ?_) (fun c_17 => ?_)
          · refine lv_aload_n hx hb md_F_sum_85 rfl (lv_at hl 0 rfl) ?_
            refine lv_lload_n hx hb md_F_sum_86 rfl (lv_at hl 2 rfl) ?_
            refine lv_lload_n hx hb md_F_sum_87 rfl (lv_at hl 1 rfl) ?_
            refine vp_callSl (W.runV (C := "NumberProbe$Format") (As := [.long p1, .long p0]) (rest := []) ⟨hx, hb, hml, hown, hts⟩ (mt_F_finiteSum l ad k hk p1 p0) (cwV 2 hts (gd_V tm_127 tm_129 tm_2 tm_27 tm_130) rfl rfl rfl (by decide +kernel) ⟨Nat.le_of_ble_eq_true rfl, Nat.le_of_ble_eq_true rfl⟩) ⟨fb_E, fw_recv hE hk hS, fun U hU hW => ⟨rfl, fw_use hE hS hU hW⟩⟩ rfl rfl hl.1 rfl (lv_room (Nat.le_of_ble_eq_true rfl)) md_F_sum_88 ⟨Nat.zero_le _, Nat.zero_le _⟩) (fun r_24 e_25 => ?_)
            exact J_22 r_24 ls (lv_sub hl [0, 1, 2] rfl)
          · refine lv_aload_n hx hb md_F_sum_76 rfl (lv_at hl 0 rfl) ?_
            refine lv_lload_n hx hb md_F_sum_77 rfl (lv_at hl 1 rfl) ?_
            refine lv_lload_n hx hb md_F_sum_78 rfl (lv_at hl 2 rfl) ?_
            refine vp_callSl (W.runV (C := "NumberProbe$Format") (As := [.long p0, .long p1]) (rest := []) ⟨hx, hb, hml, hown, hts⟩ (mt_F_finiteSum l ad k hk p0 p1) (cwV 2 hts (gd_V tm_127 tm_129 tm_2 tm_27 tm_130) rfl rfl rfl (by decide +kernel) ⟨Nat.le_of_ble_eq_true rfl, Nat.le_of_ble_eq_true rfl⟩) ⟨fb_E, fw_recv hE hk hS, fun U hU hW => ⟨rfl, fw_use hE hS hU hW⟩⟩ rfl rfl hl.1 rfl (lv_room (Nat.le_of_ble_eq_true rfl)) md_F_sum_79 ⟨Nat.zero_le _, Nat.zero_le _⟩) (fun r_26 e_27 => ?_)
            refine lv_goto (tgt := 91) hx hb md_F_sum_82 (by decide) ?_
            exact J_22 r_26 ls (lv_sub hl [0, 1, 2] rfl)
        · refine lv_lload_n hx hb md_F_sum_60 rfl (lv_at hl 2 rfl) ?_
          exact W.lret (v := p1) hx hb hr (fun t ht2 _ => ⟨p1, rfl, trivial, ht2⟩) (fun q h => by cases h) md_F_sum_61
      · refine lv_aload_n hx hb md_F_sum_29 rfl (lv_at hl 0 rfl) ?_
        refine lv_lload_n hx hb md_F_sum_30 rfl (lv_at hl 2 rfl) ?_
        refine vp_callSi (W.runV (C := "NumberProbe$Format") (As := [.long p1]) (rest := []) ⟨hx, hb, hml, hown, hts⟩ (mt_F_isInfinite l ad k hk p1) (cwV 1 hts (gd_V tm_123 tm_125 tm_1 tm_27 tm_126) rfl rfl rfl (by decide +kernel) ⟨Nat.le_of_ble_eq_true rfl, Nat.le_of_ble_eq_true rfl⟩) ⟨fb_E, fw_recv hE hk hS, fun U hU hW => ⟨rfl, fw_use hE hS hU hW⟩⟩ rfl rfl hl.1 rfl (lv_room (Nat.le_of_ble_eq_true rfl)) md_F_sum_31 ⟨Nat.zero_le _, Nat.zero_le _⟩) (fun r_28 e_29 => ?_)
        obtain rfl : r_28 = jb (cf_inf k p1) := e_29
        have J_34 : ∀ (z_35 : Int64) (ls : Array Slot), lv_has ls 5 [(0, .ref (ad k)), (1, .long p0), (3, .long p1)] → WP p l e mw_F_sum ({ frames := 4, cells := 0, slots := 0, locals := 106 } : Room) s m [.ref (ad k), .long p0, .long p1] below meth c (vp_Sl (fun _ => True)) (F0 m 51 ls [.long z_35]) := by
          intro z_35 ls hl
          exact W.lret (v := z_35) hx hb hr (fun t ht2 _ => ⟨z_35, rfl, trivial, ht2⟩) (fun q h => by cases h) md_F_sum_51
        refine lv_if_eq (tgt := 50) hx hb md_F_sum_34 (by decide) (fun c_30 => ?_) (fun c_30 => ?_)
        · refine lv_lload_n hx hb md_F_sum_50 rfl (lv_at hl 1 rfl) ?_
          exact J_34 p0 ls (lv_sub hl [0, 1, 2] rfl)
        · refine lv_lload_n hx hb md_F_sum_37 rfl (lv_at hl 1 rfl) ?_
          refine lv_lload_n hx hb md_F_sum_38 rfl (lv_at hl 2 rfl) ?_
          refine W.lcmp hx hb md_F_sum_39 ?_
          have J_37 : ∀ (z_38 : Int64) (ls : Array Slot), lv_has ls 5 [(0, .ref (ad k)), (1, .long p0), (3, .long p1)] → WP p l e mw_F_sum ({ frames := 4, cells := 0, slots := 0, locals := 106 } : Room) s m [.ref (ad k), .long p0, .long p1] below meth c (vp_Sl (fun _ => True)) (F0 m 51 ls [.long z_38]) := by
            intro z_38 ls hl
            exact J_34 z_38 ls (lv_sub hl [0, 1, 2] rfl)
          refine lv_if_eq (tgt := 50) hx hb md_F_sum_40 (by decide) (fun c_36 => ?_) (fun c_36 => ?_)
          · refine lv_lload_n hx hb md_F_sum_50 rfl (lv_at hl 1 rfl) ?_
            exact J_37 p0 ls (lv_sub hl [0, 1, 2] rfl)
          · refine lv_aload_n hx hb md_F_sum_43 rfl (lv_at hl 0 rfl) ?_
            refine va_getX hx hb hE.2.2.2.2.2.2.1 hk hS hown (ht _ tm_550) (fun _ h9 => h9) md_F_sum_44 ?_
            refine lv_goto (tgt := 51) hx hb md_F_sum_47 (by decide) ?_
            exact J_37 (kf_n k) ls (lv_sub hl [0, 1, 2] rfl)
    · refine lv_aload_n hx hb md_F_sum_16 rfl (lv_at hl 0 rfl) ?_
      refine va_getX hx hb hE.2.2.2.2.2.2.1 hk hS hown (ht _ tm_550) (fun _ h9 => h9) md_F_sum_17 ?_
      exact W.lret (v := kf_n k) hx hb hr (fun t ht2 _ => ⟨(kf_n k), rfl, trivial, ht2⟩) (fun q h => by cases h) md_F_sum_20
set_option maxHeartbeats 4000000 in
set_option maxRecDepth 100000 in
theorem mt_F_finiteProduct (l : Launch) (ad : Nat → Nat) (k : Nat) (hk : k < 2) (p0 : Bool) (p1 : Int64) (p2 : Int64) : Met l my_F_finiteProduct mw_F_finiteProduct ({ frames := 3, cells := 0, slots := 0, locals := 73 } : Room) (va_Pc [.ref (ad k), .int (jb p0), .long p1, .long p2] (fun U => FW ad (fun _ => False) U U.heap)) (vp_Sl (fun _ => True)) 0 0 (fun _ => False) := by
  refine Met.ofW (cc := mc_F_finiteProduct) (maxL := 17) (ret := (some .long)) (by decide) rfl ?_
  intro p e s m args below meth c s₁ B hml hv
  obtain ⟨rfl, hE⟩ := hv
  have hx := B.exec
  have hb := B.bytes
  have hr := B.returns
  have hts := atoms_spec (ws := mw_F_finiteProduct) B.pre
  have ht : ∀ w ∈ gw_tbl, w.before _ s = true := fun w h => hts w (List.mem_cons_of_mem _ h)
  have hown : s.vm.findClass "NumberProbe$Format" = some m.cls := findClass_of_methodNamed B.named
  have hlocks := B.notSynchronized
  have hS : va_S (fun _ => False) s.heap s.heap [] := va_S.rf
  have hl := lv_entry ([.ref (ad k), .int (jb p0), .long p1, .long p2]) (n := 17) (Nat.le_of_ble_eq_true rfl)
  rw [lg_entry_eq]
  generalize (lg_sl ([.ref (ad k), .int (jb p0), .long p1, .long p2]) ++ List.replicate (17 - (lg_sl ([.ref (ad k), .int (jb p0), .long p1, .long p2])).length) Slot.unset).toArray = ls at hl ⊢
  have hl : lv_has ls 17 [(0, .ref (ad k)), (1, .int (jb p0)), (2, .long p1), (4, .long p2)] := hl
  refine lv_aload_n hx hb md_F_finiteProduct_0 rfl (lv_at hl 0 rfl) ?_
  refine lv_lload_n hx hb md_F_finiteProduct_1 rfl (lv_at hl 2 rfl) ?_
  refine vp_callSl (W.runV (C := "NumberProbe$Format") (As := [.long p1]) (rest := []) ⟨hx, hb, hml, hown, hts⟩ (mt_F_significandOf l ad k hk p1) (cwV 1 hts (gd_V tm_142 tm_144 tm_5 tm_27 tm_145) rfl rfl rfl (by decide +kernel) ⟨Nat.le_of_ble_eq_true rfl, Nat.le_of_ble_eq_true rfl⟩) ⟨fb_E, fw_recv hE hk hS, fun U hU hW => ⟨rfl, fw_use hE hS hU hW⟩⟩ rfl rfl hl.1 rfl (lv_room (Nat.le_of_ble_eq_true rfl)) md_F_finiteProduct_2 ⟨Nat.zero_le _, Nat.zero_le _⟩) (fun r_1 e_2 => ?_)
  obtain rfl : r_1 = cf_sig k p1 := e_2
  refine vp_callSi (W.runS (As := [.long (cf_sig k p1)]) (rest := []) ⟨hx, hb, hml, hown, hts⟩ (mt_F_widening l (cf_sig k p1)) (va_cwS 1 hts (gd_S tm_182 tm_183 tm_27 tm_184) rfl rfl rfl (by decide +kernel) ⟨Nat.le_of_ble_eq_true rfl, Nat.le_of_ble_eq_true rfl⟩) ⟨fb_0, fun U hU hW => ⟨rfl, trivial⟩⟩ rfl rfl hl.1 rfl (lv_room (Nat.le_of_ble_eq_true rfl)) md_F_finiteProduct_5 ⟨Nat.zero_le _, Nat.zero_le _⟩) (fun r_3 e_4 => ?_)
  obtain rfl : r_3 = cf_wid (cf_sig k p1) := e_4
  refine lv_istore (lv' := [(6, .int (cf_wid (cf_sig k p1))), (0, .ref (ad k)), (1, .int (jb p0)), (2, .long p1), (4, .long p2)]) hx hb md_F_finiteProduct_8 hl (by decide) rfl (fun ls hl => ?_)
  refine lv_aload_n hx hb md_F_finiteProduct_10 rfl (lv_at hl 1 rfl) ?_
  refine lv_lload hx hb md_F_finiteProduct_11 (lv_at hl 4 rfl) ?_
  refine vp_callSl (W.runV (C := "NumberProbe$Format") (As := [.long p2]) (rest := []) ⟨hx, hb, hml, hown, hts⟩ (mt_F_significandOf l ad k hk p2) (cwV 1 hts (gd_V tm_142 tm_144 tm_5 tm_27 tm_145) rfl rfl rfl (by decide +kernel) ⟨Nat.le_of_ble_eq_true rfl, Nat.le_of_ble_eq_true rfl⟩) ⟨fb_E, fw_recv hE hk hS, fun U hU hW => ⟨rfl, fw_use hE hS hU hW⟩⟩ rfl rfl hl.1 rfl (lv_room (Nat.le_of_ble_eq_true rfl)) md_F_finiteProduct_13 ⟨Nat.zero_le _, Nat.zero_le _⟩) (fun r_5 e_6 => ?_)
  obtain rfl : r_5 = cf_sig k p2 := e_6
  refine vp_callSi (W.runS (As := [.long (cf_sig k p2)]) (rest := []) ⟨hx, hb, hml, hown, hts⟩ (mt_F_widening l (cf_sig k p2)) (va_cwS 1 hts (gd_S tm_182 tm_183 tm_27 tm_184) rfl rfl rfl (by decide +kernel) ⟨Nat.le_of_ble_eq_true rfl, Nat.le_of_ble_eq_true rfl⟩) ⟨fb_0, fun U hU hW => ⟨rfl, trivial⟩⟩ rfl rfl hl.1 rfl (lv_room (Nat.le_of_ble_eq_true rfl)) md_F_finiteProduct_16 ⟨Nat.zero_le _, Nat.zero_le _⟩) (fun r_7 e_8 => ?_)
  obtain rfl : r_7 = cf_wid (cf_sig k p2) := e_8
  refine lv_istore (lv' := [(7, .int (cf_wid (cf_sig k p2))), (6, .int (cf_wid (cf_sig k p1))), (0, .ref (ad k)), (1, .int (jb p0)), (2, .long p1), (4, .long p2)]) hx hb md_F_finiteProduct_19 hl (by decide) rfl (fun ls hl => ?_)
  refine lv_aload_n hx hb md_F_finiteProduct_21 rfl (lv_at hl 2 rfl) ?_
  refine lv_lload_n hx hb md_F_finiteProduct_22 rfl (lv_at hl 4 rfl) ?_
  refine vp_callSl (W.runV (C := "NumberProbe$Format") (As := [.long p1]) (rest := []) ⟨hx, hb, hml, hown, hts⟩ (mt_F_significandOf l ad k hk p1) (cwV 1 hts (gd_V tm_142 tm_144 tm_5 tm_27 tm_145) rfl rfl rfl (by decide +kernel) ⟨Nat.le_of_ble_eq_true rfl, Nat.le_of_ble_eq_true rfl⟩) ⟨fb_E, fw_recv hE hk hS, fun U hU hW => ⟨rfl, fw_use hE hS hU hW⟩⟩ rfl rfl hl.1 rfl (lv_room (Nat.le_of_ble_eq_true rfl)) md_F_finiteProduct_23 ⟨Nat.zero_le _, Nat.zero_le _⟩) (fun r_9 e_10 => ?_)
  obtain rfl : r_9 = cf_sig k p1 := e_10
  refine lv_iload hx hb md_F_finiteProduct_26 (lv_at hl 1 rfl) ?_
  refine lv_lshl (v := jl_shl (cf_sig k p1) (cf_wid (cf_sig k p1))) hx hb md_F_finiteProduct_28 rfl ?_
  refine lv_lstore (lv' := [(8, .long (jl_shl (cf_sig k p1) (cf_wid (cf_sig k p1)))), (7, .int (cf_wid (cf_sig k p2))), (6, .int (cf_wid (cf_sig k p1))), (0, .ref (ad k)), (1, .int (jb p0)), (2, .long p1), (4, .long p2)]) hx hb md_F_finiteProduct_29 hl (by decide) rfl (fun ls hl => ?_)
  refine lv_aload_n hx hb md_F_finiteProduct_31 rfl (lv_at hl 3 rfl) ?_
  refine lv_lload hx hb md_F_finiteProduct_32 (lv_at hl 6 rfl) ?_
  refine vp_callSl (W.runV (C := "NumberProbe$Format") (As := [.long p2]) (rest := []) ⟨hx, hb, hml, hown, hts⟩ (mt_F_significandOf l ad k hk p2) (cwV 1 hts (gd_V tm_142 tm_144 tm_5 tm_27 tm_145) rfl rfl rfl (by decide +kernel) ⟨Nat.le_of_ble_eq_true rfl, Nat.le_of_ble_eq_true rfl⟩) ⟨fb_E, fw_recv hE hk hS, fun U hU hW => ⟨rfl, fw_use hE hS hU hW⟩⟩ rfl rfl hl.1 rfl (lv_room (Nat.le_of_ble_eq_true rfl)) md_F_finiteProduct_34 ⟨Nat.zero_le _, Nat.zero_le _⟩) (fun r_11 e_12 => ?_)
  obtain rfl : r_11 = cf_sig k p2 := e_12
  refine lv_iload hx hb md_F_finiteProduct_37 (lv_at hl 1 rfl) ?_
  refine lv_lshl (v := jl_shl (cf_sig k p2) (cf_wid (cf_sig k p2))) hx hb md_F_finiteProduct_39 rfl ?_
  refine lv_lstore (lv' := [(10, .long (jl_shl (cf_sig k p2) (cf_wid (cf_sig k p2)))), (8, .long (jl_shl (cf_sig k p1) (cf_wid (cf_sig k p1)))), (7, .int (cf_wid (cf_sig k p2))), (6, .int (cf_wid (cf_sig k p1))), (0, .ref (ad k)), (1, .int (jb p0)), (2, .long p1), (4, .long p2)]) hx hb md_F_finiteProduct_40 hl (by decide) rfl (fun ls hl => ?_)
  refine lv_lconst (v := 0) hx hb md_F_finiteProduct_42 (by decide) ?_
  refine lv_lstore (lv' := [(12, .long 0), (10, .long (jl_shl (cf_sig k p2) (cf_wid (cf_sig k p2)))), (8, .long (jl_shl (cf_sig k p1) (cf_wid (cf_sig k p1)))), (7, .int (cf_wid (cf_sig k p2))), (6, .int (cf_wid (cf_sig k p1))), (0, .ref (ad k)), (1, .int (jb p0)), (2, .long p1), (4, .long p2)]) hx hb md_F_finiteProduct_43 hl (by decide) rfl (fun ls hl => ?_)
  refine lv_lconst (v := 0) hx hb md_F_finiteProduct_45 (by decide) ?_
  refine lv_lstore (lv' := [(14, .long 0), (12, .long 0), (10, .long (jl_shl (cf_sig k p2) (cf_wid (cf_sig k p2)))), (8, .long (jl_shl (cf_sig k p1) (cf_wid (cf_sig k p1)))), (7, .int (cf_wid (cf_sig k p2))), (6, .int (cf_wid (cf_sig k p1))), (0, .ref (ad k)), (1, .int (jb p0)), (2, .long p1), (4, .long p2)]) hx hb md_F_finiteProduct_46 hl (by decide) rfl (fun ls hl => ?_)
  refine lv_iconst (v := 0) hx hb md_F_finiteProduct_48 (by decide) ?_
  refine lv_istore (lv' := [(16, .int 0), (14, .long 0), (12, .long 0), (10, .long (jl_shl (cf_sig k p2) (cf_wid (cf_sig k p2)))), (8, .long (jl_shl (cf_sig k p1) (cf_wid (cf_sig k p1)))), (7, .int (cf_wid (cf_sig k p2))), (6, .int (cf_wid (cf_sig k p1))), (0, .ref (ad k)), (1, .int (jb p0)), (2, .long p1), (4, .long p2)]) hx hb md_F_finiteProduct_49 hl (by decide) rfl (fun ls hl => ?_)
  have L_13 : ∀ (n : Nat) (z_14 : Int32) (z_15 : Int64) (z_16 : Int64) (ls : Array Slot), ((6 : Int32).toInt - z_14.toInt).toNat ≤ n → lv_has ls 17 [(16, .int z_14), (14, .long z_15), (12, .long z_16), (10, .long (jl_shl (cf_sig k p2) (cf_wid (cf_sig k p2)))), (8, .long (jl_shl (cf_sig k p1) (cf_wid (cf_sig k p1)))), (7, .int (cf_wid (cf_sig k p2))), (6, .int (cf_wid (cf_sig k p1))), (0, .ref (ad k)), (1, .int (jb p0)), (2, .long p1), (4, .long p2)] → WP p l e mw_F_finiteProduct ({ frames := 3, cells := 0, slots := 0, locals := 73 } : Room) s m [.ref (ad k), .int (jb p0), .long p1, .long p2] below meth c (vp_Sl (fun _ => True)) (F0 m 51 ls []) := by
    intro n
    induction n with
    | zero =>
      intro z_14 z_15 z_16 ls hn hl
      refine lv_iload hx hb md_F_finiteProduct_51 (lv_at hl 0 rfl) ?_
      refine lv_bipush (v := 6) hx hb md_F_finiteProduct_53 (by decide) ?_
      refine lv_icmp_ge (tgt := 93) hx hb md_F_finiteProduct_55 (by decide) (fun c_17 => ?_) (fun c_17 => ?_)
      · refine lv_aload_n hx hb md_F_finiteProduct_93 rfl (lv_at hl 7 rfl) ?_
        refine lv_lload_n hx hb md_F_finiteProduct_94 rfl (lv_at hl 9 rfl) ?_
        refine vp_callSi (W.runV (C := "NumberProbe$Format") (As := [.long p1]) (rest := []) ⟨hx, hb, hml, hown, hts⟩ (mt_F_exponentOf l ad k hk p1) (cwV 1 hts (gd_V tm_131 tm_133 tm_3 tm_27 tm_134) rfl rfl rfl (by decide +kernel) ⟨Nat.le_of_ble_eq_true rfl, Nat.le_of_ble_eq_true rfl⟩) ⟨fb_E, fw_recv hE hk hS, fun U hU hW => ⟨rfl, fw_use hE hS hU hW⟩⟩ rfl rfl hl.1 rfl (lv_room (Nat.le_of_ble_eq_true rfl)) md_F_finiteProduct_95 ⟨Nat.zero_le _, Nat.zero_le _⟩) (fun r_18 e_19 => ?_)
        obtain rfl : r_18 = cf_exp k p1 := e_19
        refine lv_iload hx hb md_F_finiteProduct_98 (lv_at hl 6 rfl) ?_
        refine lv_isub hx hb md_F_finiteProduct_100 ?_
        refine lv_aload_n hx hb md_F_finiteProduct_101 rfl (lv_at hl 7 rfl) ?_
        refine lv_lload hx hb md_F_finiteProduct_102 (lv_at hl 10 rfl) ?_
        refine vp_callSi (W.runV (C := "NumberProbe$Format") (As := [.long p2]) (rest := [.int ((cf_exp k p1) - (cf_wid (cf_sig k p1)))]) ⟨hx, hb, hml, hown, hts⟩ (mt_F_exponentOf l ad k hk p2) (cwV 1 hts (gd_V tm_131 tm_133 tm_3 tm_27 tm_134) rfl rfl rfl (by decide +kernel) ⟨Nat.le_of_ble_eq_true rfl, Nat.le_of_ble_eq_true rfl⟩) ⟨fb_E, fw_recv hE hk hS, fun U hU hW => ⟨rfl, fw_use hE hS hU hW⟩⟩ rfl rfl hl.1 rfl (lv_room (Nat.le_of_ble_eq_true rfl)) md_F_finiteProduct_104 ⟨Nat.zero_le _, Nat.zero_le _⟩) (fun r_20 e_21 => ?_)
        obtain rfl : r_20 = cf_exp k p2 := e_21
        refine lv_iadd hx hb md_F_finiteProduct_107 ?_
        refine lv_iload hx hb md_F_finiteProduct_108 (lv_at hl 5 rfl) ?_
        refine lv_isub hx hb md_F_finiteProduct_110 ?_
        refine lv_bipush (v := 50) hx hb md_F_finiteProduct_111 (by decide) ?_
        refine lv_iadd hx hb md_F_finiteProduct_113 ?_
        refine lv_istore (lv' := [(16, .int (((((cf_exp k p1) - (cf_wid (cf_sig k p1))) + (cf_exp k p2)) - (cf_wid (cf_sig k p2))) + 50)), (14, .long z_15), (12, .long z_16), (10, .long (jl_shl (cf_sig k p2) (cf_wid (cf_sig k p2)))), (8, .long (jl_shl (cf_sig k p1) (cf_wid (cf_sig k p1)))), (7, .int (cf_wid (cf_sig k p2))), (6, .int (cf_wid (cf_sig k p1))), (0, .ref (ad k)), (1, .int (jb p0)), (2, .long p1), (4, .long p2)]) hx hb md_F_finiteProduct_114 hl (by decide) rfl (fun ls hl => ?_)
        refine lv_aload_n hx hb md_F_finiteProduct_116 rfl (lv_at hl 7 rfl) ?_
        refine lv_iload_n hx hb md_F_finiteProduct_117 rfl (lv_at hl 8 rfl) ?_
        refine lv_lload hx hb md_F_finiteProduct_118 (lv_at hl 2 rfl) ?_
        refine lv_lload hx hb md_F_finiteProduct_120 (lv_at hl 1 rfl) ?_
        refine vp_callSl (W.runS (As := [.long z_16, .long z_15]) (rest := [.int (jb p0), .ref (ad k)]) ⟨hx, hb, hml, hown, hts⟩ (mt_F_withRest l z_16 z_15) (va_cwS 2 hts (gd_S tm_149 tm_150 tm_27 tm_151) rfl rfl rfl (by decide +kernel) ⟨Nat.le_of_ble_eq_true rfl, Nat.le_of_ble_eq_true rfl⟩) ⟨fb_0, fun U hU hW => ⟨rfl, trivial⟩⟩ rfl rfl hl.1 rfl (lv_room (Nat.le_of_ble_eq_true rfl)) md_F_finiteProduct_122 ⟨Nat.zero_le _, Nat.zero_le _⟩) (fun r_22 e_23 => ?_)
        refine lv_iload hx hb md_F_finiteProduct_125 (lv_at hl 0 rfl) ?_
        refine vp_callSl (W.runV (C := "NumberProbe$Format") (As := [.int (jb p0), .long r_22, .int (((((cf_exp k p1) - (cf_wid (cf_sig k p1))) + (cf_exp k p2)) - (cf_wid (cf_sig k p2))) + 50)]) (rest := []) ⟨hx, hb, hml, hown, hts⟩ (mt_F_rounded l ad k hk p0 r_22 (((((cf_exp k p1) - (cf_wid (cf_sig k p1))) + (cf_exp k p2)) - (cf_wid (cf_sig k p2))) + 50)) (cwV 3 hts (gd_V tm_152 tm_154 tm_6 tm_27 tm_155) rfl rfl rfl (by decide +kernel) ⟨Nat.le_of_ble_eq_true rfl, Nat.le_of_ble_eq_true rfl⟩) ⟨fb_E, fw_recv hE hk hS, fun U hU hW => ⟨rfl, fw_use hE hS hU hW⟩⟩ rfl rfl hl.1 rfl (lv_room (Nat.le_of_ble_eq_true rfl)) md_F_finiteProduct_127 ⟨Nat.zero_le _, Nat.zero_le _⟩) (fun r_24 e_25 => ?_)
        exact W.lret (v := r_24) hx hb hr (fun t ht2 _ => ⟨r_24, rfl, trivial, ht2⟩) (fun q h => by cases h) md_F_finiteProduct_130
      · exact (lu_0 (Int32.not_le.mp c_17) hn).elim
    | succ n ih =>
      intro z_14 z_15 z_16 ls hn hl
      refine lv_iload hx hb md_F_finiteProduct_51 (lv_at hl 0 rfl) ?_
      refine lv_bipush (v := 6) hx hb md_F_finiteProduct_53 (by decide) ?_
      refine lv_icmp_ge (tgt := 93) hx hb md_F_finiteProduct_55 (by decide) (fun c_26 => ?_) (fun c_26 => ?_)
      · refine lv_aload_n hx hb md_F_finiteProduct_93 rfl (lv_at hl 7 rfl) ?_
        refine lv_lload_n hx hb md_F_finiteProduct_94 rfl (lv_at hl 9 rfl) ?_
        refine vp_callSi (W.runV (C := "NumberProbe$Format") (As := [.long p1]) (rest := []) ⟨hx, hb, hml, hown, hts⟩ (mt_F_exponentOf l ad k hk p1) (cwV 1 hts (gd_V tm_131 tm_133 tm_3 tm_27 tm_134) rfl rfl rfl (by decide +kernel) ⟨Nat.le_of_ble_eq_true rfl, Nat.le_of_ble_eq_true rfl⟩) ⟨fb_E, fw_recv hE hk hS, fun U hU hW => ⟨rfl, fw_use hE hS hU hW⟩⟩ rfl rfl hl.1 rfl (lv_room (Nat.le_of_ble_eq_true rfl)) md_F_finiteProduct_95 ⟨Nat.zero_le _, Nat.zero_le _⟩) (fun r_27 e_28 => ?_)
        obtain rfl : r_27 = cf_exp k p1 := e_28
        refine lv_iload hx hb md_F_finiteProduct_98 (lv_at hl 6 rfl) ?_
        refine lv_isub hx hb md_F_finiteProduct_100 ?_
        refine lv_aload_n hx hb md_F_finiteProduct_101 rfl (lv_at hl 7 rfl) ?_
        refine lv_lload hx hb md_F_finiteProduct_102 (lv_at hl 10 rfl) ?_
        refine vp_callSi (W.runV (C := "NumberProbe$Format") (As := [.long p2]) (rest := [.int ((cf_exp k p1) - (cf_wid (cf_sig k p1)))]) ⟨hx, hb, hml, hown, hts⟩ (mt_F_exponentOf l ad k hk p2) (cwV 1 hts (gd_V tm_131 tm_133 tm_3 tm_27 tm_134) rfl rfl rfl (by decide +kernel) ⟨Nat.le_of_ble_eq_true rfl, Nat.le_of_ble_eq_true rfl⟩) ⟨fb_E, fw_recv hE hk hS, fun U hU hW => ⟨rfl, fw_use hE hS hU hW⟩⟩ rfl rfl hl.1 rfl (lv_room (Nat.le_of_ble_eq_true rfl)) md_F_finiteProduct_104 ⟨Nat.zero_le _, Nat.zero_le _⟩) (fun r_29 e_30 => ?_)
        obtain rfl : r_29 = cf_exp k p2 := e_30
        refine lv_iadd hx hb md_F_finiteProduct_107 ?_
        refine lv_iload hx hb md_F_finiteProduct_108 (lv_at hl 5 rfl) ?_
        refine lv_isub hx hb md_F_finiteProduct_110 ?_
        refine lv_bipush (v := 50) hx hb md_F_finiteProduct_111 (by decide) ?_
        refine lv_iadd hx hb md_F_finiteProduct_113 ?_
        refine lv_istore (lv' := [(16, .int (((((cf_exp k p1) - (cf_wid (cf_sig k p1))) + (cf_exp k p2)) - (cf_wid (cf_sig k p2))) + 50)), (14, .long z_15), (12, .long z_16), (10, .long (jl_shl (cf_sig k p2) (cf_wid (cf_sig k p2)))), (8, .long (jl_shl (cf_sig k p1) (cf_wid (cf_sig k p1)))), (7, .int (cf_wid (cf_sig k p2))), (6, .int (cf_wid (cf_sig k p1))), (0, .ref (ad k)), (1, .int (jb p0)), (2, .long p1), (4, .long p2)]) hx hb md_F_finiteProduct_114 hl (by decide) rfl (fun ls hl => ?_)
        refine lv_aload_n hx hb md_F_finiteProduct_116 rfl (lv_at hl 7 rfl) ?_
        refine lv_iload_n hx hb md_F_finiteProduct_117 rfl (lv_at hl 8 rfl) ?_
        refine lv_lload hx hb md_F_finiteProduct_118 (lv_at hl 2 rfl) ?_
        refine lv_lload hx hb md_F_finiteProduct_120 (lv_at hl 1 rfl) ?_
        refine vp_callSl (W.runS (As := [.long z_16, .long z_15]) (rest := [.int (jb p0), .ref (ad k)]) ⟨hx, hb, hml, hown, hts⟩ (mt_F_withRest l z_16 z_15) (va_cwS 2 hts (gd_S tm_149 tm_150 tm_27 tm_151) rfl rfl rfl (by decide +kernel) ⟨Nat.le_of_ble_eq_true rfl, Nat.le_of_ble_eq_true rfl⟩) ⟨fb_0, fun U hU hW => ⟨rfl, trivial⟩⟩ rfl rfl hl.1 rfl (lv_room (Nat.le_of_ble_eq_true rfl)) md_F_finiteProduct_122 ⟨Nat.zero_le _, Nat.zero_le _⟩) (fun r_31 e_32 => ?_)
        refine lv_iload hx hb md_F_finiteProduct_125 (lv_at hl 0 rfl) ?_
        refine vp_callSl (W.runV (C := "NumberProbe$Format") (As := [.int (jb p0), .long r_31, .int (((((cf_exp k p1) - (cf_wid (cf_sig k p1))) + (cf_exp k p2)) - (cf_wid (cf_sig k p2))) + 50)]) (rest := []) ⟨hx, hb, hml, hown, hts⟩ (mt_F_rounded l ad k hk p0 r_31 (((((cf_exp k p1) - (cf_wid (cf_sig k p1))) + (cf_exp k p2)) - (cf_wid (cf_sig k p2))) + 50)) (cwV 3 hts (gd_V tm_152 tm_154 tm_6 tm_27 tm_155) rfl rfl rfl (by decide +kernel) ⟨Nat.le_of_ble_eq_true rfl, Nat.le_of_ble_eq_true rfl⟩) ⟨fb_E, fw_recv hE hk hS, fun U hU hW => ⟨rfl, fw_use hE hS hU hW⟩⟩ rfl rfl hl.1 rfl (lv_room (Nat.le_of_ble_eq_true rfl)) md_F_finiteProduct_127 ⟨Nat.zero_le _, Nat.zero_le _⟩) (fun r_33 e_34 => ?_)
        exact W.lret (v := r_33) hx hb hr (fun t ht2 _ => ⟨r_33, rfl, trivial, ht2⟩) (fun q h => by cases h) md_F_finiteProduct_130
      · refine lv_lload hx hb md_F_finiteProduct_58 (lv_at hl 1 rfl) ?_
        refine lv_lload hx hb md_F_finiteProduct_60 (lv_at hl 2 rfl) ?_
        refine lv_iconst (v := 0) hx hb md_F_finiteProduct_62 (by decide) ?_
        refine vp_callSl (W.runS (As := [.long z_16, .int 0]) (rest := [.long z_15]) ⟨hx, hb, hml, hown, hts⟩ (mt_F_digitOf l z_16 0) (va_cwS 2 hts (gd_S tm_185 tm_186 tm_27 tm_187) rfl rfl rfl (by decide +kernel) ⟨Nat.le_of_ble_eq_true rfl, Nat.le_of_ble_eq_true rfl⟩) ⟨fb_0, fun U hU hW => ⟨rfl, trivial⟩⟩ rfl rfl hl.1 rfl (lv_room (Nat.le_of_ble_eq_true rfl)) md_F_finiteProduct_63 ⟨Nat.zero_le _, Nat.zero_le _⟩) (fun r_35 e_36 => ?_)
        refine lv_lor hx hb md_F_finiteProduct_66 ?_
        refine lv_lstore (lv' := [(14, .long (z_15 ||| r_35)), (16, .int z_14), (12, .long z_16), (10, .long (jl_shl (cf_sig k p2) (cf_wid (cf_sig k p2)))), (8, .long (jl_shl (cf_sig k p1) (cf_wid (cf_sig k p1)))), (7, .int (cf_wid (cf_sig k p2))), (6, .int (cf_wid (cf_sig k p1))), (0, .ref (ad k)), (1, .int (jb p0)), (2, .long p1), (4, .long p2)]) hx hb md_F_finiteProduct_67 hl (by decide) rfl (fun ls hl => ?_)
        refine lv_lload hx hb md_F_finiteProduct_69 (lv_at hl 2 rfl) ?_
        refine lv_bipush (v := 10) hx hb md_F_finiteProduct_71 (by decide) ?_
        refine lv_lushr (v := jl_ush z_16 10) hx hb md_F_finiteProduct_73 rfl ?_
        refine lv_lload hx hb md_F_finiteProduct_74 (lv_at hl 4 rfl) ?_
        refine lv_lload hx hb md_F_finiteProduct_76 (lv_at hl 3 rfl) ?_
        refine lv_iload hx hb md_F_finiteProduct_78 (lv_at hl 1 rfl) ?_
        refine vp_callSl (W.runS (As := [.long (jl_shl (cf_sig k p2) (cf_wid (cf_sig k p2))), .int z_14]) (rest := [.long (jl_shl (cf_sig k p1) (cf_wid (cf_sig k p1))), .long (jl_ush z_16 10)]) ⟨hx, hb, hml, hown, hts⟩ (mt_F_digitOf l (jl_shl (cf_sig k p2) (cf_wid (cf_sig k p2))) z_14) (va_cwS 2 hts (gd_S tm_185 tm_186 tm_27 tm_187) rfl rfl rfl (by decide +kernel) ⟨Nat.le_of_ble_eq_true rfl, Nat.le_of_ble_eq_true rfl⟩) ⟨fb_0, fun U hU hW => ⟨rfl, trivial⟩⟩ rfl rfl hl.1 rfl (lv_room (Nat.le_of_ble_eq_true rfl)) md_F_finiteProduct_80 ⟨Nat.zero_le _, Nat.zero_le _⟩) (fun r_37 e_38 => ?_)
        refine lv_lmul hx hb md_F_finiteProduct_83 ?_
        refine lv_ladd hx hb md_F_finiteProduct_84 ?_
        refine lv_lstore (lv' := [(12, .long ((jl_ush z_16 10) + ((jl_shl (cf_sig k p1) (cf_wid (cf_sig k p1))) * r_37))), (14, .long (z_15 ||| r_35)), (16, .int z_14), (10, .long (jl_shl (cf_sig k p2) (cf_wid (cf_sig k p2)))), (8, .long (jl_shl (cf_sig k p1) (cf_wid (cf_sig k p1)))), (7, .int (cf_wid (cf_sig k p2))), (6, .int (cf_wid (cf_sig k p1))), (0, .ref (ad k)), (1, .int (jb p0)), (2, .long p1), (4, .long p2)]) hx hb md_F_finiteProduct_85 hl (by decide) rfl (fun ls hl => ?_)
        refine lv_iinc (v := z_14 + 1) (lv' := [(16, .int (z_14 + 1)), (12, .long ((jl_ush z_16 10) + ((jl_shl (cf_sig k p1) (cf_wid (cf_sig k p1))) * r_37))), (14, .long (z_15 ||| r_35)), (10, .long (jl_shl (cf_sig k p2) (cf_wid (cf_sig k p2)))), (8, .long (jl_shl (cf_sig k p1) (cf_wid (cf_sig k p1)))), (7, .int (cf_wid (cf_sig k p2))), (6, .int (cf_wid (cf_sig k p1))), (0, .ref (ad k)), (1, .int (jb p0)), (2, .long p1), (4, .long p2)]) hx hb md_F_finiteProduct_87 hl (k := 2) rfl rfl (by decide) rfl (fun ls hl => ?_)
        refine lv_goto (tgt := 51) hx hb md_F_finiteProduct_90 (by decide) ?_
        exact ih (z_14 + 1) (z_15 ||| r_35) ((jl_ush z_16 10) + ((jl_shl (cf_sig k p1) (cf_wid (cf_sig k p1))) * r_37)) ls (lu_s (Int32.not_le.mp c_26) hn) (lv_sub hl [0, 2, 1, 3, 4, 5, 6, 7, 8, 9, 10] rfl)
  exact L_13 _ 0 0 0 ls (Nat.le_refl _) (lv_sub hl [0, 1, 2, 3, 4, 5, 6, 7, 8, 9, 10] rfl)
set_option maxHeartbeats 4000000 in
set_option maxRecDepth 100000 in
theorem mt_F_product (l : Launch) (ad : Nat → Nat) (k : Nat) (hk : k < 2) (p0 : Int64) (p1 : Int64) : Met l my_F_product mw_F_product ({ frames := 4, cells := 0, slots := 0, locals := 109 } : Room) (va_Pc [.ref (ad k), .long p0, .long p1] (fun U => FW ad (fun _ => False) U U.heap)) (vp_Sl (fun _ => True)) 0 0 (fun _ => False) := by
  refine Met.ofW (cc := mc_F_product) (maxL := 6) (ret := (some .long)) (by decide) rfl ?_
  intro p e s m args below meth c s₁ B hml hv
  obtain ⟨rfl, hE⟩ := hv
  have hx := B.exec
  have hb := B.bytes
  have hr := B.returns
  have hts := atoms_spec (ws := mw_F_product) B.pre
  have ht : ∀ w ∈ gw_tbl, w.before _ s = true := fun w h => hts w (List.mem_cons_of_mem _ h)
  have hown : s.vm.findClass "NumberProbe$Format" = some m.cls := findClass_of_methodNamed B.named
  have hlocks := B.notSynchronized
  have hS : va_S (fun _ => False) s.heap s.heap [] := va_S.rf
  have hl := lv_entry ([.ref (ad k), .long p0, .long p1]) (n := 6) (Nat.le_of_ble_eq_true rfl)
  rw [lg_entry_eq]
  generalize (lg_sl ([.ref (ad k), .long p0, .long p1]) ++ List.replicate (6 - (lg_sl ([.ref (ad k), .long p0, .long p1])).length) Slot.unset).toArray = ls at hl ⊢
  have hl : lv_has ls 6 [(0, .ref (ad k)), (1, .long p0), (3, .long p1)] := hl
  refine lv_lload_n hx hb md_F_product_0 rfl (lv_at hl 1 rfl) ?_
  refine lv_lconst (v := 0) hx hb md_F_product_1 (by decide) ?_
  refine W.lcmp hx hb md_F_product_2 ?_
  have J_2 : ∀ (z_3 : Bool) (ls : Array Slot), lv_has ls 6 [(0, .ref (ad k)), (1, .long p0), (3, .long p1)] → WP p l e mw_F_product ({ frames := 4, cells := 0, slots := 0, locals := 109 } : Room) s m [.ref (ad k), .long p0, .long p1] below meth c (vp_Sl (fun _ => True)) (F0 m 11 ls [.int (jb z_3)]) := by
    intro z_3 ls hl
    refine lv_lload_n hx hb md_F_product_11 rfl (lv_at hl 2 rfl) ?_
    refine lv_lconst (v := 0) hx hb md_F_product_12 (by decide) ?_
    refine W.lcmp hx hb md_F_product_13 ?_
    have J_5 : ∀ (z_6 : Bool) (ls : Array Slot), lv_has ls 6 [(0, .ref (ad k)), (1, .long p0), (3, .long p1)] → WP p l e mw_F_product ({ frames := 4, cells := 0, slots := 0, locals := 109 } : Room) s m [.ref (ad k), .long p0, .long p1] below meth c (vp_Sl (fun _ => True)) (F0 m 22 ls [.int (jb z_6), .int (jb z_3)]) := by
      intro z_6 ls hl
      have J_8 : ∀ (z_9 : Bool) (ls : Array Slot), lv_has ls 6 [(0, .ref (ad k)), (1, .long p0), (3, .long p1)] → WP p l e mw_F_product ({ frames := 4, cells := 0, slots := 0, locals := 109 } : Room) s m [.ref (ad k), .long p0, .long p1] below meth c (vp_Sl (fun _ => True)) (F0 m 30 ls [.int (jb z_9)]) := by
        intro z_9 ls hl
        refine lv_istore (lv' := [(5, .int (jb z_9)), (0, .ref (ad k)), (1, .long p0), (3, .long p1)]) hx hb md_F_product_30 hl (by decide) rfl (fun ls hl => ?_)
        refine lv_aload_n hx hb md_F_product_32 rfl (lv_at hl 1 rfl) ?_
        refine lv_lload_n hx hb md_F_product_33 rfl (lv_at hl 2 rfl) ?_
        refine vp_callSi (W.runV (C := "NumberProbe$Format") (As := [.long p0]) (rest := []) ⟨hx, hb, hml, hown, hts⟩ (mt_F_isNaN l ad k hk p0) (cwV 1 hts (gd_V tm_67 tm_68 tm_69 tm_27 tm_70) rfl rfl rfl (by decide +kernel) ⟨Nat.le_of_ble_eq_true rfl, Nat.le_of_ble_eq_true rfl⟩) ⟨fb_E, fw_recv hE hk hS, fun U hU hW => ⟨rfl, fw_use hE hS hU hW⟩⟩ rfl rfl hl.1 rfl (lv_room (Nat.le_of_ble_eq_true rfl)) md_F_product_34 ⟨Nat.zero_le _, Nat.zero_le _⟩) (fun r_10 e_11 => ?_)
        obtain rfl : r_10 = jb (cf_nan k p0) := e_11
        refine lv_if_ne (tgt := 48) hx hb md_F_product_37 (by decide) (fun c_12 => ?_) (fun c_12 => ?_)
        · refine lv_aload_n hx hb md_F_product_48 rfl (lv_at hl 1 rfl) ?_
          refine va_getX hx hb hE.2.2.2.2.2.2.1 hk hS hown (ht _ tm_550) (fun _ h9 => h9) md_F_product_49 ?_
          exact W.lret (v := kf_n k) hx hb hr (fun t ht2 _ => ⟨(kf_n k), rfl, trivial, ht2⟩) (fun q h => by cases h) md_F_product_52
        · refine lv_aload_n hx hb md_F_product_40 rfl (lv_at hl 1 rfl) ?_
          refine lv_lload_n hx hb md_F_product_41 rfl (lv_at hl 3 rfl) ?_
          refine vp_callSi (W.runV (C := "NumberProbe$Format") (As := [.long p1]) (rest := []) ⟨hx, hb, hml, hown, hts⟩ (mt_F_isNaN l ad k hk p1) (cwV 1 hts (gd_V tm_67 tm_68 tm_69 tm_27 tm_70) rfl rfl rfl (by decide +kernel) ⟨Nat.le_of_ble_eq_true rfl, Nat.le_of_ble_eq_true rfl⟩) ⟨fb_E, fw_recv hE hk hS, fun U hU hW => ⟨rfl, fw_use hE hS hU hW⟩⟩ rfl rfl hl.1 rfl (lv_room (Nat.le_of_ble_eq_true rfl)) md_F_product_42 ⟨Nat.zero_le _, Nat.zero_le _⟩) (fun r_13 e_14 => ?_)
          obtain rfl : r_13 = jb (cf_nan k p1) := e_14
          refine lv_if_eq (tgt := 53) hx hb md_F_product_45 (by decide) (fun c_15 => ?_) (fun c_15 => ?_)
          · refine lv_aload_n hx hb md_F_product_53 rfl (lv_at hl 1 rfl) ?_
            refine lv_lload_n hx hb md_F_product_54 rfl (lv_at hl 2 rfl) ?_
            refine vp_callSi (W.runV (C := "NumberProbe$Format") (As := [.long p0]) (rest := []) ⟨hx, hb, hml, hown, hts⟩ (mt_F_isInfinite l ad k hk p0) (cwV 1 hts (gd_V tm_123 tm_125 tm_1 tm_27 tm_126) rfl rfl rfl (by decide +kernel) ⟨Nat.le_of_ble_eq_true rfl, Nat.le_of_ble_eq_true rfl⟩) ⟨fb_E, fw_recv hE hk hS, fun U hU hW => ⟨rfl, fw_use hE hS hU hW⟩⟩ rfl rfl hl.1 rfl (lv_room (Nat.le_of_ble_eq_true rfl)) md_F_product_55 ⟨Nat.zero_le _, Nat.zero_le _⟩) (fun r_16 e_17 => ?_)
            obtain rfl : r_16 = jb (cf_inf k p0) := e_17
            refine lv_if_ne (tgt := 69) hx hb md_F_product_58 (by decide) (fun c_18 => ?_) (fun c_18 => ?_)
            · refine lv_aload_n hx hb md_F_product_69 rfl (lv_at hl 1 rfl) ?_
              refine lv_lload_n hx hb md_F_product_70 rfl (lv_at hl 2 rfl) ?_
              refine vp_callSi (W.runV (C := "NumberProbe$Format") (As := [.long p0]) (rest := []) ⟨hx, hb, hml, hown, hts⟩ (mt_F_isZero l ad k hk p0) (cwV 1 hts (gd_V tm_174 tm_176 tm_7 tm_27 tm_177) rfl rfl rfl (by decide +kernel) ⟨Nat.le_of_ble_eq_true rfl, Nat.le_of_ble_eq_true rfl⟩) ⟨fb_E, fw_recv hE hk hS, fun U hU hW => ⟨rfl, fw_use hE hS hU hW⟩⟩ rfl rfl hl.1 rfl (lv_room (Nat.le_of_ble_eq_true rfl)) md_F_product_71 ⟨Nat.zero_le _, Nat.zero_le _⟩) (fun r_19 e_20 => ?_)
              obtain rfl : r_19 = jb (cf_zer k p0) := e_20
              have J_31 : ∀ (z_32 : Int64) (ls : Array Slot), lv_has ls 6 [(5, .int (jb z_9)), (0, .ref (ad k)), (1, .long p0), (3, .long p1)] → WP p l e mw_F_product ({ frames := 4, cells := 0, slots := 0, locals := 109 } : Room) s m [.ref (ad k), .long p0, .long p1] below meth c (vp_Sl (fun _ => True)) (F0 m 102 ls [.long z_32]) := by
                intro z_32 ls hl
                exact W.lret (v := z_32) hx hb hr (fun t ht2 _ => ⟨z_32, rfl, trivial, ht2⟩) (fun q h => by cases h) md_F_product_102
              refine lv_if_ne (tgt := 85) hx hb md_F_product_74 (by decide) (fun c_21 => ?_) (fun c_21 => ?_)
              · refine lv_aload_n hx hb md_F_product_85 rfl (lv_at hl 1 rfl) ?_
                refine va_getX hx hb hE.2.2.2.2.2.2.1 hk hS hown (ht _ tm_550) (fun _ h9 => h9) md_F_product_86 ?_
                refine lv_goto (tgt := 102) hx hb md_F_product_89 (by decide) ?_
                exact J_31 (kf_n k) ls (lv_sub hl [0, 1, 2, 3] rfl)
              · refine lv_aload_n hx hb md_F_product_77 rfl (lv_at hl 1 rfl) ?_
                refine lv_lload_n hx hb md_F_product_78 rfl (lv_at hl 3 rfl) ?_
                refine vp_callSi (W.runV (C := "NumberProbe$Format") (As := [.long p1]) (rest := []) ⟨hx, hb, hml, hown, hts⟩ (mt_F_isZero l ad k hk p1) (cwV 1 hts (gd_V tm_174 tm_176 tm_7 tm_27 tm_177) rfl rfl rfl (by decide +kernel) ⟨Nat.le_of_ble_eq_true rfl, Nat.le_of_ble_eq_true rfl⟩) ⟨fb_E, fw_recv hE hk hS, fun U hU hW => ⟨rfl, fw_use hE hS hU hW⟩⟩ rfl rfl hl.1 rfl (lv_room (Nat.le_of_ble_eq_true rfl)) md_F_product_79 ⟨Nat.zero_le _, Nat.zero_le _⟩) (fun r_33 e_34 => ?_)
                obtain rfl : r_33 = jb (cf_zer k p1) := e_34
                have J_38 : ∀ (z_39 : Int64) (ls : Array Slot), lv_has ls 6 [(5, .int (jb z_9)), (0, .ref (ad k)), (1, .long p0), (3, .long p1)] → WP p l e mw_F_product ({ frames := 4, cells := 0, slots := 0, locals := 109 } : Room) s m [.ref (ad k), .long p0, .long p1] below meth c (vp_Sl (fun _ => True)) (F0 m 102 ls [.long z_39]) := by
                  intro z_39 ls hl
                  exact J_31 z_39 ls (lv_sub hl [0, 1, 2, 3] rfl)
                refine lv_if_eq (tgt := 92) hx hb md_F_product_82 (by decide) (fun c_35 => ?_) (fun c_35 => ?_)
                · refine lv_aload_n hx hb md_F_product_92 rfl (lv_at hl 1 rfl) ?_
                  refine lv_iload hx hb md_F_product_93 (lv_at hl 0 rfl) ?_
                  refine lv_aload_n hx hb md_F_product_95 rfl (lv_at hl 1 rfl) ?_
                  refine va_getX hx hb hE.2.2.2.2.2.1 hk hS hown (ht _ tm_549) (fun _ h9 => h9) md_F_product_96 ?_
                  refine vp_callSl (W.runV (C := "NumberProbe$Format") (As := [.int (jb z_9), .long (kf_i k)]) (rest := []) ⟨hx, hb, hml, hown, hts⟩ (mt_F_signed l ad k hk z_9 (kf_i k)) (cwV 2 hts (gd_V tm_75 tm_77 tm_0 tm_27 tm_79) rfl rfl rfl (by decide +kernel) ⟨Nat.le_of_ble_eq_true rfl, Nat.le_of_ble_eq_true rfl⟩) ⟨fb_E, fw_recv hE hk hS, fun U hU hW => ⟨rfl, fw_use hE hS hU hW⟩⟩ rfl rfl hl.1 rfl (lv_room (Nat.le_of_ble_eq_true rfl)) md_F_product_99 ⟨Nat.zero_le _, Nat.zero_le _⟩) (fun r_40 e_41 => ?_)
                  exact J_38 r_40 ls (lv_sub hl [0, 1, 2, 3] rfl)
                · refine lv_aload_n hx hb md_F_product_85 rfl (lv_at hl 1 rfl) ?_
                  refine va_getX hx hb hE.2.2.2.2.2.2.1 hk hS hown (ht _ tm_550) (fun _ h9 => h9) md_F_product_86 ?_
                  refine lv_goto (tgt := 102) hx hb md_F_product_89 (by decide) ?_
                  exact J_38 (kf_n k) ls (lv_sub hl [0, 1, 2, 3] rfl)
            · refine lv_aload_n hx hb md_F_product_61 rfl (lv_at hl 1 rfl) ?_
              refine lv_lload_n hx hb md_F_product_62 rfl (lv_at hl 3 rfl) ?_
              refine vp_callSi (W.runV (C := "NumberProbe$Format") (As := [.long p1]) (rest := []) ⟨hx, hb, hml, hown, hts⟩ (mt_F_isInfinite l ad k hk p1) (cwV 1 hts (gd_V tm_123 tm_125 tm_1 tm_27 tm_126) rfl rfl rfl (by decide +kernel) ⟨Nat.le_of_ble_eq_true rfl, Nat.le_of_ble_eq_true rfl⟩) ⟨fb_E, fw_recv hE hk hS, fun U hU hW => ⟨rfl, fw_use hE hS hU hW⟩⟩ rfl rfl hl.1 rfl (lv_room (Nat.le_of_ble_eq_true rfl)) md_F_product_63 ⟨Nat.zero_le _, Nat.zero_le _⟩) (fun r_42 e_43 => ?_)
              obtain rfl : r_42 = jb (cf_inf k p1) := e_43
              refine lv_if_eq (tgt := 103) hx hb md_F_product_66 (by decide) (fun c_44 => ?_) (fun c_44 => ?_)
              · refine lv_aload_n hx hb md_F_product_103 rfl (lv_at hl 1 rfl) ?_
                refine lv_lload_n hx hb md_F_product_104 rfl (lv_at hl 2 rfl) ?_
                refine vp_callSi (W.runV (C := "NumberProbe$Format") (As := [.long p0]) (rest := []) ⟨hx, hb, hml, hown, hts⟩ (mt_F_isZero l ad k hk p0) (cwV 1 hts (gd_V tm_174 tm_176 tm_7 tm_27 tm_177) rfl rfl rfl (by decide +kernel) ⟨Nat.le_of_ble_eq_true rfl, Nat.le_of_ble_eq_true rfl⟩) ⟨fb_E, fw_recv hE hk hS, fun U hU hW => ⟨rfl, fw_use hE hS hU hW⟩⟩ rfl rfl hl.1 rfl (lv_room (Nat.le_of_ble_eq_true rfl)) md_F_product_105 ⟨Nat.zero_le _, Nat.zero_le _⟩) (fun r_45 e_46 => ?_)
                obtain rfl : r_45 = jb (cf_zer k p0) := e_46
                refine lv_if_ne (tgt := 119) hx hb md_F_product_108 (by decide) (fun c_47 => ?_) (fun c_47 => ?_)
                · refine lv_aload_n hx hb md_F_product_119 rfl (lv_at hl 1 rfl) ?_
                  refine lv_iload hx hb md_F_product_120 (lv_at hl 0 rfl) ?_
                  refine lv_lconst (v := 0) hx hb md_F_product_122 (by decide) ?_
                  refine vp_callSl (W.runV (C := "NumberProbe$Format") (As := [.int (jb z_9), .long 0]) (rest := []) ⟨hx, hb, hml, hown, hts⟩ (mt_F_signed l ad k hk z_9 0) (cwV 2 hts (gd_V tm_75 tm_77 tm_0 tm_27 tm_79) rfl rfl rfl (by decide +kernel) ⟨Nat.le_of_ble_eq_true rfl, Nat.le_of_ble_eq_true rfl⟩) ⟨fb_E, fw_recv hE hk hS, fun U hU hW => ⟨rfl, fw_use hE hS hU hW⟩⟩ rfl rfl hl.1 rfl (lv_room (Nat.le_of_ble_eq_true rfl)) md_F_product_123 ⟨Nat.zero_le _, Nat.zero_le _⟩) (fun r_48 e_49 => ?_)
                  exact W.lret (v := r_48) hx hb hr (fun t ht2 _ => ⟨r_48, rfl, trivial, ht2⟩) (fun q h => by cases h) md_F_product_126
                · refine lv_aload_n hx hb md_F_product_111 rfl (lv_at hl 1 rfl) ?_
                  refine lv_lload_n hx hb md_F_product_112 rfl (lv_at hl 3 rfl) ?_
                  refine vp_callSi (W.runV (C := "NumberProbe$Format") (As := [.long p1]) (rest := []) ⟨hx, hb, hml, hown, hts⟩ (mt_F_isZero l ad k hk p1) (cwV 1 hts (gd_V tm_174 tm_176 tm_7 tm_27 tm_177) rfl rfl rfl (by decide +kernel) ⟨Nat.le_of_ble_eq_true rfl, Nat.le_of_ble_eq_true rfl⟩) ⟨fb_E, fw_recv hE hk hS, fun U hU hW => ⟨rfl, fw_use hE hS hU hW⟩⟩ rfl rfl hl.1 rfl (lv_room (Nat.le_of_ble_eq_true rfl)) md_F_product_113 ⟨Nat.zero_le _, Nat.zero_le _⟩) (fun r_50 e_51 => ?_)
                  obtain rfl : r_50 = jb (cf_zer k p1) := e_51
                  refine lv_if_eq (tgt := 127) hx hb md_F_product_116 (by decide) (fun c_52 => ?_) (fun c_52 => ?_)
                  · refine lv_aload_n hx hb md_F_product_127 rfl (lv_at hl 1 rfl) ?_
                    refine lv_iload hx hb md_F_product_128 (lv_at hl 0 rfl) ?_
                    refine lv_lload_n hx hb md_F_product_130 rfl (lv_at hl 2 rfl) ?_
                    refine lv_lload_n hx hb md_F_product_131 rfl (lv_at hl 3 rfl) ?_
                    refine vp_callSl (W.runV (C := "NumberProbe$Format") (As := [.int (jb z_9), .long p0, .long p1]) (rest := []) ⟨hx, hb, hml, hown, hts⟩ (mt_F_finiteProduct l ad k hk z_9 p0 p1) (cwV 3 hts (gd_V tm_178 tm_180 tm_8 tm_27 tm_181) rfl rfl rfl (by decide +kernel) ⟨Nat.le_of_ble_eq_true rfl, Nat.le_of_ble_eq_true rfl⟩) ⟨fb_E, fw_recv hE hk hS, fun U hU hW => ⟨rfl, fw_use hE hS hU hW⟩⟩ rfl rfl hl.1 rfl (lv_room (Nat.le_of_ble_eq_true rfl)) md_F_product_132 ⟨Nat.zero_le _, Nat.zero_le _⟩) (fun r_53 e_54 => ?_)
                    exact W.lret (v := r_53) hx hb hr (fun t ht2 _ => ⟨r_53, rfl, trivial, ht2⟩) (fun q h => by cases h) md_F_product_135
                  · refine lv_aload_n hx hb md_F_product_119 rfl (lv_at hl 1 rfl) ?_
                    refine lv_iload hx hb md_F_product_120 (lv_at hl 0 rfl) ?_
                    refine lv_lconst (v := 0) hx hb md_F_product_122 (by decide) ?_
                    refine vp_callSl (W.runV (C := "NumberProbe$Format") (As := [.int (jb z_9), .long 0]) (rest := []) ⟨hx, hb, hml, hown, hts⟩ (mt_F_signed l ad k hk z_9 0) (cwV 2 hts (gd_V tm_75 tm_77 tm_0 tm_27 tm_79) rfl rfl rfl (by decide +kernel) ⟨Nat.le_of_ble_eq_true rfl, Nat.le_of_ble_eq_true rfl⟩) ⟨fb_E, fw_recv hE hk hS, fun U hU hW => ⟨rfl, fw_use hE hS hU hW⟩⟩ rfl rfl hl.1 rfl (lv_room (Nat.le_of_ble_eq_true rfl)) md_F_product_123 ⟨Nat.zero_le _, Nat.zero_le _⟩) (fun r_55 e_56 => ?_)
                    exact W.lret (v := r_55) hx hb hr (fun t ht2 _ => ⟨r_55, rfl, trivial, ht2⟩) (fun q h => by cases h) md_F_product_126
              · refine lv_aload_n hx hb md_F_product_69 rfl (lv_at hl 1 rfl) ?_
                refine lv_lload_n hx hb md_F_product_70 rfl (lv_at hl 2 rfl) ?_
                refine vp_callSi (W.runV (C := "NumberProbe$Format") (As := [.long p0]) (rest := []) ⟨hx, hb, hml, hown, hts⟩ (mt_F_isZero l ad k hk p0) (cwV 1 hts (gd_V tm_174 tm_176 tm_7 tm_27 tm_177) rfl rfl rfl (by decide +kernel) ⟨Nat.le_of_ble_eq_true rfl, Nat.le_of_ble_eq_true rfl⟩) ⟨fb_E, fw_recv hE hk hS, fun U hU hW => ⟨rfl, fw_use hE hS hU hW⟩⟩ rfl rfl hl.1 rfl (lv_room (Nat.le_of_ble_eq_true rfl)) md_F_product_71 ⟨Nat.zero_le _, Nat.zero_le _⟩) (fun r_57 e_58 => ?_)
                obtain rfl : r_57 = jb (cf_zer k p0) := e_58
                have J_69 : ∀ (z_70 : Int64) (ls : Array Slot), lv_has ls 6 [(5, .int (jb z_9)), (0, .ref (ad k)), (1, .long p0), (3, .long p1)] → WP p l e mw_F_product ({ frames := 4, cells := 0, slots := 0, locals := 109 } : Room) s m [.ref (ad k), .long p0, .long p1] below meth c (vp_Sl (fun _ => True)) (F0 m 102 ls [.long z_70]) := by
                  intro z_70 ls hl
                  exact W.lret (v := z_70) hx hb hr (fun t ht2 _ => ⟨z_70, rfl, trivial, ht2⟩) (fun q h => by cases h) md_F_product_102
                refine lv_if_ne (tgt := 85) hx hb md_F_product_74 (by decide) (fun c_59 => ?_) (fun c_59 => ?_)
                · refine lv_aload_n hx hb md_F_product_85 rfl (lv_at hl 1 rfl) ?_
                  refine va_getX hx hb hE.2.2.2.2.2.2.1 hk hS hown (ht _ tm_550) (fun _ h9 => h9) md_F_product_86 ?_
                  refine lv_goto (tgt := 102) hx hb md_F_product_89 (by decide) ?_
                  exact J_69 (kf_n k) ls (lv_sub hl [0, 1, 2, 3] rfl)
                · refine lv_aload_n hx hb md_F_product_77 rfl (lv_at hl 1 rfl) ?_
                  refine lv_lload_n hx hb md_F_product_78 rfl (lv_at hl 3 rfl) ?_
                  refine vp_callSi (W.runV (C := "NumberProbe$Format") (As := [.long p1]) (rest := []) ⟨hx, hb, hml, hown, hts⟩ (mt_F_isZero l ad k hk p1) (cwV 1 hts (gd_V tm_174 tm_176 tm_7 tm_27 tm_177) rfl rfl rfl (by decide +kernel) ⟨Nat.le_of_ble_eq_true rfl, Nat.le_of_ble_eq_true rfl⟩) ⟨fb_E, fw_recv hE hk hS, fun U hU hW => ⟨rfl, fw_use hE hS hU hW⟩⟩ rfl rfl hl.1 rfl (lv_room (Nat.le_of_ble_eq_true rfl)) md_F_product_79 ⟨Nat.zero_le _, Nat.zero_le _⟩) (fun r_71 e_72 => ?_)
                  obtain rfl : r_71 = jb (cf_zer k p1) := e_72
                  have J_76 : ∀ (z_77 : Int64) (ls : Array Slot), lv_has ls 6 [(5, .int (jb z_9)), (0, .ref (ad k)), (1, .long p0), (3, .long p1)] → WP p l e mw_F_product ({ frames := 4, cells := 0, slots := 0, locals := 109 } : Room) s m [.ref (ad k), .long p0, .long p1] below meth c (vp_Sl (fun _ => True)) (F0 m 102 ls [.long z_77]) := by
                    intro z_77 ls hl
                    exact J_69 z_77 ls (lv_sub hl [0, 1, 2, 3] rfl)
                  refine lv_if_eq (tgt := 92) hx hb md_F_product_82 (by decide) (fun c_73 => ?_) (fun c_73 => ?_)
                  · refine lv_aload_n hx hb md_F_product_92 rfl (lv_at hl 1 rfl) ?_
                    refine lv_iload hx hb md_F_product_93 (lv_at hl 0 rfl) ?_
                    refine lv_aload_n hx hb md_F_product_95 rfl (lv_at hl 1 rfl) ?_
                    refine va_getX hx hb hE.2.2.2.2.2.1 hk hS hown (ht _ tm_549) (fun _ h9 => h9) md_F_product_96 ?_
                    refine vp_callSl (W.runV (C := "NumberProbe$Format") (As := [.int (jb z_9), .long (kf_i k)]) (rest := []) ⟨hx, hb, hml, hown, hts⟩ (mt_F_signed l ad k hk z_9 (kf_i k)) (cwV 2 hts (gd_V tm_75 tm_77 tm_0 tm_27 tm_79) rfl rfl rfl (by decide +kernel) ⟨Nat.le_of_ble_eq_true rfl, Nat.le_of_ble_eq_true rfl⟩) ⟨fb_E, fw_recv hE hk hS, fun U hU hW => ⟨rfl, fw_use hE hS hU hW⟩⟩ rfl rfl hl.1 rfl (lv_room (Nat.le_of_ble_eq_true rfl)) md_F_product_99 ⟨Nat.zero_le _, Nat.zero_le _⟩) (fun r_78 e_79 => ?_)
                    exact J_76 r_78 ls (lv_sub hl [0, 1, 2, 3] rfl)
                  · refine lv_aload_n hx hb md_F_product_85 rfl (lv_at hl 1 rfl) ?_
                    refine va_getX hx hb hE.2.2.2.2.2.2.1 hk hS hown (ht _ tm_550) (fun _ h9 => h9) md_F_product_86 ?_
                    refine lv_goto (tgt := 102) hx hb md_F_product_89 (by decide) ?_
                    exact J_76 (kf_n k) ls (lv_sub hl [0, 1, 2, 3] rfl)
          · refine lv_aload_n hx hb md_F_product_48 rfl (lv_at hl 1 rfl) ?_
            refine va_getX hx hb hE.2.2.2.2.2.2.1 hk hS hown (ht _ tm_550) (fun _ h9 => h9) md_F_product_49 ?_
            exact W.lret (v := kf_n k) hx hb hr (fun t ht2 _ => ⟨(kf_n k), rfl, trivial, ht2⟩) (fun q h => by cases h) md_F_product_52
      refine lv_icmp_eq (tgt := 29) hx hb md_F_product_22 (by decide) (fun c_7 => ?_) (fun c_7 => ?_)
      · refine lv_iconst (v := 0) hx hb md_F_product_29 (by decide) ?_
        exact J_8 false ls (lv_sub hl [0, 1, 2] rfl)
      · refine lv_iconst (v := 1) hx hb md_F_product_25 (by decide) ?_
        refine lv_goto (tgt := 30) hx hb md_F_product_26 (by decide) ?_
        exact J_8 true ls (lv_sub hl [0, 1, 2] rfl)
    refine lv_if_ge (tgt := 21) hx hb md_F_product_14 (by decide) (fun c_4 => ?_) (fun c_4 => ?_)
    · refine lv_iconst (v := 0) hx hb md_F_product_21 (by decide) ?_
      exact J_5 false ls (lv_sub hl [0, 1, 2] rfl)
    · refine lv_iconst (v := 1) hx hb md_F_product_17 (by decide) ?_
      refine lv_goto (tgt := 22) hx hb md_F_product_18 (by decide) ?_
      exact J_5 true ls (lv_sub hl [0, 1, 2] rfl)
  refine lv_if_ge (tgt := 10) hx hb md_F_product_3 (by decide) (fun c_1 => ?_) (fun c_1 => ?_)
  · refine lv_iconst (v := 0) hx hb md_F_product_10 (by decide) ?_
    exact J_2 false ls (lv_sub hl [0, 1, 2] rfl)
  · refine lv_iconst (v := 1) hx hb md_F_product_6 (by decide) ?_
    refine lv_goto (tgt := 11) hx hb md_F_product_7 (by decide) ?_
    exact J_2 true ls (lv_sub hl [0, 1, 2] rfl)
set_option maxHeartbeats 4000000 in
set_option maxRecDepth 100000 in
theorem mt_F_finiteQuotient (l : Launch) (ad : Nat → Nat) (k : Nat) (hk : k < 2) (p0 : Bool) (p1 : Int64) (p2 : Int64) (hz : cf_zer k p2 = false) : Met l my_F_finiteQuotient mw_F_finiteQuotient ({ frames := 3, cells := 0, slots := 0, locals := 73 } : Room) (va_Pc [.ref (ad k), .int (jb p0), .long p1, .long p2] (fun U => FW ad (fun _ => False) U U.heap)) (vp_Sl (fun _ => True)) 0 0 (fun _ => False) := by
  refine Met.ofW (cc := mc_F_finiteQuotient) (maxL := 17) (ret := (some .long)) (by decide) rfl ?_
  intro p e s m args below meth c s₁ B hml hv
  obtain ⟨rfl, hE⟩ := hv
  have hx := B.exec
  have hb := B.bytes
  have hr := B.returns
  have hts := atoms_spec (ws := mw_F_finiteQuotient) B.pre
  have ht : ∀ w ∈ gw_tbl, w.before _ s = true := fun w h => hts w (List.mem_cons_of_mem _ h)
  have hown : s.vm.findClass "NumberProbe$Format" = some m.cls := findClass_of_methodNamed B.named
  have hlocks := B.notSynchronized
  have hS : va_S (fun _ => False) s.heap s.heap [] := va_S.rf
  have hl := lv_entry ([.ref (ad k), .int (jb p0), .long p1, .long p2]) (n := 17) (Nat.le_of_ble_eq_true rfl)
  rw [lg_entry_eq]
  generalize (lg_sl ([.ref (ad k), .int (jb p0), .long p1, .long p2]) ++ List.replicate (17 - (lg_sl ([.ref (ad k), .int (jb p0), .long p1, .long p2])).length) Slot.unset).toArray = ls at hl ⊢
  have hl : lv_has ls 17 [(0, .ref (ad k)), (1, .int (jb p0)), (2, .long p1), (4, .long p2)] := hl
  refine lv_aload_n hx hb md_F_finiteQuotient_0 rfl (lv_at hl 0 rfl) ?_
  refine lv_lload_n hx hb md_F_finiteQuotient_1 rfl (lv_at hl 2 rfl) ?_
  refine vp_callSl (W.runV (C := "NumberProbe$Format") (As := [.long p1]) (rest := []) ⟨hx, hb, hml, hown, hts⟩ (mt_F_significandOf l ad k hk p1) (cwV 1 hts (gd_V tm_142 tm_144 tm_5 tm_27 tm_145) rfl rfl rfl (by decide +kernel) ⟨Nat.le_of_ble_eq_true rfl, Nat.le_of_ble_eq_true rfl⟩) ⟨fb_E, fw_recv hE hk hS, fun U hU hW => ⟨rfl, fw_use hE hS hU hW⟩⟩ rfl rfl hl.1 rfl (lv_room (Nat.le_of_ble_eq_true rfl)) md_F_finiteQuotient_2 ⟨Nat.zero_le _, Nat.zero_le _⟩) (fun r_1 e_2 => ?_)
  obtain rfl : r_1 = cf_sig k p1 := e_2
  refine vp_callSi (W.runS (As := [.long (cf_sig k p1)]) (rest := []) ⟨hx, hb, hml, hown, hts⟩ (mt_F_widening l (cf_sig k p1)) (va_cwS 1 hts (gd_S tm_182 tm_183 tm_27 tm_184) rfl rfl rfl (by decide +kernel) ⟨Nat.le_of_ble_eq_true rfl, Nat.le_of_ble_eq_true rfl⟩) ⟨fb_0, fun U hU hW => ⟨rfl, trivial⟩⟩ rfl rfl hl.1 rfl (lv_room (Nat.le_of_ble_eq_true rfl)) md_F_finiteQuotient_5 ⟨Nat.zero_le _, Nat.zero_le _⟩) (fun r_3 e_4 => ?_)
  obtain rfl : r_3 = cf_wid (cf_sig k p1) := e_4
  refine lv_istore (lv' := [(6, .int (cf_wid (cf_sig k p1))), (0, .ref (ad k)), (1, .int (jb p0)), (2, .long p1), (4, .long p2)]) hx hb md_F_finiteQuotient_8 hl (by decide) rfl (fun ls hl => ?_)
  refine lv_aload_n hx hb md_F_finiteQuotient_10 rfl (lv_at hl 1 rfl) ?_
  refine lv_lload hx hb md_F_finiteQuotient_11 (lv_at hl 4 rfl) ?_
  refine vp_callSl (W.runV (C := "NumberProbe$Format") (As := [.long p2]) (rest := []) ⟨hx, hb, hml, hown, hts⟩ (mt_F_significandOf l ad k hk p2) (cwV 1 hts (gd_V tm_142 tm_144 tm_5 tm_27 tm_145) rfl rfl rfl (by decide +kernel) ⟨Nat.le_of_ble_eq_true rfl, Nat.le_of_ble_eq_true rfl⟩) ⟨fb_E, fw_recv hE hk hS, fun U hU hW => ⟨rfl, fw_use hE hS hU hW⟩⟩ rfl rfl hl.1 rfl (lv_room (Nat.le_of_ble_eq_true rfl)) md_F_finiteQuotient_13 ⟨Nat.zero_le _, Nat.zero_le _⟩) (fun r_5 e_6 => ?_)
  obtain rfl : r_5 = cf_sig k p2 := e_6
  refine vp_callSi (W.runS (As := [.long (cf_sig k p2)]) (rest := []) ⟨hx, hb, hml, hown, hts⟩ (mt_F_widening l (cf_sig k p2)) (va_cwS 1 hts (gd_S tm_182 tm_183 tm_27 tm_184) rfl rfl rfl (by decide +kernel) ⟨Nat.le_of_ble_eq_true rfl, Nat.le_of_ble_eq_true rfl⟩) ⟨fb_0, fun U hU hW => ⟨rfl, trivial⟩⟩ rfl rfl hl.1 rfl (lv_room (Nat.le_of_ble_eq_true rfl)) md_F_finiteQuotient_16 ⟨Nat.zero_le _, Nat.zero_le _⟩) (fun r_7 e_8 => ?_)
  obtain rfl : r_7 = cf_wid (cf_sig k p2) := e_8
  refine lv_istore (lv' := [(7, .int (cf_wid (cf_sig k p2))), (6, .int (cf_wid (cf_sig k p1))), (0, .ref (ad k)), (1, .int (jb p0)), (2, .long p1), (4, .long p2)]) hx hb md_F_finiteQuotient_19 hl (by decide) rfl (fun ls hl => ?_)
  refine lv_aload_n hx hb md_F_finiteQuotient_21 rfl (lv_at hl 2 rfl) ?_
  refine lv_lload_n hx hb md_F_finiteQuotient_22 rfl (lv_at hl 4 rfl) ?_
  refine vp_callSl (W.runV (C := "NumberProbe$Format") (As := [.long p1]) (rest := []) ⟨hx, hb, hml, hown, hts⟩ (mt_F_significandOf l ad k hk p1) (cwV 1 hts (gd_V tm_142 tm_144 tm_5 tm_27 tm_145) rfl rfl rfl (by decide +kernel) ⟨Nat.le_of_ble_eq_true rfl, Nat.le_of_ble_eq_true rfl⟩) ⟨fb_E, fw_recv hE hk hS, fun U hU hW => ⟨rfl, fw_use hE hS hU hW⟩⟩ rfl rfl hl.1 rfl (lv_room (Nat.le_of_ble_eq_true rfl)) md_F_finiteQuotient_23 ⟨Nat.zero_le _, Nat.zero_le _⟩) (fun r_9 e_10 => ?_)
  obtain rfl : r_9 = cf_sig k p1 := e_10
  refine lv_iload hx hb md_F_finiteQuotient_26 (lv_at hl 1 rfl) ?_
  refine lv_lshl (v := jl_shl (cf_sig k p1) (cf_wid (cf_sig k p1))) hx hb md_F_finiteQuotient_28 rfl ?_
  refine lv_lstore (lv' := [(8, .long (jl_shl (cf_sig k p1) (cf_wid (cf_sig k p1)))), (7, .int (cf_wid (cf_sig k p2))), (6, .int (cf_wid (cf_sig k p1))), (0, .ref (ad k)), (1, .int (jb p0)), (2, .long p1), (4, .long p2)]) hx hb md_F_finiteQuotient_29 hl (by decide) rfl (fun ls hl => ?_)
  refine lv_aload_n hx hb md_F_finiteQuotient_31 rfl (lv_at hl 3 rfl) ?_
  refine lv_lload hx hb md_F_finiteQuotient_32 (lv_at hl 6 rfl) ?_
  refine vp_callSl (W.runV (C := "NumberProbe$Format") (As := [.long p2]) (rest := []) ⟨hx, hb, hml, hown, hts⟩ (mt_F_significandOf l ad k hk p2) (cwV 1 hts (gd_V tm_142 tm_144 tm_5 tm_27 tm_145) rfl rfl rfl (by decide +kernel) ⟨Nat.le_of_ble_eq_true rfl, Nat.le_of_ble_eq_true rfl⟩) ⟨fb_E, fw_recv hE hk hS, fun U hU hW => ⟨rfl, fw_use hE hS hU hW⟩⟩ rfl rfl hl.1 rfl (lv_room (Nat.le_of_ble_eq_true rfl)) md_F_finiteQuotient_34 ⟨Nat.zero_le _, Nat.zero_le _⟩) (fun r_11 e_12 => ?_)
  obtain rfl : r_11 = cf_sig k p2 := e_12
  refine lv_iload hx hb md_F_finiteQuotient_37 (lv_at hl 1 rfl) ?_
  refine lv_lshl (v := jl_shl (cf_sig k p2) (cf_wid (cf_sig k p2))) hx hb md_F_finiteQuotient_39 rfl ?_
  refine lv_lstore (lv' := [(10, .long (jl_shl (cf_sig k p2) (cf_wid (cf_sig k p2)))), (8, .long (jl_shl (cf_sig k p1) (cf_wid (cf_sig k p1)))), (7, .int (cf_wid (cf_sig k p2))), (6, .int (cf_wid (cf_sig k p1))), (0, .ref (ad k)), (1, .int (jb p0)), (2, .long p1), (4, .long p2)]) hx hb md_F_finiteQuotient_40 hl (by decide) rfl (fun ls hl => ?_)
  refine lv_lload hx hb md_F_finiteQuotient_42 (lv_at hl 1 rfl) ?_
  refine lv_lload hx hb md_F_finiteQuotient_44 (lv_at hl 0 rfl) ?_
  refine lv_ldiv hx hb md_F_finiteQuotient_46 (fa_wid0 hk hz) ?_
  refine lv_lstore (lv' := [(12, .long ((jl_shl (cf_sig k p1) (cf_wid (cf_sig k p1))) / (jl_shl (cf_sig k p2) (cf_wid (cf_sig k p2))))), (10, .long (jl_shl (cf_sig k p2) (cf_wid (cf_sig k p2)))), (8, .long (jl_shl (cf_sig k p1) (cf_wid (cf_sig k p1)))), (7, .int (cf_wid (cf_sig k p2))), (6, .int (cf_wid (cf_sig k p1))), (0, .ref (ad k)), (1, .int (jb p0)), (2, .long p1), (4, .long p2)]) hx hb md_F_finiteQuotient_47 hl (by decide) rfl (fun ls hl => ?_)
  refine lv_lload hx hb md_F_finiteQuotient_49 (lv_at hl 2 rfl) ?_
  refine lv_lload hx hb md_F_finiteQuotient_51 (lv_at hl 1 rfl) ?_
  refine lv_lrem hx hb md_F_finiteQuotient_53 (fa_wid0 hk hz) ?_
  refine lv_lstore (lv' := [(14, .long ((jl_shl (cf_sig k p1) (cf_wid (cf_sig k p1))) - (jl_shl (cf_sig k p1) (cf_wid (cf_sig k p1))) / (jl_shl (cf_sig k p2) (cf_wid (cf_sig k p2))) * (jl_shl (cf_sig k p2) (cf_wid (cf_sig k p2))))), (12, .long ((jl_shl (cf_sig k p1) (cf_wid (cf_sig k p1))) / (jl_shl (cf_sig k p2) (cf_wid (cf_sig k p2))))), (10, .long (jl_shl (cf_sig k p2) (cf_wid (cf_sig k p2)))), (8, .long (jl_shl (cf_sig k p1) (cf_wid (cf_sig k p1)))), (7, .int (cf_wid (cf_sig k p2))), (6, .int (cf_wid (cf_sig k p1))), (0, .ref (ad k)), (1, .int (jb p0)), (2, .long p1), (4, .long p2)]) hx hb md_F_finiteQuotient_54 hl (by decide) rfl (fun ls hl => ?_)
  refine lv_iconst (v := 0) hx hb md_F_finiteQuotient_56 (by decide) ?_
  refine lv_istore (lv' := [(16, .int 0), (14, .long ((jl_shl (cf_sig k p1) (cf_wid (cf_sig k p1))) - (jl_shl (cf_sig k p1) (cf_wid (cf_sig k p1))) / (jl_shl (cf_sig k p2) (cf_wid (cf_sig k p2))) * (jl_shl (cf_sig k p2) (cf_wid (cf_sig k p2))))), (12, .long ((jl_shl (cf_sig k p1) (cf_wid (cf_sig k p1))) / (jl_shl (cf_sig k p2) (cf_wid (cf_sig k p2))))), (10, .long (jl_shl (cf_sig k p2) (cf_wid (cf_sig k p2)))), (8, .long (jl_shl (cf_sig k p1) (cf_wid (cf_sig k p1)))), (7, .int (cf_wid (cf_sig k p2))), (6, .int (cf_wid (cf_sig k p1))), (0, .ref (ad k)), (1, .int (jb p0)), (2, .long p1), (4, .long p2)]) hx hb md_F_finiteQuotient_57 hl (by decide) rfl (fun ls hl => ?_)
  have L_13 : ∀ (n : Nat) (z_14 : Int32) (z_15 : Int64) (z_16 : Int64) (ls : Array Slot), ((6 : Int32).toInt - z_14.toInt).toNat ≤ n → lv_has ls 17 [(16, .int z_14), (14, .long z_15), (12, .long z_16), (10, .long (jl_shl (cf_sig k p2) (cf_wid (cf_sig k p2)))), (8, .long (jl_shl (cf_sig k p1) (cf_wid (cf_sig k p1)))), (7, .int (cf_wid (cf_sig k p2))), (6, .int (cf_wid (cf_sig k p1))), (0, .ref (ad k)), (1, .int (jb p0)), (2, .long p1), (4, .long p2)] → WP p l e mw_F_finiteQuotient ({ frames := 3, cells := 0, slots := 0, locals := 73 } : Room) s m [.ref (ad k), .int (jb p0), .long p1, .long p2] below meth c (vp_Sl (fun _ => True)) (F0 m 59 ls []) := by
    intro n
    induction n with
    | zero =>
      intro z_14 z_15 z_16 ls hn hl
      refine lv_iload hx hb md_F_finiteQuotient_59 (lv_at hl 0 rfl) ?_
      refine lv_bipush (v := 6) hx hb md_F_finiteQuotient_61 (by decide) ?_
      refine lv_icmp_ge (tgt := 99) hx hb md_F_finiteQuotient_63 (by decide) (fun c_17 => ?_) (fun c_17 => ?_)
      · refine lv_aload_n hx hb md_F_finiteQuotient_99 rfl (lv_at hl 7 rfl) ?_
        refine lv_lload_n hx hb md_F_finiteQuotient_100 rfl (lv_at hl 9 rfl) ?_
        refine vp_callSi (W.runV (C := "NumberProbe$Format") (As := [.long p1]) (rest := []) ⟨hx, hb, hml, hown, hts⟩ (mt_F_exponentOf l ad k hk p1) (cwV 1 hts (gd_V tm_131 tm_133 tm_3 tm_27 tm_134) rfl rfl rfl (by decide +kernel) ⟨Nat.le_of_ble_eq_true rfl, Nat.le_of_ble_eq_true rfl⟩) ⟨fb_E, fw_recv hE hk hS, fun U hU hW => ⟨rfl, fw_use hE hS hU hW⟩⟩ rfl rfl hl.1 rfl (lv_room (Nat.le_of_ble_eq_true rfl)) md_F_finiteQuotient_101 ⟨Nat.zero_le _, Nat.zero_le _⟩) (fun r_18 e_19 => ?_)
        obtain rfl : r_18 = cf_exp k p1 := e_19
        refine lv_iload hx hb md_F_finiteQuotient_104 (lv_at hl 6 rfl) ?_
        refine lv_isub hx hb md_F_finiteQuotient_106 ?_
        refine lv_aload_n hx hb md_F_finiteQuotient_107 rfl (lv_at hl 7 rfl) ?_
        refine lv_lload hx hb md_F_finiteQuotient_108 (lv_at hl 10 rfl) ?_
        refine vp_callSi (W.runV (C := "NumberProbe$Format") (As := [.long p2]) (rest := [.int ((cf_exp k p1) - (cf_wid (cf_sig k p1)))]) ⟨hx, hb, hml, hown, hts⟩ (mt_F_exponentOf l ad k hk p2) (cwV 1 hts (gd_V tm_131 tm_133 tm_3 tm_27 tm_134) rfl rfl rfl (by decide +kernel) ⟨Nat.le_of_ble_eq_true rfl, Nat.le_of_ble_eq_true rfl⟩) ⟨fb_E, fw_recv hE hk hS, fun U hU hW => ⟨rfl, fw_use hE hS hU hW⟩⟩ rfl rfl hl.1 rfl (lv_room (Nat.le_of_ble_eq_true rfl)) md_F_finiteQuotient_110 ⟨Nat.zero_le _, Nat.zero_le _⟩) (fun r_20 e_21 => ?_)
        obtain rfl : r_20 = cf_exp k p2 := e_21
        refine lv_isub hx hb md_F_finiteQuotient_113 ?_
        refine lv_iload hx hb md_F_finiteQuotient_114 (lv_at hl 5 rfl) ?_
        refine lv_iadd hx hb md_F_finiteQuotient_116 ?_
        refine lv_bipush (v := 60) hx hb md_F_finiteQuotient_117 (by decide) ?_
        refine lv_isub hx hb md_F_finiteQuotient_119 ?_
        refine lv_istore (lv' := [(16, .int (((((cf_exp k p1) - (cf_wid (cf_sig k p1))) - (cf_exp k p2)) + (cf_wid (cf_sig k p2))) - 60)), (14, .long z_15), (12, .long z_16), (10, .long (jl_shl (cf_sig k p2) (cf_wid (cf_sig k p2)))), (8, .long (jl_shl (cf_sig k p1) (cf_wid (cf_sig k p1)))), (7, .int (cf_wid (cf_sig k p2))), (6, .int (cf_wid (cf_sig k p1))), (0, .ref (ad k)), (1, .int (jb p0)), (2, .long p1), (4, .long p2)]) hx hb md_F_finiteQuotient_120 hl (by decide) rfl (fun ls hl => ?_)
        refine lv_aload_n hx hb md_F_finiteQuotient_122 rfl (lv_at hl 7 rfl) ?_
        refine lv_iload_n hx hb md_F_finiteQuotient_123 rfl (lv_at hl 8 rfl) ?_
        refine lv_lload hx hb md_F_finiteQuotient_124 (lv_at hl 2 rfl) ?_
        refine lv_lload hx hb md_F_finiteQuotient_126 (lv_at hl 1 rfl) ?_
        refine vp_callSl (W.runS (As := [.long z_16, .long z_15]) (rest := [.int (jb p0), .ref (ad k)]) ⟨hx, hb, hml, hown, hts⟩ (mt_F_withRest l z_16 z_15) (va_cwS 2 hts (gd_S tm_149 tm_150 tm_27 tm_151) rfl rfl rfl (by decide +kernel) ⟨Nat.le_of_ble_eq_true rfl, Nat.le_of_ble_eq_true rfl⟩) ⟨fb_0, fun U hU hW => ⟨rfl, trivial⟩⟩ rfl rfl hl.1 rfl (lv_room (Nat.le_of_ble_eq_true rfl)) md_F_finiteQuotient_128 ⟨Nat.zero_le _, Nat.zero_le _⟩) (fun r_22 e_23 => ?_)
        refine lv_iload hx hb md_F_finiteQuotient_131 (lv_at hl 0 rfl) ?_
        refine vp_callSl (W.runV (C := "NumberProbe$Format") (As := [.int (jb p0), .long r_22, .int (((((cf_exp k p1) - (cf_wid (cf_sig k p1))) - (cf_exp k p2)) + (cf_wid (cf_sig k p2))) - 60)]) (rest := []) ⟨hx, hb, hml, hown, hts⟩ (mt_F_rounded l ad k hk p0 r_22 (((((cf_exp k p1) - (cf_wid (cf_sig k p1))) - (cf_exp k p2)) + (cf_wid (cf_sig k p2))) - 60)) (cwV 3 hts (gd_V tm_152 tm_154 tm_6 tm_27 tm_155) rfl rfl rfl (by decide +kernel) ⟨Nat.le_of_ble_eq_true rfl, Nat.le_of_ble_eq_true rfl⟩) ⟨fb_E, fw_recv hE hk hS, fun U hU hW => ⟨rfl, fw_use hE hS hU hW⟩⟩ rfl rfl hl.1 rfl (lv_room (Nat.le_of_ble_eq_true rfl)) md_F_finiteQuotient_133 ⟨Nat.zero_le _, Nat.zero_le _⟩) (fun r_24 e_25 => ?_)
        exact W.lret (v := r_24) hx hb hr (fun t ht2 _ => ⟨r_24, rfl, trivial, ht2⟩) (fun q h => by cases h) md_F_finiteQuotient_136
      · exact (lu_0 (Int32.not_le.mp c_17) hn).elim
    | succ n ih =>
      intro z_14 z_15 z_16 ls hn hl
      refine lv_iload hx hb md_F_finiteQuotient_59 (lv_at hl 0 rfl) ?_
      refine lv_bipush (v := 6) hx hb md_F_finiteQuotient_61 (by decide) ?_
      refine lv_icmp_ge (tgt := 99) hx hb md_F_finiteQuotient_63 (by decide) (fun c_26 => ?_) (fun c_26 => ?_)
      · refine lv_aload_n hx hb md_F_finiteQuotient_99 rfl (lv_at hl 7 rfl) ?_
        refine lv_lload_n hx hb md_F_finiteQuotient_100 rfl (lv_at hl 9 rfl) ?_
        refine vp_callSi (W.runV (C := "NumberProbe$Format") (As := [.long p1]) (rest := []) ⟨hx, hb, hml, hown, hts⟩ (mt_F_exponentOf l ad k hk p1) (cwV 1 hts (gd_V tm_131 tm_133 tm_3 tm_27 tm_134) rfl rfl rfl (by decide +kernel) ⟨Nat.le_of_ble_eq_true rfl, Nat.le_of_ble_eq_true rfl⟩) ⟨fb_E, fw_recv hE hk hS, fun U hU hW => ⟨rfl, fw_use hE hS hU hW⟩⟩ rfl rfl hl.1 rfl (lv_room (Nat.le_of_ble_eq_true rfl)) md_F_finiteQuotient_101 ⟨Nat.zero_le _, Nat.zero_le _⟩) (fun r_27 e_28 => ?_)
        obtain rfl : r_27 = cf_exp k p1 := e_28
        refine lv_iload hx hb md_F_finiteQuotient_104 (lv_at hl 6 rfl) ?_
        refine lv_isub hx hb md_F_finiteQuotient_106 ?_
        refine lv_aload_n hx hb md_F_finiteQuotient_107 rfl (lv_at hl 7 rfl) ?_
        refine lv_lload hx hb md_F_finiteQuotient_108 (lv_at hl 10 rfl) ?_
        refine vp_callSi (W.runV (C := "NumberProbe$Format") (As := [.long p2]) (rest := [.int ((cf_exp k p1) - (cf_wid (cf_sig k p1)))]) ⟨hx, hb, hml, hown, hts⟩ (mt_F_exponentOf l ad k hk p2) (cwV 1 hts (gd_V tm_131 tm_133 tm_3 tm_27 tm_134) rfl rfl rfl (by decide +kernel) ⟨Nat.le_of_ble_eq_true rfl, Nat.le_of_ble_eq_true rfl⟩) ⟨fb_E, fw_recv hE hk hS, fun U hU hW => ⟨rfl, fw_use hE hS hU hW⟩⟩ rfl rfl hl.1 rfl (lv_room (Nat.le_of_ble_eq_true rfl)) md_F_finiteQuotient_110 ⟨Nat.zero_le _, Nat.zero_le _⟩) (fun r_29 e_30 => ?_)
        obtain rfl : r_29 = cf_exp k p2 := e_30
        refine lv_isub hx hb md_F_finiteQuotient_113 ?_
        refine lv_iload hx hb md_F_finiteQuotient_114 (lv_at hl 5 rfl) ?_
        refine lv_iadd hx hb md_F_finiteQuotient_116 ?_
        refine lv_bipush (v := 60) hx hb md_F_finiteQuotient_117 (by decide) ?_
        refine lv_isub hx hb md_F_finiteQuotient_119 ?_
        refine lv_istore (lv' := [(16, .int (((((cf_exp k p1) - (cf_wid (cf_sig k p1))) - (cf_exp k p2)) + (cf_wid (cf_sig k p2))) - 60)), (14, .long z_15), (12, .long z_16), (10, .long (jl_shl (cf_sig k p2) (cf_wid (cf_sig k p2)))), (8, .long (jl_shl (cf_sig k p1) (cf_wid (cf_sig k p1)))), (7, .int (cf_wid (cf_sig k p2))), (6, .int (cf_wid (cf_sig k p1))), (0, .ref (ad k)), (1, .int (jb p0)), (2, .long p1), (4, .long p2)]) hx hb md_F_finiteQuotient_120 hl (by decide) rfl (fun ls hl => ?_)
        refine lv_aload_n hx hb md_F_finiteQuotient_122 rfl (lv_at hl 7 rfl) ?_
        refine lv_iload_n hx hb md_F_finiteQuotient_123 rfl (lv_at hl 8 rfl) ?_
        refine lv_lload hx hb md_F_finiteQuotient_124 (lv_at hl 2 rfl) ?_
        refine lv_lload hx hb md_F_finiteQuotient_126 (lv_at hl 1 rfl) ?_
        refine vp_callSl (W.runS (As := [.long z_16, .long z_15]) (rest := [.int (jb p0), .ref (ad k)]) ⟨hx, hb, hml, hown, hts⟩ (mt_F_withRest l z_16 z_15) (va_cwS 2 hts (gd_S tm_149 tm_150 tm_27 tm_151) rfl rfl rfl (by decide +kernel) ⟨Nat.le_of_ble_eq_true rfl, Nat.le_of_ble_eq_true rfl⟩) ⟨fb_0, fun U hU hW => ⟨rfl, trivial⟩⟩ rfl rfl hl.1 rfl (lv_room (Nat.le_of_ble_eq_true rfl)) md_F_finiteQuotient_128 ⟨Nat.zero_le _, Nat.zero_le _⟩) (fun r_31 e_32 => ?_)
        refine lv_iload hx hb md_F_finiteQuotient_131 (lv_at hl 0 rfl) ?_
        refine vp_callSl (W.runV (C := "NumberProbe$Format") (As := [.int (jb p0), .long r_31, .int (((((cf_exp k p1) - (cf_wid (cf_sig k p1))) - (cf_exp k p2)) + (cf_wid (cf_sig k p2))) - 60)]) (rest := []) ⟨hx, hb, hml, hown, hts⟩ (mt_F_rounded l ad k hk p0 r_31 (((((cf_exp k p1) - (cf_wid (cf_sig k p1))) - (cf_exp k p2)) + (cf_wid (cf_sig k p2))) - 60)) (cwV 3 hts (gd_V tm_152 tm_154 tm_6 tm_27 tm_155) rfl rfl rfl (by decide +kernel) ⟨Nat.le_of_ble_eq_true rfl, Nat.le_of_ble_eq_true rfl⟩) ⟨fb_E, fw_recv hE hk hS, fun U hU hW => ⟨rfl, fw_use hE hS hU hW⟩⟩ rfl rfl hl.1 rfl (lv_room (Nat.le_of_ble_eq_true rfl)) md_F_finiteQuotient_133 ⟨Nat.zero_le _, Nat.zero_le _⟩) (fun r_33 e_34 => ?_)
        exact W.lret (v := r_33) hx hb hr (fun t ht2 _ => ⟨r_33, rfl, trivial, ht2⟩) (fun q h => by cases h) md_F_finiteQuotient_136
      · refine lv_lload hx hb md_F_finiteQuotient_66 (lv_at hl 1 rfl) ?_
        refine lv_bipush (v := 10) hx hb md_F_finiteQuotient_68 (by decide) ?_
        refine lv_lshl (v := jl_shl z_15 10) hx hb md_F_finiteQuotient_70 rfl ?_
        refine lv_lstore (lv' := [(14, .long (jl_shl z_15 10)), (16, .int z_14), (12, .long z_16), (10, .long (jl_shl (cf_sig k p2) (cf_wid (cf_sig k p2)))), (8, .long (jl_shl (cf_sig k p1) (cf_wid (cf_sig k p1)))), (7, .int (cf_wid (cf_sig k p2))), (6, .int (cf_wid (cf_sig k p1))), (0, .ref (ad k)), (1, .int (jb p0)), (2, .long p1), (4, .long p2)]) hx hb md_F_finiteQuotient_71 hl (by decide) rfl (fun ls hl => ?_)
        refine lv_lload hx hb md_F_finiteQuotient_73 (lv_at hl 2 rfl) ?_
        refine lv_bipush (v := 10) hx hb md_F_finiteQuotient_75 (by decide) ?_
        refine lv_lshl (v := jl_shl z_16 10) hx hb md_F_finiteQuotient_77 rfl ?_
        refine lv_lload hx hb md_F_finiteQuotient_78 (lv_at hl 0 rfl) ?_
        refine lv_lload hx hb md_F_finiteQuotient_80 (lv_at hl 3 rfl) ?_
        refine lv_ldiv hx hb md_F_finiteQuotient_82 (fa_wid0 hk hz) ?_
        refine lv_ladd hx hb md_F_finiteQuotient_83 ?_
        refine lv_lstore (lv' := [(12, .long ((jl_shl z_16 10) + ((jl_shl z_15 10) / (jl_shl (cf_sig k p2) (cf_wid (cf_sig k p2)))))), (14, .long (jl_shl z_15 10)), (16, .int z_14), (10, .long (jl_shl (cf_sig k p2) (cf_wid (cf_sig k p2)))), (8, .long (jl_shl (cf_sig k p1) (cf_wid (cf_sig k p1)))), (7, .int (cf_wid (cf_sig k p2))), (6, .int (cf_wid (cf_sig k p1))), (0, .ref (ad k)), (1, .int (jb p0)), (2, .long p1), (4, .long p2)]) hx hb md_F_finiteQuotient_84 hl (by decide) rfl (fun ls hl => ?_)
        refine lv_lload hx hb md_F_finiteQuotient_86 (lv_at hl 1 rfl) ?_
        refine lv_lload hx hb md_F_finiteQuotient_88 (lv_at hl 3 rfl) ?_
        refine lv_lrem hx hb md_F_finiteQuotient_90 (fa_wid0 hk hz) ?_
        refine lv_lstore (lv' := [(14, .long ((jl_shl z_15 10) - (jl_shl z_15 10) / (jl_shl (cf_sig k p2) (cf_wid (cf_sig k p2))) * (jl_shl (cf_sig k p2) (cf_wid (cf_sig k p2))))), (12, .long ((jl_shl z_16 10) + ((jl_shl z_15 10) / (jl_shl (cf_sig k p2) (cf_wid (cf_sig k p2)))))), (16, .int z_14), (10, .long (jl_shl (cf_sig k p2) (cf_wid (cf_sig k p2)))), (8, .long (jl_shl (cf_sig k p1) (cf_wid (cf_sig k p1)))), (7, .int (cf_wid (cf_sig k p2))), (6, .int (cf_wid (cf_sig k p1))), (0, .ref (ad k)), (1, .int (jb p0)), (2, .long p1), (4, .long p2)]) hx hb md_F_finiteQuotient_91 hl (by decide) rfl (fun ls hl => ?_)
        refine lv_iinc (v := z_14 + 1) (lv' := [(16, .int (z_14 + 1)), (14, .long ((jl_shl z_15 10) - (jl_shl z_15 10) / (jl_shl (cf_sig k p2) (cf_wid (cf_sig k p2))) * (jl_shl (cf_sig k p2) (cf_wid (cf_sig k p2))))), (12, .long ((jl_shl z_16 10) + ((jl_shl z_15 10) / (jl_shl (cf_sig k p2) (cf_wid (cf_sig k p2)))))), (10, .long (jl_shl (cf_sig k p2) (cf_wid (cf_sig k p2)))), (8, .long (jl_shl (cf_sig k p1) (cf_wid (cf_sig k p1)))), (7, .int (cf_wid (cf_sig k p2))), (6, .int (cf_wid (cf_sig k p1))), (0, .ref (ad k)), (1, .int (jb p0)), (2, .long p1), (4, .long p2)]) hx hb md_F_finiteQuotient_93 hl (k := 2) rfl rfl (by decide) rfl (fun ls hl => ?_)
        refine lv_goto (tgt := 59) hx hb md_F_finiteQuotient_96 (by decide) ?_
        exact ih (z_14 + 1) ((jl_shl z_15 10) - (jl_shl z_15 10) / (jl_shl (cf_sig k p2) (cf_wid (cf_sig k p2))) * (jl_shl (cf_sig k p2) (cf_wid (cf_sig k p2)))) ((jl_shl z_16 10) + ((jl_shl z_15 10) / (jl_shl (cf_sig k p2) (cf_wid (cf_sig k p2))))) ls (lu_s (Int32.not_le.mp c_26) hn) (lv_sub hl [0, 1, 2, 3, 4, 5, 6, 7, 8, 9, 10] rfl)
  exact L_13 _ 0 ((jl_shl (cf_sig k p1) (cf_wid (cf_sig k p1))) - (jl_shl (cf_sig k p1) (cf_wid (cf_sig k p1))) / (jl_shl (cf_sig k p2) (cf_wid (cf_sig k p2))) * (jl_shl (cf_sig k p2) (cf_wid (cf_sig k p2)))) ((jl_shl (cf_sig k p1) (cf_wid (cf_sig k p1))) / (jl_shl (cf_sig k p2) (cf_wid (cf_sig k p2)))) ls (Nat.le_refl _) (lv_sub hl [0, 1, 2, 3, 4, 5, 6, 7, 8, 9, 10] rfl)
set_option maxHeartbeats 4000000 in
set_option maxRecDepth 100000 in
theorem mt_F_quotient (l : Launch) (ad : Nat → Nat) (k : Nat) (hk : k < 2) (p0 : Int64) (p1 : Int64) : Met l my_F_quotient mw_F_quotient ({ frames := 4, cells := 0, slots := 0, locals := 109 } : Room) (va_Pc [.ref (ad k), .long p0, .long p1] (fun U => FW ad (fun _ => False) U U.heap)) (vp_Sl (fun _ => True)) 0 0 (fun _ => False) := by
  refine Met.ofW (cc := mc_F_quotient) (maxL := 6) (ret := (some .long)) (by decide) rfl ?_
  intro p e s m args below meth c s₁ B hml hv
  obtain ⟨rfl, hE⟩ := hv
  have hx := B.exec
  have hb := B.bytes
  have hr := B.returns
  have hts := atoms_spec (ws := mw_F_quotient) B.pre
  have ht : ∀ w ∈ gw_tbl, w.before _ s = true := fun w h => hts w (List.mem_cons_of_mem _ h)
  have hown : s.vm.findClass "NumberProbe$Format" = some m.cls := findClass_of_methodNamed B.named
  have hlocks := B.notSynchronized
  have hS : va_S (fun _ => False) s.heap s.heap [] := va_S.rf
  have hl := lv_entry ([.ref (ad k), .long p0, .long p1]) (n := 6) (Nat.le_of_ble_eq_true rfl)
  rw [lg_entry_eq]
  generalize (lg_sl ([.ref (ad k), .long p0, .long p1]) ++ List.replicate (6 - (lg_sl ([.ref (ad k), .long p0, .long p1])).length) Slot.unset).toArray = ls at hl ⊢
  have hl : lv_has ls 6 [(0, .ref (ad k)), (1, .long p0), (3, .long p1)] := hl
  refine lv_lload_n hx hb md_F_quotient_0 rfl (lv_at hl 1 rfl) ?_
  refine lv_lconst (v := 0) hx hb md_F_quotient_1 (by decide) ?_
  refine W.lcmp hx hb md_F_quotient_2 ?_
  have J_2 : ∀ (z_3 : Bool) (ls : Array Slot), lv_has ls 6 [(0, .ref (ad k)), (1, .long p0), (3, .long p1)] → WP p l e mw_F_quotient ({ frames := 4, cells := 0, slots := 0, locals := 109 } : Room) s m [.ref (ad k), .long p0, .long p1] below meth c (vp_Sl (fun _ => True)) (F0 m 11 ls [.int (jb z_3)]) := by
    intro z_3 ls hl
    refine lv_lload_n hx hb md_F_quotient_11 rfl (lv_at hl 2 rfl) ?_
    refine lv_lconst (v := 0) hx hb md_F_quotient_12 (by decide) ?_
    refine W.lcmp hx hb md_F_quotient_13 ?_
    have J_5 : ∀ (z_6 : Bool) (ls : Array Slot), lv_has ls 6 [(0, .ref (ad k)), (1, .long p0), (3, .long p1)] → WP p l e mw_F_quotient ({ frames := 4, cells := 0, slots := 0, locals := 109 } : Room) s m [.ref (ad k), .long p0, .long p1] below meth c (vp_Sl (fun _ => True)) (F0 m 22 ls [.int (jb z_6), .int (jb z_3)]) := by
      intro z_6 ls hl
      have J_8 : ∀ (z_9 : Bool) (ls : Array Slot), lv_has ls 6 [(0, .ref (ad k)), (1, .long p0), (3, .long p1)] → WP p l e mw_F_quotient ({ frames := 4, cells := 0, slots := 0, locals := 109 } : Room) s m [.ref (ad k), .long p0, .long p1] below meth c (vp_Sl (fun _ => True)) (F0 m 30 ls [.int (jb z_9)]) := by
        intro z_9 ls hl
        refine lv_istore (lv' := [(5, .int (jb z_9)), (0, .ref (ad k)), (1, .long p0), (3, .long p1)]) hx hb md_F_quotient_30 hl (by decide) rfl (fun ls hl => ?_)
        refine lv_aload_n hx hb md_F_quotient_32 rfl (lv_at hl 1 rfl) ?_
        refine lv_lload_n hx hb md_F_quotient_33 rfl (lv_at hl 2 rfl) ?_
        refine vp_callSi (W.runV (C := "NumberProbe$Format") (As := [.long p0]) (rest := []) ⟨hx, hb, hml, hown, hts⟩ (mt_F_isNaN l ad k hk p0) (cwV 1 hts (gd_V tm_67 tm_68 tm_69 tm_27 tm_70) rfl rfl rfl (by decide +kernel) ⟨Nat.le_of_ble_eq_true rfl, Nat.le_of_ble_eq_true rfl⟩) ⟨fb_E, fw_recv hE hk hS, fun U hU hW => ⟨rfl, fw_use hE hS hU hW⟩⟩ rfl rfl hl.1 rfl (lv_room (Nat.le_of_ble_eq_true rfl)) md_F_quotient_34 ⟨Nat.zero_le _, Nat.zero_le _⟩) (fun r_10 e_11 => ?_)
        obtain rfl : r_10 = jb (cf_nan k p0) := e_11
        refine lv_if_ne (tgt := 80) hx hb md_F_quotient_37 (by decide) (fun c_12 => ?_) (fun c_12 => ?_)
        · refine lv_aload_n hx hb md_F_quotient_80 rfl (lv_at hl 1 rfl) ?_
          refine va_getX hx hb hE.2.2.2.2.2.2.1 hk hS hown (ht _ tm_550) (fun _ h9 => h9) md_F_quotient_81 ?_
          exact W.lret (v := kf_n k) hx hb hr (fun t ht2 _ => ⟨(kf_n k), rfl, trivial, ht2⟩) (fun q h => by cases h) md_F_quotient_84
        · refine lv_aload_n hx hb md_F_quotient_40 rfl (lv_at hl 1 rfl) ?_
          refine lv_lload_n hx hb md_F_quotient_41 rfl (lv_at hl 3 rfl) ?_
          refine vp_callSi (W.runV (C := "NumberProbe$Format") (As := [.long p1]) (rest := []) ⟨hx, hb, hml, hown, hts⟩ (mt_F_isNaN l ad k hk p1) (cwV 1 hts (gd_V tm_67 tm_68 tm_69 tm_27 tm_70) rfl rfl rfl (by decide +kernel) ⟨Nat.le_of_ble_eq_true rfl, Nat.le_of_ble_eq_true rfl⟩) ⟨fb_E, fw_recv hE hk hS, fun U hU hW => ⟨rfl, fw_use hE hS hU hW⟩⟩ rfl rfl hl.1 rfl (lv_room (Nat.le_of_ble_eq_true rfl)) md_F_quotient_42 ⟨Nat.zero_le _, Nat.zero_le _⟩) (fun r_13 e_14 => ?_)
          obtain rfl : r_13 = jb (cf_nan k p1) := e_14
          refine lv_if_ne (tgt := 80) hx hb md_F_quotient_45 (by decide) (fun c_15 => ?_) (fun c_15 => ?_)
          · refine lv_aload_n hx hb md_F_quotient_80 rfl (lv_at hl 1 rfl) ?_
            refine va_getX hx hb hE.2.2.2.2.2.2.1 hk hS hown (ht _ tm_550) (fun _ h9 => h9) md_F_quotient_81 ?_
            exact W.lret (v := kf_n k) hx hb hr (fun t ht2 _ => ⟨(kf_n k), rfl, trivial, ht2⟩) (fun q h => by cases h) md_F_quotient_84
          · refine lv_aload_n hx hb md_F_quotient_48 rfl (lv_at hl 1 rfl) ?_
            refine lv_lload_n hx hb md_F_quotient_49 rfl (lv_at hl 2 rfl) ?_
            refine vp_callSi (W.runV (C := "NumberProbe$Format") (As := [.long p0]) (rest := []) ⟨hx, hb, hml, hown, hts⟩ (mt_F_isInfinite l ad k hk p0) (cwV 1 hts (gd_V tm_123 tm_125 tm_1 tm_27 tm_126) rfl rfl rfl (by decide +kernel) ⟨Nat.le_of_ble_eq_true rfl, Nat.le_of_ble_eq_true rfl⟩) ⟨fb_E, fw_recv hE hk hS, fun U hU hW => ⟨rfl, fw_use hE hS hU hW⟩⟩ rfl rfl hl.1 rfl (lv_room (Nat.le_of_ble_eq_true rfl)) md_F_quotient_50 ⟨Nat.zero_le _, Nat.zero_le _⟩) (fun r_16 e_17 => ?_)
            obtain rfl : r_16 = jb (cf_inf k p0) := e_17
            refine lv_if_eq (tgt := 64) hx hb md_F_quotient_53 (by decide) (fun c_18 => ?_) (fun c_18 => ?_)
            · refine lv_aload_n hx hb md_F_quotient_64 rfl (lv_at hl 1 rfl) ?_
              refine lv_lload_n hx hb md_F_quotient_65 rfl (lv_at hl 2 rfl) ?_
              refine vp_callSi (W.runV (C := "NumberProbe$Format") (As := [.long p0]) (rest := []) ⟨hx, hb, hml, hown, hts⟩ (mt_F_isZero l ad k hk p0) (cwV 1 hts (gd_V tm_174 tm_176 tm_7 tm_27 tm_177) rfl rfl rfl (by decide +kernel) ⟨Nat.le_of_ble_eq_true rfl, Nat.le_of_ble_eq_true rfl⟩) ⟨fb_E, fw_recv hE hk hS, fun U hU hW => ⟨rfl, fw_use hE hS hU hW⟩⟩ rfl rfl hl.1 rfl (lv_room (Nat.le_of_ble_eq_true rfl)) md_F_quotient_66 ⟨Nat.zero_le _, Nat.zero_le _⟩) (fun r_19 e_20 => ?_)
              obtain rfl : r_19 = jb (cf_zer k p0) := e_20
              refine lv_if_eq (tgt := 85) hx hb md_F_quotient_69 (by decide) (fun c_21 => ?_) (fun c_21 => ?_)
              · refine lv_aload_n hx hb md_F_quotient_85 rfl (lv_at hl 1 rfl) ?_
                refine lv_lload_n hx hb md_F_quotient_86 rfl (lv_at hl 2 rfl) ?_
                refine vp_callSi (W.runV (C := "NumberProbe$Format") (As := [.long p0]) (rest := []) ⟨hx, hb, hml, hown, hts⟩ (mt_F_isInfinite l ad k hk p0) (cwV 1 hts (gd_V tm_123 tm_125 tm_1 tm_27 tm_126) rfl rfl rfl (by decide +kernel) ⟨Nat.le_of_ble_eq_true rfl, Nat.le_of_ble_eq_true rfl⟩) ⟨fb_E, fw_recv hE hk hS, fun U hU hW => ⟨rfl, fw_use hE hS hU hW⟩⟩ rfl rfl hl.1 rfl (lv_room (Nat.le_of_ble_eq_true rfl)) md_F_quotient_87 ⟨Nat.zero_le _, Nat.zero_le _⟩) (fun r_22 e_23 => ?_)
                obtain rfl : r_22 = jb (cf_inf k p0) := e_23
                refine lv_if_ne (tgt := 101) hx hb md_F_quotient_90 (by decide) (fun c_24 => ?_) (fun c_24 => ?_)
                · refine lv_aload_n hx hb md_F_quotient_101 rfl (lv_at hl 1 rfl) ?_
                  refine lv_iload hx hb md_F_quotient_102 (lv_at hl 0 rfl) ?_
                  refine lv_aload_n hx hb md_F_quotient_104 rfl (lv_at hl 1 rfl) ?_
                  refine va_getX hx hb hE.2.2.2.2.2.1 hk hS hown (ht _ tm_549) (fun _ h9 => h9) md_F_quotient_105 ?_
                  refine vp_callSl (W.runV (C := "NumberProbe$Format") (As := [.int (jb z_9), .long (kf_i k)]) (rest := []) ⟨hx, hb, hml, hown, hts⟩ (mt_F_signed l ad k hk z_9 (kf_i k)) (cwV 2 hts (gd_V tm_75 tm_77 tm_0 tm_27 tm_79) rfl rfl rfl (by decide +kernel) ⟨Nat.le_of_ble_eq_true rfl, Nat.le_of_ble_eq_true rfl⟩) ⟨fb_E, fw_recv hE hk hS, fun U hU hW => ⟨rfl, fw_use hE hS hU hW⟩⟩ rfl rfl hl.1 rfl (lv_room (Nat.le_of_ble_eq_true rfl)) md_F_quotient_108 ⟨Nat.zero_le _, Nat.zero_le _⟩) (fun r_25 e_26 => ?_)
                  exact W.lret (v := r_25) hx hb hr (fun t ht2 _ => ⟨r_25, rfl, trivial, ht2⟩) (fun q h => by cases h) md_F_quotient_111
                · refine lv_aload_n hx hb md_F_quotient_93 rfl (lv_at hl 1 rfl) ?_
                  refine lv_lload_n hx hb md_F_quotient_94 rfl (lv_at hl 3 rfl) ?_
                  refine vp_callSi (W.runV (C := "NumberProbe$Format") (As := [.long p1]) (rest := []) ⟨hx, hb, hml, hown, hts⟩ (mt_F_isZero l ad k hk p1) (cwV 1 hts (gd_V tm_174 tm_176 tm_7 tm_27 tm_177) rfl rfl rfl (by decide +kernel) ⟨Nat.le_of_ble_eq_true rfl, Nat.le_of_ble_eq_true rfl⟩) ⟨fb_E, fw_recv hE hk hS, fun U hU hW => ⟨rfl, fw_use hE hS hU hW⟩⟩ rfl rfl hl.1 rfl (lv_room (Nat.le_of_ble_eq_true rfl)) md_F_quotient_95 ⟨Nat.zero_le _, Nat.zero_le _⟩) (fun r_27 e_28 => ?_)
                  obtain rfl : r_27 = jb (cf_zer k p1) := e_28
                  refine lv_if_eq (tgt := 112) hx hb md_F_quotient_98 (by decide) (fun c_29 => ?_) (fun c_29 => ?_)
                  · refine lv_aload_n hx hb md_F_quotient_112 rfl (lv_at hl 1 rfl) ?_
                    refine lv_lload_n hx hb md_F_quotient_113 rfl (lv_at hl 2 rfl) ?_
                    refine vp_callSi (W.runV (C := "NumberProbe$Format") (As := [.long p0]) (rest := []) ⟨hx, hb, hml, hown, hts⟩ (mt_F_isZero l ad k hk p0) (cwV 1 hts (gd_V tm_174 tm_176 tm_7 tm_27 tm_177) rfl rfl rfl (by decide +kernel) ⟨Nat.le_of_ble_eq_true rfl, Nat.le_of_ble_eq_true rfl⟩) ⟨fb_E, fw_recv hE hk hS, fun U hU hW => ⟨rfl, fw_use hE hS hU hW⟩⟩ rfl rfl hl.1 rfl (lv_room (Nat.le_of_ble_eq_true rfl)) md_F_quotient_114 ⟨Nat.zero_le _, Nat.zero_le _⟩) (fun r_30 e_31 => ?_)
                    obtain rfl : r_30 = jb (cf_zer k p0) := e_31
                    refine lv_if_ne (tgt := 128) hx hb md_F_quotient_117 (by decide) (fun c_32 => ?_) (fun c_32 => ?_)
                    · refine lv_aload_n hx hb md_F_quotient_128 rfl (lv_at hl 1 rfl) ?_
                      refine lv_iload hx hb md_F_quotient_129 (lv_at hl 0 rfl) ?_
                      refine lv_lconst (v := 0) hx hb md_F_quotient_131 (by decide) ?_
                      refine vp_callSl (W.runV (C := "NumberProbe$Format") (As := [.int (jb z_9), .long 0]) (rest := []) ⟨hx, hb, hml, hown, hts⟩ (mt_F_signed l ad k hk z_9 0) (cwV 2 hts (gd_V tm_75 tm_77 tm_0 tm_27 tm_79) rfl rfl rfl (by decide +kernel) ⟨Nat.le_of_ble_eq_true rfl, Nat.le_of_ble_eq_true rfl⟩) ⟨fb_E, fw_recv hE hk hS, fun U hU hW => ⟨rfl, fw_use hE hS hU hW⟩⟩ rfl rfl hl.1 rfl (lv_room (Nat.le_of_ble_eq_true rfl)) md_F_quotient_132 ⟨Nat.zero_le _, Nat.zero_le _⟩) (fun r_33 e_34 => ?_)
                      exact W.lret (v := r_33) hx hb hr (fun t ht2 _ => ⟨r_33, rfl, trivial, ht2⟩) (fun q h => by cases h) md_F_quotient_135
                    · refine lv_aload_n hx hb md_F_quotient_120 rfl (lv_at hl 1 rfl) ?_
                      refine lv_lload_n hx hb md_F_quotient_121 rfl (lv_at hl 3 rfl) ?_
                      refine vp_callSi (W.runV (C := "NumberProbe$Format") (As := [.long p1]) (rest := []) ⟨hx, hb, hml, hown, hts⟩ (mt_F_isInfinite l ad k hk p1) (cwV 1 hts (gd_V tm_123 tm_125 tm_1 tm_27 tm_126) rfl rfl rfl (by decide +kernel) ⟨Nat.le_of_ble_eq_true rfl, Nat.le_of_ble_eq_true rfl⟩) ⟨fb_E, fw_recv hE hk hS, fun U hU hW => ⟨rfl, fw_use hE hS hU hW⟩⟩ rfl rfl hl.1 rfl (lv_room (Nat.le_of_ble_eq_true rfl)) md_F_quotient_122 ⟨Nat.zero_le _, Nat.zero_le _⟩) (fun r_35 e_36 => ?_)
                      obtain rfl : r_35 = jb (cf_inf k p1) := e_36
                      refine lv_if_eq (tgt := 136) hx hb md_F_quotient_125 (by decide) (fun c_37 => ?_) (fun c_37 => ?_)
                      · refine lv_aload_n hx hb md_F_quotient_136 rfl (lv_at hl 1 rfl) ?_
                        refine lv_iload hx hb md_F_quotient_137 (lv_at hl 0 rfl) ?_
                        refine lv_lload_n hx hb md_F_quotient_139 rfl (lv_at hl 2 rfl) ?_
                        refine lv_lload_n hx hb md_F_quotient_140 rfl (lv_at hl 3 rfl) ?_
                        refine vp_callSl (W.runV (C := "NumberProbe$Format") (As := [.int (jb z_9), .long p0, .long p1]) (rest := []) ⟨hx, hb, hml, hown, hts⟩ (mt_F_finiteQuotient l ad k hk z_9 p0 p1 (jb_0.mp c_29)) (cwV 3 hts (gd_V tm_193 tm_195 tm_9 tm_27 tm_196) rfl rfl rfl (by decide +kernel) ⟨Nat.le_of_ble_eq_true rfl, Nat.le_of_ble_eq_true rfl⟩) ⟨fb_E, fw_recv hE hk hS, fun U hU hW => ⟨rfl, fw_use hE hS hU hW⟩⟩ rfl rfl hl.1 rfl (lv_room (Nat.le_of_ble_eq_true rfl)) md_F_quotient_141 ⟨Nat.zero_le _, Nat.zero_le _⟩) (fun r_38 e_39 => ?_)
                        exact W.lret (v := r_38) hx hb hr (fun t ht2 _ => ⟨r_38, rfl, trivial, ht2⟩) (fun q h => by cases h) md_F_quotient_144
                      · refine lv_aload_n hx hb md_F_quotient_128 rfl (lv_at hl 1 rfl) ?_
                        refine lv_iload hx hb md_F_quotient_129 (lv_at hl 0 rfl) ?_
                        refine lv_lconst (v := 0) hx hb md_F_quotient_131 (by decide) ?_
                        refine vp_callSl (W.runV (C := "NumberProbe$Format") (As := [.int (jb z_9), .long 0]) (rest := []) ⟨hx, hb, hml, hown, hts⟩ (mt_F_signed l ad k hk z_9 0) (cwV 2 hts (gd_V tm_75 tm_77 tm_0 tm_27 tm_79) rfl rfl rfl (by decide +kernel) ⟨Nat.le_of_ble_eq_true rfl, Nat.le_of_ble_eq_true rfl⟩) ⟨fb_E, fw_recv hE hk hS, fun U hU hW => ⟨rfl, fw_use hE hS hU hW⟩⟩ rfl rfl hl.1 rfl (lv_room (Nat.le_of_ble_eq_true rfl)) md_F_quotient_132 ⟨Nat.zero_le _, Nat.zero_le _⟩) (fun r_40 e_41 => ?_)
                        exact W.lret (v := r_40) hx hb hr (fun t ht2 _ => ⟨r_40, rfl, trivial, ht2⟩) (fun q h => by cases h) md_F_quotient_135
                  · refine lv_aload_n hx hb md_F_quotient_101 rfl (lv_at hl 1 rfl) ?_
                    refine lv_iload hx hb md_F_quotient_102 (lv_at hl 0 rfl) ?_
                    refine lv_aload_n hx hb md_F_quotient_104 rfl (lv_at hl 1 rfl) ?_
                    refine va_getX hx hb hE.2.2.2.2.2.1 hk hS hown (ht _ tm_549) (fun _ h9 => h9) md_F_quotient_105 ?_
                    refine vp_callSl (W.runV (C := "NumberProbe$Format") (As := [.int (jb z_9), .long (kf_i k)]) (rest := []) ⟨hx, hb, hml, hown, hts⟩ (mt_F_signed l ad k hk z_9 (kf_i k)) (cwV 2 hts (gd_V tm_75 tm_77 tm_0 tm_27 tm_79) rfl rfl rfl (by decide +kernel) ⟨Nat.le_of_ble_eq_true rfl, Nat.le_of_ble_eq_true rfl⟩) ⟨fb_E, fw_recv hE hk hS, fun U hU hW => ⟨rfl, fw_use hE hS hU hW⟩⟩ rfl rfl hl.1 rfl (lv_room (Nat.le_of_ble_eq_true rfl)) md_F_quotient_108 ⟨Nat.zero_le _, Nat.zero_le _⟩) (fun r_42 e_43 => ?_)
                    exact W.lret (v := r_42) hx hb hr (fun t ht2 _ => ⟨r_42, rfl, trivial, ht2⟩) (fun q h => by cases h) md_F_quotient_111
              · refine lv_aload_n hx hb md_F_quotient_72 rfl (lv_at hl 1 rfl) ?_
                refine lv_lload_n hx hb md_F_quotient_73 rfl (lv_at hl 3 rfl) ?_
                refine vp_callSi (W.runV (C := "NumberProbe$Format") (As := [.long p1]) (rest := []) ⟨hx, hb, hml, hown, hts⟩ (mt_F_isZero l ad k hk p1) (cwV 1 hts (gd_V tm_174 tm_176 tm_7 tm_27 tm_177) rfl rfl rfl (by decide +kernel) ⟨Nat.le_of_ble_eq_true rfl, Nat.le_of_ble_eq_true rfl⟩) ⟨fb_E, fw_recv hE hk hS, fun U hU hW => ⟨rfl, fw_use hE hS hU hW⟩⟩ rfl rfl hl.1 rfl (lv_room (Nat.le_of_ble_eq_true rfl)) md_F_quotient_74 ⟨Nat.zero_le _, Nat.zero_le _⟩) (fun r_44 e_45 => ?_)
                obtain rfl : r_44 = jb (cf_zer k p1) := e_45
                refine lv_if_eq (tgt := 85) hx hb md_F_quotient_77 (by decide) (fun c_46 => ?_) (fun c_46 => ?_)
                · refine lv_aload_n hx hb md_F_quotient_85 rfl (lv_at hl 1 rfl) ?_
                  refine lv_lload_n hx hb md_F_quotient_86 rfl (lv_at hl 2 rfl) ?_
                  refine vp_callSi (W.runV (C := "NumberProbe$Format") (As := [.long p0]) (rest := []) ⟨hx, hb, hml, hown, hts⟩ (mt_F_isInfinite l ad k hk p0) (cwV 1 hts (gd_V tm_123 tm_125 tm_1 tm_27 tm_126) rfl rfl rfl (by decide +kernel) ⟨Nat.le_of_ble_eq_true rfl, Nat.le_of_ble_eq_true rfl⟩) ⟨fb_E, fw_recv hE hk hS, fun U hU hW => ⟨rfl, fw_use hE hS hU hW⟩⟩ rfl rfl hl.1 rfl (lv_room (Nat.le_of_ble_eq_true rfl)) md_F_quotient_87 ⟨Nat.zero_le _, Nat.zero_le _⟩) (fun r_47 e_48 => ?_)
                  obtain rfl : r_47 = jb (cf_inf k p0) := e_48
                  refine lv_if_ne (tgt := 101) hx hb md_F_quotient_90 (by decide) (fun c_49 => ?_) (fun c_49 => ?_)
                  · refine lv_aload_n hx hb md_F_quotient_101 rfl (lv_at hl 1 rfl) ?_
                    refine lv_iload hx hb md_F_quotient_102 (lv_at hl 0 rfl) ?_
                    refine lv_aload_n hx hb md_F_quotient_104 rfl (lv_at hl 1 rfl) ?_
                    refine va_getX hx hb hE.2.2.2.2.2.1 hk hS hown (ht _ tm_549) (fun _ h9 => h9) md_F_quotient_105 ?_
                    refine vp_callSl (W.runV (C := "NumberProbe$Format") (As := [.int (jb z_9), .long (kf_i k)]) (rest := []) ⟨hx, hb, hml, hown, hts⟩ (mt_F_signed l ad k hk z_9 (kf_i k)) (cwV 2 hts (gd_V tm_75 tm_77 tm_0 tm_27 tm_79) rfl rfl rfl (by decide +kernel) ⟨Nat.le_of_ble_eq_true rfl, Nat.le_of_ble_eq_true rfl⟩) ⟨fb_E, fw_recv hE hk hS, fun U hU hW => ⟨rfl, fw_use hE hS hU hW⟩⟩ rfl rfl hl.1 rfl (lv_room (Nat.le_of_ble_eq_true rfl)) md_F_quotient_108 ⟨Nat.zero_le _, Nat.zero_le _⟩) (fun r_50 e_51 => ?_)
                    exact W.lret (v := r_50) hx hb hr (fun t ht2 _ => ⟨r_50, rfl, trivial, ht2⟩) (fun q h => by cases h) md_F_quotient_111
                  · refine lv_aload_n hx hb md_F_quotient_93 rfl (lv_at hl 1 rfl) ?_
                    refine lv_lload_n hx hb md_F_quotient_94 rfl (lv_at hl 3 rfl) ?_
                    refine vp_callSi (W.runV (C := "NumberProbe$Format") (As := [.long p1]) (rest := []) ⟨hx, hb, hml, hown, hts⟩ (mt_F_isZero l ad k hk p1) (cwV 1 hts (gd_V tm_174 tm_176 tm_7 tm_27 tm_177) rfl rfl rfl (by decide +kernel) ⟨Nat.le_of_ble_eq_true rfl, Nat.le_of_ble_eq_true rfl⟩) ⟨fb_E, fw_recv hE hk hS, fun U hU hW => ⟨rfl, fw_use hE hS hU hW⟩⟩ rfl rfl hl.1 rfl (lv_room (Nat.le_of_ble_eq_true rfl)) md_F_quotient_95 ⟨Nat.zero_le _, Nat.zero_le _⟩) (fun r_52 e_53 => ?_)
                    obtain rfl : r_52 = jb (cf_zer k p1) := e_53
                    refine lv_if_eq (tgt := 112) hx hb md_F_quotient_98 (by decide) (fun c_54 => ?_) (fun c_54 => ?_)
                    · refine lv_aload_n hx hb md_F_quotient_112 rfl (lv_at hl 1 rfl) ?_
                      refine lv_lload_n hx hb md_F_quotient_113 rfl (lv_at hl 2 rfl) ?_
                      refine vp_callSi (W.runV (C := "NumberProbe$Format") (As := [.long p0]) (rest := []) ⟨hx, hb, hml, hown, hts⟩ (mt_F_isZero l ad k hk p0) (cwV 1 hts (gd_V tm_174 tm_176 tm_7 tm_27 tm_177) rfl rfl rfl (by decide +kernel) ⟨Nat.le_of_ble_eq_true rfl, Nat.le_of_ble_eq_true rfl⟩) ⟨fb_E, fw_recv hE hk hS, fun U hU hW => ⟨rfl, fw_use hE hS hU hW⟩⟩ rfl rfl hl.1 rfl (lv_room (Nat.le_of_ble_eq_true rfl)) md_F_quotient_114 ⟨Nat.zero_le _, Nat.zero_le _⟩) (fun r_55 e_56 => ?_)
                      obtain rfl : r_55 = jb (cf_zer k p0) := e_56
                      refine lv_if_ne (tgt := 128) hx hb md_F_quotient_117 (by decide) (fun c_57 => ?_) (fun c_57 => ?_)
                      · refine lv_aload_n hx hb md_F_quotient_128 rfl (lv_at hl 1 rfl) ?_
                        refine lv_iload hx hb md_F_quotient_129 (lv_at hl 0 rfl) ?_
                        refine lv_lconst (v := 0) hx hb md_F_quotient_131 (by decide) ?_
                        refine vp_callSl (W.runV (C := "NumberProbe$Format") (As := [.int (jb z_9), .long 0]) (rest := []) ⟨hx, hb, hml, hown, hts⟩ (mt_F_signed l ad k hk z_9 0) (cwV 2 hts (gd_V tm_75 tm_77 tm_0 tm_27 tm_79) rfl rfl rfl (by decide +kernel) ⟨Nat.le_of_ble_eq_true rfl, Nat.le_of_ble_eq_true rfl⟩) ⟨fb_E, fw_recv hE hk hS, fun U hU hW => ⟨rfl, fw_use hE hS hU hW⟩⟩ rfl rfl hl.1 rfl (lv_room (Nat.le_of_ble_eq_true rfl)) md_F_quotient_132 ⟨Nat.zero_le _, Nat.zero_le _⟩) (fun r_58 e_59 => ?_)
                        exact W.lret (v := r_58) hx hb hr (fun t ht2 _ => ⟨r_58, rfl, trivial, ht2⟩) (fun q h => by cases h) md_F_quotient_135
                      · refine lv_aload_n hx hb md_F_quotient_120 rfl (lv_at hl 1 rfl) ?_
                        refine lv_lload_n hx hb md_F_quotient_121 rfl (lv_at hl 3 rfl) ?_
                        refine vp_callSi (W.runV (C := "NumberProbe$Format") (As := [.long p1]) (rest := []) ⟨hx, hb, hml, hown, hts⟩ (mt_F_isInfinite l ad k hk p1) (cwV 1 hts (gd_V tm_123 tm_125 tm_1 tm_27 tm_126) rfl rfl rfl (by decide +kernel) ⟨Nat.le_of_ble_eq_true rfl, Nat.le_of_ble_eq_true rfl⟩) ⟨fb_E, fw_recv hE hk hS, fun U hU hW => ⟨rfl, fw_use hE hS hU hW⟩⟩ rfl rfl hl.1 rfl (lv_room (Nat.le_of_ble_eq_true rfl)) md_F_quotient_122 ⟨Nat.zero_le _, Nat.zero_le _⟩) (fun r_60 e_61 => ?_)
                        obtain rfl : r_60 = jb (cf_inf k p1) := e_61
                        refine lv_if_eq (tgt := 136) hx hb md_F_quotient_125 (by decide) (fun c_62 => ?_) (fun c_62 => ?_)
                        · refine lv_aload_n hx hb md_F_quotient_136 rfl (lv_at hl 1 rfl) ?_
                          refine lv_iload hx hb md_F_quotient_137 (lv_at hl 0 rfl) ?_
                          refine lv_lload_n hx hb md_F_quotient_139 rfl (lv_at hl 2 rfl) ?_
                          refine lv_lload_n hx hb md_F_quotient_140 rfl (lv_at hl 3 rfl) ?_
                          refine vp_callSl (W.runV (C := "NumberProbe$Format") (As := [.int (jb z_9), .long p0, .long p1]) (rest := []) ⟨hx, hb, hml, hown, hts⟩ (mt_F_finiteQuotient l ad k hk z_9 p0 p1 (jb_0.mp c_54)) (cwV 3 hts (gd_V tm_193 tm_195 tm_9 tm_27 tm_196) rfl rfl rfl (by decide +kernel) ⟨Nat.le_of_ble_eq_true rfl, Nat.le_of_ble_eq_true rfl⟩) ⟨fb_E, fw_recv hE hk hS, fun U hU hW => ⟨rfl, fw_use hE hS hU hW⟩⟩ rfl rfl hl.1 rfl (lv_room (Nat.le_of_ble_eq_true rfl)) md_F_quotient_141 ⟨Nat.zero_le _, Nat.zero_le _⟩) (fun r_63 e_64 => ?_)
                          exact W.lret (v := r_63) hx hb hr (fun t ht2 _ => ⟨r_63, rfl, trivial, ht2⟩) (fun q h => by cases h) md_F_quotient_144
                        · refine lv_aload_n hx hb md_F_quotient_128 rfl (lv_at hl 1 rfl) ?_
                          refine lv_iload hx hb md_F_quotient_129 (lv_at hl 0 rfl) ?_
                          refine lv_lconst (v := 0) hx hb md_F_quotient_131 (by decide) ?_
                          refine vp_callSl (W.runV (C := "NumberProbe$Format") (As := [.int (jb z_9), .long 0]) (rest := []) ⟨hx, hb, hml, hown, hts⟩ (mt_F_signed l ad k hk z_9 0) (cwV 2 hts (gd_V tm_75 tm_77 tm_0 tm_27 tm_79) rfl rfl rfl (by decide +kernel) ⟨Nat.le_of_ble_eq_true rfl, Nat.le_of_ble_eq_true rfl⟩) ⟨fb_E, fw_recv hE hk hS, fun U hU hW => ⟨rfl, fw_use hE hS hU hW⟩⟩ rfl rfl hl.1 rfl (lv_room (Nat.le_of_ble_eq_true rfl)) md_F_quotient_132 ⟨Nat.zero_le _, Nat.zero_le _⟩) (fun r_65 e_66 => ?_)
                          exact W.lret (v := r_65) hx hb hr (fun t ht2 _ => ⟨r_65, rfl, trivial, ht2⟩) (fun q h => by cases h) md_F_quotient_135
                    · refine lv_aload_n hx hb md_F_quotient_101 rfl (lv_at hl 1 rfl) ?_
                      refine lv_iload hx hb md_F_quotient_102 (lv_at hl 0 rfl) ?_
                      refine lv_aload_n hx hb md_F_quotient_104 rfl (lv_at hl 1 rfl) ?_
                      refine va_getX hx hb hE.2.2.2.2.2.1 hk hS hown (ht _ tm_549) (fun _ h9 => h9) md_F_quotient_105 ?_
                      refine vp_callSl (W.runV (C := "NumberProbe$Format") (As := [.int (jb z_9), .long (kf_i k)]) (rest := []) ⟨hx, hb, hml, hown, hts⟩ (mt_F_signed l ad k hk z_9 (kf_i k)) (cwV 2 hts (gd_V tm_75 tm_77 tm_0 tm_27 tm_79) rfl rfl rfl (by decide +kernel) ⟨Nat.le_of_ble_eq_true rfl, Nat.le_of_ble_eq_true rfl⟩) ⟨fb_E, fw_recv hE hk hS, fun U hU hW => ⟨rfl, fw_use hE hS hU hW⟩⟩ rfl rfl hl.1 rfl (lv_room (Nat.le_of_ble_eq_true rfl)) md_F_quotient_108 ⟨Nat.zero_le _, Nat.zero_le _⟩) (fun r_67 e_68 => ?_)
                      exact W.lret (v := r_67) hx hb hr (fun t ht2 _ => ⟨r_67, rfl, trivial, ht2⟩) (fun q h => by cases h) md_F_quotient_111
                · refine lv_aload_n hx hb md_F_quotient_80 rfl (lv_at hl 1 rfl) ?_
                  refine va_getX hx hb hE.2.2.2.2.2.2.1 hk hS hown (ht _ tm_550) (fun _ h9 => h9) md_F_quotient_81 ?_
                  exact W.lret (v := kf_n k) hx hb hr (fun t ht2 _ => ⟨(kf_n k), rfl, trivial, ht2⟩) (fun q h => by cases h) md_F_quotient_84
            · refine lv_aload_n hx hb md_F_quotient_56 rfl (lv_at hl 1 rfl) ?_
              refine lv_lload_n hx hb md_F_quotient_57 rfl (lv_at hl 3 rfl) ?_
              refine vp_callSi (W.runV (C := "NumberProbe$Format") (As := [.long p1]) (rest := []) ⟨hx, hb, hml, hown, hts⟩ (mt_F_isInfinite l ad k hk p1) (cwV 1 hts (gd_V tm_123 tm_125 tm_1 tm_27 tm_126) rfl rfl rfl (by decide +kernel) ⟨Nat.le_of_ble_eq_true rfl, Nat.le_of_ble_eq_true rfl⟩) ⟨fb_E, fw_recv hE hk hS, fun U hU hW => ⟨rfl, fw_use hE hS hU hW⟩⟩ rfl rfl hl.1 rfl (lv_room (Nat.le_of_ble_eq_true rfl)) md_F_quotient_58 ⟨Nat.zero_le _, Nat.zero_le _⟩) (fun r_69 e_70 => ?_)
              obtain rfl : r_69 = jb (cf_inf k p1) := e_70
              refine lv_if_ne (tgt := 80) hx hb md_F_quotient_61 (by decide) (fun c_71 => ?_) (fun c_71 => ?_)
              · refine lv_aload_n hx hb md_F_quotient_80 rfl (lv_at hl 1 rfl) ?_
                refine va_getX hx hb hE.2.2.2.2.2.2.1 hk hS hown (ht _ tm_550) (fun _ h9 => h9) md_F_quotient_81 ?_
                exact W.lret (v := kf_n k) hx hb hr (fun t ht2 _ => ⟨(kf_n k), rfl, trivial, ht2⟩) (fun q h => by cases h) md_F_quotient_84
              · refine lv_aload_n hx hb md_F_quotient_64 rfl (lv_at hl 1 rfl) ?_
                refine lv_lload_n hx hb md_F_quotient_65 rfl (lv_at hl 2 rfl) ?_
                refine vp_callSi (W.runV (C := "NumberProbe$Format") (As := [.long p0]) (rest := []) ⟨hx, hb, hml, hown, hts⟩ (mt_F_isZero l ad k hk p0) (cwV 1 hts (gd_V tm_174 tm_176 tm_7 tm_27 tm_177) rfl rfl rfl (by decide +kernel) ⟨Nat.le_of_ble_eq_true rfl, Nat.le_of_ble_eq_true rfl⟩) ⟨fb_E, fw_recv hE hk hS, fun U hU hW => ⟨rfl, fw_use hE hS hU hW⟩⟩ rfl rfl hl.1 rfl (lv_room (Nat.le_of_ble_eq_true rfl)) md_F_quotient_66 ⟨Nat.zero_le _, Nat.zero_le _⟩) (fun r_72 e_73 => ?_)
                obtain rfl : r_72 = jb (cf_zer k p0) := e_73
                refine lv_if_eq (tgt := 85) hx hb md_F_quotient_69 (by decide) (fun c_74 => ?_) (fun c_74 => ?_)
                · refine lv_aload_n hx hb md_F_quotient_85 rfl (lv_at hl 1 rfl) ?_
                  refine lv_lload_n hx hb md_F_quotient_86 rfl (lv_at hl 2 rfl) ?_
                  refine vp_callSi (W.runV (C := "NumberProbe$Format") (As := [.long p0]) (rest := []) ⟨hx, hb, hml, hown, hts⟩ (mt_F_isInfinite l ad k hk p0) (cwV 1 hts (gd_V tm_123 tm_125 tm_1 tm_27 tm_126) rfl rfl rfl (by decide +kernel) ⟨Nat.le_of_ble_eq_true rfl, Nat.le_of_ble_eq_true rfl⟩) ⟨fb_E, fw_recv hE hk hS, fun U hU hW => ⟨rfl, fw_use hE hS hU hW⟩⟩ rfl rfl hl.1 rfl (lv_room (Nat.le_of_ble_eq_true rfl)) md_F_quotient_87 ⟨Nat.zero_le _, Nat.zero_le _⟩) (fun r_75 e_76 => ?_)
                  obtain rfl : r_75 = jb (cf_inf k p0) := e_76
                  refine lv_if_ne (tgt := 101) hx hb md_F_quotient_90 (by decide) (fun c_77 => ?_) (fun c_77 => ?_)
                  · refine lv_aload_n hx hb md_F_quotient_101 rfl (lv_at hl 1 rfl) ?_
                    refine lv_iload hx hb md_F_quotient_102 (lv_at hl 0 rfl) ?_
                    refine lv_aload_n hx hb md_F_quotient_104 rfl (lv_at hl 1 rfl) ?_
                    refine va_getX hx hb hE.2.2.2.2.2.1 hk hS hown (ht _ tm_549) (fun _ h9 => h9) md_F_quotient_105 ?_
                    refine vp_callSl (W.runV (C := "NumberProbe$Format") (As := [.int (jb z_9), .long (kf_i k)]) (rest := []) ⟨hx, hb, hml, hown, hts⟩ (mt_F_signed l ad k hk z_9 (kf_i k)) (cwV 2 hts (gd_V tm_75 tm_77 tm_0 tm_27 tm_79) rfl rfl rfl (by decide +kernel) ⟨Nat.le_of_ble_eq_true rfl, Nat.le_of_ble_eq_true rfl⟩) ⟨fb_E, fw_recv hE hk hS, fun U hU hW => ⟨rfl, fw_use hE hS hU hW⟩⟩ rfl rfl hl.1 rfl (lv_room (Nat.le_of_ble_eq_true rfl)) md_F_quotient_108 ⟨Nat.zero_le _, Nat.zero_le _⟩) (fun r_78 e_79 => ?_)
                    exact W.lret (v := r_78) hx hb hr (fun t ht2 _ => ⟨r_78, rfl, trivial, ht2⟩) (fun q h => by cases h) md_F_quotient_111
                  · refine lv_aload_n hx hb md_F_quotient_93 rfl (lv_at hl 1 rfl) ?_
                    refine lv_lload_n hx hb md_F_quotient_94 rfl (lv_at hl 3 rfl) ?_
                    refine vp_callSi (W.runV (C := "NumberProbe$Format") (As := [.long p1]) (rest := []) ⟨hx, hb, hml, hown, hts⟩ (mt_F_isZero l ad k hk p1) (cwV 1 hts (gd_V tm_174 tm_176 tm_7 tm_27 tm_177) rfl rfl rfl (by decide +kernel) ⟨Nat.le_of_ble_eq_true rfl, Nat.le_of_ble_eq_true rfl⟩) ⟨fb_E, fw_recv hE hk hS, fun U hU hW => ⟨rfl, fw_use hE hS hU hW⟩⟩ rfl rfl hl.1 rfl (lv_room (Nat.le_of_ble_eq_true rfl)) md_F_quotient_95 ⟨Nat.zero_le _, Nat.zero_le _⟩) (fun r_80 e_81 => ?_)
                    obtain rfl : r_80 = jb (cf_zer k p1) := e_81
                    refine lv_if_eq (tgt := 112) hx hb md_F_quotient_98 (by decide) (fun c_82 => ?_) (fun c_82 => ?_)
                    · refine lv_aload_n hx hb md_F_quotient_112 rfl (lv_at hl 1 rfl) ?_
                      refine lv_lload_n hx hb md_F_quotient_113 rfl (lv_at hl 2 rfl) ?_
                      refine vp_callSi (W.runV (C := "NumberProbe$Format") (As := [.long p0]) (rest := []) ⟨hx, hb, hml, hown, hts⟩ (mt_F_isZero l ad k hk p0) (cwV 1 hts (gd_V tm_174 tm_176 tm_7 tm_27 tm_177) rfl rfl rfl (by decide +kernel) ⟨Nat.le_of_ble_eq_true rfl, Nat.le_of_ble_eq_true rfl⟩) ⟨fb_E, fw_recv hE hk hS, fun U hU hW => ⟨rfl, fw_use hE hS hU hW⟩⟩ rfl rfl hl.1 rfl (lv_room (Nat.le_of_ble_eq_true rfl)) md_F_quotient_114 ⟨Nat.zero_le _, Nat.zero_le _⟩) (fun r_83 e_84 => ?_)
                      obtain rfl : r_83 = jb (cf_zer k p0) := e_84
                      refine lv_if_ne (tgt := 128) hx hb md_F_quotient_117 (by decide) (fun c_85 => ?_) (fun c_85 => ?_)
                      · refine lv_aload_n hx hb md_F_quotient_128 rfl (lv_at hl 1 rfl) ?_
                        refine lv_iload hx hb md_F_quotient_129 (lv_at hl 0 rfl) ?_
                        refine lv_lconst (v := 0) hx hb md_F_quotient_131 (by decide) ?_
                        refine vp_callSl (W.runV (C := "NumberProbe$Format") (As := [.int (jb z_9), .long 0]) (rest := []) ⟨hx, hb, hml, hown, hts⟩ (mt_F_signed l ad k hk z_9 0) (cwV 2 hts (gd_V tm_75 tm_77 tm_0 tm_27 tm_79) rfl rfl rfl (by decide +kernel) ⟨Nat.le_of_ble_eq_true rfl, Nat.le_of_ble_eq_true rfl⟩) ⟨fb_E, fw_recv hE hk hS, fun U hU hW => ⟨rfl, fw_use hE hS hU hW⟩⟩ rfl rfl hl.1 rfl (lv_room (Nat.le_of_ble_eq_true rfl)) md_F_quotient_132 ⟨Nat.zero_le _, Nat.zero_le _⟩) (fun r_86 e_87 => ?_)
                        exact W.lret (v := r_86) hx hb hr (fun t ht2 _ => ⟨r_86, rfl, trivial, ht2⟩) (fun q h => by cases h) md_F_quotient_135
                      · refine lv_aload_n hx hb md_F_quotient_120 rfl (lv_at hl 1 rfl) ?_
                        refine lv_lload_n hx hb md_F_quotient_121 rfl (lv_at hl 3 rfl) ?_
                        refine vp_callSi (W.runV (C := "NumberProbe$Format") (As := [.long p1]) (rest := []) ⟨hx, hb, hml, hown, hts⟩ (mt_F_isInfinite l ad k hk p1) (cwV 1 hts (gd_V tm_123 tm_125 tm_1 tm_27 tm_126) rfl rfl rfl (by decide +kernel) ⟨Nat.le_of_ble_eq_true rfl, Nat.le_of_ble_eq_true rfl⟩) ⟨fb_E, fw_recv hE hk hS, fun U hU hW => ⟨rfl, fw_use hE hS hU hW⟩⟩ rfl rfl hl.1 rfl (lv_room (Nat.le_of_ble_eq_true rfl)) md_F_quotient_122 ⟨Nat.zero_le _, Nat.zero_le _⟩) (fun r_88 e_89 => ?_)
                        obtain rfl : r_88 = jb (cf_inf k p1) := e_89
                        refine lv_if_eq (tgt := 136) hx hb md_F_quotient_125 (by decide) (fun c_90 => ?_) (fun c_90 => ?_)
                        · refine lv_aload_n hx hb md_F_quotient_136 rfl (lv_at hl 1 rfl) ?_
                          refine lv_iload hx hb md_F_quotient_137 (lv_at hl 0 rfl) ?_
                          refine lv_lload_n hx hb md_F_quotient_139 rfl (lv_at hl 2 rfl) ?_
                          refine lv_lload_n hx hb md_F_quotient_140 rfl (lv_at hl 3 rfl) ?_
                          refine vp_callSl (W.runV (C := "NumberProbe$Format") (As := [.int (jb z_9), .long p0, .long p1]) (rest := []) ⟨hx, hb, hml, hown, hts⟩ (mt_F_finiteQuotient l ad k hk z_9 p0 p1 (jb_0.mp c_82)) (cwV 3 hts (gd_V tm_193 tm_195 tm_9 tm_27 tm_196) rfl rfl rfl (by decide +kernel) ⟨Nat.le_of_ble_eq_true rfl, Nat.le_of_ble_eq_true rfl⟩) ⟨fb_E, fw_recv hE hk hS, fun U hU hW => ⟨rfl, fw_use hE hS hU hW⟩⟩ rfl rfl hl.1 rfl (lv_room (Nat.le_of_ble_eq_true rfl)) md_F_quotient_141 ⟨Nat.zero_le _, Nat.zero_le _⟩) (fun r_91 e_92 => ?_)
                          exact W.lret (v := r_91) hx hb hr (fun t ht2 _ => ⟨r_91, rfl, trivial, ht2⟩) (fun q h => by cases h) md_F_quotient_144
                        · refine lv_aload_n hx hb md_F_quotient_128 rfl (lv_at hl 1 rfl) ?_
                          refine lv_iload hx hb md_F_quotient_129 (lv_at hl 0 rfl) ?_
                          refine lv_lconst (v := 0) hx hb md_F_quotient_131 (by decide) ?_
                          refine vp_callSl (W.runV (C := "NumberProbe$Format") (As := [.int (jb z_9), .long 0]) (rest := []) ⟨hx, hb, hml, hown, hts⟩ (mt_F_signed l ad k hk z_9 0) (cwV 2 hts (gd_V tm_75 tm_77 tm_0 tm_27 tm_79) rfl rfl rfl (by decide +kernel) ⟨Nat.le_of_ble_eq_true rfl, Nat.le_of_ble_eq_true rfl⟩) ⟨fb_E, fw_recv hE hk hS, fun U hU hW => ⟨rfl, fw_use hE hS hU hW⟩⟩ rfl rfl hl.1 rfl (lv_room (Nat.le_of_ble_eq_true rfl)) md_F_quotient_132 ⟨Nat.zero_le _, Nat.zero_le _⟩) (fun r_93 e_94 => ?_)
                          exact W.lret (v := r_93) hx hb hr (fun t ht2 _ => ⟨r_93, rfl, trivial, ht2⟩) (fun q h => by cases h) md_F_quotient_135
                    · refine lv_aload_n hx hb md_F_quotient_101 rfl (lv_at hl 1 rfl) ?_
                      refine lv_iload hx hb md_F_quotient_102 (lv_at hl 0 rfl) ?_
                      refine lv_aload_n hx hb md_F_quotient_104 rfl (lv_at hl 1 rfl) ?_
                      refine va_getX hx hb hE.2.2.2.2.2.1 hk hS hown (ht _ tm_549) (fun _ h9 => h9) md_F_quotient_105 ?_
                      refine vp_callSl (W.runV (C := "NumberProbe$Format") (As := [.int (jb z_9), .long (kf_i k)]) (rest := []) ⟨hx, hb, hml, hown, hts⟩ (mt_F_signed l ad k hk z_9 (kf_i k)) (cwV 2 hts (gd_V tm_75 tm_77 tm_0 tm_27 tm_79) rfl rfl rfl (by decide +kernel) ⟨Nat.le_of_ble_eq_true rfl, Nat.le_of_ble_eq_true rfl⟩) ⟨fb_E, fw_recv hE hk hS, fun U hU hW => ⟨rfl, fw_use hE hS hU hW⟩⟩ rfl rfl hl.1 rfl (lv_room (Nat.le_of_ble_eq_true rfl)) md_F_quotient_108 ⟨Nat.zero_le _, Nat.zero_le _⟩) (fun r_95 e_96 => ?_)
                      exact W.lret (v := r_95) hx hb hr (fun t ht2 _ => ⟨r_95, rfl, trivial, ht2⟩) (fun q h => by cases h) md_F_quotient_111
                · refine lv_aload_n hx hb md_F_quotient_72 rfl (lv_at hl 1 rfl) ?_
                  refine lv_lload_n hx hb md_F_quotient_73 rfl (lv_at hl 3 rfl) ?_
                  refine vp_callSi (W.runV (C := "NumberProbe$Format") (As := [.long p1]) (rest := []) ⟨hx, hb, hml, hown, hts⟩ (mt_F_isZero l ad k hk p1) (cwV 1 hts (gd_V tm_174 tm_176 tm_7 tm_27 tm_177) rfl rfl rfl (by decide +kernel) ⟨Nat.le_of_ble_eq_true rfl, Nat.le_of_ble_eq_true rfl⟩) ⟨fb_E, fw_recv hE hk hS, fun U hU hW => ⟨rfl, fw_use hE hS hU hW⟩⟩ rfl rfl hl.1 rfl (lv_room (Nat.le_of_ble_eq_true rfl)) md_F_quotient_74 ⟨Nat.zero_le _, Nat.zero_le _⟩) (fun r_97 e_98 => ?_)
                  obtain rfl : r_97 = jb (cf_zer k p1) := e_98
                  refine lv_if_eq (tgt := 85) hx hb md_F_quotient_77 (by decide) (fun c_99 => ?_) (fun c_99 => ?_)
                  · refine lv_aload_n hx hb md_F_quotient_85 rfl (lv_at hl 1 rfl) ?_
                    refine lv_lload_n hx hb md_F_quotient_86 rfl (lv_at hl 2 rfl) ?_
                    refine vp_callSi (W.runV (C := "NumberProbe$Format") (As := [.long p0]) (rest := []) ⟨hx, hb, hml, hown, hts⟩ (mt_F_isInfinite l ad k hk p0) (cwV 1 hts (gd_V tm_123 tm_125 tm_1 tm_27 tm_126) rfl rfl rfl (by decide +kernel) ⟨Nat.le_of_ble_eq_true rfl, Nat.le_of_ble_eq_true rfl⟩) ⟨fb_E, fw_recv hE hk hS, fun U hU hW => ⟨rfl, fw_use hE hS hU hW⟩⟩ rfl rfl hl.1 rfl (lv_room (Nat.le_of_ble_eq_true rfl)) md_F_quotient_87 ⟨Nat.zero_le _, Nat.zero_le _⟩) (fun r_100 e_101 => ?_)
                    obtain rfl : r_100 = jb (cf_inf k p0) := e_101
                    refine lv_if_ne (tgt := 101) hx hb md_F_quotient_90 (by decide) (fun c_102 => ?_) (fun c_102 => ?_)
                    · refine lv_aload_n hx hb md_F_quotient_101 rfl (lv_at hl 1 rfl) ?_
                      refine lv_iload hx hb md_F_quotient_102 (lv_at hl 0 rfl) ?_
                      refine lv_aload_n hx hb md_F_quotient_104 rfl (lv_at hl 1 rfl) ?_
                      refine va_getX hx hb hE.2.2.2.2.2.1 hk hS hown (ht _ tm_549) (fun _ h9 => h9) md_F_quotient_105 ?_
                      refine vp_callSl (W.runV (C := "NumberProbe$Format") (As := [.int (jb z_9), .long (kf_i k)]) (rest := []) ⟨hx, hb, hml, hown, hts⟩ (mt_F_signed l ad k hk z_9 (kf_i k)) (cwV 2 hts (gd_V tm_75 tm_77 tm_0 tm_27 tm_79) rfl rfl rfl (by decide +kernel) ⟨Nat.le_of_ble_eq_true rfl, Nat.le_of_ble_eq_true rfl⟩) ⟨fb_E, fw_recv hE hk hS, fun U hU hW => ⟨rfl, fw_use hE hS hU hW⟩⟩ rfl rfl hl.1 rfl (lv_room (Nat.le_of_ble_eq_true rfl)) md_F_quotient_108 ⟨Nat.zero_le _, Nat.zero_le _⟩) (fun r_103 e_104 => ?_)
                      exact W.lret (v := r_103) hx hb hr (fun t ht2 _ => ⟨r_103, rfl, trivial, ht2⟩) (fun q h => by cases h) md_F_quotient_111
                    · refine lv_aload_n hx hb md_F_quotient_93 rfl (lv_at hl 1 rfl) ?_
                      refine lv_lload_n hx hb md_F_quotient_94 rfl (lv_at hl 3 rfl) ?_
                      refine vp_callSi (W.runV (C := "NumberProbe$Format") (As := [.long p1]) (rest := []) ⟨hx, hb, hml, hown, hts⟩ (mt_F_isZero l ad k hk p1) (cwV 1 hts (gd_V tm_174 tm_176 tm_7 tm_27 tm_177) rfl rfl rfl (by decide +kernel) ⟨Nat.le_of_ble_eq_true rfl, Nat.le_of_ble_eq_true rfl⟩) ⟨fb_E, fw_recv hE hk hS, fun U hU hW => ⟨rfl, fw_use hE hS hU hW⟩⟩ rfl rfl hl.1 rfl (lv_room (Nat.le_of_ble_eq_true rfl)) md_F_quotient_95 ⟨Nat.zero_le _, Nat.zero_le _⟩) (fun r_105 e_106 => ?_)
                      obtain rfl : r_105 = jb (cf_zer k p1) := e_106
                      refine lv_if_eq (tgt := 112) hx hb md_F_quotient_98 (by decide) (fun c_107 => ?_) (fun c_107 => ?_)
                      · refine lv_aload_n hx hb md_F_quotient_112 rfl (lv_at hl 1 rfl) ?_
                        refine lv_lload_n hx hb md_F_quotient_113 rfl (lv_at hl 2 rfl) ?_
                        refine vp_callSi (W.runV (C := "NumberProbe$Format") (As := [.long p0]) (rest := []) ⟨hx, hb, hml, hown, hts⟩ (mt_F_isZero l ad k hk p0) (cwV 1 hts (gd_V tm_174 tm_176 tm_7 tm_27 tm_177) rfl rfl rfl (by decide +kernel) ⟨Nat.le_of_ble_eq_true rfl, Nat.le_of_ble_eq_true rfl⟩) ⟨fb_E, fw_recv hE hk hS, fun U hU hW => ⟨rfl, fw_use hE hS hU hW⟩⟩ rfl rfl hl.1 rfl (lv_room (Nat.le_of_ble_eq_true rfl)) md_F_quotient_114 ⟨Nat.zero_le _, Nat.zero_le _⟩) (fun r_108 e_109 => ?_)
                        obtain rfl : r_108 = jb (cf_zer k p0) := e_109
                        refine lv_if_ne (tgt := 128) hx hb md_F_quotient_117 (by decide) (fun c_110 => ?_) (fun c_110 => ?_)
                        · refine lv_aload_n hx hb md_F_quotient_128 rfl (lv_at hl 1 rfl) ?_
                          refine lv_iload hx hb md_F_quotient_129 (lv_at hl 0 rfl) ?_
                          refine lv_lconst (v := 0) hx hb md_F_quotient_131 (by decide) ?_
                          refine vp_callSl (W.runV (C := "NumberProbe$Format") (As := [.int (jb z_9), .long 0]) (rest := []) ⟨hx, hb, hml, hown, hts⟩ (mt_F_signed l ad k hk z_9 0) (cwV 2 hts (gd_V tm_75 tm_77 tm_0 tm_27 tm_79) rfl rfl rfl (by decide +kernel) ⟨Nat.le_of_ble_eq_true rfl, Nat.le_of_ble_eq_true rfl⟩) ⟨fb_E, fw_recv hE hk hS, fun U hU hW => ⟨rfl, fw_use hE hS hU hW⟩⟩ rfl rfl hl.1 rfl (lv_room (Nat.le_of_ble_eq_true rfl)) md_F_quotient_132 ⟨Nat.zero_le _, Nat.zero_le _⟩) (fun r_111 e_112 => ?_)
                          exact W.lret (v := r_111) hx hb hr (fun t ht2 _ => ⟨r_111, rfl, trivial, ht2⟩) (fun q h => by cases h) md_F_quotient_135
                        · refine lv_aload_n hx hb md_F_quotient_120 rfl (lv_at hl 1 rfl) ?_
                          refine lv_lload_n hx hb md_F_quotient_121 rfl (lv_at hl 3 rfl) ?_
                          refine vp_callSi (W.runV (C := "NumberProbe$Format") (As := [.long p1]) (rest := []) ⟨hx, hb, hml, hown, hts⟩ (mt_F_isInfinite l ad k hk p1) (cwV 1 hts (gd_V tm_123 tm_125 tm_1 tm_27 tm_126) rfl rfl rfl (by decide +kernel) ⟨Nat.le_of_ble_eq_true rfl, Nat.le_of_ble_eq_true rfl⟩) ⟨fb_E, fw_recv hE hk hS, fun U hU hW => ⟨rfl, fw_use hE hS hU hW⟩⟩ rfl rfl hl.1 rfl (lv_room (Nat.le_of_ble_eq_true rfl)) md_F_quotient_122 ⟨Nat.zero_le _, Nat.zero_le _⟩) (fun r_113 e_114 => ?_)
                          obtain rfl : r_113 = jb (cf_inf k p1) := e_114
                          refine lv_if_eq (tgt := 136) hx hb md_F_quotient_125 (by decide) (fun c_115 => ?_) (fun c_115 => ?_)
                          · refine lv_aload_n hx hb md_F_quotient_136 rfl (lv_at hl 1 rfl) ?_
                            refine lv_iload hx hb md_F_quotient_137 (lv_at hl 0 rfl) ?_
                            refine lv_lload_n hx hb md_F_quotient_139 rfl (lv_at hl 2 rfl) ?_
                            refine lv_lload_n hx hb md_F_quotient_140 rfl (lv_at hl 3 rfl) ?_
                            refine vp_callSl (W.runV (C := "NumberProbe$Format") (As := [.int (jb z_9), .long p0, .long p1]) (rest := []) ⟨hx, hb, hml, hown, hts⟩ (mt_F_finiteQuotient l ad k hk z_9 p0 p1 (jb_0.mp c_107)) (cwV 3 hts (gd_V tm_193 tm_195 tm_9 tm_27 tm_196) rfl rfl rfl (by decide +kernel) ⟨Nat.le_of_ble_eq_true rfl, Nat.le_of_ble_eq_true rfl⟩) ⟨fb_E, fw_recv hE hk hS, fun U hU hW => ⟨rfl, fw_use hE hS hU hW⟩⟩ rfl rfl hl.1 rfl (lv_room (Nat.le_of_ble_eq_true rfl)) md_F_quotient_141 ⟨Nat.zero_le _, Nat.zero_le _⟩) (fun r_116 e_117 => ?_)
                            exact W.lret (v := r_116) hx hb hr (fun t ht2 _ => ⟨r_116, rfl, trivial, ht2⟩) (fun q h => by cases h) md_F_quotient_144
                          · refine lv_aload_n hx hb md_F_quotient_128 rfl (lv_at hl 1 rfl) ?_
                            refine lv_iload hx hb md_F_quotient_129 (lv_at hl 0 rfl) ?_
                            refine lv_lconst (v := 0) hx hb md_F_quotient_131 (by decide) ?_
                            refine vp_callSl (W.runV (C := "NumberProbe$Format") (As := [.int (jb z_9), .long 0]) (rest := []) ⟨hx, hb, hml, hown, hts⟩ (mt_F_signed l ad k hk z_9 0) (cwV 2 hts (gd_V tm_75 tm_77 tm_0 tm_27 tm_79) rfl rfl rfl (by decide +kernel) ⟨Nat.le_of_ble_eq_true rfl, Nat.le_of_ble_eq_true rfl⟩) ⟨fb_E, fw_recv hE hk hS, fun U hU hW => ⟨rfl, fw_use hE hS hU hW⟩⟩ rfl rfl hl.1 rfl (lv_room (Nat.le_of_ble_eq_true rfl)) md_F_quotient_132 ⟨Nat.zero_le _, Nat.zero_le _⟩) (fun r_118 e_119 => ?_)
                            exact W.lret (v := r_118) hx hb hr (fun t ht2 _ => ⟨r_118, rfl, trivial, ht2⟩) (fun q h => by cases h) md_F_quotient_135
                      · refine lv_aload_n hx hb md_F_quotient_101 rfl (lv_at hl 1 rfl) ?_
                        refine lv_iload hx hb md_F_quotient_102 (lv_at hl 0 rfl) ?_
                        refine lv_aload_n hx hb md_F_quotient_104 rfl (lv_at hl 1 rfl) ?_
                        refine va_getX hx hb hE.2.2.2.2.2.1 hk hS hown (ht _ tm_549) (fun _ h9 => h9) md_F_quotient_105 ?_
                        refine vp_callSl (W.runV (C := "NumberProbe$Format") (As := [.int (jb z_9), .long (kf_i k)]) (rest := []) ⟨hx, hb, hml, hown, hts⟩ (mt_F_signed l ad k hk z_9 (kf_i k)) (cwV 2 hts (gd_V tm_75 tm_77 tm_0 tm_27 tm_79) rfl rfl rfl (by decide +kernel) ⟨Nat.le_of_ble_eq_true rfl, Nat.le_of_ble_eq_true rfl⟩) ⟨fb_E, fw_recv hE hk hS, fun U hU hW => ⟨rfl, fw_use hE hS hU hW⟩⟩ rfl rfl hl.1 rfl (lv_room (Nat.le_of_ble_eq_true rfl)) md_F_quotient_108 ⟨Nat.zero_le _, Nat.zero_le _⟩) (fun r_120 e_121 => ?_)
                        exact W.lret (v := r_120) hx hb hr (fun t ht2 _ => ⟨r_120, rfl, trivial, ht2⟩) (fun q h => by cases h) md_F_quotient_111
                  · refine lv_aload_n hx hb md_F_quotient_80 rfl (lv_at hl 1 rfl) ?_
                    refine va_getX hx hb hE.2.2.2.2.2.2.1 hk hS hown (ht _ tm_550) (fun _ h9 => h9) md_F_quotient_81 ?_
                    exact W.lret (v := kf_n k) hx hb hr (fun t ht2 _ => ⟨(kf_n k), rfl, trivial, ht2⟩) (fun q h => by cases h) md_F_quotient_84
      refine lv_icmp_eq (tgt := 29) hx hb md_F_quotient_22 (by decide) (fun c_7 => ?_) (fun c_7 => ?_)
      · refine lv_iconst (v := 0) hx hb md_F_quotient_29 (by decide) ?_
        exact J_8 false ls (lv_sub hl [0, 1, 2] rfl)
      · refine lv_iconst (v := 1) hx hb md_F_quotient_25 (by decide) ?_
        refine lv_goto (tgt := 30) hx hb md_F_quotient_26 (by decide) ?_
        exact J_8 true ls (lv_sub hl [0, 1, 2] rfl)
    refine lv_if_ge (tgt := 21) hx hb md_F_quotient_14 (by decide) (fun c_4 => ?_) (fun c_4 => ?_)
    · refine lv_iconst (v := 0) hx hb md_F_quotient_21 (by decide) ?_
      exact J_5 false ls (lv_sub hl [0, 1, 2] rfl)
    · refine lv_iconst (v := 1) hx hb md_F_quotient_17 (by decide) ?_
      refine lv_goto (tgt := 22) hx hb md_F_quotient_18 (by decide) ?_
      exact J_5 true ls (lv_sub hl [0, 1, 2] rfl)
  refine lv_if_ge (tgt := 10) hx hb md_F_quotient_3 (by decide) (fun c_1 => ?_) (fun c_1 => ?_)
  · refine lv_iconst (v := 0) hx hb md_F_quotient_10 (by decide) ?_
    exact J_2 false ls (lv_sub hl [0, 1, 2] rfl)
  · refine lv_iconst (v := 1) hx hb md_F_quotient_6 (by decide) ?_
    refine lv_goto (tgt := 11) hx hb md_F_quotient_7 (by decide) ?_
    exact J_2 true ls (lv_sub hl [0, 1, 2] rfl)
set_option maxHeartbeats 4000000 in
set_option maxRecDepth 100000 in
theorem mt_F_remainder (l : Launch) (ad : Nat → Nat) (k : Nat) (hk : k < 2) (p0 : Int64) (p1 : Int64) : Met l my_F_remainder mw_F_remainder ({ frames := 3, cells := 0, slots := 0, locals := 73 } : Room) (va_Pc [.ref (ad k), .long p0, .long p1] (fun U => FW ad (fun _ => False) U U.heap)) (vp_Sl (fun _ => True)) 0 0 (fun _ => False) := by
  refine Met.ofW (cc := mc_F_remainder) (maxL := 10) (ret := (some .long)) (by decide) rfl ?_
  intro p e s m args below meth c s₁ B hml hv
  obtain ⟨rfl, hE⟩ := hv
  have hx := B.exec
  have hb := B.bytes
  have hr := B.returns
  have hts := atoms_spec (ws := mw_F_remainder) B.pre
  have ht : ∀ w ∈ gw_tbl, w.before _ s = true := fun w h => hts w (List.mem_cons_of_mem _ h)
  have hown : s.vm.findClass "NumberProbe$Format" = some m.cls := findClass_of_methodNamed B.named
  have hlocks := B.notSynchronized
  have hS : va_S (fun _ => False) s.heap s.heap [] := va_S.rf
  have hl := lv_entry ([.ref (ad k), .long p0, .long p1]) (n := 10) (Nat.le_of_ble_eq_true rfl)
  rw [lg_entry_eq]
  generalize (lg_sl ([.ref (ad k), .long p0, .long p1]) ++ List.replicate (10 - (lg_sl ([.ref (ad k), .long p0, .long p1])).length) Slot.unset).toArray = ls at hl ⊢
  have hl : lv_has ls 10 [(0, .ref (ad k)), (1, .long p0), (3, .long p1)] := hl
  refine lv_aload_n hx hb md_F_remainder_0 rfl (lv_at hl 0 rfl) ?_
  refine lv_lload_n hx hb md_F_remainder_1 rfl (lv_at hl 1 rfl) ?_
  refine vp_callSi (W.runV (C := "NumberProbe$Format") (As := [.long p0]) (rest := []) ⟨hx, hb, hml, hown, hts⟩ (mt_F_isNaN l ad k hk p0) (cwV 1 hts (gd_V tm_67 tm_68 tm_69 tm_27 tm_70) rfl rfl rfl (by decide +kernel) ⟨Nat.le_of_ble_eq_true rfl, Nat.le_of_ble_eq_true rfl⟩) ⟨fb_E, fw_recv hE hk hS, fun U hU hW => ⟨rfl, fw_use hE hS hU hW⟩⟩ rfl rfl hl.1 rfl (lv_room (Nat.le_of_ble_eq_true rfl)) md_F_remainder_2 ⟨Nat.zero_le _, Nat.zero_le _⟩) (fun r_1 e_2 => ?_)
  obtain rfl : r_1 = jb (cf_nan k p0) := e_2
  refine lv_if_ne (tgt := 32) hx hb md_F_remainder_5 (by decide) (fun c_3 => ?_) (fun c_3 => ?_)
  · refine lv_aload_n hx hb md_F_remainder_32 rfl (lv_at hl 0 rfl) ?_
    refine va_getX hx hb hE.2.2.2.2.2.2.1 hk hS hown (ht _ tm_550) (fun _ h9 => h9) md_F_remainder_33 ?_
    exact W.lret (v := kf_n k) hx hb hr (fun t ht2 _ => ⟨(kf_n k), rfl, trivial, ht2⟩) (fun q h => by cases h) md_F_remainder_36
  · refine lv_aload_n hx hb md_F_remainder_8 rfl (lv_at hl 0 rfl) ?_
    refine lv_lload_n hx hb md_F_remainder_9 rfl (lv_at hl 2 rfl) ?_
    refine vp_callSi (W.runV (C := "NumberProbe$Format") (As := [.long p1]) (rest := []) ⟨hx, hb, hml, hown, hts⟩ (mt_F_isNaN l ad k hk p1) (cwV 1 hts (gd_V tm_67 tm_68 tm_69 tm_27 tm_70) rfl rfl rfl (by decide +kernel) ⟨Nat.le_of_ble_eq_true rfl, Nat.le_of_ble_eq_true rfl⟩) ⟨fb_E, fw_recv hE hk hS, fun U hU hW => ⟨rfl, fw_use hE hS hU hW⟩⟩ rfl rfl hl.1 rfl (lv_room (Nat.le_of_ble_eq_true rfl)) md_F_remainder_10 ⟨Nat.zero_le _, Nat.zero_le _⟩) (fun r_4 e_5 => ?_)
    obtain rfl : r_4 = jb (cf_nan k p1) := e_5
    refine lv_if_ne (tgt := 32) hx hb md_F_remainder_13 (by decide) (fun c_6 => ?_) (fun c_6 => ?_)
    · refine lv_aload_n hx hb md_F_remainder_32 rfl (lv_at hl 0 rfl) ?_
      refine va_getX hx hb hE.2.2.2.2.2.2.1 hk hS hown (ht _ tm_550) (fun _ h9 => h9) md_F_remainder_33 ?_
      exact W.lret (v := kf_n k) hx hb hr (fun t ht2 _ => ⟨(kf_n k), rfl, trivial, ht2⟩) (fun q h => by cases h) md_F_remainder_36
    · refine lv_aload_n hx hb md_F_remainder_16 rfl (lv_at hl 0 rfl) ?_
      refine lv_lload_n hx hb md_F_remainder_17 rfl (lv_at hl 1 rfl) ?_
      refine vp_callSi (W.runV (C := "NumberProbe$Format") (As := [.long p0]) (rest := []) ⟨hx, hb, hml, hown, hts⟩ (mt_F_isInfinite l ad k hk p0) (cwV 1 hts (gd_V tm_123 tm_125 tm_1 tm_27 tm_126) rfl rfl rfl (by decide +kernel) ⟨Nat.le_of_ble_eq_true rfl, Nat.le_of_ble_eq_true rfl⟩) ⟨fb_E, fw_recv hE hk hS, fun U hU hW => ⟨rfl, fw_use hE hS hU hW⟩⟩ rfl rfl hl.1 rfl (lv_room (Nat.le_of_ble_eq_true rfl)) md_F_remainder_18 ⟨Nat.zero_le _, Nat.zero_le _⟩) (fun r_7 e_8 => ?_)
      obtain rfl : r_7 = jb (cf_inf k p0) := e_8
      refine lv_if_ne (tgt := 32) hx hb md_F_remainder_21 (by decide) (fun c_9 => ?_) (fun c_9 => ?_)
      · refine lv_aload_n hx hb md_F_remainder_32 rfl (lv_at hl 0 rfl) ?_
        refine va_getX hx hb hE.2.2.2.2.2.2.1 hk hS hown (ht _ tm_550) (fun _ h9 => h9) md_F_remainder_33 ?_
        exact W.lret (v := kf_n k) hx hb hr (fun t ht2 _ => ⟨(kf_n k), rfl, trivial, ht2⟩) (fun q h => by cases h) md_F_remainder_36
      · refine lv_aload_n hx hb md_F_remainder_24 rfl (lv_at hl 0 rfl) ?_
        refine lv_lload_n hx hb md_F_remainder_25 rfl (lv_at hl 2 rfl) ?_
        refine vp_callSi (W.runV (C := "NumberProbe$Format") (As := [.long p1]) (rest := []) ⟨hx, hb, hml, hown, hts⟩ (mt_F_isZero l ad k hk p1) (cwV 1 hts (gd_V tm_174 tm_176 tm_7 tm_27 tm_177) rfl rfl rfl (by decide +kernel) ⟨Nat.le_of_ble_eq_true rfl, Nat.le_of_ble_eq_true rfl⟩) ⟨fb_E, fw_recv hE hk hS, fun U hU hW => ⟨rfl, fw_use hE hS hU hW⟩⟩ rfl rfl hl.1 rfl (lv_room (Nat.le_of_ble_eq_true rfl)) md_F_remainder_26 ⟨Nat.zero_le _, Nat.zero_le _⟩) (fun r_10 e_11 => ?_)
        obtain rfl : r_10 = jb (cf_zer k p1) := e_11
        refine lv_if_eq (tgt := 37) hx hb md_F_remainder_29 (by decide) (fun c_12 => ?_) (fun c_12 => ?_)
        · refine lv_aload_n hx hb md_F_remainder_37 rfl (lv_at hl 0 rfl) ?_
          refine lv_lload_n hx hb md_F_remainder_38 rfl (lv_at hl 1 rfl) ?_
          refine vp_callSl (W.runV (C := "NumberProbe$Format") (As := [.long p0]) (rest := []) ⟨hx, hb, hml, hown, hts⟩ (mt_F_magnitude l ad k hk p0) (cwV 1 hts (gd_V tm_71 tm_72 tm_73 tm_27 tm_74) rfl rfl rfl (by decide +kernel) ⟨Nat.le_of_ble_eq_true rfl, Nat.le_of_ble_eq_true rfl⟩) ⟨fb_E, fw_recv hE hk hS, fun U hU hW => ⟨rfl, fw_use hE hS hU hW⟩⟩ rfl rfl hl.1 rfl (lv_room (Nat.le_of_ble_eq_true rfl)) md_F_remainder_39 ⟨Nat.zero_le _, Nat.zero_le _⟩) (fun r_13 e_14 => ?_)
          obtain rfl : r_13 = cf_mag k p0 := e_14
          refine lv_aload_n hx hb md_F_remainder_42 rfl (lv_at hl 0 rfl) ?_
          refine lv_lload_n hx hb md_F_remainder_43 rfl (lv_at hl 2 rfl) ?_
          refine vp_callSl (W.runV (C := "NumberProbe$Format") (As := [.long p1]) (rest := [.long (cf_mag k p0)]) ⟨hx, hb, hml, hown, hts⟩ (mt_F_magnitude l ad k hk p1) (cwV 1 hts (gd_V tm_71 tm_72 tm_73 tm_27 tm_74) rfl rfl rfl (by decide +kernel) ⟨Nat.le_of_ble_eq_true rfl, Nat.le_of_ble_eq_true rfl⟩) ⟨fb_E, fw_recv hE hk hS, fun U hU hW => ⟨rfl, fw_use hE hS hU hW⟩⟩ rfl rfl hl.1 rfl (lv_room (Nat.le_of_ble_eq_true rfl)) md_F_remainder_44 ⟨Nat.zero_le _, Nat.zero_le _⟩) (fun r_15 e_16 => ?_)
          obtain rfl : r_15 = cf_mag k p1 := e_16
          refine W.lcmp hx hb md_F_remainder_47 ?_
          refine lv_if_ge (tgt := 53) hx hb md_F_remainder_48 (by decide) (fun c_17 => ?_) (fun c_17 => ?_)
          · refine lv_aload_n hx hb md_F_remainder_53 rfl (lv_at hl 0 rfl) ?_
            refine lv_lload_n hx hb md_F_remainder_54 rfl (lv_at hl 2 rfl) ?_
            refine vp_callSl (W.runV (C := "NumberProbe$Format") (As := [.long p1]) (rest := []) ⟨hx, hb, hml, hown, hts⟩ (mt_F_significandOf l ad k hk p1) (cwV 1 hts (gd_V tm_142 tm_144 tm_5 tm_27 tm_145) rfl rfl rfl (by decide +kernel) ⟨Nat.le_of_ble_eq_true rfl, Nat.le_of_ble_eq_true rfl⟩) ⟨fb_E, fw_recv hE hk hS, fun U hU hW => ⟨rfl, fw_use hE hS hU hW⟩⟩ rfl rfl hl.1 rfl (lv_room (Nat.le_of_ble_eq_true rfl)) md_F_remainder_55 ⟨Nat.zero_le _, Nat.zero_le _⟩) (fun r_18 e_19 => ?_)
            obtain rfl : r_18 = cf_sig k p1 := e_19
            refine lv_lstore (lv' := [(5, .long (cf_sig k p1)), (0, .ref (ad k)), (1, .long p0), (3, .long p1)]) hx hb md_F_remainder_58 hl (by decide) rfl (fun ls hl => ?_)
            refine lv_aload_n hx hb md_F_remainder_60 rfl (lv_at hl 1 rfl) ?_
            refine lv_lload_n hx hb md_F_remainder_61 rfl (lv_at hl 2 rfl) ?_
            refine vp_callSl (W.runV (C := "NumberProbe$Format") (As := [.long p0]) (rest := []) ⟨hx, hb, hml, hown, hts⟩ (mt_F_significandOf l ad k hk p0) (cwV 1 hts (gd_V tm_142 tm_144 tm_5 tm_27 tm_145) rfl rfl rfl (by decide +kernel) ⟨Nat.le_of_ble_eq_true rfl, Nat.le_of_ble_eq_true rfl⟩) ⟨fb_E, fw_recv hE hk hS, fun U hU hW => ⟨rfl, fw_use hE hS hU hW⟩⟩ rfl rfl hl.1 rfl (lv_room (Nat.le_of_ble_eq_true rfl)) md_F_remainder_62 ⟨Nat.zero_le _, Nat.zero_le _⟩) (fun r_20 e_21 => ?_)
            obtain rfl : r_20 = cf_sig k p0 := e_21
            refine lv_lload hx hb md_F_remainder_65 (lv_at hl 0 rfl) ?_
            refine lv_lrem hx hb md_F_remainder_67 (fa_sig0 hk (jb_0.mp c_12)) ?_
            refine lv_lstore (lv' := [(7, .long ((cf_sig k p0) - (cf_sig k p0) / (cf_sig k p1) * (cf_sig k p1))), (5, .long (cf_sig k p1)), (0, .ref (ad k)), (1, .long p0), (3, .long p1)]) hx hb md_F_remainder_68 hl (by decide) rfl (fun ls hl => ?_)
            refine lv_aload_n hx hb md_F_remainder_70 rfl (lv_at hl 2 rfl) ?_
            refine lv_lload_n hx hb md_F_remainder_71 rfl (lv_at hl 3 rfl) ?_
            refine vp_callSi (W.runV (C := "NumberProbe$Format") (As := [.long p0]) (rest := []) ⟨hx, hb, hml, hown, hts⟩ (mt_F_exponentOf l ad k hk p0) (cwV 1 hts (gd_V tm_131 tm_133 tm_3 tm_27 tm_134) rfl rfl rfl (by decide +kernel) ⟨Nat.le_of_ble_eq_true rfl, Nat.le_of_ble_eq_true rfl⟩) ⟨fb_E, fw_recv hE hk hS, fun U hU hW => ⟨rfl, fw_use hE hS hU hW⟩⟩ rfl rfl hl.1 rfl (lv_room (Nat.le_of_ble_eq_true rfl)) md_F_remainder_72 ⟨Nat.zero_le _, Nat.zero_le _⟩) (fun r_22 e_23 => ?_)
            obtain rfl : r_22 = cf_exp k p0 := e_23
            refine lv_aload_n hx hb md_F_remainder_75 rfl (lv_at hl 2 rfl) ?_
            refine lv_lload_n hx hb md_F_remainder_76 rfl (lv_at hl 4 rfl) ?_
            refine vp_callSi (W.runV (C := "NumberProbe$Format") (As := [.long p1]) (rest := [.int (cf_exp k p0)]) ⟨hx, hb, hml, hown, hts⟩ (mt_F_exponentOf l ad k hk p1) (cwV 1 hts (gd_V tm_131 tm_133 tm_3 tm_27 tm_134) rfl rfl rfl (by decide +kernel) ⟨Nat.le_of_ble_eq_true rfl, Nat.le_of_ble_eq_true rfl⟩) ⟨fb_E, fw_recv hE hk hS, fun U hU hW => ⟨rfl, fw_use hE hS hU hW⟩⟩ rfl rfl hl.1 rfl (lv_room (Nat.le_of_ble_eq_true rfl)) md_F_remainder_77 ⟨Nat.zero_le _, Nat.zero_le _⟩) (fun r_24 e_25 => ?_)
            obtain rfl : r_24 = cf_exp k p1 := e_25
            refine lv_isub hx hb md_F_remainder_80 ?_
            refine lv_istore (lv' := [(9, .int ((cf_exp k p0) - (cf_exp k p1))), (7, .long ((cf_sig k p0) - (cf_sig k p0) / (cf_sig k p1) * (cf_sig k p1))), (5, .long (cf_sig k p1)), (0, .ref (ad k)), (1, .long p0), (3, .long p1)]) hx hb md_F_remainder_81 hl (by decide) rfl (fun ls hl => ?_)
            have L_26 : ∀ (n : Nat) (z_27 : Int32) (z_28 : Int64) (ls : Array Slot), z_27.toInt.toNat ≤ n → lv_has ls 10 [(9, .int z_27), (7, .long z_28), (5, .long (cf_sig k p1)), (0, .ref (ad k)), (1, .long p0), (3, .long p1)] → WP p l e mw_F_remainder ({ frames := 3, cells := 0, slots := 0, locals := 73 } : Room) s m [.ref (ad k), .long p0, .long p1] below meth c (vp_Sl (fun _ => True)) (F0 m 83 ls []) := by
              intro n
              induction n with
              | zero =>
                intro z_27 z_28 ls hn hl
                refine lv_iload hx hb md_F_remainder_83 (lv_at hl 0 rfl) ?_
                refine lv_if_le (tgt := 109) hx hb md_F_remainder_85 (by decide) (fun c_29 => ?_) (fun c_29 => ?_)
                · refine lv_aload_n hx hb md_F_remainder_109 rfl (lv_at hl 3 rfl) ?_
                  refine lv_lload_n hx hb md_F_remainder_110 rfl (lv_at hl 4 rfl) ?_
                  refine lv_lconst (v := 0) hx hb md_F_remainder_111 (by decide) ?_
                  refine W.lcmp hx hb md_F_remainder_112 ?_
                  have J_31 : ∀ (z_32 : Bool) (ls : Array Slot), lv_has ls 10 [(9, .int z_27), (7, .long z_28), (5, .long (cf_sig k p1)), (0, .ref (ad k)), (1, .long p0), (3, .long p1)] → WP p l e mw_F_remainder ({ frames := 3, cells := 0, slots := 0, locals := 73 } : Room) s m [.ref (ad k), .long p0, .long p1] below meth c (vp_Sl (fun _ => True)) (F0 m 121 ls [.int (jb z_32), .ref (ad k)]) := by
                    intro z_32 ls hl
                    refine lv_lload hx hb md_F_remainder_121 (lv_at hl 1 rfl) ?_
                    refine lv_aload_n hx hb md_F_remainder_123 rfl (lv_at hl 3 rfl) ?_
                    refine lv_lload_n hx hb md_F_remainder_124 rfl (lv_at hl 5 rfl) ?_
                    refine vp_callSi (W.runV (C := "NumberProbe$Format") (As := [.long p1]) (rest := [.long z_28, .int (jb z_32), .ref (ad k)]) ⟨hx, hb, hml, hown, hts⟩ (mt_F_exponentOf l ad k hk p1) (cwV 1 hts (gd_V tm_131 tm_133 tm_3 tm_27 tm_134) rfl rfl rfl (by decide +kernel) ⟨Nat.le_of_ble_eq_true rfl, Nat.le_of_ble_eq_true rfl⟩) ⟨fb_E, fw_recv hE hk hS, fun U hU hW => ⟨rfl, fw_use hE hS hU hW⟩⟩ rfl rfl hl.1 rfl (lv_room (Nat.le_of_ble_eq_true rfl)) md_F_remainder_125 ⟨Nat.zero_le _, Nat.zero_le _⟩) (fun r_33 e_34 => ?_)
                    obtain rfl : r_33 = cf_exp k p1 := e_34
                    refine vp_callSl (W.runV (C := "NumberProbe$Format") (As := [.int (jb z_32), .long z_28, .int (cf_exp k p1)]) (rest := []) ⟨hx, hb, hml, hown, hts⟩ (mt_F_rounded l ad k hk z_32 z_28 (cf_exp k p1)) (cwV 3 hts (gd_V tm_152 tm_154 tm_6 tm_27 tm_155) rfl rfl rfl (by decide +kernel) ⟨Nat.le_of_ble_eq_true rfl, Nat.le_of_ble_eq_true rfl⟩) ⟨fb_E, fw_recv hE hk hS, fun U hU hW => ⟨rfl, fw_use hE hS hU hW⟩⟩ rfl rfl hl.1 rfl (lv_room (Nat.le_of_ble_eq_true rfl)) md_F_remainder_128 ⟨Nat.zero_le _, Nat.zero_le _⟩) (fun r_35 e_36 => ?_)
                    exact W.lret (v := r_35) hx hb hr (fun t ht2 _ => ⟨r_35, rfl, trivial, ht2⟩) (fun q h => by cases h) md_F_remainder_131
                  refine lv_if_ge (tgt := 120) hx hb md_F_remainder_113 (by decide) (fun c_30 => ?_) (fun c_30 => ?_)
                  · refine lv_iconst (v := 0) hx hb md_F_remainder_120 (by decide) ?_
                    exact J_31 false ls (lv_sub hl [0, 1, 2, 3, 4, 5] rfl)
                  · refine lv_iconst (v := 1) hx hb md_F_remainder_116 (by decide) ?_
                    refine lv_goto (tgt := 121) hx hb md_F_remainder_117 (by decide) ?_
                    exact J_31 true ls (lv_sub hl [0, 1, 2, 3, 4, 5] rfl)
                · exact (ld_0 (Int32.not_le.mp c_29) hn).elim
              | succ n ih =>
                intro z_27 z_28 ls hn hl
                refine lv_iload hx hb md_F_remainder_83 (lv_at hl 0 rfl) ?_
                refine lv_if_le (tgt := 109) hx hb md_F_remainder_85 (by decide) (fun c_37 => ?_) (fun c_37 => ?_)
                · refine lv_aload_n hx hb md_F_remainder_109 rfl (lv_at hl 3 rfl) ?_
                  refine lv_lload_n hx hb md_F_remainder_110 rfl (lv_at hl 4 rfl) ?_
                  refine lv_lconst (v := 0) hx hb md_F_remainder_111 (by decide) ?_
                  refine W.lcmp hx hb md_F_remainder_112 ?_
                  have J_39 : ∀ (z_40 : Bool) (ls : Array Slot), lv_has ls 10 [(9, .int z_27), (7, .long z_28), (5, .long (cf_sig k p1)), (0, .ref (ad k)), (1, .long p0), (3, .long p1)] → WP p l e mw_F_remainder ({ frames := 3, cells := 0, slots := 0, locals := 73 } : Room) s m [.ref (ad k), .long p0, .long p1] below meth c (vp_Sl (fun _ => True)) (F0 m 121 ls [.int (jb z_40), .ref (ad k)]) := by
                    intro z_40 ls hl
                    refine lv_lload hx hb md_F_remainder_121 (lv_at hl 1 rfl) ?_
                    refine lv_aload_n hx hb md_F_remainder_123 rfl (lv_at hl 3 rfl) ?_
                    refine lv_lload_n hx hb md_F_remainder_124 rfl (lv_at hl 5 rfl) ?_
                    refine vp_callSi (W.runV (C := "NumberProbe$Format") (As := [.long p1]) (rest := [.long z_28, .int (jb z_40), .ref (ad k)]) ⟨hx, hb, hml, hown, hts⟩ (mt_F_exponentOf l ad k hk p1) (cwV 1 hts (gd_V tm_131 tm_133 tm_3 tm_27 tm_134) rfl rfl rfl (by decide +kernel) ⟨Nat.le_of_ble_eq_true rfl, Nat.le_of_ble_eq_true rfl⟩) ⟨fb_E, fw_recv hE hk hS, fun U hU hW => ⟨rfl, fw_use hE hS hU hW⟩⟩ rfl rfl hl.1 rfl (lv_room (Nat.le_of_ble_eq_true rfl)) md_F_remainder_125 ⟨Nat.zero_le _, Nat.zero_le _⟩) (fun r_41 e_42 => ?_)
                    obtain rfl : r_41 = cf_exp k p1 := e_42
                    refine vp_callSl (W.runV (C := "NumberProbe$Format") (As := [.int (jb z_40), .long z_28, .int (cf_exp k p1)]) (rest := []) ⟨hx, hb, hml, hown, hts⟩ (mt_F_rounded l ad k hk z_40 z_28 (cf_exp k p1)) (cwV 3 hts (gd_V tm_152 tm_154 tm_6 tm_27 tm_155) rfl rfl rfl (by decide +kernel) ⟨Nat.le_of_ble_eq_true rfl, Nat.le_of_ble_eq_true rfl⟩) ⟨fb_E, fw_recv hE hk hS, fun U hU hW => ⟨rfl, fw_use hE hS hU hW⟩⟩ rfl rfl hl.1 rfl (lv_room (Nat.le_of_ble_eq_true rfl)) md_F_remainder_128 ⟨Nat.zero_le _, Nat.zero_le _⟩) (fun r_43 e_44 => ?_)
                    exact W.lret (v := r_43) hx hb hr (fun t ht2 _ => ⟨r_43, rfl, trivial, ht2⟩) (fun q h => by cases h) md_F_remainder_131
                  refine lv_if_ge (tgt := 120) hx hb md_F_remainder_113 (by decide) (fun c_38 => ?_) (fun c_38 => ?_)
                  · refine lv_iconst (v := 0) hx hb md_F_remainder_120 (by decide) ?_
                    exact J_39 false ls (lv_sub hl [0, 1, 2, 3, 4, 5] rfl)
                  · refine lv_iconst (v := 1) hx hb md_F_remainder_116 (by decide) ?_
                    refine lv_goto (tgt := 121) hx hb md_F_remainder_117 (by decide) ?_
                    exact J_39 true ls (lv_sub hl [0, 1, 2, 3, 4, 5] rfl)
                · refine lv_lload hx hb md_F_remainder_88 (lv_at hl 1 rfl) ?_
                  refine lv_iload hx hb md_F_remainder_90 (lv_at hl 0 rfl) ?_
                  refine lv_bipush (v := 10) hx hb md_F_remainder_92 (by decide) ?_
                  refine va_mmin hx hb (by rw [hml]; exact hl.1.symm) hown (ht _ tm_201) (ht _ tm_202) (ht _ tm_28) (ht _ tm_203) (Nat.le_of_ble_eq_true rfl) (Nat.le_of_ble_eq_true rfl) (Nat.zero_le _) (Nat.zero_le _) md_F_remainder_94 ?_
                  refine lv_lshl (v := jl_shl z_28 (if 10 < z_27 then 10 else z_27)) hx hb md_F_remainder_97 rfl ?_
                  refine lv_lload hx hb md_F_remainder_98 (lv_at hl 2 rfl) ?_
                  refine lv_lrem hx hb md_F_remainder_100 (fa_sig0 hk (jb_0.mp c_12)) ?_
                  refine lv_lstore (lv' := [(7, .long ((jl_shl z_28 (if 10 < z_27 then 10 else z_27)) - (jl_shl z_28 (if 10 < z_27 then 10 else z_27)) / (cf_sig k p1) * (cf_sig k p1))), (9, .int z_27), (5, .long (cf_sig k p1)), (0, .ref (ad k)), (1, .long p0), (3, .long p1)]) hx hb md_F_remainder_101 hl (by decide) rfl (fun ls hl => ?_)
                  refine lv_iinc (v := z_27 + (-10)) (lv' := [(9, .int (z_27 + (-10))), (7, .long ((jl_shl z_28 (if 10 < z_27 then 10 else z_27)) - (jl_shl z_28 (if 10 < z_27 then 10 else z_27)) / (cf_sig k p1) * (cf_sig k p1))), (5, .long (cf_sig k p1)), (0, .ref (ad k)), (1, .long p0), (3, .long p1)]) hx hb md_F_remainder_103 hl (k := 1) rfl rfl (by decide) rfl (fun ls hl => ?_)
                  refine lv_goto (tgt := 83) hx hb md_F_remainder_106 (by decide) ?_
                  exact ih (z_27 + (-10)) ((jl_shl z_28 (if 10 < z_27 then 10 else z_27)) - (jl_shl z_28 (if 10 < z_27 then 10 else z_27)) / (cf_sig k p1) * (cf_sig k p1)) ls (ld_s (Int32.not_le.mp c_37) hn) (lv_sub hl [0, 1, 2, 3, 4, 5] rfl)
            exact L_26 _ ((cf_exp k p0) - (cf_exp k p1)) ((cf_sig k p0) - (cf_sig k p0) / (cf_sig k p1) * (cf_sig k p1)) ls (Nat.le_refl _) (lv_sub hl [0, 1, 2, 3, 4, 5] rfl)
          · refine lv_lload_n hx hb md_F_remainder_51 rfl (lv_at hl 1 rfl) ?_
            exact W.lret (v := p0) hx hb hr (fun t ht2 _ => ⟨p0, rfl, trivial, ht2⟩) (fun q h => by cases h) md_F_remainder_52
        · refine lv_aload_n hx hb md_F_remainder_32 rfl (lv_at hl 0 rfl) ?_
          refine va_getX hx hb hE.2.2.2.2.2.2.1 hk hS hown (ht _ tm_550) (fun _ h9 => h9) md_F_remainder_33 ?_
          exact W.lret (v := kf_n k) hx hb hr (fun t ht2 _ => ⟨(kf_n k), rfl, trivial, ht2⟩) (fun q h => by cases h) md_F_remainder_36
set_option maxHeartbeats 4000000 in
set_option maxRecDepth 100000 in
theorem mt_F_nearestTo (l : Launch) (ad : Nat → Nat) (k : Nat) (hk : k < 2) (p0 : Nat) (hp0 : p0 < 2) (p1 : Int64) : Met l my_F_nearestTo mw_F_nearestTo ({ frames := 3, cells := 0, slots := 0, locals := 73 } : Room) (va_Pc [.ref (ad k), .ref (ad p0), .long p1] (fun U => FW ad (fun _ => False) U U.heap)) (vp_Sl (fun _ => True)) 0 0 (fun _ => False) := by
  refine Met.ofW (cc := mc_F_nearestTo) (maxL := 4) (ret := (some .long)) (by decide) rfl ?_
  intro p e s m args below meth c s₁ B hml hv
  obtain ⟨rfl, hE⟩ := hv
  have hx := B.exec
  have hb := B.bytes
  have hr := B.returns
  have hts := atoms_spec (ws := mw_F_nearestTo) B.pre
  have ht : ∀ w ∈ gw_tbl, w.before _ s = true := fun w h => hts w (List.mem_cons_of_mem _ h)
  have hown : s.vm.findClass "NumberProbe$Format" = some m.cls := findClass_of_methodNamed B.named
  have hlocks := B.notSynchronized
  have hS : va_S (fun _ => False) s.heap s.heap [] := va_S.rf
  have hl := lv_entry ([.ref (ad k), .ref (ad p0), .long p1]) (n := 4) (Nat.le_of_ble_eq_true rfl)
  rw [lg_entry_eq]
  generalize (lg_sl ([.ref (ad k), .ref (ad p0), .long p1]) ++ List.replicate (4 - (lg_sl ([.ref (ad k), .ref (ad p0), .long p1])).length) Slot.unset).toArray = ls at hl ⊢
  have hl : lv_has ls 4 [(0, .ref (ad k)), (1, .ref (ad p0)), (2, .long p1)] := hl
  refine lv_aload_n hx hb md_F_nearestTo_0 rfl (lv_at hl 1 rfl) ?_
  refine lv_lload_n hx hb md_F_nearestTo_1 rfl (lv_at hl 2 rfl) ?_
  refine vp_callSi (W.runV (C := "NumberProbe$Format") (As := [.long p1]) (rest := []) ⟨hx, hb, hml, hown, hts⟩ (mt_F_isNaN l ad p0 hp0 p1) (cwV 1 hts (gd_V tm_67 tm_68 tm_69 tm_27 tm_70) rfl rfl rfl (by decide +kernel) ⟨Nat.le_of_ble_eq_true rfl, Nat.le_of_ble_eq_true rfl⟩) ⟨fb_E, fw_recv hE hp0 hS, fun U hU hW => ⟨rfl, fw_use hE hS hU hW⟩⟩ rfl rfl hl.1 rfl (lv_room (Nat.le_of_ble_eq_true rfl)) md_F_nearestTo_2 ⟨Nat.zero_le _, Nat.zero_le _⟩) (fun r_1 e_2 => ?_)
  obtain rfl : r_1 = jb (cf_nan p0 p1) := e_2
  refine lv_if_eq (tgt := 13) hx hb md_F_nearestTo_5 (by decide) (fun c_3 => ?_) (fun c_3 => ?_)
  · refine lv_aload_n hx hb md_F_nearestTo_13 rfl (lv_at hl 1 rfl) ?_
    refine lv_lload_n hx hb md_F_nearestTo_14 rfl (lv_at hl 2 rfl) ?_
    refine vp_callSi (W.runV (C := "NumberProbe$Format") (As := [.long p1]) (rest := []) ⟨hx, hb, hml, hown, hts⟩ (mt_F_isInfinite l ad p0 hp0 p1) (cwV 1 hts (gd_V tm_123 tm_125 tm_1 tm_27 tm_126) rfl rfl rfl (by decide +kernel) ⟨Nat.le_of_ble_eq_true rfl, Nat.le_of_ble_eq_true rfl⟩) ⟨fb_E, fw_recv hE hp0 hS, fun U hU hW => ⟨rfl, fw_use hE hS hU hW⟩⟩ rfl rfl hl.1 rfl (lv_room (Nat.le_of_ble_eq_true rfl)) md_F_nearestTo_15 ⟨Nat.zero_le _, Nat.zero_le _⟩) (fun r_4 e_5 => ?_)
    obtain rfl : r_4 = jb (cf_inf p0 p1) := e_5
    refine lv_if_eq (tgt := 41) hx hb md_F_nearestTo_18 (by decide) (fun c_6 => ?_) (fun c_6 => ?_)
    · refine lv_aload_n hx hb md_F_nearestTo_41 rfl (lv_at hl 0 rfl) ?_
      refine lv_lload_n hx hb md_F_nearestTo_42 rfl (lv_at hl 2 rfl) ?_
      refine lv_lconst (v := 0) hx hb md_F_nearestTo_43 (by decide) ?_
      refine W.lcmp hx hb md_F_nearestTo_44 ?_
      have J_8 : ∀ (z_9 : Bool) (ls : Array Slot), lv_has ls 4 [(0, .ref (ad k)), (1, .ref (ad p0)), (2, .long p1)] → WP p l e mw_F_nearestTo ({ frames := 3, cells := 0, slots := 0, locals := 73 } : Room) s m [.ref (ad k), .ref (ad p0), .long p1] below meth c (vp_Sl (fun _ => True)) (F0 m 53 ls [.int (jb z_9), .ref (ad k)]) := by
        intro z_9 ls hl
        refine lv_aload_n hx hb md_F_nearestTo_53 rfl (lv_at hl 1 rfl) ?_
        refine lv_lload_n hx hb md_F_nearestTo_54 rfl (lv_at hl 2 rfl) ?_
        refine vp_callSl (W.runV (C := "NumberProbe$Format") (As := [.long p1]) (rest := [.int (jb z_9), .ref (ad k)]) ⟨hx, hb, hml, hown, hts⟩ (mt_F_significandOf l ad p0 hp0 p1) (cwV 1 hts (gd_V tm_142 tm_144 tm_5 tm_27 tm_145) rfl rfl rfl (by decide +kernel) ⟨Nat.le_of_ble_eq_true rfl, Nat.le_of_ble_eq_true rfl⟩) ⟨fb_E, fw_recv hE hp0 hS, fun U hU hW => ⟨rfl, fw_use hE hS hU hW⟩⟩ rfl rfl hl.1 rfl (lv_room (Nat.le_of_ble_eq_true rfl)) md_F_nearestTo_55 ⟨Nat.zero_le _, Nat.zero_le _⟩) (fun r_10 e_11 => ?_)
        obtain rfl : r_10 = cf_sig p0 p1 := e_11
        refine lv_aload_n hx hb md_F_nearestTo_58 rfl (lv_at hl 1 rfl) ?_
        refine lv_lload_n hx hb md_F_nearestTo_59 rfl (lv_at hl 2 rfl) ?_
        refine vp_callSi (W.runV (C := "NumberProbe$Format") (As := [.long p1]) (rest := [.long (cf_sig p0 p1), .int (jb z_9), .ref (ad k)]) ⟨hx, hb, hml, hown, hts⟩ (mt_F_exponentOf l ad p0 hp0 p1) (cwV 1 hts (gd_V tm_131 tm_133 tm_3 tm_27 tm_134) rfl rfl rfl (by decide +kernel) ⟨Nat.le_of_ble_eq_true rfl, Nat.le_of_ble_eq_true rfl⟩) ⟨fb_E, fw_recv hE hp0 hS, fun U hU hW => ⟨rfl, fw_use hE hS hU hW⟩⟩ rfl rfl hl.1 rfl (lv_room (Nat.le_of_ble_eq_true rfl)) md_F_nearestTo_60 ⟨Nat.zero_le _, Nat.zero_le _⟩) (fun r_12 e_13 => ?_)
        obtain rfl : r_12 = cf_exp p0 p1 := e_13
        refine vp_callSl (W.runV (C := "NumberProbe$Format") (As := [.int (jb z_9), .long (cf_sig p0 p1), .int (cf_exp p0 p1)]) (rest := []) ⟨hx, hb, hml, hown, hts⟩ (mt_F_rounded l ad k hk z_9 (cf_sig p0 p1) (cf_exp p0 p1)) (cwV 3 hts (gd_V tm_152 tm_154 tm_6 tm_27 tm_155) rfl rfl rfl (by decide +kernel) ⟨Nat.le_of_ble_eq_true rfl, Nat.le_of_ble_eq_true rfl⟩) ⟨fb_E, fw_recv hE hk hS, fun U hU hW => ⟨rfl, fw_use hE hS hU hW⟩⟩ rfl rfl hl.1 rfl (lv_room (Nat.le_of_ble_eq_true rfl)) md_F_nearestTo_63 ⟨Nat.zero_le _, Nat.zero_le _⟩) (fun r_14 e_15 => ?_)
        exact W.lret (v := r_14) hx hb hr (fun t ht2 _ => ⟨r_14, rfl, trivial, ht2⟩) (fun q h => by cases h) md_F_nearestTo_66
      refine lv_if_ge (tgt := 52) hx hb md_F_nearestTo_45 (by decide) (fun c_7 => ?_) (fun c_7 => ?_)
      · refine lv_iconst (v := 0) hx hb md_F_nearestTo_52 (by decide) ?_
        exact J_8 false ls (lv_sub hl [0, 1, 2] rfl)
      · refine lv_iconst (v := 1) hx hb md_F_nearestTo_48 (by decide) ?_
        refine lv_goto (tgt := 53) hx hb md_F_nearestTo_49 (by decide) ?_
        exact J_8 true ls (lv_sub hl [0, 1, 2] rfl)
    · refine lv_aload_n hx hb md_F_nearestTo_21 rfl (lv_at hl 0 rfl) ?_
      refine lv_lload_n hx hb md_F_nearestTo_22 rfl (lv_at hl 2 rfl) ?_
      refine lv_lconst (v := 0) hx hb md_F_nearestTo_23 (by decide) ?_
      refine W.lcmp hx hb md_F_nearestTo_24 ?_
      have J_17 : ∀ (z_18 : Bool) (ls : Array Slot), lv_has ls 4 [(0, .ref (ad k)), (1, .ref (ad p0)), (2, .long p1)] → WP p l e mw_F_nearestTo ({ frames := 3, cells := 0, slots := 0, locals := 73 } : Room) s m [.ref (ad k), .ref (ad p0), .long p1] below meth c (vp_Sl (fun _ => True)) (F0 m 33 ls [.int (jb z_18), .ref (ad k)]) := by
        intro z_18 ls hl
        refine lv_aload_n hx hb md_F_nearestTo_33 rfl (lv_at hl 0 rfl) ?_
        refine va_getX hx hb hE.2.2.2.2.2.1 hk hS hown (ht _ tm_549) (fun _ h9 => h9) md_F_nearestTo_34 ?_
        refine vp_callSl (W.runV (C := "NumberProbe$Format") (As := [.int (jb z_18), .long (kf_i k)]) (rest := []) ⟨hx, hb, hml, hown, hts⟩ (mt_F_signed l ad k hk z_18 (kf_i k)) (cwV 2 hts (gd_V tm_75 tm_77 tm_0 tm_27 tm_79) rfl rfl rfl (by decide +kernel) ⟨Nat.le_of_ble_eq_true rfl, Nat.le_of_ble_eq_true rfl⟩) ⟨fb_E, fw_recv hE hk hS, fun U hU hW => ⟨rfl, fw_use hE hS hU hW⟩⟩ rfl rfl hl.1 rfl (lv_room (Nat.le_of_ble_eq_true rfl)) md_F_nearestTo_37 ⟨Nat.zero_le _, Nat.zero_le _⟩) (fun r_19 e_20 => ?_)
        exact W.lret (v := r_19) hx hb hr (fun t ht2 _ => ⟨r_19, rfl, trivial, ht2⟩) (fun q h => by cases h) md_F_nearestTo_40
      refine lv_if_ge (tgt := 32) hx hb md_F_nearestTo_25 (by decide) (fun c_16 => ?_) (fun c_16 => ?_)
      · refine lv_iconst (v := 0) hx hb md_F_nearestTo_32 (by decide) ?_
        exact J_17 false ls (lv_sub hl [0, 1, 2] rfl)
      · refine lv_iconst (v := 1) hx hb md_F_nearestTo_28 (by decide) ?_
        refine lv_goto (tgt := 33) hx hb md_F_nearestTo_29 (by decide) ?_
        exact J_17 true ls (lv_sub hl [0, 1, 2] rfl)
  · refine lv_aload_n hx hb md_F_nearestTo_8 rfl (lv_at hl 0 rfl) ?_
    refine va_getX hx hb hE.2.2.2.2.2.2.1 hk hS hown (ht _ tm_550) (fun _ h9 => h9) md_F_nearestTo_9 ?_
    exact W.lret (v := kf_n k) hx hb hr (fun t ht2 _ => ⟨(kf_n k), rfl, trivial, ht2⟩) (fun q h => by cases h) md_F_nearestTo_12
set_option maxHeartbeats 4000000 in
set_option maxRecDepth 100000 in
theorem mt_F_nearestToWhole (l : Launch) (ad : Nat → Nat) (k : Nat) (hk : k < 2) (p0 : Int64) : Met l my_F_nearestToWhole mw_F_nearestToWhole ({ frames := 3, cells := 0, slots := 0, locals := 73 } : Room) (va_Pc [.ref (ad k), .long p0] (fun U => FW ad (fun _ => False) U U.heap)) (vp_Sl (fun _ => True)) 0 0 (fun _ => False) := by
  refine Met.ofW (cc := mc_F_nearestToWhole) (maxL := 5) (ret := (some .long)) (by decide) rfl ?_
  intro p e s m args below meth c s₁ B hml hv
  obtain ⟨rfl, hE⟩ := hv
  have hx := B.exec
  have hb := B.bytes
  have hr := B.returns
  have hts := atoms_spec (ws := mw_F_nearestToWhole) B.pre
  have ht : ∀ w ∈ gw_tbl, w.before _ s = true := fun w h => hts w (List.mem_cons_of_mem _ h)
  have hown : s.vm.findClass "NumberProbe$Format" = some m.cls := findClass_of_methodNamed B.named
  have hlocks := B.notSynchronized
  have hS : va_S (fun _ => False) s.heap s.heap [] := va_S.rf
  have hl := lv_entry ([.ref (ad k), .long p0]) (n := 5) (Nat.le_of_ble_eq_true rfl)
  rw [lg_entry_eq]
  generalize (lg_sl ([.ref (ad k), .long p0]) ++ List.replicate (5 - (lg_sl ([.ref (ad k), .long p0])).length) Slot.unset).toArray = ls at hl ⊢
  have hl : lv_has ls 5 [(0, .ref (ad k)), (1, .long p0)] := hl
  refine lv_lload_n hx hb md_F_nearestToWhole_0 rfl (lv_at hl 1 rfl) ?_
  refine lv_lconst (v := 0) hx hb md_F_nearestToWhole_1 (by decide) ?_
  refine W.lcmp hx hb md_F_nearestToWhole_2 ?_
  have J_2 : ∀ (z_3 : Int64) (ls : Array Slot), lv_has ls 5 [(0, .ref (ad k)), (1, .long p0)] → WP p l e mw_F_nearestToWhole ({ frames := 3, cells := 0, slots := 0, locals := 73 } : Room) s m [.ref (ad k), .long p0] below meth c (vp_Sl (fun _ => True)) (F0 m 12 ls [.long z_3]) := by
    intro z_3 ls hl
    refine lv_lstore_n (lv' := [(3, .long z_3), (0, .ref (ad k)), (1, .long p0)]) hx hb md_F_nearestToWhole_12 rfl hl (by decide) rfl (fun ls hl => ?_)
    refine lv_lload_n hx hb md_F_nearestToWhole_13 rfl (lv_at hl 0 rfl) ?_
    refine lv_lconst (v := 0) hx hb md_F_nearestToWhole_14 (by decide) ?_
    refine W.lcmp hx hb md_F_nearestToWhole_15 ?_
    have J_12 : ∀ (z_13 : Int64) (ls : Array Slot), lv_has ls 5 [(3, .long z_3), (0, .ref (ad k)), (1, .long p0)] → WP p l e mw_F_nearestToWhole ({ frames := 3, cells := 0, slots := 0, locals := 73 } : Room) s m [.ref (ad k), .long p0] below meth c (vp_Sl (fun _ => True)) (F0 m 48 ls [.long z_13]) := by
      intro z_13 ls hl
      exact W.lret (v := z_13) hx hb hr (fun t ht2 _ => ⟨z_13, rfl, trivial, ht2⟩) (fun q h => by cases h) md_F_nearestToWhole_48
    refine lv_if_ge (tgt := 31) hx hb md_F_nearestToWhole_16 (by decide) (fun c_4 => ?_) (fun c_4 => ?_)
    · refine lv_aload_n hx hb md_F_nearestToWhole_31 rfl (lv_at hl 1 rfl) ?_
      refine lv_lload_n hx hb md_F_nearestToWhole_32 rfl (lv_at hl 2 rfl) ?_
      refine lv_lconst (v := 0) hx hb md_F_nearestToWhole_33 (by decide) ?_
      refine W.lcmp hx hb md_F_nearestToWhole_34 ?_
      have J_15 : ∀ (z_16 : Bool) (ls : Array Slot), lv_has ls 5 [(3, .long z_3), (0, .ref (ad k)), (1, .long p0)] → WP p l e mw_F_nearestToWhole ({ frames := 3, cells := 0, slots := 0, locals := 73 } : Room) s m [.ref (ad k), .long p0] below meth c (vp_Sl (fun _ => True)) (F0 m 43 ls [.int (jb z_16), .ref (ad k)]) := by
        intro z_16 ls hl
        refine lv_lload_n hx hb md_F_nearestToWhole_43 rfl (lv_at hl 0 rfl) ?_
        refine lv_iconst (v := 0) hx hb md_F_nearestToWhole_44 (by decide) ?_
        refine vp_callSl (W.runV (C := "NumberProbe$Format") (As := [.int (jb z_16), .long z_3, .int 0]) (rest := []) ⟨hx, hb, hml, hown, hts⟩ (mt_F_rounded l ad k hk z_16 z_3 0) (cwV 3 hts (gd_V tm_152 tm_154 tm_6 tm_27 tm_155) rfl rfl rfl (by decide +kernel) ⟨Nat.le_of_ble_eq_true rfl, Nat.le_of_ble_eq_true rfl⟩) ⟨fb_E, fw_recv hE hk hS, fun U hU hW => ⟨rfl, fw_use hE hS hU hW⟩⟩ rfl rfl hl.1 rfl (lv_room (Nat.le_of_ble_eq_true rfl)) md_F_nearestToWhole_45 ⟨Nat.zero_le _, Nat.zero_le _⟩) (fun r_17 e_18 => ?_)
        exact J_12 r_17 ls (lv_sub hl [0, 1, 2] rfl)
      refine lv_if_ge (tgt := 42) hx hb md_F_nearestToWhole_35 (by decide) (fun c_14 => ?_) (fun c_14 => ?_)
      · refine lv_iconst (v := 0) hx hb md_F_nearestToWhole_42 (by decide) ?_
        exact J_15 false ls (lv_sub hl [0, 1, 2] rfl)
      · refine lv_iconst (v := 1) hx hb md_F_nearestToWhole_38 (by decide) ?_
        refine lv_goto (tgt := 43) hx hb md_F_nearestToWhole_39 (by decide) ?_
        exact J_15 true ls (lv_sub hl [0, 1, 2] rfl)
    · refine lv_aload_n hx hb md_F_nearestToWhole_19 rfl (lv_at hl 1 rfl) ?_
      refine lv_iconst (v := 1) hx hb md_F_nearestToWhole_20 (by decide) ?_
      refine lv_lload_n hx hb md_F_nearestToWhole_21 rfl (lv_at hl 0 rfl) ?_
      refine lv_iconst (v := 1) hx hb md_F_nearestToWhole_22 (by decide) ?_
      refine lv_lushr (v := jl_ush z_3 1) hx hb md_F_nearestToWhole_23 rfl ?_
      refine lv_iconst (v := 1) hx hb md_F_nearestToWhole_24 (by decide) ?_
      refine vp_callSl (W.runV (C := "NumberProbe$Format") (As := [.int 1, .long (jl_ush z_3 1), .int 1]) (rest := []) ⟨hx, hb, hml, hown, hts⟩ (mt_F_rounded l ad k hk true (jl_ush z_3 1) 1) (cwV 3 hts (gd_V tm_152 tm_154 tm_6 tm_27 tm_155) rfl rfl rfl (by decide +kernel) ⟨Nat.le_of_ble_eq_true rfl, Nat.le_of_ble_eq_true rfl⟩) ⟨fb_E, fw_recv hE hk hS, fun U hU hW => ⟨rfl, fw_use hE hS hU hW⟩⟩ rfl rfl hl.1 rfl (lv_room (Nat.le_of_ble_eq_true rfl)) md_F_nearestToWhole_25 ⟨Nat.zero_le _, Nat.zero_le _⟩) (fun r_19 e_20 => ?_)
      refine lv_goto (tgt := 48) hx hb md_F_nearestToWhole_28 (by decide) ?_
      exact J_12 r_19 ls (lv_sub hl [0, 1, 2] rfl)
  refine lv_if_ge (tgt := 11) hx hb md_F_nearestToWhole_3 (by decide) (fun c_1 => ?_) (fun c_1 => ?_)
  · refine lv_lload_n hx hb md_F_nearestToWhole_11 rfl (lv_at hl 1 rfl) ?_
    exact J_2 p0 ls (lv_sub hl [0, 1] rfl)
  · refine lv_lload_n hx hb md_F_nearestToWhole_6 rfl (lv_at hl 1 rfl) ?_
    refine lv_lneg hx hb md_F_nearestToWhole_7 ?_
    refine lv_goto (tgt := 12) hx hb md_F_nearestToWhole_8 (by decide) ?_
    exact J_2 (-p0) ls (lv_sub hl [0, 1] rfl)
