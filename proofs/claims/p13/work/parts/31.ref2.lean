set_option maxHeartbeats 4000000 in
set_option maxRecDepth 100000 in
theorem mt_M_takeX (l : Launch) (D : va_G) (cL : ClassId) (h0 q0 sz : Nat) (u : MT) (p0 : Int32) (p1 : Int64) : Met l my_M_takeX mw_M_takeX ({ frames := 3, cells := 0, slots := 0, locals := 68 } : Room) (MPc D cL h0 q0 sz u [.int p0, .long p1]) (MQv D cL h0 q0 (MA h0 q0 cL u sz) (fun (v : MT) => v = mtX p0 p1 u)) 0 0 (MA h0 q0 cL u sz) := by
  refine Met.ofW (cc := mc_M_takeX) (maxL := 4) (ret := none) (by decide) rfl ?_
  intro p e s m args below meth c s₁ B hml hv
  obtain ⟨rfl, hsz, hP, hK, hD0⟩ := hv
  have hx := B.exec
  have hb := B.bytes
  have hr := B.returns
  have hts := atoms_spec (ws := mw_M_takeX) B.pre
  have ht : ∀ w ∈ gw_tbl, w.before _ s = true := fun w h => hts w (List.mem_cons_of_mem _ h)
  have hown : s.vm.findClass "NumberProbeModel" = some m.cls := findClass_of_methodNamed B.named
  have hlocks := B.notSynchronized
  subst hsz
  have hD : va_D (MA h0 q0 cL u s.heap.size) (mWs h0 q0 cL u) := hD0.self (sz := s.heap.size)
  generalize hAe : MA h0 q0 cL u s.heap.size = A at hD ⊢
  have hA : ∀ q : Nat, s.heap.size ≤ q → A q := fun q h => by rw [← hAe]; exact Or.inr h
  have hS : va_S A s.heap s.heap [] := va_S.rf
  have hM : MWd D cL h0 q0 A u s.heap := ⟨hP, hD⟩
  have hl := lv_entry ([.ref h0, .int p0, .long p1]) (n := 4) (Nat.le_of_ble_eq_true rfl)
  rw [lg_entry_eq]
  generalize (lg_sl ([.ref h0, .int p0, .long p1]) ++ List.replicate (4 - (lg_sl ([.ref h0, .int p0, .long p1])).length) Slot.unset).toArray = ls at hl ⊢
  have hl : lv_has ls 4 [(0, .ref h0), (1, .int p0), (2, .long p1)] := hl
  refine lv_aload_n hx hb md_M_takeX_0 rfl (lv_at hl 0 rfl) ?_
  refine lv_iload_n hx hb md_M_takeX_1 rfl (lv_at hl 1 rfl) ?_
  refine lv_lload_n hx hb md_M_takeX_2 rfl (lv_at hl 2 rfl) ?_
  refine vp_callSi (W.runS (As := [.int p0, .long p1]) (rest := [.ref h0]) ⟨hx, hb, hml, hown, hts⟩ (mt_M_isSign l p0 p1) (va_cwS 2 hts (gd_S tm_455 tm_456 tm_25 tm_457) rfl rfl rfl (by decide +kernel) ⟨Nat.le_of_ble_eq_true rfl, Nat.le_of_ble_eq_true rfl⟩) ⟨fb_0, fun U hU hW => ⟨rfl, trivial⟩⟩ rfl rfl hl.1 rfl (lv_room (Nat.le_of_ble_eq_true rfl)) md_M_takeX_3 ⟨Nat.zero_le _, Nat.zero_le _⟩) (fun r_1 e_2 => ?_)
  obtain rfl : r_1 = jb (rf_isS p0 p1) := e_2
  refine va_put (D := D) (ci := 1) (v := .int (jb (rf_isS p0 p1))) (ty := .boolean) (C := "NumberProbeModel") (T := TM) (N := 12) hx hb ht inM tyM tyM_ok nmM hown hK hM.1 hM.2 hS 0 rfl rfl 1 (by decide) (ht _ tm_319) (fun _ h9 => h9) rfl (by decide +kernel) (by cases (rf_isS p0 p1) <;> rfl) (by cases (rf_isS p0 p1) <;> rfl) (Nat.le_of_ble_eq_true rfl) md_M_takeX_6 (fun H_3 L_4 hP hD hS => ?_)
  have hM : MWd D cL h0 q0 A (((rf_isS p0 p1), u.1.2.1, u.1.2.2.1, u.1.2.2.2.1, u.1.2.2.2.2.1, u.1.2.2.2.2.2.1, u.1.2.2.2.2.2.2.1, u.1.2.2.2.2.2.2.2.1, u.1.2.2.2.2.2.2.2.2.1, u.1.2.2.2.2.2.2.2.2.2.1, u.1.2.2.2.2.2.2.2.2.2.2), u.2) H_3 := ⟨hP, hD⟩
  refine lv_aload_n hx hb md_M_takeX_9 rfl (lv_at hl 0 rfl) ?_
  refine lv_iload_n hx hb md_M_takeX_10 rfl (lv_at hl 1 rfl) ?_
  refine lv_lload_n hx hb md_M_takeX_11 rfl (lv_at hl 2 rfl) ?_
  refine vp_callSi (W.runS (As := [.int p0, .long p1]) (rest := [.ref h0]) ⟨hx, hb, hml, hown, hts⟩ (mt_M_isNan l p0 p1) (va_cwS 2 hts (gd_S tm_366 tm_367 tm_25 tm_368) rfl rfl rfl (by decide +kernel) ⟨Nat.le_of_ble_eq_true rfl, Nat.le_of_ble_eq_true rfl⟩) ⟨fb_0, fun U hU hW => ⟨rfl, trivial⟩⟩ rfl rfl hl.1 rfl (lv_room (Nat.le_of_ble_eq_true rfl)) md_M_takeX_12 ⟨Nat.zero_le _, Nat.zero_le _⟩) (fun r_5 e_6 => ?_)
  obtain rfl : r_5 = jb (rf_isN p0 p1) := e_6
  refine va_put (D := D) (ci := 1) (v := .int (jb (rf_isN p0 p1))) (ty := .boolean) (C := "NumberProbeModel") (T := TM) (N := 12) hx hb ht inM tyM tyM_ok nmM hown hK hM.1 hM.2 hS 0 rfl rfl 3 (by decide) (ht _ tm_321) (fun _ h9 => h9) rfl (by decide +kernel) (by cases (rf_isN p0 p1) <;> rfl) (by cases (rf_isN p0 p1) <;> rfl) (Nat.le_of_ble_eq_true rfl) md_M_takeX_15 (fun H_7 L_8 hP hD hS => ?_)
  have hM : MWd D cL h0 q0 A (((rf_isS p0 p1), u.1.2.1, (rf_isN p0 p1), u.1.2.2.2.1, u.1.2.2.2.2.1, u.1.2.2.2.2.2.1, u.1.2.2.2.2.2.2.1, u.1.2.2.2.2.2.2.2.1, u.1.2.2.2.2.2.2.2.2.1, u.1.2.2.2.2.2.2.2.2.2.1, u.1.2.2.2.2.2.2.2.2.2.2), u.2) H_7 := ⟨hP, hD⟩
  refine lv_aload_n hx hb md_M_takeX_18 rfl (lv_at hl 0 rfl) ?_
  refine lv_iload_n hx hb md_M_takeX_19 rfl (lv_at hl 1 rfl) ?_
  refine lv_lload_n hx hb md_M_takeX_20 rfl (lv_at hl 2 rfl) ?_
  refine vp_callSl (W.runS (As := [.int p0, .long p1]) (rest := [.ref h0]) ⟨hx, hb, hml, hown, hts⟩ (mt_M_size l p0 p1) (va_cwS 2 hts (gd_S tm_369 tm_370 tm_25 tm_371) rfl rfl rfl (by decide +kernel) ⟨Nat.le_of_ble_eq_true rfl, Nat.le_of_ble_eq_true rfl⟩) ⟨fb_0, fun U hU hW => ⟨rfl, trivial⟩⟩ rfl rfl hl.1 rfl (lv_room (Nat.le_of_ble_eq_true rfl)) md_M_takeX_21 ⟨Nat.zero_le _, Nat.zero_le _⟩) (fun r_9 e_10 => ?_)
  obtain rfl : r_9 = rf_siz p0 p1 := e_10
  refine lv_iload_n hx hb md_M_takeX_24 rfl (lv_at hl 1 rfl) ?_
  refine vp_callSl (W.runS (As := [.int p0]) (rest := [.long (rf_siz p0 p1), .ref h0]) ⟨hx, hb, hml, hown, hts⟩ (mt_M_infinity l p0) (va_cwS 1 hts (gd_S tm_377 tm_378 tm_25 tm_379) rfl rfl rfl (by decide +kernel) ⟨Nat.le_of_ble_eq_true rfl, Nat.le_of_ble_eq_true rfl⟩) ⟨fb_0, fun U hU hW => ⟨rfl, trivial⟩⟩ rfl rfl hl.1 rfl (lv_room (Nat.le_of_ble_eq_true rfl)) md_M_takeX_25 ⟨Nat.zero_le _, Nat.zero_le _⟩) (fun r_11 e_12 => ?_)
  obtain rfl : r_11 = rf_if p0 := e_12
  refine W.lcmp hx hb md_M_takeX_28 ?_
  refine lv_if_ne (tgt := 36) hx hb md_M_takeX_29 (by decide) (fun c_13 => ?_) (fun c_13 => ?_)
  · refine lv_iconst (v := 0) hx hb md_M_takeX_36 (by decide) ?_
    refine va_put (D := D) (ci := 1) (v := .int (jb false)) (ty := .boolean) (C := "NumberProbeModel") (T := TM) (N := 12) hx hb ht inM tyM tyM_ok nmM hown hK hM.1 hM.2 hS 0 rfl rfl 5 (by decide) (ht _ tm_323) (fun _ h9 => h9) rfl (by decide +kernel) rfl rfl (Nat.le_of_ble_eq_true rfl) md_M_takeX_37 (fun H_14 L_15 hP hD hS => ?_)
    have hM : MWd D cL h0 q0 A (((rf_isS p0 p1), u.1.2.1, (rf_isN p0 p1), u.1.2.2.2.1, false, u.1.2.2.2.2.2.1, u.1.2.2.2.2.2.2.1, u.1.2.2.2.2.2.2.2.1, u.1.2.2.2.2.2.2.2.2.1, u.1.2.2.2.2.2.2.2.2.2.1, u.1.2.2.2.2.2.2.2.2.2.2), u.2) H_14 := ⟨hP, hD⟩
    refine lv_aload_n hx hb md_M_takeX_40 rfl (lv_at hl 0 rfl) ?_
    refine lv_iload_n hx hb md_M_takeX_41 rfl (lv_at hl 1 rfl) ?_
    refine lv_lload_n hx hb md_M_takeX_42 rfl (lv_at hl 2 rfl) ?_
    refine vp_callSl (W.runS (As := [.int p0, .long p1]) (rest := [.ref h0]) ⟨hx, hb, hml, hown, hts⟩ (mt_M_mantissa l p0 p1) (va_cwS 2 hts (gd_S tm_458 tm_459 tm_25 tm_460) rfl rfl rfl (by decide +kernel) ⟨Nat.le_of_ble_eq_true rfl, Nat.le_of_ble_eq_true rfl⟩) ⟨fb_0, fun U hU hW => ⟨rfl, trivial⟩⟩ rfl rfl hl.1 rfl (lv_room (Nat.le_of_ble_eq_true rfl)) md_M_takeX_43 ⟨Nat.zero_le _, Nat.zero_le _⟩) (fun r_16 e_17 => ?_)
    obtain rfl : r_16 = rf_man p0 p1 := e_17
    refine va_put (D := D) (ci := 1) (v := .long (rf_man p0 p1)) (ty := .long) (C := "NumberProbeModel") (T := TM) (N := 12) hx hb ht inM tyM tyM_ok nmM hown hK hM.1 hM.2 hS 0 rfl rfl 7 (by decide) (ht _ tm_325) (fun _ h9 => h9) rfl (by decide +kernel) rfl rfl (Nat.le_of_ble_eq_true rfl) md_M_takeX_46 (fun H_18 L_19 hP hD hS => ?_)
    have hM : MWd D cL h0 q0 A (((rf_isS p0 p1), u.1.2.1, (rf_isN p0 p1), u.1.2.2.2.1, false, u.1.2.2.2.2.2.1, rf_man p0 p1, u.1.2.2.2.2.2.2.2.1, u.1.2.2.2.2.2.2.2.2.1, u.1.2.2.2.2.2.2.2.2.2.1, u.1.2.2.2.2.2.2.2.2.2.2), u.2) H_18 := ⟨hP, hD⟩
    refine lv_aload_n hx hb md_M_takeX_49 rfl (lv_at hl 0 rfl) ?_
    refine lv_iload_n hx hb md_M_takeX_50 rfl (lv_at hl 1 rfl) ?_
    refine lv_lload_n hx hb md_M_takeX_51 rfl (lv_at hl 2 rfl) ?_
    refine vp_callSi (W.runS (As := [.int p0, .long p1]) (rest := [.ref h0]) ⟨hx, hb, hml, hown, hts⟩ (mt_M_power l p0 p1) (va_cwS 2 hts (gd_S tm_461 tm_462 tm_25 tm_463) rfl rfl rfl (by decide +kernel) ⟨Nat.le_of_ble_eq_true rfl, Nat.le_of_ble_eq_true rfl⟩) ⟨fb_0, fun U hU hW => ⟨rfl, trivial⟩⟩ rfl rfl hl.1 rfl (lv_room (Nat.le_of_ble_eq_true rfl)) md_M_takeX_52 ⟨Nat.zero_le _, Nat.zero_le _⟩) (fun r_20 e_21 => ?_)
    obtain rfl : r_20 = rf_pow p0 p1 := e_21
    refine va_put (D := D) (ci := 1) (v := .int (rf_pow p0 p1)) (ty := .int) (C := "NumberProbeModel") (T := TM) (N := 12) hx hb ht inM tyM tyM_ok nmM hown hK hM.1 hM.2 hS 0 rfl rfl 9 (by decide) (ht _ tm_327) (fun _ h9 => h9) rfl (by decide +kernel) rfl rfl (Nat.le_of_ble_eq_true rfl) md_M_takeX_55 (fun H_22 L_23 hP hD hS => ?_)
    have hM : MWd D cL h0 q0 A (((rf_isS p0 p1), u.1.2.1, (rf_isN p0 p1), u.1.2.2.2.1, false, u.1.2.2.2.2.2.1, rf_man p0 p1, u.1.2.2.2.2.2.2.2.1, rf_pow p0 p1, u.1.2.2.2.2.2.2.2.2.2.1, u.1.2.2.2.2.2.2.2.2.2.2), u.2) H_22 := ⟨hP, hD⟩
    exact W.vret hx hb hr (fun t ht2 _ => ⟨⟨(((rf_isS p0 p1), u.1.2.1, (rf_isN p0 p1), u.1.2.2.2.1, false, u.1.2.2.2.2.2.1, rf_man p0 p1, u.1.2.2.2.2.2.2.2.1, rf_pow p0 p1, u.1.2.2.2.2.2.2.2.2.2.1, u.1.2.2.2.2.2.2.2.2.2.2), u.2), rfl, (by simp [mtX, rf_isI, (mt (lg_cmp_eq _ _).mpr c_13)]), by show MWd D cL h0 q0 A _ t.heap; rw [ht2]; exact hM⟩, hS.F ht2⟩) hS.2.2 md_M_takeX_58
  · refine lv_iconst (v := 1) hx hb md_M_takeX_32 (by decide) ?_
    refine lv_goto (tgt := 37) hx hb md_M_takeX_33 (by decide) ?_
    refine va_put (D := D) (ci := 1) (v := .int (jb true)) (ty := .boolean) (C := "NumberProbeModel") (T := TM) (N := 12) hx hb ht inM tyM tyM_ok nmM hown hK hM.1 hM.2 hS 0 rfl rfl 5 (by decide) (ht _ tm_323) (fun _ h9 => h9) rfl (by decide +kernel) rfl rfl (Nat.le_of_ble_eq_true rfl) md_M_takeX_37 (fun H_24 L_25 hP hD hS => ?_)
    have hM : MWd D cL h0 q0 A (((rf_isS p0 p1), u.1.2.1, (rf_isN p0 p1), u.1.2.2.2.1, true, u.1.2.2.2.2.2.1, u.1.2.2.2.2.2.2.1, u.1.2.2.2.2.2.2.2.1, u.1.2.2.2.2.2.2.2.2.1, u.1.2.2.2.2.2.2.2.2.2.1, u.1.2.2.2.2.2.2.2.2.2.2), u.2) H_24 := ⟨hP, hD⟩
    refine lv_aload_n hx hb md_M_takeX_40 rfl (lv_at hl 0 rfl) ?_
    refine lv_iload_n hx hb md_M_takeX_41 rfl (lv_at hl 1 rfl) ?_
    refine lv_lload_n hx hb md_M_takeX_42 rfl (lv_at hl 2 rfl) ?_
    refine vp_callSl (W.runS (As := [.int p0, .long p1]) (rest := [.ref h0]) ⟨hx, hb, hml, hown, hts⟩ (mt_M_mantissa l p0 p1) (va_cwS 2 hts (gd_S tm_458 tm_459 tm_25 tm_460) rfl rfl rfl (by decide +kernel) ⟨Nat.le_of_ble_eq_true rfl, Nat.le_of_ble_eq_true rfl⟩) ⟨fb_0, fun U hU hW => ⟨rfl, trivial⟩⟩ rfl rfl hl.1 rfl (lv_room (Nat.le_of_ble_eq_true rfl)) md_M_takeX_43 ⟨Nat.zero_le _, Nat.zero_le _⟩) (fun r_26 e_27 => ?_)
    obtain rfl : r_26 = rf_man p0 p1 := e_27
    refine va_put (D := D) (ci := 1) (v := .long (rf_man p0 p1)) (ty := .long) (C := "NumberProbeModel") (T := TM) (N := 12) hx hb ht inM tyM tyM_ok nmM hown hK hM.1 hM.2 hS 0 rfl rfl 7 (by decide) (ht _ tm_325) (fun _ h9 => h9) rfl (by decide +kernel) rfl rfl (Nat.le_of_ble_eq_true rfl) md_M_takeX_46 (fun H_28 L_29 hP hD hS => ?_)
    have hM : MWd D cL h0 q0 A (((rf_isS p0 p1), u.1.2.1, (rf_isN p0 p1), u.1.2.2.2.1, true, u.1.2.2.2.2.2.1, rf_man p0 p1, u.1.2.2.2.2.2.2.2.1, u.1.2.2.2.2.2.2.2.2.1, u.1.2.2.2.2.2.2.2.2.2.1, u.1.2.2.2.2.2.2.2.2.2.2), u.2) H_28 := ⟨hP, hD⟩
    refine lv_aload_n hx hb md_M_takeX_49 rfl (lv_at hl 0 rfl) ?_
    refine lv_iload_n hx hb md_M_takeX_50 rfl (lv_at hl 1 rfl) ?_
    refine lv_lload_n hx hb md_M_takeX_51 rfl (lv_at hl 2 rfl) ?_
    refine vp_callSi (W.runS (As := [.int p0, .long p1]) (rest := [.ref h0]) ⟨hx, hb, hml, hown, hts⟩ (mt_M_power l p0 p1) (va_cwS 2 hts (gd_S tm_461 tm_462 tm_25 tm_463) rfl rfl rfl (by decide +kernel) ⟨Nat.le_of_ble_eq_true rfl, Nat.le_of_ble_eq_true rfl⟩) ⟨fb_0, fun U hU hW => ⟨rfl, trivial⟩⟩ rfl rfl hl.1 rfl (lv_room (Nat.le_of_ble_eq_true rfl)) md_M_takeX_52 ⟨Nat.zero_le _, Nat.zero_le _⟩) (fun r_30 e_31 => ?_)
    obtain rfl : r_30 = rf_pow p0 p1 := e_31
    refine va_put (D := D) (ci := 1) (v := .int (rf_pow p0 p1)) (ty := .int) (C := "NumberProbeModel") (T := TM) (N := 12) hx hb ht inM tyM tyM_ok nmM hown hK hM.1 hM.2 hS 0 rfl rfl 9 (by decide) (ht _ tm_327) (fun _ h9 => h9) rfl (by decide +kernel) rfl rfl (Nat.le_of_ble_eq_true rfl) md_M_takeX_55 (fun H_32 L_33 hP hD hS => ?_)
    have hM : MWd D cL h0 q0 A (((rf_isS p0 p1), u.1.2.1, (rf_isN p0 p1), u.1.2.2.2.1, true, u.1.2.2.2.2.2.1, rf_man p0 p1, u.1.2.2.2.2.2.2.2.1, rf_pow p0 p1, u.1.2.2.2.2.2.2.2.2.2.1, u.1.2.2.2.2.2.2.2.2.2.2), u.2) H_32 := ⟨hP, hD⟩
    exact W.vret hx hb hr (fun t ht2 _ => ⟨⟨(((rf_isS p0 p1), u.1.2.1, (rf_isN p0 p1), u.1.2.2.2.1, true, u.1.2.2.2.2.2.1, rf_man p0 p1, u.1.2.2.2.2.2.2.2.1, rf_pow p0 p1, u.1.2.2.2.2.2.2.2.2.2.1, u.1.2.2.2.2.2.2.2.2.2.2), u.2), rfl, (by simp [mtX, rf_isI, ((lg_cmp_eq _ _).mp c_13)]), by show MWd D cL h0 q0 A _ t.heap; rw [ht2]; exact hM⟩, hS.F ht2⟩) hS.2.2 md_M_takeX_58
set_option maxHeartbeats 4000000 in
set_option maxRecDepth 100000 in
theorem mt_M_takeY (l : Launch) (D : va_G) (cL : ClassId) (h0 q0 sz : Nat) (u : MT) (p0 : Int32) (p1 : Int64) : Met l my_M_takeY mw_M_takeY ({ frames := 3, cells := 0, slots := 0, locals := 68 } : Room) (MPc D cL h0 q0 sz u [.int p0, .long p1]) (MQv D cL h0 q0 (MA h0 q0 cL u sz) (fun (v : MT) => v = mtY p0 p1 u)) 0 0 (MA h0 q0 cL u sz) := by
  refine Met.ofW (cc := mc_M_takeY) (maxL := 4) (ret := none) (by decide) rfl ?_
  intro p e s m args below meth c s₁ B hml hv
  obtain ⟨rfl, hsz, hP, hK, hD0⟩ := hv
  have hx := B.exec
  have hb := B.bytes
  have hr := B.returns
  have hts := atoms_spec (ws := mw_M_takeY) B.pre
  have ht : ∀ w ∈ gw_tbl, w.before _ s = true := fun w h => hts w (List.mem_cons_of_mem _ h)
  have hown : s.vm.findClass "NumberProbeModel" = some m.cls := findClass_of_methodNamed B.named
  have hlocks := B.notSynchronized
  subst hsz
  have hD : va_D (MA h0 q0 cL u s.heap.size) (mWs h0 q0 cL u) := hD0.self (sz := s.heap.size)
  generalize hAe : MA h0 q0 cL u s.heap.size = A at hD ⊢
  have hA : ∀ q : Nat, s.heap.size ≤ q → A q := fun q h => by rw [← hAe]; exact Or.inr h
  have hS : va_S A s.heap s.heap [] := va_S.rf
  have hM : MWd D cL h0 q0 A u s.heap := ⟨hP, hD⟩
  have hl := lv_entry ([.ref h0, .int p0, .long p1]) (n := 4) (Nat.le_of_ble_eq_true rfl)
  rw [lg_entry_eq]
  generalize (lg_sl ([.ref h0, .int p0, .long p1]) ++ List.replicate (4 - (lg_sl ([.ref h0, .int p0, .long p1])).length) Slot.unset).toArray = ls at hl ⊢
  have hl : lv_has ls 4 [(0, .ref h0), (1, .int p0), (2, .long p1)] := hl
  refine lv_aload_n hx hb md_M_takeY_0 rfl (lv_at hl 0 rfl) ?_
  refine lv_iload_n hx hb md_M_takeY_1 rfl (lv_at hl 1 rfl) ?_
  refine lv_lload_n hx hb md_M_takeY_2 rfl (lv_at hl 2 rfl) ?_
  refine vp_callSi (W.runS (As := [.int p0, .long p1]) (rest := [.ref h0]) ⟨hx, hb, hml, hown, hts⟩ (mt_M_isSign l p0 p1) (va_cwS 2 hts (gd_S tm_455 tm_456 tm_25 tm_457) rfl rfl rfl (by decide +kernel) ⟨Nat.le_of_ble_eq_true rfl, Nat.le_of_ble_eq_true rfl⟩) ⟨fb_0, fun U hU hW => ⟨rfl, trivial⟩⟩ rfl rfl hl.1 rfl (lv_room (Nat.le_of_ble_eq_true rfl)) md_M_takeY_3 ⟨Nat.zero_le _, Nat.zero_le _⟩) (fun r_1 e_2 => ?_)
  obtain rfl : r_1 = jb (rf_isS p0 p1) := e_2
  refine va_put (D := D) (ci := 1) (v := .int (jb (rf_isS p0 p1))) (ty := .boolean) (C := "NumberProbeModel") (T := TM) (N := 12) hx hb ht inM tyM tyM_ok nmM hown hK hM.1 hM.2 hS 0 rfl rfl 2 (by decide) (ht _ tm_320) (fun _ h9 => h9) rfl (by decide +kernel) (by cases (rf_isS p0 p1) <;> rfl) (by cases (rf_isS p0 p1) <;> rfl) (Nat.le_of_ble_eq_true rfl) md_M_takeY_6 (fun H_3 L_4 hP hD hS => ?_)
  have hM : MWd D cL h0 q0 A ((u.1.1, (rf_isS p0 p1), u.1.2.2.1, u.1.2.2.2.1, u.1.2.2.2.2.1, u.1.2.2.2.2.2.1, u.1.2.2.2.2.2.2.1, u.1.2.2.2.2.2.2.2.1, u.1.2.2.2.2.2.2.2.2.1, u.1.2.2.2.2.2.2.2.2.2.1, u.1.2.2.2.2.2.2.2.2.2.2), u.2) H_3 := ⟨hP, hD⟩
  refine lv_aload_n hx hb md_M_takeY_9 rfl (lv_at hl 0 rfl) ?_
  refine lv_iload_n hx hb md_M_takeY_10 rfl (lv_at hl 1 rfl) ?_
  refine lv_lload_n hx hb md_M_takeY_11 rfl (lv_at hl 2 rfl) ?_
  refine vp_callSi (W.runS (As := [.int p0, .long p1]) (rest := [.ref h0]) ⟨hx, hb, hml, hown, hts⟩ (mt_M_isNan l p0 p1) (va_cwS 2 hts (gd_S tm_366 tm_367 tm_25 tm_368) rfl rfl rfl (by decide +kernel) ⟨Nat.le_of_ble_eq_true rfl, Nat.le_of_ble_eq_true rfl⟩) ⟨fb_0, fun U hU hW => ⟨rfl, trivial⟩⟩ rfl rfl hl.1 rfl (lv_room (Nat.le_of_ble_eq_true rfl)) md_M_takeY_12 ⟨Nat.zero_le _, Nat.zero_le _⟩) (fun r_5 e_6 => ?_)
  obtain rfl : r_5 = jb (rf_isN p0 p1) := e_6
  refine va_put (D := D) (ci := 1) (v := .int (jb (rf_isN p0 p1))) (ty := .boolean) (C := "NumberProbeModel") (T := TM) (N := 12) hx hb ht inM tyM tyM_ok nmM hown hK hM.1 hM.2 hS 0 rfl rfl 4 (by decide) (ht _ tm_322) (fun _ h9 => h9) rfl (by decide +kernel) (by cases (rf_isN p0 p1) <;> rfl) (by cases (rf_isN p0 p1) <;> rfl) (Nat.le_of_ble_eq_true rfl) md_M_takeY_15 (fun H_7 L_8 hP hD hS => ?_)
  have hM : MWd D cL h0 q0 A ((u.1.1, (rf_isS p0 p1), u.1.2.2.1, (rf_isN p0 p1), u.1.2.2.2.2.1, u.1.2.2.2.2.2.1, u.1.2.2.2.2.2.2.1, u.1.2.2.2.2.2.2.2.1, u.1.2.2.2.2.2.2.2.2.1, u.1.2.2.2.2.2.2.2.2.2.1, u.1.2.2.2.2.2.2.2.2.2.2), u.2) H_7 := ⟨hP, hD⟩
  refine lv_aload_n hx hb md_M_takeY_18 rfl (lv_at hl 0 rfl) ?_
  refine lv_iload_n hx hb md_M_takeY_19 rfl (lv_at hl 1 rfl) ?_
  refine lv_lload_n hx hb md_M_takeY_20 rfl (lv_at hl 2 rfl) ?_
  refine vp_callSl (W.runS (As := [.int p0, .long p1]) (rest := [.ref h0]) ⟨hx, hb, hml, hown, hts⟩ (mt_M_size l p0 p1) (va_cwS 2 hts (gd_S tm_369 tm_370 tm_25 tm_371) rfl rfl rfl (by decide +kernel) ⟨Nat.le_of_ble_eq_true rfl, Nat.le_of_ble_eq_true rfl⟩) ⟨fb_0, fun U hU hW => ⟨rfl, trivial⟩⟩ rfl rfl hl.1 rfl (lv_room (Nat.le_of_ble_eq_true rfl)) md_M_takeY_21 ⟨Nat.zero_le _, Nat.zero_le _⟩) (fun r_9 e_10 => ?_)
  obtain rfl : r_9 = rf_siz p0 p1 := e_10
  refine lv_iload_n hx hb md_M_takeY_24 rfl (lv_at hl 1 rfl) ?_
  refine vp_callSl (W.runS (As := [.int p0]) (rest := [.long (rf_siz p0 p1), .ref h0]) ⟨hx, hb, hml, hown, hts⟩ (mt_M_infinity l p0) (va_cwS 1 hts (gd_S tm_377 tm_378 tm_25 tm_379) rfl rfl rfl (by decide +kernel) ⟨Nat.le_of_ble_eq_true rfl, Nat.le_of_ble_eq_true rfl⟩) ⟨fb_0, fun U hU hW => ⟨rfl, trivial⟩⟩ rfl rfl hl.1 rfl (lv_room (Nat.le_of_ble_eq_true rfl)) md_M_takeY_25 ⟨Nat.zero_le _, Nat.zero_le _⟩) (fun r_11 e_12 => ?_)
  obtain rfl : r_11 = rf_if p0 := e_12
  refine W.lcmp hx hb md_M_takeY_28 ?_
  refine lv_if_ne (tgt := 36) hx hb md_M_takeY_29 (by decide) (fun c_13 => ?_) (fun c_13 => ?_)
  · refine lv_iconst (v := 0) hx hb md_M_takeY_36 (by decide) ?_
    refine va_put (D := D) (ci := 1) (v := .int (jb false)) (ty := .boolean) (C := "NumberProbeModel") (T := TM) (N := 12) hx hb ht inM tyM tyM_ok nmM hown hK hM.1 hM.2 hS 0 rfl rfl 6 (by decide) (ht _ tm_324) (fun _ h9 => h9) rfl (by decide +kernel) rfl rfl (Nat.le_of_ble_eq_true rfl) md_M_takeY_37 (fun H_14 L_15 hP hD hS => ?_)
    have hM : MWd D cL h0 q0 A ((u.1.1, (rf_isS p0 p1), u.1.2.2.1, (rf_isN p0 p1), u.1.2.2.2.2.1, false, u.1.2.2.2.2.2.2.1, u.1.2.2.2.2.2.2.2.1, u.1.2.2.2.2.2.2.2.2.1, u.1.2.2.2.2.2.2.2.2.2.1, u.1.2.2.2.2.2.2.2.2.2.2), u.2) H_14 := ⟨hP, hD⟩
    refine lv_aload_n hx hb md_M_takeY_40 rfl (lv_at hl 0 rfl) ?_
    refine lv_iload_n hx hb md_M_takeY_41 rfl (lv_at hl 1 rfl) ?_
    refine lv_lload_n hx hb md_M_takeY_42 rfl (lv_at hl 2 rfl) ?_
    refine vp_callSl (W.runS (As := [.int p0, .long p1]) (rest := [.ref h0]) ⟨hx, hb, hml, hown, hts⟩ (mt_M_mantissa l p0 p1) (va_cwS 2 hts (gd_S tm_458 tm_459 tm_25 tm_460) rfl rfl rfl (by decide +kernel) ⟨Nat.le_of_ble_eq_true rfl, Nat.le_of_ble_eq_true rfl⟩) ⟨fb_0, fun U hU hW => ⟨rfl, trivial⟩⟩ rfl rfl hl.1 rfl (lv_room (Nat.le_of_ble_eq_true rfl)) md_M_takeY_43 ⟨Nat.zero_le _, Nat.zero_le _⟩) (fun r_16 e_17 => ?_)
    obtain rfl : r_16 = rf_man p0 p1 := e_17
    refine va_put (D := D) (ci := 1) (v := .long (rf_man p0 p1)) (ty := .long) (C := "NumberProbeModel") (T := TM) (N := 12) hx hb ht inM tyM tyM_ok nmM hown hK hM.1 hM.2 hS 0 rfl rfl 8 (by decide) (ht _ tm_326) (fun _ h9 => h9) rfl (by decide +kernel) rfl rfl (Nat.le_of_ble_eq_true rfl) md_M_takeY_46 (fun H_18 L_19 hP hD hS => ?_)
    have hM : MWd D cL h0 q0 A ((u.1.1, (rf_isS p0 p1), u.1.2.2.1, (rf_isN p0 p1), u.1.2.2.2.2.1, false, u.1.2.2.2.2.2.2.1, rf_man p0 p1, u.1.2.2.2.2.2.2.2.2.1, u.1.2.2.2.2.2.2.2.2.2.1, u.1.2.2.2.2.2.2.2.2.2.2), u.2) H_18 := ⟨hP, hD⟩
    refine lv_aload_n hx hb md_M_takeY_49 rfl (lv_at hl 0 rfl) ?_
    refine lv_iload_n hx hb md_M_takeY_50 rfl (lv_at hl 1 rfl) ?_
    refine lv_lload_n hx hb md_M_takeY_51 rfl (lv_at hl 2 rfl) ?_
    refine vp_callSi (W.runS (As := [.int p0, .long p1]) (rest := [.ref h0]) ⟨hx, hb, hml, hown, hts⟩ (mt_M_power l p0 p1) (va_cwS 2 hts (gd_S tm_461 tm_462 tm_25 tm_463) rfl rfl rfl (by decide +kernel) ⟨Nat.le_of_ble_eq_true rfl, Nat.le_of_ble_eq_true rfl⟩) ⟨fb_0, fun U hU hW => ⟨rfl, trivial⟩⟩ rfl rfl hl.1 rfl (lv_room (Nat.le_of_ble_eq_true rfl)) md_M_takeY_52 ⟨Nat.zero_le _, Nat.zero_le _⟩) (fun r_20 e_21 => ?_)
    obtain rfl : r_20 = rf_pow p0 p1 := e_21
    refine va_put (D := D) (ci := 1) (v := .int (rf_pow p0 p1)) (ty := .int) (C := "NumberProbeModel") (T := TM) (N := 12) hx hb ht inM tyM tyM_ok nmM hown hK hM.1 hM.2 hS 0 rfl rfl 10 (by decide) (ht _ tm_328) (fun _ h9 => h9) rfl (by decide +kernel) rfl rfl (Nat.le_of_ble_eq_true rfl) md_M_takeY_55 (fun H_22 L_23 hP hD hS => ?_)
    have hM : MWd D cL h0 q0 A ((u.1.1, (rf_isS p0 p1), u.1.2.2.1, (rf_isN p0 p1), u.1.2.2.2.2.1, false, u.1.2.2.2.2.2.2.1, rf_man p0 p1, u.1.2.2.2.2.2.2.2.2.1, rf_pow p0 p1, u.1.2.2.2.2.2.2.2.2.2.2), u.2) H_22 := ⟨hP, hD⟩
    exact W.vret hx hb hr (fun t ht2 _ => ⟨⟨((u.1.1, (rf_isS p0 p1), u.1.2.2.1, (rf_isN p0 p1), u.1.2.2.2.2.1, false, u.1.2.2.2.2.2.2.1, rf_man p0 p1, u.1.2.2.2.2.2.2.2.2.1, rf_pow p0 p1, u.1.2.2.2.2.2.2.2.2.2.2), u.2), rfl, (by simp [mtY, rf_isI, (mt (lg_cmp_eq _ _).mpr c_13)]), by show MWd D cL h0 q0 A _ t.heap; rw [ht2]; exact hM⟩, hS.F ht2⟩) hS.2.2 md_M_takeY_58
  · refine lv_iconst (v := 1) hx hb md_M_takeY_32 (by decide) ?_
    refine lv_goto (tgt := 37) hx hb md_M_takeY_33 (by decide) ?_
    refine va_put (D := D) (ci := 1) (v := .int (jb true)) (ty := .boolean) (C := "NumberProbeModel") (T := TM) (N := 12) hx hb ht inM tyM tyM_ok nmM hown hK hM.1 hM.2 hS 0 rfl rfl 6 (by decide) (ht _ tm_324) (fun _ h9 => h9) rfl (by decide +kernel) rfl rfl (Nat.le_of_ble_eq_true rfl) md_M_takeY_37 (fun H_24 L_25 hP hD hS => ?_)
    have hM : MWd D cL h0 q0 A ((u.1.1, (rf_isS p0 p1), u.1.2.2.1, (rf_isN p0 p1), u.1.2.2.2.2.1, true, u.1.2.2.2.2.2.2.1, u.1.2.2.2.2.2.2.2.1, u.1.2.2.2.2.2.2.2.2.1, u.1.2.2.2.2.2.2.2.2.2.1, u.1.2.2.2.2.2.2.2.2.2.2), u.2) H_24 := ⟨hP, hD⟩
    refine lv_aload_n hx hb md_M_takeY_40 rfl (lv_at hl 0 rfl) ?_
    refine lv_iload_n hx hb md_M_takeY_41 rfl (lv_at hl 1 rfl) ?_
    refine lv_lload_n hx hb md_M_takeY_42 rfl (lv_at hl 2 rfl) ?_
    refine vp_callSl (W.runS (As := [.int p0, .long p1]) (rest := [.ref h0]) ⟨hx, hb, hml, hown, hts⟩ (mt_M_mantissa l p0 p1) (va_cwS 2 hts (gd_S tm_458 tm_459 tm_25 tm_460) rfl rfl rfl (by decide +kernel) ⟨Nat.le_of_ble_eq_true rfl, Nat.le_of_ble_eq_true rfl⟩) ⟨fb_0, fun U hU hW => ⟨rfl, trivial⟩⟩ rfl rfl hl.1 rfl (lv_room (Nat.le_of_ble_eq_true rfl)) md_M_takeY_43 ⟨Nat.zero_le _, Nat.zero_le _⟩) (fun r_26 e_27 => ?_)
    obtain rfl : r_26 = rf_man p0 p1 := e_27
    refine va_put (D := D) (ci := 1) (v := .long (rf_man p0 p1)) (ty := .long) (C := "NumberProbeModel") (T := TM) (N := 12) hx hb ht inM tyM tyM_ok nmM hown hK hM.1 hM.2 hS 0 rfl rfl 8 (by decide) (ht _ tm_326) (fun _ h9 => h9) rfl (by decide +kernel) rfl rfl (Nat.le_of_ble_eq_true rfl) md_M_takeY_46 (fun H_28 L_29 hP hD hS => ?_)
    have hM : MWd D cL h0 q0 A ((u.1.1, (rf_isS p0 p1), u.1.2.2.1, (rf_isN p0 p1), u.1.2.2.2.2.1, true, u.1.2.2.2.2.2.2.1, rf_man p0 p1, u.1.2.2.2.2.2.2.2.2.1, u.1.2.2.2.2.2.2.2.2.2.1, u.1.2.2.2.2.2.2.2.2.2.2), u.2) H_28 := ⟨hP, hD⟩
    refine lv_aload_n hx hb md_M_takeY_49 rfl (lv_at hl 0 rfl) ?_
    refine lv_iload_n hx hb md_M_takeY_50 rfl (lv_at hl 1 rfl) ?_
    refine lv_lload_n hx hb md_M_takeY_51 rfl (lv_at hl 2 rfl) ?_
    refine vp_callSi (W.runS (As := [.int p0, .long p1]) (rest := [.ref h0]) ⟨hx, hb, hml, hown, hts⟩ (mt_M_power l p0 p1) (va_cwS 2 hts (gd_S tm_461 tm_462 tm_25 tm_463) rfl rfl rfl (by decide +kernel) ⟨Nat.le_of_ble_eq_true rfl, Nat.le_of_ble_eq_true rfl⟩) ⟨fb_0, fun U hU hW => ⟨rfl, trivial⟩⟩ rfl rfl hl.1 rfl (lv_room (Nat.le_of_ble_eq_true rfl)) md_M_takeY_52 ⟨Nat.zero_le _, Nat.zero_le _⟩) (fun r_30 e_31 => ?_)
    obtain rfl : r_30 = rf_pow p0 p1 := e_31
    refine va_put (D := D) (ci := 1) (v := .int (rf_pow p0 p1)) (ty := .int) (C := "NumberProbeModel") (T := TM) (N := 12) hx hb ht inM tyM tyM_ok nmM hown hK hM.1 hM.2 hS 0 rfl rfl 10 (by decide) (ht _ tm_328) (fun _ h9 => h9) rfl (by decide +kernel) rfl rfl (Nat.le_of_ble_eq_true rfl) md_M_takeY_55 (fun H_32 L_33 hP hD hS => ?_)
    have hM : MWd D cL h0 q0 A ((u.1.1, (rf_isS p0 p1), u.1.2.2.1, (rf_isN p0 p1), u.1.2.2.2.2.1, true, u.1.2.2.2.2.2.2.1, rf_man p0 p1, u.1.2.2.2.2.2.2.2.2.1, rf_pow p0 p1, u.1.2.2.2.2.2.2.2.2.2.2), u.2) H_32 := ⟨hP, hD⟩
    exact W.vret hx hb hr (fun t ht2 _ => ⟨⟨((u.1.1, (rf_isS p0 p1), u.1.2.2.1, (rf_isN p0 p1), u.1.2.2.2.2.1, true, u.1.2.2.2.2.2.2.1, rf_man p0 p1, u.1.2.2.2.2.2.2.2.2.1, rf_pow p0 p1, u.1.2.2.2.2.2.2.2.2.2.2), u.2), rfl, (by simp [mtY, rf_isI, ((lg_cmp_eq _ _).mp c_13)]), by show MWd D cL h0 q0 A _ t.heap; rw [ht2]; exact hM⟩, hS.F ht2⟩) hS.2.2 md_M_takeY_58
set_option maxHeartbeats 4000000 in
set_option maxRecDepth 100000 in
theorem mt_M_add (l : Launch) (D : va_G) (cL : ClassId) (h0 q0 sz : Nat) (u : MT) (p0 : Int32) (p1 : Int64) (p2 : Int64) : Met l my_M_add mw_M_add ({ frames := 4, cells := 0, slots := 0, locals := 91 } : Room) (MPc D cL h0 q0 sz u [.int p0, .long p1, .long p2]) (MQl D cL h0 q0 (MA h0 q0 cL u sz) (fun (r : Int64) (v : MT) => True)) 0 0 (MA h0 q0 cL u sz) := by
  refine Met.ofW (cc := mc_M_add) (maxL := 13) (ret := (some .long)) (by decide) rfl ?_
  intro p e s m args below meth c s₁ B hml hv
  obtain ⟨rfl, hsz, hP, hK, hD0⟩ := hv
  have hx := B.exec
  have hb := B.bytes
  have hr := B.returns
  have hts := atoms_spec (ws := mw_M_add) B.pre
  have ht : ∀ w ∈ gw_tbl, w.before _ s = true := fun w h => hts w (List.mem_cons_of_mem _ h)
  have hown : s.vm.findClass "NumberProbeModel" = some m.cls := findClass_of_methodNamed B.named
  have hlocks := B.notSynchronized
  subst hsz
  have hD : va_D (MA h0 q0 cL u s.heap.size) (mWs h0 q0 cL u) := hD0.self (sz := s.heap.size)
  generalize hAe : MA h0 q0 cL u s.heap.size = A at hD ⊢
  have hA : ∀ q : Nat, s.heap.size ≤ q → A q := fun q h => by rw [← hAe]; exact Or.inr h
  have hS : va_S A s.heap s.heap [] := va_S.rf
  have hM : MWd D cL h0 q0 A u s.heap := ⟨hP, hD⟩
  have hl := lv_entry ([.ref h0, .int p0, .long p1, .long p2]) (n := 13) (Nat.le_of_ble_eq_true rfl)
  rw [lg_entry_eq]
  generalize (lg_sl ([.ref h0, .int p0, .long p1, .long p2]) ++ List.replicate (13 - (lg_sl ([.ref h0, .int p0, .long p1, .long p2])).length) Slot.unset).toArray = ls at hl ⊢
  have hl : lv_has ls 13 [(0, .ref h0), (1, .int p0), (2, .long p1), (4, .long p2)] := hl
  refine lv_aload_n hx hb md_M_add_0 rfl (lv_at hl 0 rfl) ?_
  refine lv_iload_n hx hb md_M_add_1 rfl (lv_at hl 1 rfl) ?_
  refine lv_lload_n hx hb md_M_add_2 rfl (lv_at hl 2 rfl) ?_
  refine m_callv (va_runV (C := "NumberProbeModel") (As := [.int p0, .long p1]) (rest := []) ⟨hx, hb, hml, hown, hts⟩ (mt_M_takeX l D cL h0 q0 _ u p0 p1) (cwV 2 hts (gd_V tm_451 tm_453 tm_13 tm_25 tm_454) rfl rfl rfl (by decide +kernel) ⟨Nat.le_of_ble_eq_true rfl, Nat.le_of_ble_eq_true rfl⟩) (m_in (locs := []) hK hM) rfl rfl hl.1 rfl (lv_room (Nat.le_of_ble_eq_true rfl)) md_M_add_3 ⟨Nat.zero_le _, Nat.zero_le _⟩) hM hS hA (fun u_3 H_4 L_5 e_2 hM hS => ?_)
  obtain rfl : u_3 = mtX p0 p1 u := e_2
  refine lv_aload_n hx hb md_M_add_6 rfl (lv_at hl 0 rfl) ?_
  refine lv_iload_n hx hb md_M_add_7 rfl (lv_at hl 1 rfl) ?_
  refine lv_lload hx hb md_M_add_8 (lv_at hl 3 rfl) ?_
  refine m_callv (va_runV (C := "NumberProbeModel") (As := [.int p0, .long p2]) (rest := []) ⟨hx, hb, hml, hown, hts⟩ (mt_M_takeY l D cL h0 q0 _ (mtX p0 p1 u) p0 p2) (cwV 2 hts (gd_V tm_464 tm_466 tm_14 tm_25 tm_467) rfl rfl rfl (by decide +kernel) ⟨Nat.le_of_ble_eq_true rfl, Nat.le_of_ble_eq_true rfl⟩) (m_in (locs := L_5) hK hM) rfl rfl hl.1 rfl (lv_room (Nat.le_of_ble_eq_true rfl)) md_M_add_10 ⟨Nat.zero_le _, Nat.zero_le _⟩) hM hS hA (fun u_8 H_9 L_10 e_7 hM hS => ?_)
  obtain rfl : u_8 = mtY p0 p2 (mtX p0 p1 u) := e_7
  refine lv_aload_n hx hb md_M_add_13 rfl (lv_at hl 0 rfl) ?_
  refine va_get (D := D) (ci := 1) (v := .int (jb (rf_isN p0 p1))) (C := "NumberProbeModel") (T := TM) (N := 12) hx hb ht inM hown hK hM.1 0 rfl rfl 3 (by decide) (ht _ tm_321) (fun _ h9 => h9) rfl md_M_add_14 ?_
  refine lv_if_ne (tgt := 52) hx hb md_M_add_17 (by decide) (fun c_11 => ?_) (fun c_11 => ?_)
  · refine lv_iload_n hx hb md_M_add_52 rfl (lv_at hl 1 rfl) ?_
    refine vp_callSl (W.runS (As := [.int p0]) (rest := []) ⟨hx, hb, hml, hown, hts⟩ (mt_M_nan l p0) (va_cwS 1 hts (gd_S tm_382 tm_383 tm_25 tm_384) rfl rfl rfl (by decide +kernel) ⟨Nat.le_of_ble_eq_true rfl, Nat.le_of_ble_eq_true rfl⟩) ⟨fb_0, fun U hU hW => ⟨rfl, trivial⟩⟩ rfl rfl hl.1 rfl (lv_room (Nat.le_of_ble_eq_true rfl)) md_M_add_53 ⟨Nat.zero_le _, Nat.zero_le _⟩) (fun r_12 e_13 => ?_)
    obtain rfl : r_12 = rf_na p0 := e_13
    exact W.lret (v := rf_na p0) hx hb hr (fun t ht2 _ => ⟨⟨rf_na p0, mtY p0 p2 (mtX p0 p1 u), rfl, trivial, by show MWd D cL h0 q0 A _ t.heap; rw [ht2]; exact hM⟩, hS.F ht2⟩) hS.2.2 md_M_add_56
  · refine lv_aload_n hx hb md_M_add_20 rfl (lv_at hl 0 rfl) ?_
    refine va_get (D := D) (ci := 1) (v := .int (jb (rf_isN p0 p2))) (C := "NumberProbeModel") (T := TM) (N := 12) hx hb ht inM hown hK hM.1 0 rfl rfl 4 (by decide) (ht _ tm_322) (fun _ h9 => h9) rfl md_M_add_21 ?_
    refine lv_if_ne (tgt := 52) hx hb md_M_add_24 (by decide) (fun c_14 => ?_) (fun c_14 => ?_)
    · refine lv_iload_n hx hb md_M_add_52 rfl (lv_at hl 1 rfl) ?_
      refine vp_callSl (W.runS (As := [.int p0]) (rest := []) ⟨hx, hb, hml, hown, hts⟩ (mt_M_nan l p0) (va_cwS 1 hts (gd_S tm_382 tm_383 tm_25 tm_384) rfl rfl rfl (by decide +kernel) ⟨Nat.le_of_ble_eq_true rfl, Nat.le_of_ble_eq_true rfl⟩) ⟨fb_0, fun U hU hW => ⟨rfl, trivial⟩⟩ rfl rfl hl.1 rfl (lv_room (Nat.le_of_ble_eq_true rfl)) md_M_add_53 ⟨Nat.zero_le _, Nat.zero_le _⟩) (fun r_15 e_16 => ?_)
      obtain rfl : r_15 = rf_na p0 := e_16
      exact W.lret (v := rf_na p0) hx hb hr (fun t ht2 _ => ⟨⟨rf_na p0, mtY p0 p2 (mtX p0 p1 u), rfl, trivial, by show MWd D cL h0 q0 A _ t.heap; rw [ht2]; exact hM⟩, hS.F ht2⟩) hS.2.2 md_M_add_56
    · refine lv_aload_n hx hb md_M_add_27 rfl (lv_at hl 0 rfl) ?_
      refine va_get (D := D) (ci := 1) (v := .int (jb (rf_isI p0 p1))) (C := "NumberProbeModel") (T := TM) (N := 12) hx hb ht inM hown hK hM.1 0 rfl rfl 5 (by decide) (ht _ tm_323) (fun _ h9 => h9) rfl md_M_add_28 ?_
      refine lv_if_eq (tgt := 57) hx hb md_M_add_31 (by decide) (fun c_17 => ?_) (fun c_17 => ?_)
      · refine lv_aload_n hx hb md_M_add_57 rfl (lv_at hl 0 rfl) ?_
        refine va_get (D := D) (ci := 1) (v := .int (jb (rf_isI p0 p1))) (C := "NumberProbeModel") (T := TM) (N := 12) hx hb ht inM hown hK hM.1 0 rfl rfl 5 (by decide) (ht _ tm_323) (fun _ h9 => h9) rfl md_M_add_58 ?_
        refine lv_if_eq (tgt := 66) hx hb md_M_add_61 (by decide) (fun c_18 => ?_) (fun c_18 => ?_)
        · refine lv_aload_n hx hb md_M_add_66 rfl (lv_at hl 0 rfl) ?_
          refine va_get (D := D) (ci := 1) (v := .int (jb (rf_isI p0 p2))) (C := "NumberProbeModel") (T := TM) (N := 12) hx hb ht inM hown hK hM.1 0 rfl rfl 6 (by decide) (ht _ tm_324) (fun _ h9 => h9) rfl md_M_add_67 ?_
          refine lv_if_eq (tgt := 76) hx hb md_M_add_70 (by decide) (fun c_19 => ?_) (fun c_19 => ?_)
          · refine lv_aload_n hx hb md_M_add_76 rfl (lv_at hl 0 rfl) ?_
            refine va_get (D := D) (ci := 1) (v := .long (rf_man p0 p1)) (C := "NumberProbeModel") (T := TM) (N := 12) hx hb ht inM hown hK hM.1 0 rfl rfl 7 (by decide) (ht _ tm_325) (fun _ h9 => h9) rfl md_M_add_77 ?_
            refine lv_lconst (v := 0) hx hb md_M_add_80 (by decide) ?_
            refine W.lcmp hx hb md_M_add_81 ?_
            refine lv_if_ne (tgt := 114) hx hb md_M_add_82 (by decide) (fun c_20 => ?_) (fun c_20 => ?_)
            · refine lv_aload_n hx hb md_M_add_114 rfl (lv_at hl 0 rfl) ?_
              refine va_get (D := D) (ci := 1) (v := .int (rf_pow p0 p1)) (C := "NumberProbeModel") (T := TM) (N := 12) hx hb ht inM hown hK hM.1 0 rfl rfl 9 (by decide) (ht _ tm_327) (fun _ h9 => h9) rfl md_M_add_115 ?_
              refine lv_aload_n hx hb md_M_add_118 rfl (lv_at hl 0 rfl) ?_
              refine va_get (D := D) (ci := 1) (v := .int (rf_pow p0 p2)) (C := "NumberProbeModel") (T := TM) (N := 12) hx hb ht inM hown hK hM.1 0 rfl rfl 10 (by decide) (ht _ tm_328) (fun _ h9 => h9) rfl md_M_add_119 ?_
              have J_22 : ∀ (z_23 : Int32) (ls : Array Slot), lv_has ls 13 [(0, .ref h0), (1, .int p0), (2, .long p1), (4, .long p2)] → W p l e (headSpec mw_M_add ({ frames := 4, cells := 0, slots := 0, locals := 91 } : Room)).room s m ([.ref h0, .int p0, .long p1, .long p2] : List Value).toArray below meth c H_9 L_10 0 0 (MQ below (MQl D cL h0 q0 A (fun (r : Int64) (v : MT) => True)) ([.ref h0, .int p0, .long p1, .long p2] : List Value).toArray s 0 0 A) (F0 m 136 ls [.int z_23]) := by
                intro z_23 ls hl
                refine lv_istore (lv' := [(6, .int z_23), (0, .ref h0), (1, .int p0), (2, .long p1), (4, .long p2)]) hx hb md_M_add_136 hl (by decide) rfl (fun ls hl => ?_)
                refine lv_aload_n hx hb md_M_add_138 rfl (lv_at hl 1 rfl) ?_
                refine va_get (D := D) (ci := 1) (v := .long (rf_man p0 p1)) (C := "NumberProbeModel") (T := TM) (N := 12) hx hb ht inM hown hK hM.1 0 rfl rfl 7 (by decide) (ht _ tm_325) (fun _ h9 => h9) rfl md_M_add_139 ?_
                refine lv_bipush (v := 8) hx hb md_M_add_142 (by decide) ?_
                refine lv_lshl (v := jl_shl (rf_man p0 p1) 8) hx hb md_M_add_144 rfl ?_
                refine lv_iload hx hb md_M_add_145 (lv_at hl 0 rfl) ?_
                refine lv_aload_n hx hb md_M_add_147 rfl (lv_at hl 1 rfl) ?_
                refine va_get (D := D) (ci := 1) (v := .int (rf_pow p0 p1)) (C := "NumberProbeModel") (T := TM) (N := 12) hx hb ht inM hown hK hM.1 0 rfl rfl 9 (by decide) (ht _ tm_327) (fun _ h9 => h9) rfl md_M_add_148 ?_
                refine lv_isub hx hb md_M_add_151 ?_
                refine vp_callSl (W.runS (As := [.long (jl_shl (rf_man p0 p1) 8), .int (z_23 - (rf_pow p0 p1))]) (rest := []) ⟨hx, hb, hml, hown, hts⟩ (mt_M_shiftedDown l (jl_shl (rf_man p0 p1) 8) (z_23 - (rf_pow p0 p1))) (va_cwS 2 hts (gd_S tm_468 tm_469 tm_25 tm_470) rfl rfl rfl (by decide +kernel) ⟨Nat.le_of_ble_eq_true rfl, Nat.le_of_ble_eq_true rfl⟩) ⟨fb_0, fun U hU hW => ⟨rfl, trivial⟩⟩ rfl rfl hl.1 rfl (lv_room (Nat.le_of_ble_eq_true rfl)) md_M_add_152 ⟨Nat.zero_le _, Nat.zero_le _⟩) (fun r_24 e_25 => ?_)
                refine lv_lstore (lv' := [(7, .long r_24), (6, .int z_23), (0, .ref h0), (1, .int p0), (2, .long p1), (4, .long p2)]) hx hb md_M_add_155 hl (by decide) rfl (fun ls hl => ?_)
                refine lv_aload_n hx hb md_M_add_157 rfl (lv_at hl 2 rfl) ?_
                refine va_get (D := D) (ci := 1) (v := .long (rf_man p0 p2)) (C := "NumberProbeModel") (T := TM) (N := 12) hx hb ht inM hown hK hM.1 0 rfl rfl 8 (by decide) (ht _ tm_326) (fun _ h9 => h9) rfl md_M_add_158 ?_
                refine lv_bipush (v := 8) hx hb md_M_add_161 (by decide) ?_
                refine lv_lshl (v := jl_shl (rf_man p0 p2) 8) hx hb md_M_add_163 rfl ?_
                refine lv_iload hx hb md_M_add_164 (lv_at hl 1 rfl) ?_
                refine lv_aload_n hx hb md_M_add_166 rfl (lv_at hl 2 rfl) ?_
                refine va_get (D := D) (ci := 1) (v := .int (rf_pow p0 p2)) (C := "NumberProbeModel") (T := TM) (N := 12) hx hb ht inM hown hK hM.1 0 rfl rfl 10 (by decide) (ht _ tm_328) (fun _ h9 => h9) rfl md_M_add_167 ?_
                refine lv_isub hx hb md_M_add_170 ?_
                refine vp_callSl (W.runS (As := [.long (jl_shl (rf_man p0 p2) 8), .int (z_23 - (rf_pow p0 p2))]) (rest := []) ⟨hx, hb, hml, hown, hts⟩ (mt_M_shiftedDown l (jl_shl (rf_man p0 p2) 8) (z_23 - (rf_pow p0 p2))) (va_cwS 2 hts (gd_S tm_468 tm_469 tm_25 tm_470) rfl rfl rfl (by decide +kernel) ⟨Nat.le_of_ble_eq_true rfl, Nat.le_of_ble_eq_true rfl⟩) ⟨fb_0, fun U hU hW => ⟨rfl, trivial⟩⟩ rfl rfl hl.1 rfl (lv_room (Nat.le_of_ble_eq_true rfl)) md_M_add_171 ⟨Nat.zero_le _, Nat.zero_le _⟩) (fun r_26 e_27 => ?_)
                refine lv_lstore (lv' := [(9, .long r_26), (7, .long r_24), (6, .int z_23), (0, .ref h0), (1, .int p0), (2, .long p1), (4, .long p2)]) hx hb md_M_add_174 hl (by decide) rfl (fun ls hl => ?_)
                refine lv_aload_n hx hb md_M_add_176 rfl (lv_at hl 3 rfl) ?_
                refine va_get (D := D) (ci := 1) (v := .int (jb (rf_isS p0 p1))) (C := "NumberProbeModel") (T := TM) (N := 12) hx hb ht inM hown hK hM.1 0 rfl rfl 1 (by decide) (ht _ tm_319) (fun _ h9 => h9) rfl md_M_add_177 ?_
                have J_29 : ∀ (z_30 : Int64) (ls : Array Slot), lv_has ls 13 [(9, .long r_26), (7, .long r_24), (6, .int z_23), (0, .ref h0), (1, .int p0), (2, .long p1), (4, .long p2)] → W p l e (headSpec mw_M_add ({ frames := 4, cells := 0, slots := 0, locals := 91 } : Room)).room s m ([.ref h0, .int p0, .long p1, .long p2] : List Value).toArray below meth c H_9 L_10 0 0 (MQ below (MQl D cL h0 q0 A (fun (r : Int64) (v : MT) => True)) ([.ref h0, .int p0, .long p1, .long p2] : List Value).toArray s 0 0 A) (F0 m 191 ls [.long z_30]) := by
                  intro z_30 ls hl
                  refine lv_aload_n hx hb md_M_add_191 rfl (lv_at hl 3 rfl) ?_
                  refine va_get (D := D) (ci := 1) (v := .int (jb (rf_isS p0 p2))) (C := "NumberProbeModel") (T := TM) (N := 12) hx hb ht inM hown hK hM.1 0 rfl rfl 2 (by decide) (ht _ tm_320) (fun _ h9 => h9) rfl md_M_add_192 ?_
                  have J_32 : ∀ (z_33 : Int64) (ls : Array Slot), lv_has ls 13 [(9, .long r_26), (7, .long r_24), (6, .int z_23), (0, .ref h0), (1, .int p0), (2, .long p1), (4, .long p2)] → W p l e (headSpec mw_M_add ({ frames := 4, cells := 0, slots := 0, locals := 91 } : Room)).room s m ([.ref h0, .int p0, .long p1, .long p2] : List Value).toArray below meth c H_9 L_10 0 0 (MQ below (MQl D cL h0 q0 A (fun (r : Int64) (v : MT) => True)) ([.ref h0, .int p0, .long p1, .long p2] : List Value).toArray s 0 0 A) (F0 m 206 ls [.long z_33, .long z_30]) := by
                    intro z_33 ls hl
                    refine lv_ladd hx hb md_M_add_206 ?_
                    refine lv_lstore (lv' := [(11, .long (z_30 + z_33)), (9, .long r_26), (7, .long r_24), (6, .int z_23), (0, .ref h0), (1, .int p0), (2, .long p1), (4, .long p2)]) hx hb md_M_add_207 hl (by decide) rfl (fun ls hl => ?_)
                    refine lv_lload hx hb md_M_add_209 (lv_at hl 0 rfl) ?_
                    refine lv_lconst (v := 0) hx hb md_M_add_211 (by decide) ?_
                    refine W.lcmp hx hb md_M_add_212 ?_
                    refine lv_if_ne (tgt := 218) hx hb md_M_add_213 (by decide) (fun c_34 => ?_) (fun c_34 => ?_)
                    · refine lv_iload_n hx hb md_M_add_218 rfl (lv_at hl 5 rfl) ?_
                      refine lv_lload hx hb md_M_add_219 (lv_at hl 0 rfl) ?_
                      refine lv_lconst (v := 0) hx hb md_M_add_221 (by decide) ?_
                      refine W.lcmp hx hb md_M_add_222 ?_
                      have J_36 : ∀ (z_37 : Bool) (ls : Array Slot), lv_has ls 13 [(11, .long (z_30 + z_33)), (9, .long r_26), (7, .long r_24), (6, .int z_23), (0, .ref h0), (1, .int p0), (2, .long p1), (4, .long p2)] → W p l e (headSpec mw_M_add ({ frames := 4, cells := 0, slots := 0, locals := 91 } : Room)).room s m ([.ref h0, .int p0, .long p1, .long p2] : List Value).toArray below meth c H_9 L_10 0 0 (MQ below (MQl D cL h0 q0 A (fun (r : Int64) (v : MT) => True)) ([.ref h0, .int p0, .long p1, .long p2] : List Value).toArray s 0 0 A) (F0 m 231 ls [.int (jb z_37), .int p0]) := by
                        intro z_37 ls hl
                        refine lv_lload hx hb md_M_add_231 (lv_at hl 0 rfl) ?_
                        refine lv_lconst (v := 0) hx hb md_M_add_233 (by decide) ?_
                        refine W.lcmp hx hb md_M_add_234 ?_
                        have J_39 : ∀ (z_40 : Int64) (ls : Array Slot), lv_has ls 13 [(11, .long (z_30 + z_33)), (9, .long r_26), (7, .long r_24), (6, .int z_23), (0, .ref h0), (1, .int p0), (2, .long p1), (4, .long p2)] → W p l e (headSpec mw_M_add ({ frames := 4, cells := 0, slots := 0, locals := 91 } : Room)).room s m ([.ref h0, .int p0, .long p1, .long p2] : List Value).toArray below meth c H_9 L_10 0 0 (MQ below (MQl D cL h0 q0 A (fun (r : Int64) (v : MT) => True)) ([.ref h0, .int p0, .long p1, .long p2] : List Value).toArray s 0 0 A) (F0 m 246 ls [.long z_40, .int (jb z_37), .int p0]) := by
                          intro z_40 ls hl
                          refine lv_iload hx hb md_M_add_246 (lv_at hl 3 rfl) ?_
                          refine lv_bipush (v := 8) hx hb md_M_add_248 (by decide) ?_
                          refine lv_isub hx hb md_M_add_250 ?_
                          refine vp_callSl (W.runS (As := [.int p0, .int (jb z_37), .long z_40, .int (z_23 - 8)]) (rest := []) ⟨hx, hb, hml, hown, hts⟩ (mt_M_round l p0 z_37 z_40 (z_23 - 8)) (va_cwS 4 hts (gd_S tm_398 tm_399 tm_25 tm_400) rfl rfl rfl (by decide +kernel) ⟨Nat.le_of_ble_eq_true rfl, Nat.le_of_ble_eq_true rfl⟩) ⟨fb_0, fun U hU hW => ⟨rfl, trivial⟩⟩ rfl rfl hl.1 rfl (lv_room (Nat.le_of_ble_eq_true rfl)) md_M_add_251 ⟨Nat.zero_le _, Nat.zero_le _⟩) (fun r_41 e_42 => ?_)
                          exact W.lret (v := r_41) hx hb hr (fun t ht2 _ => ⟨⟨r_41, mtY p0 p2 (mtX p0 p1 u), rfl, trivial, by show MWd D cL h0 q0 A _ t.heap; rw [ht2]; exact hM⟩, hS.F ht2⟩) hS.2.2 md_M_add_254
                        refine lv_if_ge (tgt := 244) hx hb md_M_add_235 (by decide) (fun c_38 => ?_) (fun c_38 => ?_)
                        · refine lv_lload hx hb md_M_add_244 (lv_at hl 0 rfl) ?_
                          exact J_39 (z_30 + z_33) ls (lv_sub hl [0, 1, 2, 3, 4, 5, 6, 7] rfl)
                        · refine lv_lload hx hb md_M_add_238 (lv_at hl 0 rfl) ?_
                          refine lv_lneg hx hb md_M_add_240 ?_
                          refine lv_goto (tgt := 246) hx hb md_M_add_241 (by decide) ?_
                          exact J_39 (-(z_30 + z_33)) ls (lv_sub hl [0, 1, 2, 3, 4, 5, 6, 7] rfl)
                      refine lv_if_ge (tgt := 230) hx hb md_M_add_223 (by decide) (fun c_35 => ?_) (fun c_35 => ?_)
                      · refine lv_iconst (v := 0) hx hb md_M_add_230 (by decide) ?_
                        exact J_36 false ls (lv_sub hl [0, 1, 2, 3, 4, 5, 6, 7] rfl)
                      · refine lv_iconst (v := 1) hx hb md_M_add_226 (by decide) ?_
                        refine lv_goto (tgt := 231) hx hb md_M_add_227 (by decide) ?_
                        exact J_36 true ls (lv_sub hl [0, 1, 2, 3, 4, 5, 6, 7] rfl)
                    · refine lv_lconst (v := 0) hx hb md_M_add_216 (by decide) ?_
                      exact W.lret (v := 0) hx hb hr (fun t ht2 _ => ⟨⟨0, mtY p0 p2 (mtX p0 p1 u), rfl, trivial, by show MWd D cL h0 q0 A _ t.heap; rw [ht2]; exact hM⟩, hS.F ht2⟩) hS.2.2 md_M_add_217
                  refine lv_if_eq (tgt := 204) hx hb md_M_add_195 (by decide) (fun c_31 => ?_) (fun c_31 => ?_)
                  · refine lv_lload hx hb md_M_add_204 (lv_at hl 0 rfl) ?_
                    exact J_32 r_26 ls (lv_sub hl [0, 1, 2, 3, 4, 5, 6] rfl)
                  · refine lv_lload hx hb md_M_add_198 (lv_at hl 0 rfl) ?_
                    refine lv_lneg hx hb md_M_add_200 ?_
                    refine lv_goto (tgt := 206) hx hb md_M_add_201 (by decide) ?_
                    exact J_32 (-r_26) ls (lv_sub hl [0, 1, 2, 3, 4, 5, 6] rfl)
                refine lv_if_eq (tgt := 189) hx hb md_M_add_180 (by decide) (fun c_28 => ?_) (fun c_28 => ?_)
                · refine lv_lload hx hb md_M_add_189 (lv_at hl 1 rfl) ?_
                  exact J_29 r_24 ls (lv_sub hl [0, 1, 2, 3, 4, 5, 6] rfl)
                · refine lv_lload hx hb md_M_add_183 (lv_at hl 1 rfl) ?_
                  refine lv_lneg hx hb md_M_add_185 ?_
                  refine lv_goto (tgt := 191) hx hb md_M_add_186 (by decide) ?_
                  exact J_29 (-r_24) ls (lv_sub hl [0, 1, 2, 3, 4, 5, 6] rfl)
              refine lv_icmp_le (tgt := 132) hx hb md_M_add_122 (by decide) (fun c_21 => ?_) (fun c_21 => ?_)
              · refine lv_aload_n hx hb md_M_add_132 rfl (lv_at hl 0 rfl) ?_
                refine va_get (D := D) (ci := 1) (v := .int (rf_pow p0 p2)) (C := "NumberProbeModel") (T := TM) (N := 12) hx hb ht inM hown hK hM.1 0 rfl rfl 10 (by decide) (ht _ tm_328) (fun _ h9 => h9) rfl md_M_add_133 ?_
                exact J_22 (rf_pow p0 p2) ls (lv_sub hl [0, 1, 2, 3] rfl)
              · refine lv_aload_n hx hb md_M_add_125 rfl (lv_at hl 0 rfl) ?_
                refine va_get (D := D) (ci := 1) (v := .int (rf_pow p0 p1)) (C := "NumberProbeModel") (T := TM) (N := 12) hx hb ht inM hown hK hM.1 0 rfl rfl 9 (by decide) (ht _ tm_327) (fun _ h9 => h9) rfl md_M_add_126 ?_
                refine lv_goto (tgt := 136) hx hb md_M_add_129 (by decide) ?_
                exact J_22 (rf_pow p0 p1) ls (lv_sub hl [0, 1, 2, 3] rfl)
            · refine lv_aload_n hx hb md_M_add_85 rfl (lv_at hl 0 rfl) ?_
              refine va_get (D := D) (ci := 1) (v := .long (rf_man p0 p2)) (C := "NumberProbeModel") (T := TM) (N := 12) hx hb ht inM hown hK hM.1 0 rfl rfl 8 (by decide) (ht _ tm_326) (fun _ h9 => h9) rfl md_M_add_86 ?_
              refine lv_lconst (v := 0) hx hb md_M_add_89 (by decide) ?_
              refine W.lcmp hx hb md_M_add_90 ?_
              refine lv_if_ne (tgt := 114) hx hb md_M_add_91 (by decide) (fun c_43 => ?_) (fun c_43 => ?_)
              · refine lv_aload_n hx hb md_M_add_114 rfl (lv_at hl 0 rfl) ?_
                refine va_get (D := D) (ci := 1) (v := .int (rf_pow p0 p1)) (C := "NumberProbeModel") (T := TM) (N := 12) hx hb ht inM hown hK hM.1 0 rfl rfl 9 (by decide) (ht _ tm_327) (fun _ h9 => h9) rfl md_M_add_115 ?_
                refine lv_aload_n hx hb md_M_add_118 rfl (lv_at hl 0 rfl) ?_
                refine va_get (D := D) (ci := 1) (v := .int (rf_pow p0 p2)) (C := "NumberProbeModel") (T := TM) (N := 12) hx hb ht inM hown hK hM.1 0 rfl rfl 10 (by decide) (ht _ tm_328) (fun _ h9 => h9) rfl md_M_add_119 ?_
                have J_45 : ∀ (z_46 : Int32) (ls : Array Slot), lv_has ls 13 [(0, .ref h0), (1, .int p0), (2, .long p1), (4, .long p2)] → W p l e (headSpec mw_M_add ({ frames := 4, cells := 0, slots := 0, locals := 91 } : Room)).room s m ([.ref h0, .int p0, .long p1, .long p2] : List Value).toArray below meth c H_9 L_10 0 0 (MQ below (MQl D cL h0 q0 A (fun (r : Int64) (v : MT) => True)) ([.ref h0, .int p0, .long p1, .long p2] : List Value).toArray s 0 0 A) (F0 m 136 ls [.int z_46]) := by
                  intro z_46 ls hl
                  refine lv_istore (lv' := [(6, .int z_46), (0, .ref h0), (1, .int p0), (2, .long p1), (4, .long p2)]) hx hb md_M_add_136 hl (by decide) rfl (fun ls hl => ?_)
                  refine lv_aload_n hx hb md_M_add_138 rfl (lv_at hl 1 rfl) ?_
                  refine va_get (D := D) (ci := 1) (v := .long (rf_man p0 p1)) (C := "NumberProbeModel") (T := TM) (N := 12) hx hb ht inM hown hK hM.1 0 rfl rfl 7 (by decide) (ht _ tm_325) (fun _ h9 => h9) rfl md_M_add_139 ?_
                  refine lv_bipush (v := 8) hx hb md_M_add_142 (by decide) ?_
                  refine lv_lshl (v := jl_shl (rf_man p0 p1) 8) hx hb md_M_add_144 rfl ?_
                  refine lv_iload hx hb md_M_add_145 (lv_at hl 0 rfl) ?_
                  refine lv_aload_n hx hb md_M_add_147 rfl (lv_at hl 1 rfl) ?_
                  refine va_get (D := D) (ci := 1) (v := .int (rf_pow p0 p1)) (C := "NumberProbeModel") (T := TM) (N := 12) hx hb ht inM hown hK hM.1 0 rfl rfl 9 (by decide) (ht _ tm_327) (fun _ h9 => h9) rfl md_M_add_148 ?_
                  refine lv_isub hx hb md_M_add_151 ?_
                  refine vp_callSl (W.runS (As := [.long (jl_shl (rf_man p0 p1) 8), .int (z_46 - (rf_pow p0 p1))]) (rest := []) ⟨hx, hb, hml, hown, hts⟩ (mt_M_shiftedDown l (jl_shl (rf_man p0 p1) 8) (z_46 - (rf_pow p0 p1))) (va_cwS 2 hts (gd_S tm_468 tm_469 tm_25 tm_470) rfl rfl rfl (by decide +kernel) ⟨Nat.le_of_ble_eq_true rfl, Nat.le_of_ble_eq_true rfl⟩) ⟨fb_0, fun U hU hW => ⟨rfl, trivial⟩⟩ rfl rfl hl.1 rfl (lv_room (Nat.le_of_ble_eq_true rfl)) md_M_add_152 ⟨Nat.zero_le _, Nat.zero_le _⟩) (fun r_47 e_48 => ?_)
                  refine lv_lstore (lv' := [(7, .long r_47), (6, .int z_46), (0, .ref h0), (1, .int p0), (2, .long p1), (4, .long p2)]) hx hb md_M_add_155 hl (by decide) rfl (fun ls hl => ?_)
                  refine lv_aload_n hx hb md_M_add_157 rfl (lv_at hl 2 rfl) ?_
                  refine va_get (D := D) (ci := 1) (v := .long (rf_man p0 p2)) (C := "NumberProbeModel") (T := TM) (N := 12) hx hb ht inM hown hK hM.1 0 rfl rfl 8 (by decide) (ht _ tm_326) (fun _ h9 => h9) rfl md_M_add_158 ?_
                  refine lv_bipush (v := 8) hx hb md_M_add_161 (by decide) ?_
                  refine lv_lshl (v := jl_shl (rf_man p0 p2) 8) hx hb md_M_add_163 rfl ?_
                  refine lv_iload hx hb md_M_add_164 (lv_at hl 1 rfl) ?_
                  refine lv_aload_n hx hb md_M_add_166 rfl (lv_at hl 2 rfl) ?_
                  refine va_get (D := D) (ci := 1) (v := .int (rf_pow p0 p2)) (C := "NumberProbeModel") (T := TM) (N := 12) hx hb ht inM hown hK hM.1 0 rfl rfl 10 (by decide) (ht _ tm_328) (fun _ h9 => h9) rfl md_M_add_167 ?_
                  refine lv_isub hx hb md_M_add_170 ?_
                  refine vp_callSl (W.runS (As := [.long (jl_shl (rf_man p0 p2) 8), .int (z_46 - (rf_pow p0 p2))]) (rest := []) ⟨hx, hb, hml, hown, hts⟩ (mt_M_shiftedDown l (jl_shl (rf_man p0 p2) 8) (z_46 - (rf_pow p0 p2))) (va_cwS 2 hts (gd_S tm_468 tm_469 tm_25 tm_470) rfl rfl rfl (by decide +kernel) ⟨Nat.le_of_ble_eq_true rfl, Nat.le_of_ble_eq_true rfl⟩) ⟨fb_0, fun U hU hW => ⟨rfl, trivial⟩⟩ rfl rfl hl.1 rfl (lv_room (Nat.le_of_ble_eq_true rfl)) md_M_add_171 ⟨Nat.zero_le _, Nat.zero_le _⟩) (fun r_49 e_50 => ?_)
                  refine lv_lstore (lv' := [(9, .long r_49), (7, .long r_47), (6, .int z_46), (0, .ref h0), (1, .int p0), (2, .long p1), (4, .long p2)]) hx hb md_M_add_174 hl (by decide) rfl (fun ls hl => ?_)
                  refine lv_aload_n hx hb md_M_add_176 rfl (lv_at hl 3 rfl) ?_
                  refine va_get (D := D) (ci := 1) (v := .int (jb (rf_isS p0 p1))) (C := "NumberProbeModel") (T := TM) (N := 12) hx hb ht inM hown hK hM.1 0 rfl rfl 1 (by decide) (ht _ tm_319) (fun _ h9 => h9) rfl md_M_add_177 ?_
                  have J_52 : ∀ (z_53 : Int64) (ls : Array Slot), lv_has ls 13 [(9, .long r_49), (7, .long r_47), (6, .int z_46), (0, .ref h0), (1, .int p0), (2, .long p1), (4, .long p2)] → W p l e (headSpec mw_M_add ({ frames := 4, cells := 0, slots := 0, locals := 91 } : Room)).room s m ([.ref h0, .int p0, .long p1, .long p2] : List Value).toArray below meth c H_9 L_10 0 0 (MQ below (MQl D cL h0 q0 A (fun (r : Int64) (v : MT) => True)) ([.ref h0, .int p0, .long p1, .long p2] : List Value).toArray s 0 0 A) (F0 m 191 ls [.long z_53]) := by
                    intro z_53 ls hl
                    refine lv_aload_n hx hb md_M_add_191 rfl (lv_at hl 3 rfl) ?_
                    refine va_get (D := D) (ci := 1) (v := .int (jb (rf_isS p0 p2))) (C := "NumberProbeModel") (T := TM) (N := 12) hx hb ht inM hown hK hM.1 0 rfl rfl 2 (by decide) (ht _ tm_320) (fun _ h9 => h9) rfl md_M_add_192 ?_
                    have J_55 : ∀ (z_56 : Int64) (ls : Array Slot), lv_has ls 13 [(9, .long r_49), (7, .long r_47), (6, .int z_46), (0, .ref h0), (1, .int p0), (2, .long p1), (4, .long p2)] → W p l e (headSpec mw_M_add ({ frames := 4, cells := 0, slots := 0, locals := 91 } : Room)).room s m ([.ref h0, .int p0, .long p1, .long p2] : List Value).toArray below meth c H_9 L_10 0 0 (MQ below (MQl D cL h0 q0 A (fun (r : Int64) (v : MT) => True)) ([.ref h0, .int p0, .long p1, .long p2] : List Value).toArray s 0 0 A) (F0 m 206 ls [.long z_56, .long z_53]) := by
                      intro z_56 ls hl
                      refine lv_ladd hx hb md_M_add_206 ?_
                      refine lv_lstore (lv' := [(11, .long (z_53 + z_56)), (9, .long r_49), (7, .long r_47), (6, .int z_46), (0, .ref h0), (1, .int p0), (2, .long p1), (4, .long p2)]) hx hb md_M_add_207 hl (by decide) rfl (fun ls hl => ?_)
                      refine lv_lload hx hb md_M_add_209 (lv_at hl 0 rfl) ?_
                      refine lv_lconst (v := 0) hx hb md_M_add_211 (by decide) ?_
                      refine W.lcmp hx hb md_M_add_212 ?_
                      refine lv_if_ne (tgt := 218) hx hb md_M_add_213 (by decide) (fun c_57 => ?_) (fun c_57 => ?_)
                      · refine lv_iload_n hx hb md_M_add_218 rfl (lv_at hl 5 rfl) ?_
                        refine lv_lload hx hb md_M_add_219 (lv_at hl 0 rfl) ?_
                        refine lv_lconst (v := 0) hx hb md_M_add_221 (by decide) ?_
                        refine W.lcmp hx hb md_M_add_222 ?_
                        have J_59 : ∀ (z_60 : Bool) (ls : Array Slot), lv_has ls 13 [(11, .long (z_53 + z_56)), (9, .long r_49), (7, .long r_47), (6, .int z_46), (0, .ref h0), (1, .int p0), (2, .long p1), (4, .long p2)] → W p l e (headSpec mw_M_add ({ frames := 4, cells := 0, slots := 0, locals := 91 } : Room)).room s m ([.ref h0, .int p0, .long p1, .long p2] : List Value).toArray below meth c H_9 L_10 0 0 (MQ below (MQl D cL h0 q0 A (fun (r : Int64) (v : MT) => True)) ([.ref h0, .int p0, .long p1, .long p2] : List Value).toArray s 0 0 A) (F0 m 231 ls [.int (jb z_60), .int p0]) := by
                          intro z_60 ls hl
                          refine lv_lload hx hb md_M_add_231 (lv_at hl 0 rfl) ?_
                          refine lv_lconst (v := 0) hx hb md_M_add_233 (by decide) ?_
                          refine W.lcmp hx hb md_M_add_234 ?_
                          have J_62 : ∀ (z_63 : Int64) (ls : Array Slot), lv_has ls 13 [(11, .long (z_53 + z_56)), (9, .long r_49), (7, .long r_47), (6, .int z_46), (0, .ref h0), (1, .int p0), (2, .long p1), (4, .long p2)] → W p l e (headSpec mw_M_add ({ frames := 4, cells := 0, slots := 0, locals := 91 } : Room)).room s m ([.ref h0, .int p0, .long p1, .long p2] : List Value).toArray below meth c H_9 L_10 0 0 (MQ below (MQl D cL h0 q0 A (fun (r : Int64) (v : MT) => True)) ([.ref h0, .int p0, .long p1, .long p2] : List Value).toArray s 0 0 A) (F0 m 246 ls [.long z_63, .int (jb z_60), .int p0]) := by
                            intro z_63 ls hl
                            refine lv_iload hx hb md_M_add_246 (lv_at hl 3 rfl) ?_
                            refine lv_bipush (v := 8) hx hb md_M_add_248 (by decide) ?_
                            refine lv_isub hx hb md_M_add_250 ?_
                            refine vp_callSl (W.runS (As := [.int p0, .int (jb z_60), .long z_63, .int (z_46 - 8)]) (rest := []) ⟨hx, hb, hml, hown, hts⟩ (mt_M_round l p0 z_60 z_63 (z_46 - 8)) (va_cwS 4 hts (gd_S tm_398 tm_399 tm_25 tm_400) rfl rfl rfl (by decide +kernel) ⟨Nat.le_of_ble_eq_true rfl, Nat.le_of_ble_eq_true rfl⟩) ⟨fb_0, fun U hU hW => ⟨rfl, trivial⟩⟩ rfl rfl hl.1 rfl (lv_room (Nat.le_of_ble_eq_true rfl)) md_M_add_251 ⟨Nat.zero_le _, Nat.zero_le _⟩) (fun r_64 e_65 => ?_)
                            exact W.lret (v := r_64) hx hb hr (fun t ht2 _ => ⟨⟨r_64, mtY p0 p2 (mtX p0 p1 u), rfl, trivial, by show MWd D cL h0 q0 A _ t.heap; rw [ht2]; exact hM⟩, hS.F ht2⟩) hS.2.2 md_M_add_254
                          refine lv_if_ge (tgt := 244) hx hb md_M_add_235 (by decide) (fun c_61 => ?_) (fun c_61 => ?_)
                          · refine lv_lload hx hb md_M_add_244 (lv_at hl 0 rfl) ?_
                            exact J_62 (z_53 + z_56) ls (lv_sub hl [0, 1, 2, 3, 4, 5, 6, 7] rfl)
                          · refine lv_lload hx hb md_M_add_238 (lv_at hl 0 rfl) ?_
                            refine lv_lneg hx hb md_M_add_240 ?_
                            refine lv_goto (tgt := 246) hx hb md_M_add_241 (by decide) ?_
                            exact J_62 (-(z_53 + z_56)) ls (lv_sub hl [0, 1, 2, 3, 4, 5, 6, 7] rfl)
                        refine lv_if_ge (tgt := 230) hx hb md_M_add_223 (by decide) (fun c_58 => ?_) (fun c_58 => ?_)
                        · refine lv_iconst (v := 0) hx hb md_M_add_230 (by decide) ?_
                          exact J_59 false ls (lv_sub hl [0, 1, 2, 3, 4, 5, 6, 7] rfl)
                        · refine lv_iconst (v := 1) hx hb md_M_add_226 (by decide) ?_
                          refine lv_goto (tgt := 231) hx hb md_M_add_227 (by decide) ?_
                          exact J_59 true ls (lv_sub hl [0, 1, 2, 3, 4, 5, 6, 7] rfl)
                      · refine lv_lconst (v := 0) hx hb md_M_add_216 (by decide) ?_
                        exact W.lret (v := 0) hx hb hr (fun t ht2 _ => ⟨⟨0, mtY p0 p2 (mtX p0 p1 u), rfl, trivial, by show MWd D cL h0 q0 A _ t.heap; rw [ht2]; exact hM⟩, hS.F ht2⟩) hS.2.2 md_M_add_217
                    refine lv_if_eq (tgt := 204) hx hb md_M_add_195 (by decide) (fun c_54 => ?_) (fun c_54 => ?_)
                    · refine lv_lload hx hb md_M_add_204 (lv_at hl 0 rfl) ?_
                      exact J_55 r_49 ls (lv_sub hl [0, 1, 2, 3, 4, 5, 6] rfl)
                    · refine lv_lload hx hb md_M_add_198 (lv_at hl 0 rfl) ?_
                      refine lv_lneg hx hb md_M_add_200 ?_
                      refine lv_goto (tgt := 206) hx hb md_M_add_201 (by decide) ?_
                      exact J_55 (-r_49) ls (lv_sub hl [0, 1, 2, 3, 4, 5, 6] rfl)
                  refine lv_if_eq (tgt := 189) hx hb md_M_add_180 (by decide) (fun c_51 => ?_) (fun c_51 => ?_)
                  · refine lv_lload hx hb md_M_add_189 (lv_at hl 1 rfl) ?_
                    exact J_52 r_47 ls (lv_sub hl [0, 1, 2, 3, 4, 5, 6] rfl)
                  · refine lv_lload hx hb md_M_add_183 (lv_at hl 1 rfl) ?_
                    refine lv_lneg hx hb md_M_add_185 ?_
                    refine lv_goto (tgt := 191) hx hb md_M_add_186 (by decide) ?_
                    exact J_52 (-r_47) ls (lv_sub hl [0, 1, 2, 3, 4, 5, 6] rfl)
                refine lv_icmp_le (tgt := 132) hx hb md_M_add_122 (by decide) (fun c_44 => ?_) (fun c_44 => ?_)
                · refine lv_aload_n hx hb md_M_add_132 rfl (lv_at hl 0 rfl) ?_
                  refine va_get (D := D) (ci := 1) (v := .int (rf_pow p0 p2)) (C := "NumberProbeModel") (T := TM) (N := 12) hx hb ht inM hown hK hM.1 0 rfl rfl 10 (by decide) (ht _ tm_328) (fun _ h9 => h9) rfl md_M_add_133 ?_
                  exact J_45 (rf_pow p0 p2) ls (lv_sub hl [0, 1, 2, 3] rfl)
                · refine lv_aload_n hx hb md_M_add_125 rfl (lv_at hl 0 rfl) ?_
                  refine va_get (D := D) (ci := 1) (v := .int (rf_pow p0 p1)) (C := "NumberProbeModel") (T := TM) (N := 12) hx hb ht inM hown hK hM.1 0 rfl rfl 9 (by decide) (ht _ tm_327) (fun _ h9 => h9) rfl md_M_add_126 ?_
                  refine lv_goto (tgt := 136) hx hb md_M_add_129 (by decide) ?_
                  exact J_45 (rf_pow p0 p1) ls (lv_sub hl [0, 1, 2, 3] rfl)
              · refine lv_aload_n hx hb md_M_add_94 rfl (lv_at hl 0 rfl) ?_
                refine va_get (D := D) (ci := 1) (v := .int (jb (rf_isS p0 p1))) (C := "NumberProbeModel") (T := TM) (N := 12) hx hb ht inM hown hK hM.1 0 rfl rfl 1 (by decide) (ht _ tm_319) (fun _ h9 => h9) rfl md_M_add_95 ?_
                have J_70 : ∀ (z_71 : Int64) (ls : Array Slot), lv_has ls 13 [(0, .ref h0), (1, .int p0), (2, .long p1), (4, .long p2)] → W p l e (headSpec mw_M_add ({ frames := 4, cells := 0, slots := 0, locals := 91 } : Room)).room s m ([.ref h0, .int p0, .long p1, .long p2] : List Value).toArray below meth c H_9 L_10 0 0 (MQ below (MQl D cL h0 q0 A (fun (r : Int64) (v : MT) => True)) ([.ref h0, .int p0, .long p1, .long p2] : List Value).toArray s 0 0 A) (F0 m 113 ls [.long z_71]) := by
                  intro z_71 ls hl
                  exact W.lret (v := z_71) hx hb hr (fun t ht2 _ => ⟨⟨z_71, mtY p0 p2 (mtX p0 p1 u), rfl, trivial, by show MWd D cL h0 q0 A _ t.heap; rw [ht2]; exact hM⟩, hS.F ht2⟩) hS.2.2 md_M_add_113
                refine lv_if_eq (tgt := 112) hx hb md_M_add_98 (by decide) (fun c_66 => ?_) (fun c_66 => ?_)
                · refine lv_lconst (v := 0) hx hb md_M_add_112 (by decide) ?_
                  exact J_70 0 ls (lv_sub hl [0, 1, 2, 3] rfl)
                · refine lv_aload_n hx hb md_M_add_101 rfl (lv_at hl 0 rfl) ?_
                  refine va_get (D := D) (ci := 1) (v := .int (jb (rf_isS p0 p2))) (C := "NumberProbeModel") (T := TM) (N := 12) hx hb ht inM hown hK hM.1 0 rfl rfl 2 (by decide) (ht _ tm_320) (fun _ h9 => h9) rfl md_M_add_102 ?_
                  have J_73 : ∀ (z_74 : Int64) (ls : Array Slot), lv_has ls 13 [(0, .ref h0), (1, .int p0), (2, .long p1), (4, .long p2)] → W p l e (headSpec mw_M_add ({ frames := 4, cells := 0, slots := 0, locals := 91 } : Room)).room s m ([.ref h0, .int p0, .long p1, .long p2] : List Value).toArray below meth c H_9 L_10 0 0 (MQ below (MQl D cL h0 q0 A (fun (r : Int64) (v : MT) => True)) ([.ref h0, .int p0, .long p1, .long p2] : List Value).toArray s 0 0 A) (F0 m 113 ls [.long z_74]) := by
                    intro z_74 ls hl
                    exact J_70 z_74 ls (lv_sub hl [0, 1, 2, 3] rfl)
                  refine lv_if_eq (tgt := 112) hx hb md_M_add_105 (by decide) (fun c_72 => ?_) (fun c_72 => ?_)
                  · refine lv_lconst (v := 0) hx hb md_M_add_112 (by decide) ?_
                    exact J_73 0 ls (lv_sub hl [0, 1, 2, 3] rfl)
                  · refine lv_lload_n hx hb md_M_add_108 rfl (lv_at hl 2 rfl) ?_
                    refine lv_goto (tgt := 113) hx hb md_M_add_109 (by decide) ?_
                    exact J_73 p1 ls (lv_sub hl [0, 1, 2, 3] rfl)
          · refine lv_lload hx hb md_M_add_73 (lv_at hl 3 rfl) ?_
            exact W.lret (v := p2) hx hb hr (fun t ht2 _ => ⟨⟨p2, mtY p0 p2 (mtX p0 p1 u), rfl, trivial, by show MWd D cL h0 q0 A _ t.heap; rw [ht2]; exact hM⟩, hS.F ht2⟩) hS.2.2 md_M_add_75
        · refine lv_lload_n hx hb md_M_add_64 rfl (lv_at hl 2 rfl) ?_
          exact W.lret (v := p1) hx hb hr (fun t ht2 _ => ⟨⟨p1, mtY p0 p2 (mtX p0 p1 u), rfl, trivial, by show MWd D cL h0 q0 A _ t.heap; rw [ht2]; exact hM⟩, hS.F ht2⟩) hS.2.2 md_M_add_65
      · refine lv_aload_n hx hb md_M_add_34 rfl (lv_at hl 0 rfl) ?_
        refine va_get (D := D) (ci := 1) (v := .int (jb (rf_isI p0 p2))) (C := "NumberProbeModel") (T := TM) (N := 12) hx hb ht inM hown hK hM.1 0 rfl rfl 6 (by decide) (ht _ tm_324) (fun _ h9 => h9) rfl md_M_add_35 ?_
        refine lv_if_eq (tgt := 57) hx hb md_M_add_38 (by decide) (fun c_75 => ?_) (fun c_75 => ?_)
        · refine lv_aload_n hx hb md_M_add_57 rfl (lv_at hl 0 rfl) ?_
          refine va_get (D := D) (ci := 1) (v := .int (jb (rf_isI p0 p1))) (C := "NumberProbeModel") (T := TM) (N := 12) hx hb ht inM hown hK hM.1 0 rfl rfl 5 (by decide) (ht _ tm_323) (fun _ h9 => h9) rfl md_M_add_58 ?_
          refine lv_if_eq (tgt := 66) hx hb md_M_add_61 (by decide) (fun c_76 => ?_) (fun c_76 => ?_)
          · refine lv_aload_n hx hb md_M_add_66 rfl (lv_at hl 0 rfl) ?_
            refine va_get (D := D) (ci := 1) (v := .int (jb (rf_isI p0 p2))) (C := "NumberProbeModel") (T := TM) (N := 12) hx hb ht inM hown hK hM.1 0 rfl rfl 6 (by decide) (ht _ tm_324) (fun _ h9 => h9) rfl md_M_add_67 ?_
            refine lv_if_eq (tgt := 76) hx hb md_M_add_70 (by decide) (fun c_77 => ?_) (fun c_77 => ?_)
            · refine lv_aload_n hx hb md_M_add_76 rfl (lv_at hl 0 rfl) ?_
              refine va_get (D := D) (ci := 1) (v := .long (rf_man p0 p1)) (C := "NumberProbeModel") (T := TM) (N := 12) hx hb ht inM hown hK hM.1 0 rfl rfl 7 (by decide) (ht _ tm_325) (fun _ h9 => h9) rfl md_M_add_77 ?_
              refine lv_lconst (v := 0) hx hb md_M_add_80 (by decide) ?_
              refine W.lcmp hx hb md_M_add_81 ?_
              refine lv_if_ne (tgt := 114) hx hb md_M_add_82 (by decide) (fun c_78 => ?_) (fun c_78 => ?_)
              · refine lv_aload_n hx hb md_M_add_114 rfl (lv_at hl 0 rfl) ?_
                refine va_get (D := D) (ci := 1) (v := .int (rf_pow p0 p1)) (C := "NumberProbeModel") (T := TM) (N := 12) hx hb ht inM hown hK hM.1 0 rfl rfl 9 (by decide) (ht _ tm_327) (fun _ h9 => h9) rfl md_M_add_115 ?_
                refine lv_aload_n hx hb md_M_add_118 rfl (lv_at hl 0 rfl) ?_
                refine va_get (D := D) (ci := 1) (v := .int (rf_pow p0 p2)) (C := "NumberProbeModel") (T := TM) (N := 12) hx hb ht inM hown hK hM.1 0 rfl rfl 10 (by decide) (ht _ tm_328) (fun _ h9 => h9) rfl md_M_add_119 ?_
                have J_80 : ∀ (z_81 : Int32) (ls : Array Slot), lv_has ls 13 [(0, .ref h0), (1, .int p0), (2, .long p1), (4, .long p2)] → W p l e (headSpec mw_M_add ({ frames := 4, cells := 0, slots := 0, locals := 91 } : Room)).room s m ([.ref h0, .int p0, .long p1, .long p2] : List Value).toArray below meth c H_9 L_10 0 0 (MQ below (MQl D cL h0 q0 A (fun (r : Int64) (v : MT) => True)) ([.ref h0, .int p0, .long p1, .long p2] : List Value).toArray s 0 0 A) (F0 m 136 ls [.int z_81]) := by
                  intro z_81 ls hl
                  refine lv_istore (lv' := [(6, .int z_81), (0, .ref h0), (1, .int p0), (2, .long p1), (4, .long p2)]) hx hb md_M_add_136 hl (by decide) rfl (fun ls hl => ?_)
                  refine lv_aload_n hx hb md_M_add_138 rfl (lv_at hl 1 rfl) ?_
                  refine va_get (D := D) (ci := 1) (v := .long (rf_man p0 p1)) (C := "NumberProbeModel") (T := TM) (N := 12) hx hb ht inM hown hK hM.1 0 rfl rfl 7 (by decide) (ht _ tm_325) (fun _ h9 => h9) rfl md_M_add_139 ?_
                  refine lv_bipush (v := 8) hx hb md_M_add_142 (by decide) ?_
                  refine lv_lshl (v := jl_shl (rf_man p0 p1) 8) hx hb md_M_add_144 rfl ?_
                  refine lv_iload hx hb md_M_add_145 (lv_at hl 0 rfl) ?_
                  refine lv_aload_n hx hb md_M_add_147 rfl (lv_at hl 1 rfl) ?_
                  refine va_get (D := D) (ci := 1) (v := .int (rf_pow p0 p1)) (C := "NumberProbeModel") (T := TM) (N := 12) hx hb ht inM hown hK hM.1 0 rfl rfl 9 (by decide) (ht _ tm_327) (fun _ h9 => h9) rfl md_M_add_148 ?_
                  refine lv_isub hx hb md_M_add_151 ?_
                  refine vp_callSl (W.runS (As := [.long (jl_shl (rf_man p0 p1) 8), .int (z_81 - (rf_pow p0 p1))]) (rest := []) ⟨hx, hb, hml, hown, hts⟩ (mt_M_shiftedDown l (jl_shl (rf_man p0 p1) 8) (z_81 - (rf_pow p0 p1))) (va_cwS 2 hts (gd_S tm_468 tm_469 tm_25 tm_470) rfl rfl rfl (by decide +kernel) ⟨Nat.le_of_ble_eq_true rfl, Nat.le_of_ble_eq_true rfl⟩) ⟨fb_0, fun U hU hW => ⟨rfl, trivial⟩⟩ rfl rfl hl.1 rfl (lv_room (Nat.le_of_ble_eq_true rfl)) md_M_add_152 ⟨Nat.zero_le _, Nat.zero_le _⟩) (fun r_82 e_83 => ?_)
                  refine lv_lstore (lv' := [(7, .long r_82), (6, .int z_81), (0, .ref h0), (1, .int p0), (2, .long p1), (4, .long p2)]) hx hb md_M_add_155 hl (by decide) rfl (fun ls hl => ?_)
                  refine lv_aload_n hx hb md_M_add_157 rfl (lv_at hl 2 rfl) ?_
                  refine va_get (D := D) (ci := 1) (v := .long (rf_man p0 p2)) (C := "NumberProbeModel") (T := TM) (N := 12) hx hb ht inM hown hK hM.1 0 rfl rfl 8 (by decide) (ht _ tm_326) (fun _ h9 => h9) rfl md_M_add_158 ?_
                  refine lv_bipush (v := 8) hx hb md_M_add_161 (by decide) ?_
                  refine lv_lshl (v := jl_shl (rf_man p0 p2) 8) hx hb md_M_add_163 rfl ?_
                  refine lv_iload hx hb md_M_add_164 (lv_at hl 1 rfl) ?_
                  refine lv_aload_n hx hb md_M_add_166 rfl (lv_at hl 2 rfl) ?_
                  refine va_get (D := D) (ci := 1) (v := .int (rf_pow p0 p2)) (C := "NumberProbeModel") (T := TM) (N := 12) hx hb ht inM hown hK hM.1 0 rfl rfl 10 (by decide) (ht _ tm_328) (fun _ h9 => h9) rfl md_M_add_167 ?_
                  refine lv_isub hx hb md_M_add_170 ?_
                  refine vp_callSl (W.runS (As := [.long (jl_shl (rf_man p0 p2) 8), .int (z_81 - (rf_pow p0 p2))]) (rest := []) ⟨hx, hb, hml, hown, hts⟩ (mt_M_shiftedDown l (jl_shl (rf_man p0 p2) 8) (z_81 - (rf_pow p0 p2))) (va_cwS 2 hts (gd_S tm_468 tm_469 tm_25 tm_470) rfl rfl rfl (by decide +kernel) ⟨Nat.le_of_ble_eq_true rfl, Nat.le_of_ble_eq_true rfl⟩) ⟨fb_0, fun U hU hW => ⟨rfl, trivial⟩⟩ rfl rfl hl.1 rfl (lv_room (Nat.le_of_ble_eq_true rfl)) md_M_add_171 ⟨Nat.zero_le _, Nat.zero_le _⟩) (fun r_84 e_85 => ?_)
                  refine lv_lstore (lv' := [(9, .long r_84), (7, .long r_82), (6, .int z_81), (0, .ref h0), (1, .int p0), (2, .long p1), (4, .long p2)]) hx hb md_M_add_174 hl (by decide) rfl (fun ls hl => ?_)
                  refine lv_aload_n hx hb md_M_add_176 rfl (lv_at hl 3 rfl) ?_
                  refine va_get (D := D) (ci := 1) (v := .int (jb (rf_isS p0 p1))) (C := "NumberProbeModel") (T := TM) (N := 12) hx hb ht inM hown hK hM.1 0 rfl rfl 1 (by decide) (ht _ tm_319) (fun _ h9 => h9) rfl md_M_add_177 ?_
                  have J_87 : ∀ (z_88 : Int64) (ls : Array Slot), lv_has ls 13 [(9, .long r_84), (7, .long r_82), (6, .int z_81), (0, .ref h0), (1, .int p0), (2, .long p1), (4, .long p2)] → W p l e (headSpec mw_M_add ({ frames := 4, cells := 0, slots := 0, locals := 91 } : Room)).room s m ([.ref h0, .int p0, .long p1, .long p2] : List Value).toArray below meth c H_9 L_10 0 0 (MQ below (MQl D cL h0 q0 A (fun (r : Int64) (v : MT) => True)) ([.ref h0, .int p0, .long p1, .long p2] : List Value).toArray s 0 0 A) (F0 m 191 ls [.long z_88]) := by
                    intro z_88 ls hl
                    refine lv_aload_n hx hb md_M_add_191 rfl (lv_at hl 3 rfl) ?_
                    refine va_get (D := D) (ci := 1) (v := .int (jb (rf_isS p0 p2))) (C := "NumberProbeModel") (T := TM) (N := 12) hx hb ht inM hown hK hM.1 0 rfl rfl 2 (by decide) (ht _ tm_320) (fun _ h9 => h9) rfl md_M_add_192 ?_
                    have J_90 : ∀ (z_91 : Int64) (ls : Array Slot), lv_has ls 13 [(9, .long r_84), (7, .long r_82), (6, .int z_81), (0, .ref h0), (1, .int p0), (2, .long p1), (4, .long p2)] → W p l e (headSpec mw_M_add ({ frames := 4, cells := 0, slots := 0, locals := 91 } : Room)).room s m ([.ref h0, .int p0, .long p1, .long p2] : List Value).toArray below meth c H_9 L_10 0 0 (MQ below (MQl D cL h0 q0 A (fun (r : Int64) (v : MT) => True)) ([.ref h0, .int p0, .long p1, .long p2] : List Value).toArray s 0 0 A) (F0 m 206 ls [.long z_91, .long z_88]) := by
                      intro z_91 ls hl
                      refine lv_ladd hx hb md_M_add_206 ?_
                      refine lv_lstore (lv' := [(11, .long (z_88 + z_91)), (9, .long r_84), (7, .long r_82), (6, .int z_81), (0, .ref h0), (1, .int p0), (2, .long p1), (4, .long p2)]) hx hb md_M_add_207 hl (by decide) rfl (fun ls hl => ?_)
                      refine lv_lload hx hb md_M_add_209 (lv_at hl 0 rfl) ?_
                      refine lv_lconst (v := 0) hx hb md_M_add_211 (by decide) ?_
                      refine W.lcmp hx hb md_M_add_212 ?_
                      refine lv_if_ne (tgt := 218) hx hb md_M_add_213 (by decide) (fun c_92 => ?_) (fun c_92 => ?_)
                      · refine lv_iload_n hx hb md_M_add_218 rfl (lv_at hl 5 rfl) ?_
                        refine lv_lload hx hb md_M_add_219 (lv_at hl 0 rfl) ?_
                        refine lv_lconst (v := 0) hx hb md_M_add_221 (by decide) ?_
                        refine W.lcmp hx hb md_M_add_222 ?_
                        have J_94 : ∀ (z_95 : Bool) (ls : Array Slot), lv_has ls 13 [(11, .long (z_88 + z_91)), (9, .long r_84), (7, .long r_82), (6, .int z_81), (0, .ref h0), (1, .int p0), (2, .long p1), (4, .long p2)] → W p l e (headSpec mw_M_add ({ frames := 4, cells := 0, slots := 0, locals := 91 } : Room)).room s m ([.ref h0, .int p0, .long p1, .long p2] : List Value).toArray below meth c H_9 L_10 0 0 (MQ below (MQl D cL h0 q0 A (fun (r : Int64) (v : MT) => True)) ([.ref h0, .int p0, .long p1, .long p2] : List Value).toArray s 0 0 A) (F0 m 231 ls [.int (jb z_95), .int p0]) := by
                          intro z_95 ls hl
                          refine lv_lload hx hb md_M_add_231 (lv_at hl 0 rfl) ?_
                          refine lv_lconst (v := 0) hx hb md_M_add_233 (by decide) ?_
                          refine W.lcmp hx hb md_M_add_234 ?_
                          have J_97 : ∀ (z_98 : Int64) (ls : Array Slot), lv_has ls 13 [(11, .long (z_88 + z_91)), (9, .long r_84), (7, .long r_82), (6, .int z_81), (0, .ref h0), (1, .int p0), (2, .long p1), (4, .long p2)] → W p l e (headSpec mw_M_add ({ frames := 4, cells := 0, slots := 0, locals := 91 } : Room)).room s m ([.ref h0, .int p0, .long p1, .long p2] : List Value).toArray below meth c H_9 L_10 0 0 (MQ below (MQl D cL h0 q0 A (fun (r : Int64) (v : MT) => True)) ([.ref h0, .int p0, .long p1, .long p2] : List Value).toArray s 0 0 A) (F0 m 246 ls [.long z_98, .int (jb z_95), .int p0]) := by
                            intro z_98 ls hl
                            refine lv_iload hx hb md_M_add_246 (lv_at hl 3 rfl) ?_
                            refine lv_bipush (v := 8) hx hb md_M_add_248 (by decide) ?_
                            refine lv_isub hx hb md_M_add_250 ?_
                            refine vp_callSl (W.runS (As := [.int p0, .int (jb z_95), .long z_98, .int (z_81 - 8)]) (rest := []) ⟨hx, hb, hml, hown, hts⟩ (mt_M_round l p0 z_95 z_98 (z_81 - 8)) (va_cwS 4 hts (gd_S tm_398 tm_399 tm_25 tm_400) rfl rfl rfl (by decide +kernel) ⟨Nat.le_of_ble_eq_true rfl, Nat.le_of_ble_eq_true rfl⟩) ⟨fb_0, fun U hU hW => ⟨rfl, trivial⟩⟩ rfl rfl hl.1 rfl (lv_room (Nat.le_of_ble_eq_true rfl)) md_M_add_251 ⟨Nat.zero_le _, Nat.zero_le _⟩) (fun r_99 e_100 => ?_)
                            exact W.lret (v := r_99) hx hb hr (fun t ht2 _ => ⟨⟨r_99, mtY p0 p2 (mtX p0 p1 u), rfl, trivial, by show MWd D cL h0 q0 A _ t.heap; rw [ht2]; exact hM⟩, hS.F ht2⟩) hS.2.2 md_M_add_254
                          refine lv_if_ge (tgt := 244) hx hb md_M_add_235 (by decide) (fun c_96 => ?_) (fun c_96 => ?_)
                          · refine lv_lload hx hb md_M_add_244 (lv_at hl 0 rfl) ?_
                            exact J_97 (z_88 + z_91) ls (lv_sub hl [0, 1, 2, 3, 4, 5, 6, 7] rfl)
                          · refine lv_lload hx hb md_M_add_238 (lv_at hl 0 rfl) ?_
                            refine lv_lneg hx hb md_M_add_240 ?_
                            refine lv_goto (tgt := 246) hx hb md_M_add_241 (by decide) ?_
                            exact J_97 (-(z_88 + z_91)) ls (lv_sub hl [0, 1, 2, 3, 4, 5, 6, 7] rfl)
                        refine lv_if_ge (tgt := 230) hx hb md_M_add_223 (by decide) (fun c_93 => ?_) (fun c_93 => ?_)
                        · refine lv_iconst (v := 0) hx hb md_M_add_230 (by decide) ?_
                          exact J_94 false ls (lv_sub hl [0, 1, 2, 3, 4, 5, 6, 7] rfl)
                        · refine lv_iconst (v := 1) hx hb md_M_add_226 (by decide) ?_
                          refine lv_goto (tgt := 231) hx hb md_M_add_227 (by decide) ?_
                          exact J_94 true ls (lv_sub hl [0, 1, 2, 3, 4, 5, 6, 7] rfl)
                      · refine lv_lconst (v := 0) hx hb md_M_add_216 (by decide) ?_
                        exact W.lret (v := 0) hx hb hr (fun t ht2 _ => ⟨⟨0, mtY p0 p2 (mtX p0 p1 u), rfl, trivial, by show MWd D cL h0 q0 A _ t.heap; rw [ht2]; exact hM⟩, hS.F ht2⟩) hS.2.2 md_M_add_217
                    refine lv_if_eq (tgt := 204) hx hb md_M_add_195 (by decide) (fun c_89 => ?_) (fun c_89 => ?_)
                    · refine lv_lload hx hb md_M_add_204 (lv_at hl 0 rfl) ?_
                      exact J_90 r_84 ls (lv_sub hl [0, 1, 2, 3, 4, 5, 6] rfl)
                    · refine lv_lload hx hb md_M_add_198 (lv_at hl 0 rfl) ?_
                      refine lv_lneg hx hb md_M_add_200 ?_
                      refine lv_goto (tgt := 206) hx hb md_M_add_201 (by decide) ?_
                      exact J_90 (-r_84) ls (lv_sub hl [0, 1, 2, 3, 4, 5, 6] rfl)
                  refine lv_if_eq (tgt := 189) hx hb md_M_add_180 (by decide) (fun c_86 => ?_) (fun c_86 => ?_)
                  · refine lv_lload hx hb md_M_add_189 (lv_at hl 1 rfl) ?_
                    exact J_87 r_82 ls (lv_sub hl [0, 1, 2, 3, 4, 5, 6] rfl)
                  · refine lv_lload hx hb md_M_add_183 (lv_at hl 1 rfl) ?_
                    refine lv_lneg hx hb md_M_add_185 ?_
                    refine lv_goto (tgt := 191) hx hb md_M_add_186 (by decide) ?_
                    exact J_87 (-r_82) ls (lv_sub hl [0, 1, 2, 3, 4, 5, 6] rfl)
                refine lv_icmp_le (tgt := 132) hx hb md_M_add_122 (by decide) (fun c_79 => ?_) (fun c_79 => ?_)
                · refine lv_aload_n hx hb md_M_add_132 rfl (lv_at hl 0 rfl) ?_
                  refine va_get (D := D) (ci := 1) (v := .int (rf_pow p0 p2)) (C := "NumberProbeModel") (T := TM) (N := 12) hx hb ht inM hown hK hM.1 0 rfl rfl 10 (by decide) (ht _ tm_328) (fun _ h9 => h9) rfl md_M_add_133 ?_
                  exact J_80 (rf_pow p0 p2) ls (lv_sub hl [0, 1, 2, 3] rfl)
                · refine lv_aload_n hx hb md_M_add_125 rfl (lv_at hl 0 rfl) ?_
                  refine va_get (D := D) (ci := 1) (v := .int (rf_pow p0 p1)) (C := "NumberProbeModel") (T := TM) (N := 12) hx hb ht inM hown hK hM.1 0 rfl rfl 9 (by decide) (ht _ tm_327) (fun _ h9 => h9) rfl md_M_add_126 ?_
                  refine lv_goto (tgt := 136) hx hb md_M_add_129 (by decide) ?_
                  exact J_80 (rf_pow p0 p1) ls (lv_sub hl [0, 1, 2, 3] rfl)
              · refine lv_aload_n hx hb md_M_add_85 rfl (lv_at hl 0 rfl) ?_
                refine va_get (D := D) (ci := 1) (v := .long (rf_man p0 p2)) (C := "NumberProbeModel") (T := TM) (N := 12) hx hb ht inM hown hK hM.1 0 rfl rfl 8 (by decide) (ht _ tm_326) (fun _ h9 => h9) rfl md_M_add_86 ?_
                refine lv_lconst (v := 0) hx hb md_M_add_89 (by decide) ?_
                refine W.lcmp hx hb md_M_add_90 ?_
                refine lv_if_ne (tgt := 114) hx hb md_M_add_91 (by decide) (fun c_101 => ?_) (fun c_101 => ?_)
                · refine lv_aload_n hx hb md_M_add_114 rfl (lv_at hl 0 rfl) ?_
                  refine va_get (D := D) (ci := 1) (v := .int (rf_pow p0 p1)) (C := "NumberProbeModel") (T := TM) (N := 12) hx hb ht inM hown hK hM.1 0 rfl rfl 9 (by decide) (ht _ tm_327) (fun _ h9 => h9) rfl md_M_add_115 ?_
                  refine lv_aload_n hx hb md_M_add_118 rfl (lv_at hl 0 rfl) ?_
                  refine va_get (D := D) (ci := 1) (v := .int (rf_pow p0 p2)) (C := "NumberProbeModel") (T := TM) (N := 12) hx hb ht inM hown hK hM.1 0 rfl rfl 10 (by decide) (ht _ tm_328) (fun _ h9 => h9) rfl md_M_add_119 ?_
                  have J_103 : ∀ (z_104 : Int32) (ls : Array Slot), lv_has ls 13 [(0, .ref h0), (1, .int p0), (2, .long p1), (4, .long p2)] → W p l e (headSpec mw_M_add ({ frames := 4, cells := 0, slots := 0, locals := 91 } : Room)).room s m ([.ref h0, .int p0, .long p1, .long p2] : List Value).toArray below meth c H_9 L_10 0 0 (MQ below (MQl D cL h0 q0 A (fun (r : Int64) (v : MT) => True)) ([.ref h0, .int p0, .long p1, .long p2] : List Value).toArray s 0 0 A) (F0 m 136 ls [.int z_104]) := by
                    intro z_104 ls hl
                    refine lv_istore (lv' := [(6, .int z_104), (0, .ref h0), (1, .int p0), (2, .long p1), (4, .long p2)]) hx hb md_M_add_136 hl (by decide) rfl (fun ls hl => ?_)
                    refine lv_aload_n hx hb md_M_add_138 rfl (lv_at hl 1 rfl) ?_
                    refine va_get (D := D) (ci := 1) (v := .long (rf_man p0 p1)) (C := "NumberProbeModel") (T := TM) (N := 12) hx hb ht inM hown hK hM.1 0 rfl rfl 7 (by decide) (ht _ tm_325) (fun _ h9 => h9) rfl md_M_add_139 ?_
                    refine lv_bipush (v := 8) hx hb md_M_add_142 (by decide) ?_
                    refine lv_lshl (v := jl_shl (rf_man p0 p1) 8) hx hb md_M_add_144 rfl ?_
                    refine lv_iload hx hb md_M_add_145 (lv_at hl 0 rfl) ?_
                    refine lv_aload_n hx hb md_M_add_147 rfl (lv_at hl 1 rfl) ?_
                    refine va_get (D := D) (ci := 1) (v := .int (rf_pow p0 p1)) (C := "NumberProbeModel") (T := TM) (N := 12) hx hb ht inM hown hK hM.1 0 rfl rfl 9 (by decide) (ht _ tm_327) (fun _ h9 => h9) rfl md_M_add_148 ?_
                    refine lv_isub hx hb md_M_add_151 ?_
                    refine vp_callSl (W.runS (As := [.long (jl_shl (rf_man p0 p1) 8), .int (z_104 - (rf_pow p0 p1))]) (rest := []) ⟨hx, hb, hml, hown, hts⟩ (mt_M_shiftedDown l (jl_shl (rf_man p0 p1) 8) (z_104 - (rf_pow p0 p1))) (va_cwS 2 hts (gd_S tm_468 tm_469 tm_25 tm_470) rfl rfl rfl (by decide +kernel) ⟨Nat.le_of_ble_eq_true rfl, Nat.le_of_ble_eq_true rfl⟩) ⟨fb_0, fun U hU hW => ⟨rfl, trivial⟩⟩ rfl rfl hl.1 rfl (lv_room (Nat.le_of_ble_eq_true rfl)) md_M_add_152 ⟨Nat.zero_le _, Nat.zero_le _⟩) (fun r_105 e_106 => ?_)
                    refine lv_lstore (lv' := [(7, .long r_105), (6, .int z_104), (0, .ref h0), (1, .int p0), (2, .long p1), (4, .long p2)]) hx hb md_M_add_155 hl (by decide) rfl (fun ls hl => ?_)
                    refine lv_aload_n hx hb md_M_add_157 rfl (lv_at hl 2 rfl) ?_
                    refine va_get (D := D) (ci := 1) (v := .long (rf_man p0 p2)) (C := "NumberProbeModel") (T := TM) (N := 12) hx hb ht inM hown hK hM.1 0 rfl rfl 8 (by decide) (ht _ tm_326) (fun _ h9 => h9) rfl md_M_add_158 ?_
                    refine lv_bipush (v := 8) hx hb md_M_add_161 (by decide) ?_
                    refine lv_lshl (v := jl_shl (rf_man p0 p2) 8) hx hb md_M_add_163 rfl ?_
                    refine lv_iload hx hb md_M_add_164 (lv_at hl 1 rfl) ?_
                    refine lv_aload_n hx hb md_M_add_166 rfl (lv_at hl 2 rfl) ?_
                    refine va_get (D := D) (ci := 1) (v := .int (rf_pow p0 p2)) (C := "NumberProbeModel") (T := TM) (N := 12) hx hb ht inM hown hK hM.1 0 rfl rfl 10 (by decide) (ht _ tm_328) (fun _ h9 => h9) rfl md_M_add_167 ?_
                    refine lv_isub hx hb md_M_add_170 ?_
                    refine vp_callSl (W.runS (As := [.long (jl_shl (rf_man p0 p2) 8), .int (z_104 - (rf_pow p0 p2))]) (rest := []) ⟨hx, hb, hml, hown, hts⟩ (mt_M_shiftedDown l (jl_shl (rf_man p0 p2) 8) (z_104 - (rf_pow p0 p2))) (va_cwS 2 hts (gd_S tm_468 tm_469 tm_25 tm_470) rfl rfl rfl (by decide +kernel) ⟨Nat.le_of_ble_eq_true rfl, Nat.le_of_ble_eq_true rfl⟩) ⟨fb_0, fun U hU hW => ⟨rfl, trivial⟩⟩ rfl rfl hl.1 rfl (lv_room (Nat.le_of_ble_eq_true rfl)) md_M_add_171 ⟨Nat.zero_le _, Nat.zero_le _⟩) (fun r_107 e_108 => ?_)
                    refine lv_lstore (lv' := [(9, .long r_107), (7, .long r_105), (6, .int z_104), (0, .ref h0), (1, .int p0), (2, .long p1), (4, .long p2)]) hx hb md_M_add_174 hl (by decide) rfl (fun ls hl => ?_)
                    refine lv_aload_n hx hb md_M_add_176 rfl (lv_at hl 3 rfl) ?_
                    refine va_get (D := D) (ci := 1) (v := .int (jb (rf_isS p0 p1))) (C := "NumberProbeModel") (T := TM) (N := 12) hx hb ht inM hown hK hM.1 0 rfl rfl 1 (by decide) (ht _ tm_319) (fun _ h9 => h9) rfl md_M_add_177 ?_
                    have J_110 : ∀ (z_111 : Int64) (ls : Array Slot), lv_has ls 13 [(9, .long r_107), (7, .long r_105), (6, .int z_104), (0, .ref h0), (1, .int p0), (2, .long p1), (4, .long p2)] → W p l e (headSpec mw_M_add ({ frames := 4, cells := 0, slots := 0, locals := 91 } : Room)).room s m ([.ref h0, .int p0, .long p1, .long p2] : List Value).toArray below meth c H_9 L_10 0 0 (MQ below (MQl D cL h0 q0 A (fun (r : Int64) (v : MT) => True)) ([.ref h0, .int p0, .long p1, .long p2] : List Value).toArray s 0 0 A) (F0 m 191 ls [.long z_111]) := by
                      intro z_111 ls hl
                      refine lv_aload_n hx hb md_M_add_191 rfl (lv_at hl 3 rfl) ?_
                      refine va_get (D := D) (ci := 1) (v := .int (jb (rf_isS p0 p2))) (C := "NumberProbeModel") (T := TM) (N := 12) hx hb ht inM hown hK hM.1 0 rfl rfl 2 (by decide) (ht _ tm_320) (fun _ h9 => h9) rfl md_M_add_192 ?_
                      have J_113 : ∀ (z_114 : Int64) (ls : Array Slot), lv_has ls 13 [(9, .long r_107), (7, .long r_105), (6, .int z_104), (0, .ref h0), (1, .int p0), (2, .long p1), (4, .long p2)] → W p l e (headSpec mw_M_add ({ frames := 4, cells := 0, slots := 0, locals := 91 } : Room)).room s m ([.ref h0, .int p0, .long p1, .long p2] : List Value).toArray below meth c H_9 L_10 0 0 (MQ below (MQl D cL h0 q0 A (fun (r : Int64) (v : MT) => True)) ([.ref h0, .int p0, .long p1, .long p2] : List Value).toArray s 0 0 A) (F0 m 206 ls [.long z_114, .long z_111]) := by
                        intro z_114 ls hl
                        refine lv_ladd hx hb md_M_add_206 ?_
                        refine lv_lstore (lv' := [(11, .long (z_111 + z_114)), (9, .long r_107), (7, .long r_105), (6, .int z_104), (0, .ref h0), (1, .int p0), (2, .long p1), (4, .long p2)]) hx hb md_M_add_207 hl (by decide) rfl (fun ls hl => ?_)
                        refine lv_lload hx hb md_M_add_209 (lv_at hl 0 rfl) ?_
                        refine lv_lconst (v := 0) hx hb md_M_add_211 (by decide) ?_
                        refine W.lcmp hx hb md_M_add_212 ?_
                        refine lv_if_ne (tgt := 218) hx hb md_M_add_213 (by decide) (fun c_115 => ?_) (fun c_115 => ?_)
                        · refine lv_iload_n hx hb md_M_add_218 rfl (lv_at hl 5 rfl) ?_
                          refine lv_lload hx hb md_M_add_219 (lv_at hl 0 rfl) ?_
                          refine lv_lconst (v := 0) hx hb md_M_add_221 (by decide) ?_
                          refine W.lcmp hx hb md_M_add_222 ?_
                          have J_117 : ∀ (z_118 : Bool) (ls : Array Slot), lv_has ls 13 [(11, .long (z_111 + z_114)), (9, .long r_107), (7, .long r_105), (6, .int z_104), (0, .ref h0), (1, .int p0), (2, .long p1), (4, .long p2)] → W p l e (headSpec mw_M_add ({ frames := 4, cells := 0, slots := 0, locals := 91 } : Room)).room s m ([.ref h0, .int p0, .long p1, .long p2] : List Value).toArray below meth c H_9 L_10 0 0 (MQ below (MQl D cL h0 q0 A (fun (r : Int64) (v : MT) => True)) ([.ref h0, .int p0, .long p1, .long p2] : List Value).toArray s 0 0 A) (F0 m 231 ls [.int (jb z_118), .int p0]) := by
                            intro z_118 ls hl
                            refine lv_lload hx hb md_M_add_231 (lv_at hl 0 rfl) ?_
                            refine lv_lconst (v := 0) hx hb md_M_add_233 (by decide) ?_
                            refine W.lcmp hx hb md_M_add_234 ?_
                            have J_120 : ∀ (z_121 : Int64) (ls : Array Slot), lv_has ls 13 [(11, .long (z_111 + z_114)), (9, .long r_107), (7, .long r_105), (6, .int z_104), (0, .ref h0), (1, .int p0), (2, .long p1), (4, .long p2)] → W p l e (headSpec mw_M_add ({ frames := 4, cells := 0, slots := 0, locals := 91 } : Room)).room s m ([.ref h0, .int p0, .long p1, .long p2] : List Value).toArray below meth c H_9 L_10 0 0 (MQ below (MQl D cL h0 q0 A (fun (r : Int64) (v : MT) => True)) ([.ref h0, .int p0, .long p1, .long p2] : List Value).toArray s 0 0 A) (F0 m 246 ls [.long z_121, .int (jb z_118), .int p0]) := by
                              intro z_121 ls hl
                              refine lv_iload hx hb md_M_add_246 (lv_at hl 3 rfl) ?_
                              refine lv_bipush (v := 8) hx hb md_M_add_248 (by decide) ?_
                              refine lv_isub hx hb md_M_add_250 ?_
                              refine vp_callSl (W.runS (As := [.int p0, .int (jb z_118), .long z_121, .int (z_104 - 8)]) (rest := []) ⟨hx, hb, hml, hown, hts⟩ (mt_M_round l p0 z_118 z_121 (z_104 - 8)) (va_cwS 4 hts (gd_S tm_398 tm_399 tm_25 tm_400) rfl rfl rfl (by decide +kernel) ⟨Nat.le_of_ble_eq_true rfl, Nat.le_of_ble_eq_true rfl⟩) ⟨fb_0, fun U hU hW => ⟨rfl, trivial⟩⟩ rfl rfl hl.1 rfl (lv_room (Nat.le_of_ble_eq_true rfl)) md_M_add_251 ⟨Nat.zero_le _, Nat.zero_le _⟩) (fun r_122 e_123 => ?_)
                              exact W.lret (v := r_122) hx hb hr (fun t ht2 _ => ⟨⟨r_122, mtY p0 p2 (mtX p0 p1 u), rfl, trivial, by show MWd D cL h0 q0 A _ t.heap; rw [ht2]; exact hM⟩, hS.F ht2⟩) hS.2.2 md_M_add_254
                            refine lv_if_ge (tgt := 244) hx hb md_M_add_235 (by decide) (fun c_119 => ?_) (fun c_119 => ?_)
                            · refine lv_lload hx hb md_M_add_244 (lv_at hl 0 rfl) ?_
                              exact J_120 (z_111 + z_114) ls (lv_sub hl [0, 1, 2, 3, 4, 5, 6, 7] rfl)
                            · refine lv_lload hx hb md_M_add_238 (lv_at hl 0 rfl) ?_
                              refine lv_lneg hx hb md_M_add_240 ?_
                              refine lv_goto (tgt := 246) hx hb md_M_add_241 (by decide) ?_
                              exact J_120 (-(z_111 + z_114)) ls (lv_sub hl [0, 1, 2, 3, 4, 5, 6, 7] rfl)
                          refine lv_if_ge (tgt := 230) hx hb md_M_add_223 (by decide) (fun c_116 => ?_) (fun c_116 => ?_)
                          · refine lv_iconst (v := 0) hx hb md_M_add_230 (by decide) ?_
                            exact J_117 false ls (lv_sub hl [0, 1, 2, 3, 4, 5, 6, 7] rfl)
                          · refine lv_iconst (v := 1) hx hb md_M_add_226 (by decide) ?_
                            refine lv_goto (tgt := 231) hx hb md_M_add_227 (by decide) ?_
                            exact J_117 true ls (lv_sub hl [0, 1, 2, 3, 4, 5, 6, 7] rfl)
                        · refine lv_lconst (v := 0) hx hb md_M_add_216 (by decide) ?_
                          exact W.lret (v := 0) hx hb hr (fun t ht2 _ => ⟨⟨0, mtY p0 p2 (mtX p0 p1 u), rfl, trivial, by show MWd D cL h0 q0 A _ t.heap; rw [ht2]; exact hM⟩, hS.F ht2⟩) hS.2.2 md_M_add_217
                      refine lv_if_eq (tgt := 204) hx hb md_M_add_195 (by decide) (fun c_112 => ?_) (fun c_112 => ?_)
                      · refine lv_lload hx hb md_M_add_204 (lv_at hl 0 rfl) ?_
                        exact J_113 r_107 ls (lv_sub hl [0, 1, 2, 3, 4, 5, 6] rfl)
                      · refine lv_lload hx hb md_M_add_198 (lv_at hl 0 rfl) ?_
                        refine lv_lneg hx hb md_M_add_200 ?_
                        refine lv_goto (tgt := 206) hx hb md_M_add_201 (by decide) ?_
                        exact J_113 (-r_107) ls (lv_sub hl [0, 1, 2, 3, 4, 5, 6] rfl)
                    refine lv_if_eq (tgt := 189) hx hb md_M_add_180 (by decide) (fun c_109 => ?_) (fun c_109 => ?_)
                    · refine lv_lload hx hb md_M_add_189 (lv_at hl 1 rfl) ?_
                      exact J_110 r_105 ls (lv_sub hl [0, 1, 2, 3, 4, 5, 6] rfl)
                    · refine lv_lload hx hb md_M_add_183 (lv_at hl 1 rfl) ?_
                      refine lv_lneg hx hb md_M_add_185 ?_
                      refine lv_goto (tgt := 191) hx hb md_M_add_186 (by decide) ?_
                      exact J_110 (-r_105) ls (lv_sub hl [0, 1, 2, 3, 4, 5, 6] rfl)
                  refine lv_icmp_le (tgt := 132) hx hb md_M_add_122 (by decide) (fun c_102 => ?_) (fun c_102 => ?_)
                  · refine lv_aload_n hx hb md_M_add_132 rfl (lv_at hl 0 rfl) ?_
                    refine va_get (D := D) (ci := 1) (v := .int (rf_pow p0 p2)) (C := "NumberProbeModel") (T := TM) (N := 12) hx hb ht inM hown hK hM.1 0 rfl rfl 10 (by decide) (ht _ tm_328) (fun _ h9 => h9) rfl md_M_add_133 ?_
                    exact J_103 (rf_pow p0 p2) ls (lv_sub hl [0, 1, 2, 3] rfl)
                  · refine lv_aload_n hx hb md_M_add_125 rfl (lv_at hl 0 rfl) ?_
                    refine va_get (D := D) (ci := 1) (v := .int (rf_pow p0 p1)) (C := "NumberProbeModel") (T := TM) (N := 12) hx hb ht inM hown hK hM.1 0 rfl rfl 9 (by decide) (ht _ tm_327) (fun _ h9 => h9) rfl md_M_add_126 ?_
                    refine lv_goto (tgt := 136) hx hb md_M_add_129 (by decide) ?_
                    exact J_103 (rf_pow p0 p1) ls (lv_sub hl [0, 1, 2, 3] rfl)
                · refine lv_aload_n hx hb md_M_add_94 rfl (lv_at hl 0 rfl) ?_
                  refine va_get (D := D) (ci := 1) (v := .int (jb (rf_isS p0 p1))) (C := "NumberProbeModel") (T := TM) (N := 12) hx hb ht inM hown hK hM.1 0 rfl rfl 1 (by decide) (ht _ tm_319) (fun _ h9 => h9) rfl md_M_add_95 ?_
                  have J_128 : ∀ (z_129 : Int64) (ls : Array Slot), lv_has ls 13 [(0, .ref h0), (1, .int p0), (2, .long p1), (4, .long p2)] → W p l e (headSpec mw_M_add ({ frames := 4, cells := 0, slots := 0, locals := 91 } : Room)).room s m ([.ref h0, .int p0, .long p1, .long p2] : List Value).toArray below meth c H_9 L_10 0 0 (MQ below (MQl D cL h0 q0 A (fun (r : Int64) (v : MT) => True)) ([.ref h0, .int p0, .long p1, .long p2] : List Value).toArray s 0 0 A) (F0 m 113 ls [.long z_129]) := by
                    intro z_129 ls hl
                    exact W.lret (v := z_129) hx hb hr (fun t ht2 _ => ⟨⟨z_129, mtY p0 p2 (mtX p0 p1 u), rfl, trivial, by show MWd D cL h0 q0 A _ t.heap; rw [ht2]; exact hM⟩, hS.F ht2⟩) hS.2.2 md_M_add_113
                  refine lv_if_eq (tgt := 112) hx hb md_M_add_98 (by decide) (fun c_124 => ?_) (fun c_124 => ?_)
                  · refine lv_lconst (v := 0) hx hb md_M_add_112 (by decide) ?_
                    exact J_128 0 ls (lv_sub hl [0, 1, 2, 3] rfl)
                  · refine lv_aload_n hx hb md_M_add_101 rfl (lv_at hl 0 rfl) ?_
                    refine va_get (D := D) (ci := 1) (v := .int (jb (rf_isS p0 p2))) (C := "NumberProbeModel") (T := TM) (N := 12) hx hb ht inM hown hK hM.1 0 rfl rfl 2 (by decide) (ht _ tm_320) (fun _ h9 => h9) rfl md_M_add_102 ?_
                    have J_131 : ∀ (z_132 : Int64) (ls : Array Slot), lv_has ls 13 [(0, .ref h0), (1, .int p0), (2, .long p1), (4, .long p2)] → W p l e (headSpec mw_M_add ({ frames := 4, cells := 0, slots := 0, locals := 91 } : Room)).room s m ([.ref h0, .int p0, .long p1, .long p2] : List Value).toArray below meth c H_9 L_10 0 0 (MQ below (MQl D cL h0 q0 A (fun (r : Int64) (v : MT) => True)) ([.ref h0, .int p0, .long p1, .long p2] : List Value).toArray s 0 0 A) (F0 m 113 ls [.long z_132]) := by
                      intro z_132 ls hl
                      exact J_128 z_132 ls (lv_sub hl [0, 1, 2, 3] rfl)
                    refine lv_if_eq (tgt := 112) hx hb md_M_add_105 (by decide) (fun c_130 => ?_) (fun c_130 => ?_)
                    · refine lv_lconst (v := 0) hx hb md_M_add_112 (by decide) ?_
                      exact J_131 0 ls (lv_sub hl [0, 1, 2, 3] rfl)
                    · refine lv_lload_n hx hb md_M_add_108 rfl (lv_at hl 2 rfl) ?_
                      refine lv_goto (tgt := 113) hx hb md_M_add_109 (by decide) ?_
                      exact J_131 p1 ls (lv_sub hl [0, 1, 2, 3] rfl)
            · refine lv_lload hx hb md_M_add_73 (lv_at hl 3 rfl) ?_
              exact W.lret (v := p2) hx hb hr (fun t ht2 _ => ⟨⟨p2, mtY p0 p2 (mtX p0 p1 u), rfl, trivial, by show MWd D cL h0 q0 A _ t.heap; rw [ht2]; exact hM⟩, hS.F ht2⟩) hS.2.2 md_M_add_75
          · refine lv_lload_n hx hb md_M_add_64 rfl (lv_at hl 2 rfl) ?_
            exact W.lret (v := p1) hx hb hr (fun t ht2 _ => ⟨⟨p1, mtY p0 p2 (mtX p0 p1 u), rfl, trivial, by show MWd D cL h0 q0 A _ t.heap; rw [ht2]; exact hM⟩, hS.F ht2⟩) hS.2.2 md_M_add_65
        · refine lv_aload_n hx hb md_M_add_41 rfl (lv_at hl 0 rfl) ?_
          refine va_get (D := D) (ci := 1) (v := .int (jb (rf_isS p0 p1))) (C := "NumberProbeModel") (T := TM) (N := 12) hx hb ht inM hown hK hM.1 0 rfl rfl 1 (by decide) (ht _ tm_319) (fun _ h9 => h9) rfl md_M_add_42 ?_
          refine lv_aload_n hx hb md_M_add_45 rfl (lv_at hl 0 rfl) ?_
          refine va_get (D := D) (ci := 1) (v := .int (jb (rf_isS p0 p2))) (C := "NumberProbeModel") (T := TM) (N := 12) hx hb ht inM hown hK hM.1 0 rfl rfl 2 (by decide) (ht _ tm_320) (fun _ h9 => h9) rfl md_M_add_46 ?_
          refine lv_icmp_eq (tgt := 57) hx hb md_M_add_49 (by decide) (fun c_133 => ?_) (fun c_133 => ?_)
          · refine lv_aload_n hx hb md_M_add_57 rfl (lv_at hl 0 rfl) ?_
            refine va_get (D := D) (ci := 1) (v := .int (jb (rf_isI p0 p1))) (C := "NumberProbeModel") (T := TM) (N := 12) hx hb ht inM hown hK hM.1 0 rfl rfl 5 (by decide) (ht _ tm_323) (fun _ h9 => h9) rfl md_M_add_58 ?_
            refine lv_if_eq (tgt := 66) hx hb md_M_add_61 (by decide) (fun c_134 => ?_) (fun c_134 => ?_)
            · refine lv_aload_n hx hb md_M_add_66 rfl (lv_at hl 0 rfl) ?_
              refine va_get (D := D) (ci := 1) (v := .int (jb (rf_isI p0 p2))) (C := "NumberProbeModel") (T := TM) (N := 12) hx hb ht inM hown hK hM.1 0 rfl rfl 6 (by decide) (ht _ tm_324) (fun _ h9 => h9) rfl md_M_add_67 ?_
              refine lv_if_eq (tgt := 76) hx hb md_M_add_70 (by decide) (fun c_135 => ?_) (fun c_135 => ?_)
              · refine lv_aload_n hx hb md_M_add_76 rfl (lv_at hl 0 rfl) ?_
                refine va_get (D := D) (ci := 1) (v := .long (rf_man p0 p1)) (C := "NumberProbeModel") (T := TM) (N := 12) hx hb ht inM hown hK hM.1 0 rfl rfl 7 (by decide) (ht _ tm_325) (fun _ h9 => h9) rfl md_M_add_77 ?_
                refine lv_lconst (v := 0) hx hb md_M_add_80 (by decide) ?_
                refine W.lcmp hx hb md_M_add_81 ?_
                refine lv_if_ne (tgt := 114) hx hb md_M_add_82 (by decide) (fun c_136 => ?_) (fun c_136 => ?_)
                · refine lv_aload_n hx hb md_M_add_114 rfl (lv_at hl 0 rfl) ?_
                  refine va_get (D := D) (ci := 1) (v := .int (rf_pow p0 p1)) (C := "NumberProbeModel") (T := TM) (N := 12) hx hb ht inM hown hK hM.1 0 rfl rfl 9 (by decide) (ht _ tm_327) (fun _ h9 => h9) rfl md_M_add_115 ?_
                  refine lv_aload_n hx hb md_M_add_118 rfl (lv_at hl 0 rfl) ?_
                  refine va_get (D := D) (ci := 1) (v := .int (rf_pow p0 p2)) (C := "NumberProbeModel") (T := TM) (N := 12) hx hb ht inM hown hK hM.1 0 rfl rfl 10 (by decide) (ht _ tm_328) (fun _ h9 => h9) rfl md_M_add_119 ?_
                  have J_138 : ∀ (z_139 : Int32) (ls : Array Slot), lv_has ls 13 [(0, .ref h0), (1, .int p0), (2, .long p1), (4, .long p2)] → W p l e (headSpec mw_M_add ({ frames := 4, cells := 0, slots := 0, locals := 91 } : Room)).room s m ([.ref h0, .int p0, .long p1, .long p2] : List Value).toArray below meth c H_9 L_10 0 0 (MQ below (MQl D cL h0 q0 A (fun (r : Int64) (v : MT) => True)) ([.ref h0, .int p0, .long p1, .long p2] : List Value).toArray s 0 0 A) (F0 m 136 ls [.int z_139]) := by
                    intro z_139 ls hl
                    refine lv_istore (lv' := [(6, .int z_139), (0, .ref h0), (1, .int p0), (2, .long p1), (4, .long p2)]) hx hb md_M_add_136 hl (by decide) rfl (fun ls hl => ?_)
                    refine lv_aload_n hx hb md_M_add_138 rfl (lv_at hl 1 rfl) ?_
                    refine va_get (D := D) (ci := 1) (v := .long (rf_man p0 p1)) (C := "NumberProbeModel") (T := TM) (N := 12) hx hb ht inM hown hK hM.1 0 rfl rfl 7 (by decide) (ht _ tm_325) (fun _ h9 => h9) rfl md_M_add_139 ?_
                    refine lv_bipush (v := 8) hx hb md_M_add_142 (by decide) ?_
                    refine lv_lshl (v := jl_shl (rf_man p0 p1) 8) hx hb md_M_add_144 rfl ?_
                    refine lv_iload hx hb md_M_add_145 (lv_at hl 0 rfl) ?_
                    refine lv_aload_n hx hb md_M_add_147 rfl (lv_at hl 1 rfl) ?_
                    refine va_get (D := D) (ci := 1) (v := .int (rf_pow p0 p1)) (C := "NumberProbeModel") (T := TM) (N := 12) hx hb ht inM hown hK hM.1 0 rfl rfl 9 (by decide) (ht _ tm_327) (fun _ h9 => h9) rfl md_M_add_148 ?_
                    refine lv_isub hx hb md_M_add_151 ?_
                    refine vp_callSl (W.runS (As := [.long (jl_shl (rf_man p0 p1) 8), .int (z_139 - (rf_pow p0 p1))]) (rest := []) ⟨hx, hb, hml, hown, hts⟩ (mt_M_shiftedDown l (jl_shl (rf_man p0 p1) 8) (z_139 - (rf_pow p0 p1))) (va_cwS 2 hts (gd_S tm_468 tm_469 tm_25 tm_470) rfl rfl rfl (by decide +kernel) ⟨Nat.le_of_ble_eq_true rfl, Nat.le_of_ble_eq_true rfl⟩) ⟨fb_0, fun U hU hW => ⟨rfl, trivial⟩⟩ rfl rfl hl.1 rfl (lv_room (Nat.le_of_ble_eq_true rfl)) md_M_add_152 ⟨Nat.zero_le _, Nat.zero_le _⟩) (fun r_140 e_141 => ?_)
                    refine lv_lstore (lv' := [(7, .long r_140), (6, .int z_139), (0, .ref h0), (1, .int p0), (2, .long p1), (4, .long p2)]) hx hb md_M_add_155 hl (by decide) rfl (fun ls hl => ?_)
                    refine lv_aload_n hx hb md_M_add_157 rfl (lv_at hl 2 rfl) ?_
                    refine va_get (D := D) (ci := 1) (v := .long (rf_man p0 p2)) (C := "NumberProbeModel") (T := TM) (N := 12) hx hb ht inM hown hK hM.1 0 rfl rfl 8 (by decide) (ht _ tm_326) (fun _ h9 => h9) rfl md_M_add_158 ?_
                    refine lv_bipush (v := 8) hx hb md_M_add_161 (by decide) ?_
                    refine lv_lshl (v := jl_shl (rf_man p0 p2) 8) hx hb md_M_add_163 rfl ?_
                    refine lv_iload hx hb md_M_add_164 (lv_at hl 1 rfl) ?_
                    refine lv_aload_n hx hb md_M_add_166 rfl (lv_at hl 2 rfl) ?_
                    refine va_get (D := D) (ci := 1) (v := .int (rf_pow p0 p2)) (C := "NumberProbeModel") (T := TM) (N := 12) hx hb ht inM hown hK hM.1 0 rfl rfl 10 (by decide) (ht _ tm_328) (fun _ h9 => h9) rfl md_M_add_167 ?_
                    refine lv_isub hx hb md_M_add_170 ?_
                    refine vp_callSl (W.runS (As := [.long (jl_shl (rf_man p0 p2) 8), .int (z_139 - (rf_pow p0 p2))]) (rest := []) ⟨hx, hb, hml, hown, hts⟩ (mt_M_shiftedDown l (jl_shl (rf_man p0 p2) 8) (z_139 - (rf_pow p0 p2))) (va_cwS 2 hts (gd_S tm_468 tm_469 tm_25 tm_470) rfl rfl rfl (by decide +kernel) ⟨Nat.le_of_ble_eq_true rfl, Nat.le_of_ble_eq_true rfl⟩) ⟨fb_0, fun U hU hW => ⟨rfl, trivial⟩⟩ rfl rfl hl.1 rfl (lv_room (Nat.le_of_ble_eq_true rfl)) md_M_add_171 ⟨Nat.zero_le _, Nat.zero_le _⟩) (fun r_142 e_143 => ?_)
                    refine lv_lstore (lv' := [(9, .long r_142), (7, .long r_140), (6, .int z_139), (0, .ref h0), (1, .int p0), (2, .long p1), (4, .long p2)]) hx hb md_M_add_174 hl (by decide) rfl (fun ls hl => ?_)
                    refine lv_aload_n hx hb md_M_add_176 rfl (lv_at hl 3 rfl) ?_
                    refine va_get (D := D) (ci := 1) (v := .int (jb (rf_isS p0 p1))) (C := "NumberProbeModel") (T := TM) (N := 12) hx hb ht inM hown hK hM.1 0 rfl rfl 1 (by decide) (ht _ tm_319) (fun _ h9 => h9) rfl md_M_add_177 ?_
                    have J_145 : ∀ (z_146 : Int64) (ls : Array Slot), lv_has ls 13 [(9, .long r_142), (7, .long r_140), (6, .int z_139), (0, .ref h0), (1, .int p0), (2, .long p1), (4, .long p2)] → W p l e (headSpec mw_M_add ({ frames := 4, cells := 0, slots := 0, locals := 91 } : Room)).room s m ([.ref h0, .int p0, .long p1, .long p2] : List Value).toArray below meth c H_9 L_10 0 0 (MQ below (MQl D cL h0 q0 A (fun (r : Int64) (v : MT) => True)) ([.ref h0, .int p0, .long p1, .long p2] : List Value).toArray s 0 0 A) (F0 m 191 ls [.long z_146]) := by
                      intro z_146 ls hl
                      refine lv_aload_n hx hb md_M_add_191 rfl (lv_at hl 3 rfl) ?_
                      refine va_get (D := D) (ci := 1) (v := .int (jb (rf_isS p0 p2))) (C := "NumberProbeModel") (T := TM) (N := 12) hx hb ht inM hown hK hM.1 0 rfl rfl 2 (by decide) (ht _ tm_320) (fun _ h9 => h9) rfl md_M_add_192 ?_
                      have J_148 : ∀ (z_149 : Int64) (ls : Array Slot), lv_has ls 13 [(9, .long r_142), (7, .long r_140), (6, .int z_139), (0, .ref h0), (1, .int p0), (2, .long p1), (4, .long p2)] → W p l e (headSpec mw_M_add ({ frames := 4, cells := 0, slots := 0, locals := 91 } : Room)).room s m ([.ref h0, .int p0, .long p1, .long p2] : List Value).toArray below meth c H_9 L_10 0 0 (MQ below (MQl D cL h0 q0 A (fun (r : Int64) (v : MT) => True)) ([.ref h0, .int p0, .long p1, .long p2] : List Value).toArray s 0 0 A) (F0 m 206 ls [.long z_149, .long z_146]) := by
                        intro z_149 ls hl
                        refine lv_ladd hx hb md_M_add_206 ?_
                        refine lv_lstore (lv' := [(11, .long (z_146 + z_149)), (9, .long r_142), (7, .long r_140), (6, .int z_139), (0, .ref h0), (1, .int p0), (2, .long p1), (4, .long p2)]) hx hb md_M_add_207 hl (by decide) rfl (fun ls hl => ?_)
                        refine lv_lload hx hb md_M_add_209 (lv_at hl 0 rfl) ?_
                        refine lv_lconst (v := 0) hx hb md_M_add_211 (by decide) ?_
                        refine W.lcmp hx hb md_M_add_212 ?_
                        refine lv_if_ne (tgt := 218) hx hb md_M_add_213 (by decide) (fun c_150 => ?_) (fun c_150 => ?_)
                        · refine lv_iload_n hx hb md_M_add_218 rfl (lv_at hl 5 rfl) ?_
                          refine lv_lload hx hb md_M_add_219 (lv_at hl 0 rfl) ?_
                          refine lv_lconst (v := 0) hx hb md_M_add_221 (by decide) ?_
                          refine W.lcmp hx hb md_M_add_222 ?_
                          have J_152 : ∀ (z_153 : Bool) (ls : Array Slot), lv_has ls 13 [(11, .long (z_146 + z_149)), (9, .long r_142), (7, .long r_140), (6, .int z_139), (0, .ref h0), (1, .int p0), (2, .long p1), (4, .long p2)] → W p l e (headSpec mw_M_add ({ frames := 4, cells := 0, slots := 0, locals := 91 } : Room)).room s m ([.ref h0, .int p0, .long p1, .long p2] : List Value).toArray below meth c H_9 L_10 0 0 (MQ below (MQl D cL h0 q0 A (fun (r : Int64) (v : MT) => True)) ([.ref h0, .int p0, .long p1, .long p2] : List Value).toArray s 0 0 A) (F0 m 231 ls [.int (jb z_153), .int p0]) := by
                            intro z_153 ls hl
                            refine lv_lload hx hb md_M_add_231 (lv_at hl 0 rfl) ?_
                            refine lv_lconst (v := 0) hx hb md_M_add_233 (by decide) ?_
                            refine W.lcmp hx hb md_M_add_234 ?_
                            have J_155 : ∀ (z_156 : Int64) (ls : Array Slot), lv_has ls 13 [(11, .long (z_146 + z_149)), (9, .long r_142), (7, .long r_140), (6, .int z_139), (0, .ref h0), (1, .int p0), (2, .long p1), (4, .long p2)] → W p l e (headSpec mw_M_add ({ frames := 4, cells := 0, slots := 0, locals := 91 } : Room)).room s m ([.ref h0, .int p0, .long p1, .long p2] : List Value).toArray below meth c H_9 L_10 0 0 (MQ below (MQl D cL h0 q0 A (fun (r : Int64) (v : MT) => True)) ([.ref h0, .int p0, .long p1, .long p2] : List Value).toArray s 0 0 A) (F0 m 246 ls [.long z_156, .int (jb z_153), .int p0]) := by
                              intro z_156 ls hl
                              refine lv_iload hx hb md_M_add_246 (lv_at hl 3 rfl) ?_
                              refine lv_bipush (v := 8) hx hb md_M_add_248 (by decide) ?_
                              refine lv_isub hx hb md_M_add_250 ?_
                              refine vp_callSl (W.runS (As := [.int p0, .int (jb z_153), .long z_156, .int (z_139 - 8)]) (rest := []) ⟨hx, hb, hml, hown, hts⟩ (mt_M_round l p0 z_153 z_156 (z_139 - 8)) (va_cwS 4 hts (gd_S tm_398 tm_399 tm_25 tm_400) rfl rfl rfl (by decide +kernel) ⟨Nat.le_of_ble_eq_true rfl, Nat.le_of_ble_eq_true rfl⟩) ⟨fb_0, fun U hU hW => ⟨rfl, trivial⟩⟩ rfl rfl hl.1 rfl (lv_room (Nat.le_of_ble_eq_true rfl)) md_M_add_251 ⟨Nat.zero_le _, Nat.zero_le _⟩) (fun r_157 e_158 => ?_)
                              exact W.lret (v := r_157) hx hb hr (fun t ht2 _ => ⟨⟨r_157, mtY p0 p2 (mtX p0 p1 u), rfl, trivial, by show MWd D cL h0 q0 A _ t.heap; rw [ht2]; exact hM⟩, hS.F ht2⟩) hS.2.2 md_M_add_254
                            refine lv_if_ge (tgt := 244) hx hb md_M_add_235 (by decide) (fun c_154 => ?_) (fun c_154 => ?_)
                            · refine lv_lload hx hb md_M_add_244 (lv_at hl 0 rfl) ?_
                              exact J_155 (z_146 + z_149) ls (lv_sub hl [0, 1, 2, 3, 4, 5, 6, 7] rfl)
                            · refine lv_lload hx hb md_M_add_238 (lv_at hl 0 rfl) ?_
                              refine lv_lneg hx hb md_M_add_240 ?_
                              refine lv_goto (tgt := 246) hx hb md_M_add_241 (by decide) ?_
                              exact J_155 (-(z_146 + z_149)) ls (lv_sub hl [0, 1, 2, 3, 4, 5, 6, 7] rfl)
                          refine lv_if_ge (tgt := 230) hx hb md_M_add_223 (by decide) (fun c_151 => ?_) (fun c_151 => ?_)
                          · refine lv_iconst (v := 0) hx hb md_M_add_230 (by decide) ?_
                            exact J_152 false ls (lv_sub hl [0, 1, 2, 3, 4, 5, 6, 7] rfl)
                          · refine lv_iconst (v := 1) hx hb md_M_add_226 (by decide) ?_
                            refine lv_goto (tgt := 231) hx hb md_M_add_227 (by decide) ?_
                            exact J_152 true ls (lv_sub hl [0, 1, 2, 3, 4, 5, 6, 7] rfl)
                        · refine lv_lconst (v := 0) hx hb md_M_add_216 (by decide) ?_
                          exact W.lret (v := 0) hx hb hr (fun t ht2 _ => ⟨⟨0, mtY p0 p2 (mtX p0 p1 u), rfl, trivial, by show MWd D cL h0 q0 A _ t.heap; rw [ht2]; exact hM⟩, hS.F ht2⟩) hS.2.2 md_M_add_217
                      refine lv_if_eq (tgt := 204) hx hb md_M_add_195 (by decide) (fun c_147 => ?_) (fun c_147 => ?_)
                      · refine lv_lload hx hb md_M_add_204 (lv_at hl 0 rfl) ?_
                        exact J_148 r_142 ls (lv_sub hl [0, 1, 2, 3, 4, 5, 6] rfl)
                      · refine lv_lload hx hb md_M_add_198 (lv_at hl 0 rfl) ?_
                        refine lv_lneg hx hb md_M_add_200 ?_
                        refine lv_goto (tgt := 206) hx hb md_M_add_201 (by decide) ?_
                        exact J_148 (-r_142) ls (lv_sub hl [0, 1, 2, 3, 4, 5, 6] rfl)
                    refine lv_if_eq (tgt := 189) hx hb md_M_add_180 (by decide) (fun c_144 => ?_) (fun c_144 => ?_)
                    · refine lv_lload hx hb md_M_add_189 (lv_at hl 1 rfl) ?_
                      exact J_145 r_140 ls (lv_sub hl [0, 1, 2, 3, 4, 5, 6] rfl)
                    · refine lv_lload hx hb md_M_add_183 (lv_at hl 1 rfl) ?_
                      refine lv_lneg hx hb md_M_add_185 ?_
                      refine lv_goto (tgt := 191) hx hb md_M_add_186 (by decide) ?_
                      exact J_145 (-r_140) ls (lv_sub hl [0, 1, 2, 3, 4, 5, 6] rfl)
                  refine lv_icmp_le (tgt := 132) hx hb md_M_add_122 (by decide) (fun c_137 => ?_) (fun c_137 => ?_)
                  · refine lv_aload_n hx hb md_M_add_132 rfl (lv_at hl 0 rfl) ?_
                    refine va_get (D := D) (ci := 1) (v := .int (rf_pow p0 p2)) (C := "NumberProbeModel") (T := TM) (N := 12) hx hb ht inM hown hK hM.1 0 rfl rfl 10 (by decide) (ht _ tm_328) (fun _ h9 => h9) rfl md_M_add_133 ?_
                    exact J_138 (rf_pow p0 p2) ls (lv_sub hl [0, 1, 2, 3] rfl)
                  · refine lv_aload_n hx hb md_M_add_125 rfl (lv_at hl 0 rfl) ?_
                    refine va_get (D := D) (ci := 1) (v := .int (rf_pow p0 p1)) (C := "NumberProbeModel") (T := TM) (N := 12) hx hb ht inM hown hK hM.1 0 rfl rfl 9 (by decide) (ht _ tm_327) (fun _ h9 => h9) rfl md_M_add_126 ?_
                    refine lv_goto (tgt := 136) hx hb md_M_add_129 (by decide) ?_
                    exact J_138 (rf_pow p0 p1) ls (lv_sub hl [0, 1, 2, 3] rfl)
                · refine lv_aload_n hx hb md_M_add_85 rfl (lv_at hl 0 rfl) ?_
                  refine va_get (D := D) (ci := 1) (v := .long (rf_man p0 p2)) (C := "NumberProbeModel") (T := TM) (N := 12) hx hb ht inM hown hK hM.1 0 rfl rfl 8 (by decide) (ht _ tm_326) (fun _ h9 => h9) rfl md_M_add_86 ?_
                  refine lv_lconst (v := 0) hx hb md_M_add_89 (by decide) ?_
                  refine W.lcmp hx hb md_M_add_90 ?_
                  refine lv_if_ne (tgt := 114) hx hb md_M_add_91 (by decide) (fun c_159 => ?_) (fun c_159 => ?_)
                  · refine lv_aload_n hx hb md_M_add_114 rfl (lv_at hl 0 rfl) ?_
                    refine va_get (D := D) (ci := 1) (v := .int (rf_pow p0 p1)) (C := "NumberProbeModel") (T := TM) (N := 12) hx hb ht inM hown hK hM.1 0 rfl rfl 9 (by decide) (ht _ tm_327) (fun _ h9 => h9) rfl md_M_add_115 ?_
                    refine lv_aload_n hx hb md_M_add_118 rfl (lv_at hl 0 rfl) ?_
                    refine va_get (D := D) (ci := 1) (v := .int (rf_pow p0 p2)) (C := "NumberProbeModel") (T := TM) (N := 12) hx hb ht inM hown hK hM.1 0 rfl rfl 10 (by decide) (ht _ tm_328) (fun _ h9 => h9) rfl md_M_add_119 ?_
                    have J_161 : ∀ (z_162 : Int32) (ls : Array Slot), lv_has ls 13 [(0, .ref h0), (1, .int p0), (2, .long p1), (4, .long p2)] → W p l e (headSpec mw_M_add ({ frames := 4, cells := 0, slots := 0, locals := 91 } : Room)).room s m ([.ref h0, .int p0, .long p1, .long p2] : List Value).toArray below meth c H_9 L_10 0 0 (MQ below (MQl D cL h0 q0 A (fun (r : Int64) (v : MT) => True)) ([.ref h0, .int p0, .long p1, .long p2] : List Value).toArray s 0 0 A) (F0 m 136 ls [.int z_162]) := by
                      intro z_162 ls hl
                      refine lv_istore (lv' := [(6, .int z_162), (0, .ref h0), (1, .int p0), (2, .long p1), (4, .long p2)]) hx hb md_M_add_136 hl (by decide) rfl (fun ls hl => ?_)
                      refine lv_aload_n hx hb md_M_add_138 rfl (lv_at hl 1 rfl) ?_
                      refine va_get (D := D) (ci := 1) (v := .long (rf_man p0 p1)) (C := "NumberProbeModel") (T := TM) (N := 12) hx hb ht inM hown hK hM.1 0 rfl rfl 7 (by decide) (ht _ tm_325) (fun _ h9 => h9) rfl md_M_add_139 ?_
                      refine lv_bipush (v := 8) hx hb md_M_add_142 (by decide) ?_
                      refine lv_lshl (v := jl_shl (rf_man p0 p1) 8) hx hb md_M_add_144 rfl ?_
                      refine lv_iload hx hb md_M_add_145 (lv_at hl 0 rfl) ?_
                      refine lv_aload_n hx hb md_M_add_147 rfl (lv_at hl 1 rfl) ?_
                      refine va_get (D := D) (ci := 1) (v := .int (rf_pow p0 p1)) (C := "NumberProbeModel") (T := TM) (N := 12) hx hb ht inM hown hK hM.1 0 rfl rfl 9 (by decide) (ht _ tm_327) (fun _ h9 => h9) rfl md_M_add_148 ?_
                      refine lv_isub hx hb md_M_add_151 ?_
                      refine vp_callSl (W.runS (As := [.long (jl_shl (rf_man p0 p1) 8), .int (z_162 - (rf_pow p0 p1))]) (rest := []) ⟨hx, hb, hml, hown, hts⟩ (mt_M_shiftedDown l (jl_shl (rf_man p0 p1) 8) (z_162 - (rf_pow p0 p1))) (va_cwS 2 hts (gd_S tm_468 tm_469 tm_25 tm_470) rfl rfl rfl (by decide +kernel) ⟨Nat.le_of_ble_eq_true rfl, Nat.le_of_ble_eq_true rfl⟩) ⟨fb_0, fun U hU hW => ⟨rfl, trivial⟩⟩ rfl rfl hl.1 rfl (lv_room (Nat.le_of_ble_eq_true rfl)) md_M_add_152 ⟨Nat.zero_le _, Nat.zero_le _⟩) (fun r_163 e_164 => ?_)
                      refine lv_lstore (lv' := [(7, .long r_163), (6, .int z_162), (0, .ref h0), (1, .int p0), (2, .long p1), (4, .long p2)]) hx hb md_M_add_155 hl (by decide) rfl (fun ls hl => ?_)
                      refine lv_aload_n hx hb md_M_add_157 rfl (lv_at hl 2 rfl) ?_
                      refine va_get (D := D) (ci := 1) (v := .long (rf_man p0 p2)) (C := "NumberProbeModel") (T := TM) (N := 12) hx hb ht inM hown hK hM.1 0 rfl rfl 8 (by decide) (ht _ tm_326) (fun _ h9 => h9) rfl md_M_add_158 ?_
                      refine lv_bipush (v := 8) hx hb md_M_add_161 (by decide) ?_
                      refine lv_lshl (v := jl_shl (rf_man p0 p2) 8) hx hb md_M_add_163 rfl ?_
                      refine lv_iload hx hb md_M_add_164 (lv_at hl 1 rfl) ?_
                      refine lv_aload_n hx hb md_M_add_166 rfl (lv_at hl 2 rfl) ?_
                      refine va_get (D := D) (ci := 1) (v := .int (rf_pow p0 p2)) (C := "NumberProbeModel") (T := TM) (N := 12) hx hb ht inM hown hK hM.1 0 rfl rfl 10 (by decide) (ht _ tm_328) (fun _ h9 => h9) rfl md_M_add_167 ?_
                      refine lv_isub hx hb md_M_add_170 ?_
                      refine vp_callSl (W.runS (As := [.long (jl_shl (rf_man p0 p2) 8), .int (z_162 - (rf_pow p0 p2))]) (rest := []) ⟨hx, hb, hml, hown, hts⟩ (mt_M_shiftedDown l (jl_shl (rf_man p0 p2) 8) (z_162 - (rf_pow p0 p2))) (va_cwS 2 hts (gd_S tm_468 tm_469 tm_25 tm_470) rfl rfl rfl (by decide +kernel) ⟨Nat.le_of_ble_eq_true rfl, Nat.le_of_ble_eq_true rfl⟩) ⟨fb_0, fun U hU hW => ⟨rfl, trivial⟩⟩ rfl rfl hl.1 rfl (lv_room (Nat.le_of_ble_eq_true rfl)) md_M_add_171 ⟨Nat.zero_le _, Nat.zero_le _⟩) (fun r_165 e_166 => ?_)
                      refine lv_lstore (lv' := [(9, .long r_165), (7, .long r_163), (6, .int z_162), (0, .ref h0), (1, .int p0), (2, .long p1), (4, .long p2)]) hx hb md_M_add_174 hl (by decide) rfl (fun ls hl => ?_)
                      refine lv_aload_n hx hb md_M_add_176 rfl (lv_at hl 3 rfl) ?_
                      refine va_get (D := D) (ci := 1) (v := .int (jb (rf_isS p0 p1))) (C := "NumberProbeModel") (T := TM) (N := 12) hx hb ht inM hown hK hM.1 0 rfl rfl 1 (by decide) (ht _ tm_319) (fun _ h9 => h9) rfl md_M_add_177 ?_
                      have J_168 : ∀ (z_169 : Int64) (ls : Array Slot), lv_has ls 13 [(9, .long r_165), (7, .long r_163), (6, .int z_162), (0, .ref h0), (1, .int p0), (2, .long p1), (4, .long p2)] → W p l e (headSpec mw_M_add ({ frames := 4, cells := 0, slots := 0, locals := 91 } : Room)).room s m ([.ref h0, .int p0, .long p1, .long p2] : List Value).toArray below meth c H_9 L_10 0 0 (MQ below (MQl D cL h0 q0 A (fun (r : Int64) (v : MT) => True)) ([.ref h0, .int p0, .long p1, .long p2] : List Value).toArray s 0 0 A) (F0 m 191 ls [.long z_169]) := by
                        intro z_169 ls hl
                        refine lv_aload_n hx hb md_M_add_191 rfl (lv_at hl 3 rfl) ?_
                        refine va_get (D := D) (ci := 1) (v := .int (jb (rf_isS p0 p2))) (C := "NumberProbeModel") (T := TM) (N := 12) hx hb ht inM hown hK hM.1 0 rfl rfl 2 (by decide) (ht _ tm_320) (fun _ h9 => h9) rfl md_M_add_192 ?_
                        have J_171 : ∀ (z_172 : Int64) (ls : Array Slot), lv_has ls 13 [(9, .long r_165), (7, .long r_163), (6, .int z_162), (0, .ref h0), (1, .int p0), (2, .long p1), (4, .long p2)] → W p l e (headSpec mw_M_add ({ frames := 4, cells := 0, slots := 0, locals := 91 } : Room)).room s m ([.ref h0, .int p0, .long p1, .long p2] : List Value).toArray below meth c H_9 L_10 0 0 (MQ below (MQl D cL h0 q0 A (fun (r : Int64) (v : MT) => True)) ([.ref h0, .int p0, .long p1, .long p2] : List Value).toArray s 0 0 A) (F0 m 206 ls [.long z_172, .long z_169]) := by
                          intro z_172 ls hl
                          refine lv_ladd hx hb md_M_add_206 ?_
                          refine lv_lstore (lv' := [(11, .long (z_169 + z_172)), (9, .long r_165), (7, .long r_163), (6, .int z_162), (0, .ref h0), (1, .int p0), (2, .long p1), (4, .long p2)]) hx hb md_M_add_207 hl (by decide) rfl (fun ls hl => ?_)
                          refine lv_lload hx hb md_M_add_209 (lv_at hl 0 rfl) ?_
                          refine lv_lconst (v := 0) hx hb md_M_add_211 (by decide) ?_
                          refine W.lcmp hx hb md_M_add_212 ?_
                          refine lv_if_ne (tgt := 218) hx hb md_M_add_213 (by decide) (fun c_173 => ?_) (fun c_173 => ?_)
                          · refine lv_iload_n hx hb md_M_add_218 rfl (lv_at hl 5 rfl) ?_
                            refine lv_lload hx hb md_M_add_219 (lv_at hl 0 rfl) ?_
                            refine lv_lconst (v := 0) hx hb md_M_add_221 (by decide) ?_
                            refine W.lcmp hx hb md_M_add_222 ?_
                            have J_175 : ∀ (z_176 : Bool) (ls : Array Slot), lv_has ls 13 [(11, .long (z_169 + z_172)), (9, .long r_165), (7, .long r_163), (6, .int z_162), (0, .ref h0), (1, .int p0), (2, .long p1), (4, .long p2)] → W p l e (headSpec mw_M_add ({ frames := 4, cells := 0, slots := 0, locals := 91 } : Room)).room s m ([.ref h0, .int p0, .long p1, .long p2] : List Value).toArray below meth c H_9 L_10 0 0 (MQ below (MQl D cL h0 q0 A (fun (r : Int64) (v : MT) => True)) ([.ref h0, .int p0, .long p1, .long p2] : List Value).toArray s 0 0 A) (F0 m 231 ls [.int (jb z_176), .int p0]) := by
                              intro z_176 ls hl
                              refine lv_lload hx hb md_M_add_231 (lv_at hl 0 rfl) ?_
                              refine lv_lconst (v := 0) hx hb md_M_add_233 (by decide) ?_
                              refine W.lcmp hx hb md_M_add_234 ?_
                              have J_178 : ∀ (z_179 : Int64) (ls : Array Slot), lv_has ls 13 [(11, .long (z_169 + z_172)), (9, .long r_165), (7, .long r_163), (6, .int z_162), (0, .ref h0), (1, .int p0), (2, .long p1), (4, .long p2)] → W p l e (headSpec mw_M_add ({ frames := 4, cells := 0, slots := 0, locals := 91 } : Room)).room s m ([.ref h0, .int p0, .long p1, .long p2] : List Value).toArray below meth c H_9 L_10 0 0 (MQ below (MQl D cL h0 q0 A (fun (r : Int64) (v : MT) => True)) ([.ref h0, .int p0, .long p1, .long p2] : List Value).toArray s 0 0 A) (F0 m 246 ls [.long z_179, .int (jb z_176), .int p0]) := by
                                intro z_179 ls hl
                                refine lv_iload hx hb md_M_add_246 (lv_at hl 3 rfl) ?_
                                refine lv_bipush (v := 8) hx hb md_M_add_248 (by decide) ?_
                                refine lv_isub hx hb md_M_add_250 ?_
                                refine vp_callSl (W.runS (As := [.int p0, .int (jb z_176), .long z_179, .int (z_162 - 8)]) (rest := []) ⟨hx, hb, hml, hown, hts⟩ (mt_M_round l p0 z_176 z_179 (z_162 - 8)) (va_cwS 4 hts (gd_S tm_398 tm_399 tm_25 tm_400) rfl rfl rfl (by decide +kernel) ⟨Nat.le_of_ble_eq_true rfl, Nat.le_of_ble_eq_true rfl⟩) ⟨fb_0, fun U hU hW => ⟨rfl, trivial⟩⟩ rfl rfl hl.1 rfl (lv_room (Nat.le_of_ble_eq_true rfl)) md_M_add_251 ⟨Nat.zero_le _, Nat.zero_le _⟩) (fun r_180 e_181 => ?_)
                                exact W.lret (v := r_180) hx hb hr (fun t ht2 _ => ⟨⟨r_180, mtY p0 p2 (mtX p0 p1 u), rfl, trivial, by show MWd D cL h0 q0 A _ t.heap; rw [ht2]; exact hM⟩, hS.F ht2⟩) hS.2.2 md_M_add_254
                              refine lv_if_ge (tgt := 244) hx hb md_M_add_235 (by decide) (fun c_177 => ?_) (fun c_177 => ?_)
                              · refine lv_lload hx hb md_M_add_244 (lv_at hl 0 rfl) ?_
                                exact J_178 (z_169 + z_172) ls (lv_sub hl [0, 1, 2, 3, 4, 5, 6, 7] rfl)
                              · refine lv_lload hx hb md_M_add_238 (lv_at hl 0 rfl) ?_
                                refine lv_lneg hx hb md_M_add_240 ?_
                                refine lv_goto (tgt := 246) hx hb md_M_add_241 (by decide) ?_
                                exact J_178 (-(z_169 + z_172)) ls (lv_sub hl [0, 1, 2, 3, 4, 5, 6, 7] rfl)
                            refine lv_if_ge (tgt := 230) hx hb md_M_add_223 (by decide) (fun c_174 => ?_) (fun c_174 => ?_)
                            · refine lv_iconst (v := 0) hx hb md_M_add_230 (by decide) ?_
                              exact J_175 false ls (lv_sub hl [0, 1, 2, 3, 4, 5, 6, 7] rfl)
                            · refine lv_iconst (v := 1) hx hb md_M_add_226 (by decide) ?_
                              refine lv_goto (tgt := 231) hx hb md_M_add_227 (by decide) ?_
                              exact J_175 true ls (lv_sub hl [0, 1, 2, 3, 4, 5, 6, 7] rfl)
                          · refine lv_lconst (v := 0) hx hb md_M_add_216 (by decide) ?_
                            exact W.lret (v := 0) hx hb hr (fun t ht2 _ => ⟨⟨0, mtY p0 p2 (mtX p0 p1 u), rfl, trivial, by show MWd D cL h0 q0 A _ t.heap; rw [ht2]; exact hM⟩, hS.F ht2⟩) hS.2.2 md_M_add_217
                        refine lv_if_eq (tgt := 204) hx hb md_M_add_195 (by decide) (fun c_170 => ?_) (fun c_170 => ?_)
                        · refine lv_lload hx hb md_M_add_204 (lv_at hl 0 rfl) ?_
                          exact J_171 r_165 ls (lv_sub hl [0, 1, 2, 3, 4, 5, 6] rfl)
                        · refine lv_lload hx hb md_M_add_198 (lv_at hl 0 rfl) ?_
                          refine lv_lneg hx hb md_M_add_200 ?_
                          refine lv_goto (tgt := 206) hx hb md_M_add_201 (by decide) ?_
                          exact J_171 (-r_165) ls (lv_sub hl [0, 1, 2, 3, 4, 5, 6] rfl)
                      refine lv_if_eq (tgt := 189) hx hb md_M_add_180 (by decide) (fun c_167 => ?_) (fun c_167 => ?_)
                      · refine lv_lload hx hb md_M_add_189 (lv_at hl 1 rfl) ?_
                        exact J_168 r_163 ls (lv_sub hl [0, 1, 2, 3, 4, 5, 6] rfl)
                      · refine lv_lload hx hb md_M_add_183 (lv_at hl 1 rfl) ?_
                        refine lv_lneg hx hb md_M_add_185 ?_
                        refine lv_goto (tgt := 191) hx hb md_M_add_186 (by decide) ?_
                        exact J_168 (-r_163) ls (lv_sub hl [0, 1, 2, 3, 4, 5, 6] rfl)
                    refine lv_icmp_le (tgt := 132) hx hb md_M_add_122 (by decide) (fun c_160 => ?_) (fun c_160 => ?_)
                    · refine lv_aload_n hx hb md_M_add_132 rfl (lv_at hl 0 rfl) ?_
                      refine va_get (D := D) (ci := 1) (v := .int (rf_pow p0 p2)) (C := "NumberProbeModel") (T := TM) (N := 12) hx hb ht inM hown hK hM.1 0 rfl rfl 10 (by decide) (ht _ tm_328) (fun _ h9 => h9) rfl md_M_add_133 ?_
                      exact J_161 (rf_pow p0 p2) ls (lv_sub hl [0, 1, 2, 3] rfl)
                    · refine lv_aload_n hx hb md_M_add_125 rfl (lv_at hl 0 rfl) ?_
                      refine va_get (D := D) (ci := 1) (v := .int (rf_pow p0 p1)) (C := "NumberProbeModel") (T := TM) (N := 12) hx hb ht inM hown hK hM.1 0 rfl rfl 9 (by decide) (ht _ tm_327) (fun _ h9 => h9) rfl md_M_add_126 ?_
                      refine lv_goto (tgt := 136) hx hb md_M_add_129 (by decide) ?_
                      exact J_161 (rf_pow p0 p1) ls (lv_sub hl [0, 1, 2, 3] rfl)
                  · refine lv_aload_n hx hb md_M_add_94 rfl (lv_at hl 0 rfl) ?_
                    refine va_get (D := D) (ci := 1) (v := .int (jb (rf_isS p0 p1))) (C := "NumberProbeModel") (T := TM) (N := 12) hx hb ht inM hown hK hM.1 0 rfl rfl 1 (by decide) (ht _ tm_319) (fun _ h9 => h9) rfl md_M_add_95 ?_
                    have J_186 : ∀ (z_187 : Int64) (ls : Array Slot), lv_has ls 13 [(0, .ref h0), (1, .int p0), (2, .long p1), (4, .long p2)] → W p l e (headSpec mw_M_add ({ frames := 4, cells := 0, slots := 0, locals := 91 } : Room)).room s m ([.ref h0, .int p0, .long p1, .long p2] : List Value).toArray below meth c H_9 L_10 0 0 (MQ below (MQl D cL h0 q0 A (fun (r : Int64) (v : MT) => True)) ([.ref h0, .int p0, .long p1, .long p2] : List Value).toArray s 0 0 A) (F0 m 113 ls [.long z_187]) := by
                      intro z_187 ls hl
                      exact W.lret (v := z_187) hx hb hr (fun t ht2 _ => ⟨⟨z_187, mtY p0 p2 (mtX p0 p1 u), rfl, trivial, by show MWd D cL h0 q0 A _ t.heap; rw [ht2]; exact hM⟩, hS.F ht2⟩) hS.2.2 md_M_add_113
                    refine lv_if_eq (tgt := 112) hx hb md_M_add_98 (by decide) (fun c_182 => ?_) (fun c_182 => ?_)
                    · refine lv_lconst (v := 0) hx hb md_M_add_112 (by decide) ?_
                      exact J_186 0 ls (lv_sub hl [0, 1, 2, 3] rfl)
                    · refine lv_aload_n hx hb md_M_add_101 rfl (lv_at hl 0 rfl) ?_
                      refine va_get (D := D) (ci := 1) (v := .int (jb (rf_isS p0 p2))) (C := "NumberProbeModel") (T := TM) (N := 12) hx hb ht inM hown hK hM.1 0 rfl rfl 2 (by decide) (ht _ tm_320) (fun _ h9 => h9) rfl md_M_add_102 ?_
                      have J_189 : ∀ (z_190 : Int64) (ls : Array Slot), lv_has ls 13 [(0, .ref h0), (1, .int p0), (2, .long p1), (4, .long p2)] → W p l e (headSpec mw_M_add ({ frames := 4, cells := 0, slots := 0, locals := 91 } : Room)).room s m ([.ref h0, .int p0, .long p1, .long p2] : List Value).toArray below meth c H_9 L_10 0 0 (MQ below (MQl D cL h0 q0 A (fun (r : Int64) (v : MT) => True)) ([.ref h0, .int p0, .long p1, .long p2] : List Value).toArray s 0 0 A) (F0 m 113 ls [.long z_190]) := by
                        intro z_190 ls hl
                        exact J_186 z_190 ls (lv_sub hl [0, 1, 2, 3] rfl)
                      refine lv_if_eq (tgt := 112) hx hb md_M_add_105 (by decide) (fun c_188 => ?_) (fun c_188 => ?_)
                      · refine lv_lconst (v := 0) hx hb md_M_add_112 (by decide) ?_
                        exact J_189 0 ls (lv_sub hl [0, 1, 2, 3] rfl)
                      · refine lv_lload_n hx hb md_M_add_108 rfl (lv_at hl 2 rfl) ?_
                        refine lv_goto (tgt := 113) hx hb md_M_add_109 (by decide) ?_
                        exact J_189 p1 ls (lv_sub hl [0, 1, 2, 3] rfl)
              · refine lv_lload hx hb md_M_add_73 (lv_at hl 3 rfl) ?_
                exact W.lret (v := p2) hx hb hr (fun t ht2 _ => ⟨⟨p2, mtY p0 p2 (mtX p0 p1 u), rfl, trivial, by show MWd D cL h0 q0 A _ t.heap; rw [ht2]; exact hM⟩, hS.F ht2⟩) hS.2.2 md_M_add_75
            · refine lv_lload_n hx hb md_M_add_64 rfl (lv_at hl 2 rfl) ?_
              exact W.lret (v := p1) hx hb hr (fun t ht2 _ => ⟨⟨p1, mtY p0 p2 (mtX p0 p1 u), rfl, trivial, by show MWd D cL h0 q0 A _ t.heap; rw [ht2]; exact hM⟩, hS.F ht2⟩) hS.2.2 md_M_add_65
          · refine lv_iload_n hx hb md_M_add_52 rfl (lv_at hl 1 rfl) ?_
            refine vp_callSl (W.runS (As := [.int p0]) (rest := []) ⟨hx, hb, hml, hown, hts⟩ (mt_M_nan l p0) (va_cwS 1 hts (gd_S tm_382 tm_383 tm_25 tm_384) rfl rfl rfl (by decide +kernel) ⟨Nat.le_of_ble_eq_true rfl, Nat.le_of_ble_eq_true rfl⟩) ⟨fb_0, fun U hU hW => ⟨rfl, trivial⟩⟩ rfl rfl hl.1 rfl (lv_room (Nat.le_of_ble_eq_true rfl)) md_M_add_53 ⟨Nat.zero_le _, Nat.zero_le _⟩) (fun r_191 e_192 => ?_)
            obtain rfl : r_191 = rf_na p0 := e_192
            exact W.lret (v := rf_na p0) hx hb hr (fun t ht2 _ => ⟨⟨rf_na p0, mtY p0 p2 (mtX p0 p1 u), rfl, trivial, by show MWd D cL h0 q0 A _ t.heap; rw [ht2]; exact hM⟩, hS.F ht2⟩) hS.2.2 md_M_add_56
set_option maxHeartbeats 4000000 in
set_option maxRecDepth 100000 in
theorem mt_M_flipped (l : Launch) (D : va_G) (cL : ClassId) (h0 q0 sz : Nat) (u : MT) (p0 : Int32) (p1 : Int64) : Met l my_M_flipped mw_M_flipped ({ frames := 3, cells := 0, slots := 0, locals := 64 } : Room) (MPc D cL h0 q0 sz u [.int p0, .long p1]) (MQl D cL h0 q0 (MA h0 q0 cL u sz) (fun (r : Int64) (v : MT) => True)) 0 0 (MA h0 q0 cL u sz) := by
  refine Met.ofW (cc := mc_M_flipped) (maxL := 4) (ret := (some .long)) (by decide) rfl ?_
  intro p e s m args below meth c s₁ B hml hv
  obtain ⟨rfl, hsz, hP, hK, hD0⟩ := hv
  have hx := B.exec
  have hb := B.bytes
  have hr := B.returns
  have hts := atoms_spec (ws := mw_M_flipped) B.pre
  have ht : ∀ w ∈ gw_tbl, w.before _ s = true := fun w h => hts w (List.mem_cons_of_mem _ h)
  have hown : s.vm.findClass "NumberProbeModel" = some m.cls := findClass_of_methodNamed B.named
  have hlocks := B.notSynchronized
  subst hsz
  have hD : va_D (MA h0 q0 cL u s.heap.size) (mWs h0 q0 cL u) := hD0.self (sz := s.heap.size)
  generalize hAe : MA h0 q0 cL u s.heap.size = A at hD ⊢
  have hA : ∀ q : Nat, s.heap.size ≤ q → A q := fun q h => by rw [← hAe]; exact Or.inr h
  have hS : va_S A s.heap s.heap [] := va_S.rf
  have hM : MWd D cL h0 q0 A u s.heap := ⟨hP, hD⟩
  have hl := lv_entry ([.ref h0, .int p0, .long p1]) (n := 4) (Nat.le_of_ble_eq_true rfl)
  rw [lg_entry_eq]
  generalize (lg_sl ([.ref h0, .int p0, .long p1]) ++ List.replicate (4 - (lg_sl ([.ref h0, .int p0, .long p1])).length) Slot.unset).toArray = ls at hl ⊢
  have hl : lv_has ls 4 [(0, .ref h0), (1, .int p0), (2, .long p1)] := hl
  refine lv_iload_n hx hb md_M_flipped_0 rfl (lv_at hl 1 rfl) ?_
  refine lv_lload_n hx hb md_M_flipped_1 rfl (lv_at hl 2 rfl) ?_
  refine vp_callSi (W.runS (As := [.int p0, .long p1]) (rest := []) ⟨hx, hb, hml, hown, hts⟩ (mt_M_isNan l p0 p1) (va_cwS 2 hts (gd_S tm_366 tm_367 tm_25 tm_368) rfl rfl rfl (by decide +kernel) ⟨Nat.le_of_ble_eq_true rfl, Nat.le_of_ble_eq_true rfl⟩) ⟨fb_0, fun U hU hW => ⟨rfl, trivial⟩⟩ rfl rfl hl.1 rfl (lv_room (Nat.le_of_ble_eq_true rfl)) md_M_flipped_2 ⟨Nat.zero_le _, Nat.zero_le _⟩) (fun r_1 e_2 => ?_)
  obtain rfl : r_1 = jb (rf_isN p0 p1) := e_2
  have J_6 : ∀ (z_7 : Int64) (ls : Array Slot), lv_has ls 4 [(0, .ref h0), (1, .int p0), (2, .long p1)] → W p l e (headSpec mw_M_flipped ({ frames := 3, cells := 0, slots := 0, locals := 64 } : Room)).room s m ([.ref h0, .int p0, .long p1] : List Value).toArray below meth c s.heap [] 0 0 (MQ below (MQl D cL h0 q0 A (fun (r : Int64) (v : MT) => True)) ([.ref h0, .int p0, .long p1] : List Value).toArray s 0 0 A) (F0 m 18 ls [.long z_7]) := by
    intro z_7 ls hl
    exact W.lret (v := z_7) hx hb hr (fun t ht2 _ => ⟨⟨z_7, u, rfl, trivial, by show MWd D cL h0 q0 A _ t.heap; rw [ht2]; exact hM⟩, hS.F ht2⟩) hS.2.2 md_M_flipped_18
  refine lv_if_eq (tgt := 12) hx hb md_M_flipped_5 (by decide) (fun c_3 => ?_) (fun c_3 => ?_)
  · refine lv_lload_n hx hb md_M_flipped_12 rfl (lv_at hl 2 rfl) ?_
    refine lv_iload_n hx hb md_M_flipped_13 rfl (lv_at hl 1 rfl) ?_
    refine vp_callSl (W.runS (As := [.int p0]) (rest := [.long p1]) ⟨hx, hb, hml, hown, hts⟩ (mt_M_signBit l p0) (va_cwS 1 hts (gd_S tm_372 tm_373 tm_25 tm_374) rfl rfl rfl (by decide +kernel) ⟨Nat.le_of_ble_eq_true rfl, Nat.le_of_ble_eq_true rfl⟩) ⟨fb_0, fun U hU hW => ⟨rfl, trivial⟩⟩ rfl rfl hl.1 rfl (lv_room (Nat.le_of_ble_eq_true rfl)) md_M_flipped_14 ⟨Nat.zero_le _, Nat.zero_le _⟩) (fun r_8 e_9 => ?_)
    obtain rfl : r_8 = rf_sb p0 := e_9
    refine lv_lxor hx hb md_M_flipped_17 ?_
    exact J_6 (p1 ^^^ (rf_sb p0)) ls (lv_sub hl [0, 1, 2] rfl)
  · refine lv_lload_n hx hb md_M_flipped_8 rfl (lv_at hl 2 rfl) ?_
    refine lv_goto (tgt := 18) hx hb md_M_flipped_9 (by decide) ?_
    exact J_6 p1 ls (lv_sub hl [0, 1, 2] rfl)
set_option maxHeartbeats 4000000 in
set_option maxRecDepth 100000 in
theorem mt_M_product (l : Launch) (D : va_G) (cL : ClassId) (h0 q0 sz : Nat) (u : MT) (p0 : Int64) (p1 : Int64) : Met l my_M_product mw_M_product ({ frames := 0, cells := 0, slots := 0, locals := 0 } : Room) (MPc D cL h0 q0 sz u [.long p0, .long p1]) (MQl D cL h0 q0 (MA h0 q0 cL u sz) (fun (r : Int64) (v : MT) => True)) 0 0 (MA h0 q0 cL u sz) := by
  refine Met.ofW (cc := mc_M_product) (maxL := 19) (ret := (some .long)) (by decide) rfl ?_
  intro p e s m args below meth c s₁ B hml hv
  obtain ⟨rfl, hsz, hP, hK, hD0⟩ := hv
  have hx := B.exec
  have hb := B.bytes
  have hr := B.returns
  have hts := atoms_spec (ws := mw_M_product) B.pre
  have ht : ∀ w ∈ gw_tbl, w.before _ s = true := fun w h => hts w (List.mem_cons_of_mem _ h)
  have hown : s.vm.findClass "NumberProbeModel" = some m.cls := findClass_of_methodNamed B.named
  have hlocks := B.notSynchronized
  subst hsz
  have hD : va_D (MA h0 q0 cL u s.heap.size) (mWs h0 q0 cL u) := hD0.self (sz := s.heap.size)
  generalize hAe : MA h0 q0 cL u s.heap.size = A at hD ⊢
  have hA : ∀ q : Nat, s.heap.size ≤ q → A q := fun q h => by rw [← hAe]; exact Or.inr h
  have hS : va_S A s.heap s.heap [] := va_S.rf
  have hM : MWd D cL h0 q0 A u s.heap := ⟨hP, hD⟩
  have hl := lv_entry ([.ref h0, .long p0, .long p1]) (n := 19) (Nat.le_of_ble_eq_true rfl)
  rw [lg_entry_eq]
  generalize (lg_sl ([.ref h0, .long p0, .long p1]) ++ List.replicate (19 - (lg_sl ([.ref h0, .long p0, .long p1])).length) Slot.unset).toArray = ls at hl ⊢
  have hl : lv_has ls 19 [(0, .ref h0), (1, .long p0), (3, .long p1)] := hl
  refine lv_lload_n hx hb md_M_product_0 rfl (lv_at hl 1 rfl) ?_
  refine lv_bipush (v := 32) hx hb md_M_product_1 (by decide) ?_
  refine lv_lushr (v := jl_ush p0 32) hx hb md_M_product_3 rfl ?_
  refine lv_lstore (lv' := [(5, .long (jl_ush p0 32)), (0, .ref h0), (1, .long p0), (3, .long p1)]) hx hb md_M_product_4 hl (by decide) rfl (fun ls hl => ?_)
  refine lv_lload_n hx hb md_M_product_6 rfl (lv_at hl 2 rfl) ?_
  refine lv_ldc2 (v := 4294967295) hx hb hown (ht _ tm_365) md_M_product_7 ?_
  refine lv_land hx hb md_M_product_10 ?_
  refine lv_lstore (lv' := [(7, .long (p0 &&& 4294967295)), (5, .long (jl_ush p0 32)), (0, .ref h0), (1, .long p0), (3, .long p1)]) hx hb md_M_product_11 hl (by decide) rfl (fun ls hl => ?_)
  refine lv_lload_n hx hb md_M_product_13 rfl (lv_at hl 4 rfl) ?_
  refine lv_bipush (v := 32) hx hb md_M_product_14 (by decide) ?_
  refine lv_lushr (v := jl_ush p1 32) hx hb md_M_product_16 rfl ?_
  refine lv_lstore (lv' := [(9, .long (jl_ush p1 32)), (7, .long (p0 &&& 4294967295)), (5, .long (jl_ush p0 32)), (0, .ref h0), (1, .long p0), (3, .long p1)]) hx hb md_M_product_17 hl (by decide) rfl (fun ls hl => ?_)
  refine lv_lload_n hx hb md_M_product_19 rfl (lv_at hl 5 rfl) ?_
  refine lv_ldc2 (v := 4294967295) hx hb hown (ht _ tm_365) md_M_product_20 ?_
  refine lv_land hx hb md_M_product_23 ?_
  refine lv_lstore (lv' := [(11, .long (p1 &&& 4294967295)), (9, .long (jl_ush p1 32)), (7, .long (p0 &&& 4294967295)), (5, .long (jl_ush p0 32)), (0, .ref h0), (1, .long p0), (3, .long p1)]) hx hb md_M_product_24 hl (by decide) rfl (fun ls hl => ?_)
  refine lv_lload hx hb md_M_product_26 (lv_at hl 2 rfl) ?_
  refine lv_lload hx hb md_M_product_28 (lv_at hl 0 rfl) ?_
  refine lv_lmul hx hb md_M_product_30 ?_
  refine lv_lstore (lv' := [(13, .long ((p0 &&& 4294967295) * (p1 &&& 4294967295))), (11, .long (p1 &&& 4294967295)), (9, .long (jl_ush p1 32)), (7, .long (p0 &&& 4294967295)), (5, .long (jl_ush p0 32)), (0, .ref h0), (1, .long p0), (3, .long p1)]) hx hb md_M_product_31 hl (by decide) rfl (fun ls hl => ?_)
  refine lv_lload hx hb md_M_product_33 (lv_at hl 4 rfl) ?_
  refine lv_lload hx hb md_M_product_35 (lv_at hl 1 rfl) ?_
  refine lv_lmul hx hb md_M_product_37 ?_
  refine lv_lload hx hb md_M_product_38 (lv_at hl 0 rfl) ?_
  refine lv_bipush (v := 32) hx hb md_M_product_40 (by decide) ?_
  refine lv_lushr (v := jl_ush ((p0 &&& 4294967295) * (p1 &&& 4294967295)) 32) hx hb md_M_product_42 rfl ?_
  refine lv_ladd hx hb md_M_product_43 ?_
  refine lv_lstore (lv' := [(15, .long (((jl_ush p0 32) * (p1 &&& 4294967295)) + (jl_ush ((p0 &&& 4294967295) * (p1 &&& 4294967295)) 32))), (13, .long ((p0 &&& 4294967295) * (p1 &&& 4294967295))), (11, .long (p1 &&& 4294967295)), (9, .long (jl_ush p1 32)), (7, .long (p0 &&& 4294967295)), (5, .long (jl_ush p0 32)), (0, .ref h0), (1, .long p0), (3, .long p1)]) hx hb md_M_product_44 hl (by decide) rfl (fun ls hl => ?_)
  refine lv_lload hx hb md_M_product_46 (lv_at hl 4 rfl) ?_
  refine lv_lload hx hb md_M_product_48 (lv_at hl 3 rfl) ?_
  refine lv_lmul hx hb md_M_product_50 ?_
  refine lv_lload hx hb md_M_product_51 (lv_at hl 0 rfl) ?_
  refine lv_ldc2 (v := 4294967295) hx hb hown (ht _ tm_365) md_M_product_53 ?_
  refine lv_land hx hb md_M_product_56 ?_
  refine lv_ladd hx hb md_M_product_57 ?_
  refine lv_lstore (lv' := [(17, .long (((p0 &&& 4294967295) * (jl_ush p1 32)) + ((((jl_ush p0 32) * (p1 &&& 4294967295)) + (jl_ush ((p0 &&& 4294967295) * (p1 &&& 4294967295)) 32)) &&& 4294967295))), (15, .long (((jl_ush p0 32) * (p1 &&& 4294967295)) + (jl_ush ((p0 &&& 4294967295) * (p1 &&& 4294967295)) 32))), (13, .long ((p0 &&& 4294967295) * (p1 &&& 4294967295))), (11, .long (p1 &&& 4294967295)), (9, .long (jl_ush p1 32)), (7, .long (p0 &&& 4294967295)), (5, .long (jl_ush p0 32)), (0, .ref h0), (1, .long p0), (3, .long p1)]) hx hb md_M_product_58 hl (by decide) rfl (fun ls hl => ?_)
  refine lv_aload_n hx hb md_M_product_60 rfl (lv_at hl 7 rfl) ?_
  refine lv_lload hx hb md_M_product_61 (lv_at hl 6 rfl) ?_
  refine lv_lload hx hb md_M_product_63 (lv_at hl 4 rfl) ?_
  refine lv_lmul hx hb md_M_product_65 ?_
  refine lv_lload hx hb md_M_product_66 (lv_at hl 1 rfl) ?_
  refine lv_bipush (v := 32) hx hb md_M_product_68 (by decide) ?_
  refine lv_lushr (v := jl_ush (((jl_ush p0 32) * (p1 &&& 4294967295)) + (jl_ush ((p0 &&& 4294967295) * (p1 &&& 4294967295)) 32)) 32) hx hb md_M_product_70 rfl ?_
  refine lv_ladd hx hb md_M_product_71 ?_
  refine lv_lload hx hb md_M_product_72 (lv_at hl 0 rfl) ?_
  refine lv_bipush (v := 32) hx hb md_M_product_74 (by decide) ?_
  refine lv_lushr (v := jl_ush (((p0 &&& 4294967295) * (jl_ush p1 32)) + ((((jl_ush p0 32) * (p1 &&& 4294967295)) + (jl_ush ((p0 &&& 4294967295) * (p1 &&& 4294967295)) 32)) &&& 4294967295)) 32) hx hb md_M_product_76 rfl ?_
  refine lv_ladd hx hb md_M_product_77 ?_
  refine va_put (D := D) (ci := 1) (v := .long ((((jl_ush p0 32) * (jl_ush p1 32)) + (jl_ush (((jl_ush p0 32) * (p1 &&& 4294967295)) + (jl_ush ((p0 &&& 4294967295) * (p1 &&& 4294967295)) 32)) 32)) + (jl_ush (((p0 &&& 4294967295) * (jl_ush p1 32)) + ((((jl_ush p0 32) * (p1 &&& 4294967295)) + (jl_ush ((p0 &&& 4294967295) * (p1 &&& 4294967295)) 32)) &&& 4294967295)) 32))) (ty := .long) (C := "NumberProbeModel") (T := TM) (N := 12) hx hb ht inM tyM tyM_ok nmM hown hK hM.1 hM.2 hS 0 rfl rfl 11 (by decide) (ht _ tm_329) (fun _ h9 => h9) rfl (by decide +kernel) rfl rfl (Nat.le_of_ble_eq_true rfl) md_M_product_78 (fun H_1 L_2 hP hD hS => ?_)
  have hM : MWd D cL h0 q0 A ((u.1.1, u.1.2.1, u.1.2.2.1, u.1.2.2.2.1, u.1.2.2.2.2.1, u.1.2.2.2.2.2.1, u.1.2.2.2.2.2.2.1, u.1.2.2.2.2.2.2.2.1, u.1.2.2.2.2.2.2.2.2.1, u.1.2.2.2.2.2.2.2.2.2.1, (((jl_ush p0 32) * (jl_ush p1 32)) + (jl_ush (((jl_ush p0 32) * (p1 &&& 4294967295)) + (jl_ush ((p0 &&& 4294967295) * (p1 &&& 4294967295)) 32)) 32)) + (jl_ush (((p0 &&& 4294967295) * (jl_ush p1 32)) + ((((jl_ush p0 32) * (p1 &&& 4294967295)) + (jl_ush ((p0 &&& 4294967295) * (p1 &&& 4294967295)) 32)) &&& 4294967295)) 32)), u.2) H_1 := ⟨hP, hD⟩
  refine lv_lload hx hb md_M_product_81 (lv_at hl 0 rfl) ?_
  refine lv_bipush (v := 32) hx hb md_M_product_83 (by decide) ?_
  refine lv_lshl (v := jl_shl (((p0 &&& 4294967295) * (jl_ush p1 32)) + ((((jl_ush p0 32) * (p1 &&& 4294967295)) + (jl_ush ((p0 &&& 4294967295) * (p1 &&& 4294967295)) 32)) &&& 4294967295)) 32) hx hb md_M_product_85 rfl ?_
  refine lv_lload hx hb md_M_product_86 (lv_at hl 2 rfl) ?_
  refine lv_ldc2 (v := 4294967295) hx hb hown (ht _ tm_365) md_M_product_88 ?_
  refine lv_land hx hb md_M_product_91 ?_
  refine lv_lor hx hb md_M_product_92 ?_
  exact W.lret (v := (jl_shl (((p0 &&& 4294967295) * (jl_ush p1 32)) + ((((jl_ush p0 32) * (p1 &&& 4294967295)) + (jl_ush ((p0 &&& 4294967295) * (p1 &&& 4294967295)) 32)) &&& 4294967295)) 32) ||| (((p0 &&& 4294967295) * (p1 &&& 4294967295)) &&& 4294967295)) hx hb hr (fun t ht2 _ => ⟨⟨(jl_shl (((p0 &&& 4294967295) * (jl_ush p1 32)) + ((((jl_ush p0 32) * (p1 &&& 4294967295)) + (jl_ush ((p0 &&& 4294967295) * (p1 &&& 4294967295)) 32)) &&& 4294967295)) 32) ||| (((p0 &&& 4294967295) * (p1 &&& 4294967295)) &&& 4294967295), ((u.1.1, u.1.2.1, u.1.2.2.1, u.1.2.2.2.1, u.1.2.2.2.2.1, u.1.2.2.2.2.2.1, u.1.2.2.2.2.2.2.1, u.1.2.2.2.2.2.2.2.1, u.1.2.2.2.2.2.2.2.2.1, u.1.2.2.2.2.2.2.2.2.2.1, (((jl_ush p0 32) * (jl_ush p1 32)) + (jl_ush (((jl_ush p0 32) * (p1 &&& 4294967295)) + (jl_ush ((p0 &&& 4294967295) * (p1 &&& 4294967295)) 32)) 32)) + (jl_ush (((p0 &&& 4294967295) * (jl_ush p1 32)) + ((((jl_ush p0 32) * (p1 &&& 4294967295)) + (jl_ush ((p0 &&& 4294967295) * (p1 &&& 4294967295)) 32)) &&& 4294967295)) 32)), u.2), rfl, trivial, by show MWd D cL h0 q0 A _ t.heap; rw [ht2]; exact hM⟩, hS.F ht2⟩) hS.2.2 md_M_product_93
set_option maxHeartbeats 4000000 in
set_option maxRecDepth 100000 in
theorem mt_M_multiply (l : Launch) (D : va_G) (cL : ClassId) (h0 q0 sz : Nat) (u : MT) (p0 : Int32) (p1 : Int64) (p2 : Int64) : Met l my_M_multiply mw_M_multiply ({ frames := 4, cells := 0, slots := 0, locals := 91 } : Room) (MPc D cL h0 q0 sz u [.int p0, .long p1, .long p2]) (MQl D cL h0 q0 (MA h0 q0 cL u sz) (fun (r : Int64) (v : MT) => True)) 0 0 (MA h0 q0 cL u sz) := by
  refine Met.ofW (cc := mc_M_multiply) (maxL := 12) (ret := (some .long)) (by decide) rfl ?_
  intro p e s m args below meth c s₁ B hml hv
  obtain ⟨rfl, hsz, hP, hK, hD0⟩ := hv
  have hx := B.exec
  have hb := B.bytes
  have hr := B.returns
  have hts := atoms_spec (ws := mw_M_multiply) B.pre
  have ht : ∀ w ∈ gw_tbl, w.before _ s = true := fun w h => hts w (List.mem_cons_of_mem _ h)
  have hown : s.vm.findClass "NumberProbeModel" = some m.cls := findClass_of_methodNamed B.named
  have hlocks := B.notSynchronized
  subst hsz
  have hD : va_D (MA h0 q0 cL u s.heap.size) (mWs h0 q0 cL u) := hD0.self (sz := s.heap.size)
  generalize hAe : MA h0 q0 cL u s.heap.size = A at hD ⊢
  have hA : ∀ q : Nat, s.heap.size ≤ q → A q := fun q h => by rw [← hAe]; exact Or.inr h
  have hS : va_S A s.heap s.heap [] := va_S.rf
  have hM : MWd D cL h0 q0 A u s.heap := ⟨hP, hD⟩
  have hl := lv_entry ([.ref h0, .int p0, .long p1, .long p2]) (n := 12) (Nat.le_of_ble_eq_true rfl)
  rw [lg_entry_eq]
  generalize (lg_sl ([.ref h0, .int p0, .long p1, .long p2]) ++ List.replicate (12 - (lg_sl ([.ref h0, .int p0, .long p1, .long p2])).length) Slot.unset).toArray = ls at hl ⊢
  have hl : lv_has ls 12 [(0, .ref h0), (1, .int p0), (2, .long p1), (4, .long p2)] := hl
  refine lv_aload_n hx hb md_M_multiply_0 rfl (lv_at hl 0 rfl) ?_
  refine lv_iload_n hx hb md_M_multiply_1 rfl (lv_at hl 1 rfl) ?_
  refine lv_lload_n hx hb md_M_multiply_2 rfl (lv_at hl 2 rfl) ?_
  refine m_callv (va_runV (C := "NumberProbeModel") (As := [.int p0, .long p1]) (rest := []) ⟨hx, hb, hml, hown, hts⟩ (mt_M_takeX l D cL h0 q0 _ u p0 p1) (cwV 2 hts (gd_V tm_451 tm_453 tm_13 tm_25 tm_454) rfl rfl rfl (by decide +kernel) ⟨Nat.le_of_ble_eq_true rfl, Nat.le_of_ble_eq_true rfl⟩) (m_in (locs := []) hK hM) rfl rfl hl.1 rfl (lv_room (Nat.le_of_ble_eq_true rfl)) md_M_multiply_3 ⟨Nat.zero_le _, Nat.zero_le _⟩) hM hS hA (fun u_3 H_4 L_5 e_2 hM hS => ?_)
  obtain rfl : u_3 = mtX p0 p1 u := e_2
  refine lv_aload_n hx hb md_M_multiply_6 rfl (lv_at hl 0 rfl) ?_
  refine lv_iload_n hx hb md_M_multiply_7 rfl (lv_at hl 1 rfl) ?_
  refine lv_lload hx hb md_M_multiply_8 (lv_at hl 3 rfl) ?_
  refine m_callv (va_runV (C := "NumberProbeModel") (As := [.int p0, .long p2]) (rest := []) ⟨hx, hb, hml, hown, hts⟩ (mt_M_takeY l D cL h0 q0 _ (mtX p0 p1 u) p0 p2) (cwV 2 hts (gd_V tm_464 tm_466 tm_14 tm_25 tm_467) rfl rfl rfl (by decide +kernel) ⟨Nat.le_of_ble_eq_true rfl, Nat.le_of_ble_eq_true rfl⟩) (m_in (locs := L_5) hK hM) rfl rfl hl.1 rfl (lv_room (Nat.le_of_ble_eq_true rfl)) md_M_multiply_10 ⟨Nat.zero_le _, Nat.zero_le _⟩) hM hS hA (fun u_8 H_9 L_10 e_7 hM hS => ?_)
  obtain rfl : u_8 = mtY p0 p2 (mtX p0 p1 u) := e_7
  refine lv_aload_n hx hb md_M_multiply_13 rfl (lv_at hl 0 rfl) ?_
  refine va_get (D := D) (ci := 1) (v := .int (jb (rf_isS p0 p1))) (C := "NumberProbeModel") (T := TM) (N := 12) hx hb ht inM hown hK hM.1 0 rfl rfl 1 (by decide) (ht _ tm_319) (fun _ h9 => h9) rfl md_M_multiply_14 ?_
  refine lv_aload_n hx hb md_M_multiply_17 rfl (lv_at hl 0 rfl) ?_
  refine va_get (D := D) (ci := 1) (v := .int (jb (rf_isS p0 p2))) (C := "NumberProbeModel") (T := TM) (N := 12) hx hb ht inM hown hK hM.1 0 rfl rfl 2 (by decide) (ht _ tm_320) (fun _ h9 => h9) rfl md_M_multiply_18 ?_
  have J_12 : ∀ (z_13 : Bool) (ls : Array Slot), lv_has ls 12 [(0, .ref h0), (1, .int p0), (2, .long p1), (4, .long p2)] → W p l e (headSpec mw_M_multiply ({ frames := 4, cells := 0, slots := 0, locals := 91 } : Room)).room s m ([.ref h0, .int p0, .long p1, .long p2] : List Value).toArray below meth c H_9 L_10 0 0 (MQ below (MQl D cL h0 q0 A (fun (r : Int64) (v : MT) => True)) ([.ref h0, .int p0, .long p1, .long p2] : List Value).toArray s 0 0 A) (F0 m 29 ls [.int (jb z_13)]) := by
    intro z_13 ls hl
    refine lv_istore (lv' := [(6, .int (jb z_13)), (0, .ref h0), (1, .int p0), (2, .long p1), (4, .long p2)]) hx hb md_M_multiply_29 hl (by decide) rfl (fun ls hl => ?_)
    refine lv_aload_n hx hb md_M_multiply_31 rfl (lv_at hl 1 rfl) ?_
    refine va_get (D := D) (ci := 1) (v := .int (jb (rf_isN p0 p1))) (C := "NumberProbeModel") (T := TM) (N := 12) hx hb ht inM hown hK hM.1 0 rfl rfl 3 (by decide) (ht _ tm_321) (fun _ h9 => h9) rfl md_M_multiply_32 ?_
    refine lv_if_ne (tgt := 77) hx hb md_M_multiply_35 (by decide) (fun c_14 => ?_) (fun c_14 => ?_)
    · refine lv_iload_n hx hb md_M_multiply_77 rfl (lv_at hl 2 rfl) ?_
      refine vp_callSl (W.runS (As := [.int p0]) (rest := []) ⟨hx, hb, hml, hown, hts⟩ (mt_M_nan l p0) (va_cwS 1 hts (gd_S tm_382 tm_383 tm_25 tm_384) rfl rfl rfl (by decide +kernel) ⟨Nat.le_of_ble_eq_true rfl, Nat.le_of_ble_eq_true rfl⟩) ⟨fb_0, fun U hU hW => ⟨rfl, trivial⟩⟩ rfl rfl hl.1 rfl (lv_room (Nat.le_of_ble_eq_true rfl)) md_M_multiply_78 ⟨Nat.zero_le _, Nat.zero_le _⟩) (fun r_15 e_16 => ?_)
      obtain rfl : r_15 = rf_na p0 := e_16
      exact W.lret (v := rf_na p0) hx hb hr (fun t ht2 _ => ⟨⟨rf_na p0, mtY p0 p2 (mtX p0 p1 u), rfl, trivial, by show MWd D cL h0 q0 A _ t.heap; rw [ht2]; exact hM⟩, hS.F ht2⟩) hS.2.2 md_M_multiply_81
    · refine lv_aload_n hx hb md_M_multiply_38 rfl (lv_at hl 1 rfl) ?_
      refine va_get (D := D) (ci := 1) (v := .int (jb (rf_isN p0 p2))) (C := "NumberProbeModel") (T := TM) (N := 12) hx hb ht inM hown hK hM.1 0 rfl rfl 4 (by decide) (ht _ tm_322) (fun _ h9 => h9) rfl md_M_multiply_39 ?_
      refine lv_if_ne (tgt := 77) hx hb md_M_multiply_42 (by decide) (fun c_17 => ?_) (fun c_17 => ?_)
      · refine lv_iload_n hx hb md_M_multiply_77 rfl (lv_at hl 2 rfl) ?_
        refine vp_callSl (W.runS (As := [.int p0]) (rest := []) ⟨hx, hb, hml, hown, hts⟩ (mt_M_nan l p0) (va_cwS 1 hts (gd_S tm_382 tm_383 tm_25 tm_384) rfl rfl rfl (by decide +kernel) ⟨Nat.le_of_ble_eq_true rfl, Nat.le_of_ble_eq_true rfl⟩) ⟨fb_0, fun U hU hW => ⟨rfl, trivial⟩⟩ rfl rfl hl.1 rfl (lv_room (Nat.le_of_ble_eq_true rfl)) md_M_multiply_78 ⟨Nat.zero_le _, Nat.zero_le _⟩) (fun r_18 e_19 => ?_)
        obtain rfl : r_18 = rf_na p0 := e_19
        exact W.lret (v := rf_na p0) hx hb hr (fun t ht2 _ => ⟨⟨rf_na p0, mtY p0 p2 (mtX p0 p1 u), rfl, trivial, by show MWd D cL h0 q0 A _ t.heap; rw [ht2]; exact hM⟩, hS.F ht2⟩) hS.2.2 md_M_multiply_81
      · refine lv_aload_n hx hb md_M_multiply_45 rfl (lv_at hl 1 rfl) ?_
        refine va_get (D := D) (ci := 1) (v := .int (jb (rf_isI p0 p1))) (C := "NumberProbeModel") (T := TM) (N := 12) hx hb ht inM hown hK hM.1 0 rfl rfl 5 (by decide) (ht _ tm_323) (fun _ h9 => h9) rfl md_M_multiply_46 ?_
        refine lv_if_eq (tgt := 61) hx hb md_M_multiply_49 (by decide) (fun c_20 => ?_) (fun c_20 => ?_)
        · refine lv_aload_n hx hb md_M_multiply_61 rfl (lv_at hl 1 rfl) ?_
          refine va_get (D := D) (ci := 1) (v := .int (jb (rf_isI p0 p2))) (C := "NumberProbeModel") (T := TM) (N := 12) hx hb ht inM hown hK hM.1 0 rfl rfl 6 (by decide) (ht _ tm_324) (fun _ h9 => h9) rfl md_M_multiply_62 ?_
          refine lv_if_eq (tgt := 82) hx hb md_M_multiply_65 (by decide) (fun c_21 => ?_) (fun c_21 => ?_)
          · refine lv_aload_n hx hb md_M_multiply_82 rfl (lv_at hl 1 rfl) ?_
            refine va_get (D := D) (ci := 1) (v := .int (jb (rf_isI p0 p1))) (C := "NumberProbeModel") (T := TM) (N := 12) hx hb ht inM hown hK hM.1 0 rfl rfl 5 (by decide) (ht _ tm_323) (fun _ h9 => h9) rfl md_M_multiply_83 ?_
            refine lv_if_ne (tgt := 96) hx hb md_M_multiply_86 (by decide) (fun c_22 => ?_) (fun c_22 => ?_)
            · refine lv_iload_n hx hb md_M_multiply_96 rfl (lv_at hl 2 rfl) ?_
              refine lv_iload hx hb md_M_multiply_97 (lv_at hl 0 rfl) ?_
              refine lv_iload_n hx hb md_M_multiply_99 rfl (lv_at hl 2 rfl) ?_
              refine vp_callSl (W.runS (As := [.int p0]) (rest := [.int (jb z_13), .int p0]) ⟨hx, hb, hml, hown, hts⟩ (mt_M_infinity l p0) (va_cwS 1 hts (gd_S tm_377 tm_378 tm_25 tm_379) rfl rfl rfl (by decide +kernel) ⟨Nat.le_of_ble_eq_true rfl, Nat.le_of_ble_eq_true rfl⟩) ⟨fb_0, fun U hU hW => ⟨rfl, trivial⟩⟩ rfl rfl hl.1 rfl (lv_room (Nat.le_of_ble_eq_true rfl)) md_M_multiply_100 ⟨Nat.zero_le _, Nat.zero_le _⟩) (fun r_23 e_24 => ?_)
              obtain rfl : r_23 = rf_if p0 := e_24
              refine vp_callSl (W.runS (As := [.int p0, .int (jb z_13), .long (rf_if p0)]) (rest := []) ⟨hx, hb, hml, hown, hts⟩ (mt_M_signed l p0 z_13 (rf_if p0)) (va_cwS 3 hts (gd_S tm_401 tm_402 tm_25 tm_403) rfl rfl rfl (by decide +kernel) ⟨Nat.le_of_ble_eq_true rfl, Nat.le_of_ble_eq_true rfl⟩) ⟨fb_0, fun U hU hW => ⟨rfl, trivial⟩⟩ rfl rfl hl.1 rfl (lv_room (Nat.le_of_ble_eq_true rfl)) md_M_multiply_103 ⟨Nat.zero_le _, Nat.zero_le _⟩) (fun r_25 e_26 => ?_)
              exact W.lret (v := r_25) hx hb hr (fun t ht2 _ => ⟨⟨r_25, mtY p0 p2 (mtX p0 p1 u), rfl, trivial, by show MWd D cL h0 q0 A _ t.heap; rw [ht2]; exact hM⟩, hS.F ht2⟩) hS.2.2 md_M_multiply_106
            · refine lv_aload_n hx hb md_M_multiply_89 rfl (lv_at hl 1 rfl) ?_
              refine va_get (D := D) (ci := 1) (v := .int (jb (rf_isI p0 p2))) (C := "NumberProbeModel") (T := TM) (N := 12) hx hb ht inM hown hK hM.1 0 rfl rfl 6 (by decide) (ht _ tm_324) (fun _ h9 => h9) rfl md_M_multiply_90 ?_
              refine lv_if_eq (tgt := 107) hx hb md_M_multiply_93 (by decide) (fun c_27 => ?_) (fun c_27 => ?_)
              · refine lv_aload_n hx hb md_M_multiply_107 rfl (lv_at hl 1 rfl) ?_
                refine lv_aload_n hx hb md_M_multiply_108 rfl (lv_at hl 1 rfl) ?_
                refine va_get (D := D) (ci := 1) (v := .long (rf_man p0 p1)) (C := "NumberProbeModel") (T := TM) (N := 12) hx hb ht inM hown hK hM.1 0 rfl rfl 7 (by decide) (ht _ tm_325) (fun _ h9 => h9) rfl md_M_multiply_109 ?_
                refine lv_aload_n hx hb md_M_multiply_112 rfl (lv_at hl 1 rfl) ?_
                refine va_get (D := D) (ci := 1) (v := .long (rf_man p0 p2)) (C := "NumberProbeModel") (T := TM) (N := 12) hx hb ht inM hown hK hM.1 0 rfl rfl 8 (by decide) (ht _ tm_326) (fun _ h9 => h9) rfl md_M_multiply_113 ?_
                refine m_calll (va_runV (C := "NumberProbeModel") (As := [.long (rf_man p0 p1), .long (rf_man p0 p2)]) (rest := []) ⟨hx, hb, hml, hown, hts⟩ (mt_M_product l D cL h0 q0 _ (mtY p0 p2 (mtX p0 p1 u)) (rf_man p0 p1) (rf_man p0 p2)) (cwV 2 hts (gd_V tm_479 tm_481 tm_17 tm_25 tm_482) rfl rfl rfl (by decide +kernel) ⟨Nat.le_of_ble_eq_true rfl, Nat.le_of_ble_eq_true rfl⟩) (m_in (locs := L_10) hK hM) rfl rfl hl.1 rfl (lv_room (Nat.le_of_ble_eq_true rfl)) md_M_multiply_116 ⟨Nat.zero_le _, Nat.zero_le _⟩) hM hS hA (fun r_28 u_30 H_31 L_32 e_29 hM hS => ?_)
                refine lv_lstore (lv' := [(7, .long r_28), (6, .int (jb z_13)), (0, .ref h0), (1, .int p0), (2, .long p1), (4, .long p2)]) hx hb md_M_multiply_119 hl (by decide) rfl (fun ls hl => ?_)
                refine lv_aload_n hx hb md_M_multiply_121 rfl (lv_at hl 2 rfl) ?_
                refine va_get (D := D) (ci := 1) (v := .long u_30.1.2.2.2.2.2.2.2.2.2.2) (C := "NumberProbeModel") (T := TM) (N := 12) hx hb ht inM hown hK hM.1 0 rfl rfl 11 (by decide) (ht _ tm_329) (fun _ h9 => h9) rfl md_M_multiply_122 ?_
                refine lv_lconst (v := 0) hx hb md_M_multiply_125 (by decide) ?_
                refine W.lcmp hx hb md_M_multiply_126 ?_
                refine lv_if_ne (tgt := 158) hx hb md_M_multiply_127 (by decide) (fun c_33 => ?_) (fun c_33 => ?_)
                · refine lv_aload_n hx hb md_M_multiply_158 rfl (lv_at hl 2 rfl) ?_
                  refine va_get (D := D) (ci := 1) (v := .long u_30.1.2.2.2.2.2.2.2.2.2.2) (C := "NumberProbeModel") (T := TM) (N := 12) hx hb ht inM hown hK hM.1 0 rfl rfl 11 (by decide) (ht _ tm_329) (fun _ h9 => h9) rfl md_M_multiply_159 ?_
                  refine vp_callSi (W.runS (As := [.long u_30.1.2.2.2.2.2.2.2.2.2.2]) (rest := []) ⟨hx, hb, hml, hown, hts⟩ (mt_M_length l u_30.1.2.2.2.2.2.2.2.2.2.2) (va_cwS 1 hts (gd_S tm_404 tm_405 tm_25 tm_406) rfl rfl rfl (by decide +kernel) ⟨Nat.le_of_ble_eq_true rfl, Nat.le_of_ble_eq_true rfl⟩) ⟨fb_0, fun U hU hW => ⟨rfl, trivial⟩⟩ rfl rfl hl.1 rfl (lv_room (Nat.le_of_ble_eq_true rfl)) md_M_multiply_162 ⟨Nat.zero_le _, Nat.zero_le _⟩) (fun r_34 e_35 => ?_)
                  refine lv_iconst (v := 2) hx hb md_M_multiply_165 (by decide) ?_
                  refine lv_iadd hx hb md_M_multiply_166 ?_
                  refine lv_istore (lv' := [(9, .int (r_34 + 2)), (7, .long r_28), (6, .int (jb z_13)), (0, .ref h0), (1, .int p0), (2, .long p1), (4, .long p2)]) hx hb md_M_multiply_167 hl (by decide) rfl (fun ls hl => ?_)
                  refine lv_lload hx hb md_M_multiply_169 (lv_at hl 1 rfl) ?_
                  refine lv_iconst (v := 1) hx hb md_M_multiply_171 (by decide) ?_
                  refine lv_lushr (v := jl_ush r_28 1) hx hb md_M_multiply_172 rfl ?_
                  refine lv_iload hx hb md_M_multiply_173 (lv_at hl 0 rfl) ?_
                  refine lv_iconst (v := 1) hx hb md_M_multiply_175 (by decide) ?_
                  refine lv_isub hx hb md_M_multiply_176 ?_
                  refine vp_callSl (W.runS (As := [.long (jl_ush r_28 1), .int ((r_34 + 2) - 1)]) (rest := []) ⟨hx, hb, hml, hown, hts⟩ (mt_M_shiftedDown l (jl_ush r_28 1) ((r_34 + 2) - 1)) (va_cwS 2 hts (gd_S tm_468 tm_469 tm_25 tm_470) rfl rfl rfl (by decide +kernel) ⟨Nat.le_of_ble_eq_true rfl, Nat.le_of_ble_eq_true rfl⟩) ⟨fb_0, fun U hU hW => ⟨rfl, trivial⟩⟩ rfl rfl hl.1 rfl (lv_room (Nat.le_of_ble_eq_true rfl)) md_M_multiply_177 ⟨Nat.zero_le _, Nat.zero_le _⟩) (fun r_36 e_37 => ?_)
                  refine lv_aload_n hx hb md_M_multiply_180 rfl (lv_at hl 3 rfl) ?_
                  refine va_get (D := D) (ci := 1) (v := .long u_30.1.2.2.2.2.2.2.2.2.2.2) (C := "NumberProbeModel") (T := TM) (N := 12) hx hb ht inM hown hK hM.1 0 rfl rfl 11 (by decide) (ht _ tm_329) (fun _ h9 => h9) rfl md_M_multiply_181 ?_
                  refine lv_bipush (v := 64) hx hb md_M_multiply_184 (by decide) ?_
                  refine lv_iload hx hb md_M_multiply_186 (lv_at hl 0 rfl) ?_
                  refine lv_isub hx hb md_M_multiply_188 ?_
                  refine lv_lshl (v := jl_shl u_30.1.2.2.2.2.2.2.2.2.2.2 (64 - (r_34 + 2))) hx hb md_M_multiply_189 rfl ?_
                  refine lv_lor hx hb md_M_multiply_190 ?_
                  refine lv_lstore (lv' := [(10, .long (r_36 ||| (jl_shl u_30.1.2.2.2.2.2.2.2.2.2.2 (64 - (r_34 + 2))))), (9, .int (r_34 + 2)), (7, .long r_28), (6, .int (jb z_13)), (0, .ref h0), (1, .int p0), (2, .long p1), (4, .long p2)]) hx hb md_M_multiply_191 hl (by decide) rfl (fun ls hl => ?_)
                  refine lv_lload hx hb md_M_multiply_193 (lv_at hl 2 rfl) ?_
                  refine lv_lconst (v := 1) hx hb md_M_multiply_195 (by decide) ?_
                  refine lv_land hx hb md_M_multiply_196 ?_
                  refine lv_lconst (v := 0) hx hb md_M_multiply_197 (by decide) ?_
                  refine W.lcmp hx hb md_M_multiply_198 ?_
                  have J_39 : ∀ (z_40 : Int64) (ls : Array Slot), lv_has ls 12 [(10, .long z_40), (9, .int (r_34 + 2)), (7, .long r_28), (6, .int (jb z_13)), (0, .ref h0), (1, .int p0), (2, .long p1), (4, .long p2)] → W p l e (headSpec mw_M_multiply ({ frames := 4, cells := 0, slots := 0, locals := 91 } : Room)).room s m ([.ref h0, .int p0, .long p1, .long p2] : List Value).toArray below meth c H_31 L_32 0 0 (MQ below (MQl D cL h0 q0 A (fun (r : Int64) (v : MT) => True)) ([.ref h0, .int p0, .long p1, .long p2] : List Value).toArray s 0 0 A) (F0 m 208 ls []) := by
                    intro z_40 ls hl
                    refine lv_iload_n hx hb md_M_multiply_208 rfl (lv_at hl 5 rfl) ?_
                    refine lv_iload hx hb md_M_multiply_209 (lv_at hl 3 rfl) ?_
                    refine lv_lload hx hb md_M_multiply_211 (lv_at hl 0 rfl) ?_
                    refine lv_aload_n hx hb md_M_multiply_213 rfl (lv_at hl 4 rfl) ?_
                    refine va_get (D := D) (ci := 1) (v := .int u_30.1.2.2.2.2.2.2.2.2.1) (C := "NumberProbeModel") (T := TM) (N := 12) hx hb ht inM hown hK hM.1 0 rfl rfl 9 (by decide) (ht _ tm_327) (fun _ h9 => h9) rfl md_M_multiply_214 ?_
                    refine lv_aload_n hx hb md_M_multiply_217 rfl (lv_at hl 4 rfl) ?_
                    refine va_get (D := D) (ci := 1) (v := .int u_30.1.2.2.2.2.2.2.2.2.2.1) (C := "NumberProbeModel") (T := TM) (N := 12) hx hb ht inM hown hK hM.1 0 rfl rfl 10 (by decide) (ht _ tm_328) (fun _ h9 => h9) rfl md_M_multiply_218 ?_
                    refine lv_iadd hx hb md_M_multiply_221 ?_
                    refine lv_iload hx hb md_M_multiply_222 (lv_at hl 1 rfl) ?_
                    refine lv_iadd hx hb md_M_multiply_224 ?_
                    refine vp_callSl (W.runS (As := [.int p0, .int (jb z_13), .long z_40, .int ((u_30.1.2.2.2.2.2.2.2.2.1 + u_30.1.2.2.2.2.2.2.2.2.2.1) + (r_34 + 2))]) (rest := []) ⟨hx, hb, hml, hown, hts⟩ (mt_M_round l p0 z_13 z_40 ((u_30.1.2.2.2.2.2.2.2.2.1 + u_30.1.2.2.2.2.2.2.2.2.2.1) + (r_34 + 2))) (va_cwS 4 hts (gd_S tm_398 tm_399 tm_25 tm_400) rfl rfl rfl (by decide +kernel) ⟨Nat.le_of_ble_eq_true rfl, Nat.le_of_ble_eq_true rfl⟩) ⟨fb_0, fun U hU hW => ⟨rfl, trivial⟩⟩ rfl rfl hl.1 rfl (lv_room (Nat.le_of_ble_eq_true rfl)) md_M_multiply_225 ⟨Nat.zero_le _, Nat.zero_le _⟩) (fun r_41 e_42 => ?_)
                    exact W.lret (v := r_41) hx hb hr (fun t ht2 _ => ⟨⟨r_41, u_30, rfl, trivial, by show MWd D cL h0 q0 A _ t.heap; rw [ht2]; exact hM⟩, hS.F ht2⟩) hS.2.2 md_M_multiply_228
                  refine lv_if_eq (tgt := 208) hx hb md_M_multiply_199 (by decide) (fun c_38 => ?_) (fun c_38 => ?_)
                  · exact J_39 (r_36 ||| (jl_shl u_30.1.2.2.2.2.2.2.2.2.2.2 (64 - (r_34 + 2)))) ls (lv_sub hl [0, 1, 2, 3, 4, 5, 6, 7] rfl)
                  · refine lv_lload hx hb md_M_multiply_202 (lv_at hl 0 rfl) ?_
                    refine lv_lconst (v := 1) hx hb md_M_multiply_204 (by decide) ?_
                    refine lv_lor hx hb md_M_multiply_205 ?_
                    refine lv_lstore (lv' := [(10, .long ((r_36 ||| (jl_shl u_30.1.2.2.2.2.2.2.2.2.2.2 (64 - (r_34 + 2)))) ||| 1)), (9, .int (r_34 + 2)), (7, .long r_28), (6, .int (jb z_13)), (0, .ref h0), (1, .int p0), (2, .long p1), (4, .long p2)]) hx hb md_M_multiply_206 hl (by decide) rfl (fun ls hl => ?_)
                    exact J_39 ((r_36 ||| (jl_shl u_30.1.2.2.2.2.2.2.2.2.2.2 (64 - (r_34 + 2)))) ||| 1) ls (lv_sub hl [0, 1, 2, 3, 4, 5, 6, 7] rfl)
                · refine lv_lload hx hb md_M_multiply_130 (lv_at hl 0 rfl) ?_
                  refine lv_bipush (v := 62) hx hb md_M_multiply_132 (by decide) ?_
                  refine lv_lushr (v := jl_ush r_28 62) hx hb md_M_multiply_134 rfl ?_
                  refine lv_lconst (v := 0) hx hb md_M_multiply_135 (by decide) ?_
                  refine W.lcmp hx hb md_M_multiply_136 ?_
                  refine lv_if_ne (tgt := 158) hx hb md_M_multiply_137 (by decide) (fun c_43 => ?_) (fun c_43 => ?_)
                  · refine lv_aload_n hx hb md_M_multiply_158 rfl (lv_at hl 2 rfl) ?_
                    refine va_get (D := D) (ci := 1) (v := .long u_30.1.2.2.2.2.2.2.2.2.2.2) (C := "NumberProbeModel") (T := TM) (N := 12) hx hb ht inM hown hK hM.1 0 rfl rfl 11 (by decide) (ht _ tm_329) (fun _ h9 => h9) rfl md_M_multiply_159 ?_
                    refine vp_callSi (W.runS (As := [.long u_30.1.2.2.2.2.2.2.2.2.2.2]) (rest := []) ⟨hx, hb, hml, hown, hts⟩ (mt_M_length l u_30.1.2.2.2.2.2.2.2.2.2.2) (va_cwS 1 hts (gd_S tm_404 tm_405 tm_25 tm_406) rfl rfl rfl (by decide +kernel) ⟨Nat.le_of_ble_eq_true rfl, Nat.le_of_ble_eq_true rfl⟩) ⟨fb_0, fun U hU hW => ⟨rfl, trivial⟩⟩ rfl rfl hl.1 rfl (lv_room (Nat.le_of_ble_eq_true rfl)) md_M_multiply_162 ⟨Nat.zero_le _, Nat.zero_le _⟩) (fun r_44 e_45 => ?_)
                    refine lv_iconst (v := 2) hx hb md_M_multiply_165 (by decide) ?_
                    refine lv_iadd hx hb md_M_multiply_166 ?_
                    refine lv_istore (lv' := [(9, .int (r_44 + 2)), (7, .long r_28), (6, .int (jb z_13)), (0, .ref h0), (1, .int p0), (2, .long p1), (4, .long p2)]) hx hb md_M_multiply_167 hl (by decide) rfl (fun ls hl => ?_)
                    refine lv_lload hx hb md_M_multiply_169 (lv_at hl 1 rfl) ?_
                    refine lv_iconst (v := 1) hx hb md_M_multiply_171 (by decide) ?_
                    refine lv_lushr (v := jl_ush r_28 1) hx hb md_M_multiply_172 rfl ?_
                    refine lv_iload hx hb md_M_multiply_173 (lv_at hl 0 rfl) ?_
                    refine lv_iconst (v := 1) hx hb md_M_multiply_175 (by decide) ?_
                    refine lv_isub hx hb md_M_multiply_176 ?_
                    refine vp_callSl (W.runS (As := [.long (jl_ush r_28 1), .int ((r_44 + 2) - 1)]) (rest := []) ⟨hx, hb, hml, hown, hts⟩ (mt_M_shiftedDown l (jl_ush r_28 1) ((r_44 + 2) - 1)) (va_cwS 2 hts (gd_S tm_468 tm_469 tm_25 tm_470) rfl rfl rfl (by decide +kernel) ⟨Nat.le_of_ble_eq_true rfl, Nat.le_of_ble_eq_true rfl⟩) ⟨fb_0, fun U hU hW => ⟨rfl, trivial⟩⟩ rfl rfl hl.1 rfl (lv_room (Nat.le_of_ble_eq_true rfl)) md_M_multiply_177 ⟨Nat.zero_le _, Nat.zero_le _⟩) (fun r_46 e_47 => ?_)
                    refine lv_aload_n hx hb md_M_multiply_180 rfl (lv_at hl 3 rfl) ?_
                    refine va_get (D := D) (ci := 1) (v := .long u_30.1.2.2.2.2.2.2.2.2.2.2) (C := "NumberProbeModel") (T := TM) (N := 12) hx hb ht inM hown hK hM.1 0 rfl rfl 11 (by decide) (ht _ tm_329) (fun _ h9 => h9) rfl md_M_multiply_181 ?_
                    refine lv_bipush (v := 64) hx hb md_M_multiply_184 (by decide) ?_
                    refine lv_iload hx hb md_M_multiply_186 (lv_at hl 0 rfl) ?_
                    refine lv_isub hx hb md_M_multiply_188 ?_
                    refine lv_lshl (v := jl_shl u_30.1.2.2.2.2.2.2.2.2.2.2 (64 - (r_44 + 2))) hx hb md_M_multiply_189 rfl ?_
                    refine lv_lor hx hb md_M_multiply_190 ?_
                    refine lv_lstore (lv' := [(10, .long (r_46 ||| (jl_shl u_30.1.2.2.2.2.2.2.2.2.2.2 (64 - (r_44 + 2))))), (9, .int (r_44 + 2)), (7, .long r_28), (6, .int (jb z_13)), (0, .ref h0), (1, .int p0), (2, .long p1), (4, .long p2)]) hx hb md_M_multiply_191 hl (by decide) rfl (fun ls hl => ?_)
                    refine lv_lload hx hb md_M_multiply_193 (lv_at hl 2 rfl) ?_
                    refine lv_lconst (v := 1) hx hb md_M_multiply_195 (by decide) ?_
                    refine lv_land hx hb md_M_multiply_196 ?_
                    refine lv_lconst (v := 0) hx hb md_M_multiply_197 (by decide) ?_
                    refine W.lcmp hx hb md_M_multiply_198 ?_
                    have J_49 : ∀ (z_50 : Int64) (ls : Array Slot), lv_has ls 12 [(10, .long z_50), (9, .int (r_44 + 2)), (7, .long r_28), (6, .int (jb z_13)), (0, .ref h0), (1, .int p0), (2, .long p1), (4, .long p2)] → W p l e (headSpec mw_M_multiply ({ frames := 4, cells := 0, slots := 0, locals := 91 } : Room)).room s m ([.ref h0, .int p0, .long p1, .long p2] : List Value).toArray below meth c H_31 L_32 0 0 (MQ below (MQl D cL h0 q0 A (fun (r : Int64) (v : MT) => True)) ([.ref h0, .int p0, .long p1, .long p2] : List Value).toArray s 0 0 A) (F0 m 208 ls []) := by
                      intro z_50 ls hl
                      refine lv_iload_n hx hb md_M_multiply_208 rfl (lv_at hl 5 rfl) ?_
                      refine lv_iload hx hb md_M_multiply_209 (lv_at hl 3 rfl) ?_
                      refine lv_lload hx hb md_M_multiply_211 (lv_at hl 0 rfl) ?_
                      refine lv_aload_n hx hb md_M_multiply_213 rfl (lv_at hl 4 rfl) ?_
                      refine va_get (D := D) (ci := 1) (v := .int u_30.1.2.2.2.2.2.2.2.2.1) (C := "NumberProbeModel") (T := TM) (N := 12) hx hb ht inM hown hK hM.1 0 rfl rfl 9 (by decide) (ht _ tm_327) (fun _ h9 => h9) rfl md_M_multiply_214 ?_
                      refine lv_aload_n hx hb md_M_multiply_217 rfl (lv_at hl 4 rfl) ?_
                      refine va_get (D := D) (ci := 1) (v := .int u_30.1.2.2.2.2.2.2.2.2.2.1) (C := "NumberProbeModel") (T := TM) (N := 12) hx hb ht inM hown hK hM.1 0 rfl rfl 10 (by decide) (ht _ tm_328) (fun _ h9 => h9) rfl md_M_multiply_218 ?_
                      refine lv_iadd hx hb md_M_multiply_221 ?_
                      refine lv_iload hx hb md_M_multiply_222 (lv_at hl 1 rfl) ?_
                      refine lv_iadd hx hb md_M_multiply_224 ?_
                      refine vp_callSl (W.runS (As := [.int p0, .int (jb z_13), .long z_50, .int ((u_30.1.2.2.2.2.2.2.2.2.1 + u_30.1.2.2.2.2.2.2.2.2.2.1) + (r_44 + 2))]) (rest := []) ⟨hx, hb, hml, hown, hts⟩ (mt_M_round l p0 z_13 z_50 ((u_30.1.2.2.2.2.2.2.2.2.1 + u_30.1.2.2.2.2.2.2.2.2.2.1) + (r_44 + 2))) (va_cwS 4 hts (gd_S tm_398 tm_399 tm_25 tm_400) rfl rfl rfl (by decide +kernel) ⟨Nat.le_of_ble_eq_true rfl, Nat.le_of_ble_eq_true rfl⟩) ⟨fb_0, fun U hU hW => ⟨rfl, trivial⟩⟩ rfl rfl hl.1 rfl (lv_room (Nat.le_of_ble_eq_true rfl)) md_M_multiply_225 ⟨Nat.zero_le _, Nat.zero_le _⟩) (fun r_51 e_52 => ?_)
                      exact W.lret (v := r_51) hx hb hr (fun t ht2 _ => ⟨⟨r_51, u_30, rfl, trivial, by show MWd D cL h0 q0 A _ t.heap; rw [ht2]; exact hM⟩, hS.F ht2⟩) hS.2.2 md_M_multiply_228
                    refine lv_if_eq (tgt := 208) hx hb md_M_multiply_199 (by decide) (fun c_48 => ?_) (fun c_48 => ?_)
                    · exact J_49 (r_46 ||| (jl_shl u_30.1.2.2.2.2.2.2.2.2.2.2 (64 - (r_44 + 2)))) ls (lv_sub hl [0, 1, 2, 3, 4, 5, 6, 7] rfl)
                    · refine lv_lload hx hb md_M_multiply_202 (lv_at hl 0 rfl) ?_
                      refine lv_lconst (v := 1) hx hb md_M_multiply_204 (by decide) ?_
                      refine lv_lor hx hb md_M_multiply_205 ?_
                      refine lv_lstore (lv' := [(10, .long ((r_46 ||| (jl_shl u_30.1.2.2.2.2.2.2.2.2.2.2 (64 - (r_44 + 2)))) ||| 1)), (9, .int (r_44 + 2)), (7, .long r_28), (6, .int (jb z_13)), (0, .ref h0), (1, .int p0), (2, .long p1), (4, .long p2)]) hx hb md_M_multiply_206 hl (by decide) rfl (fun ls hl => ?_)
                      exact J_49 ((r_46 ||| (jl_shl u_30.1.2.2.2.2.2.2.2.2.2.2 (64 - (r_44 + 2)))) ||| 1) ls (lv_sub hl [0, 1, 2, 3, 4, 5, 6, 7] rfl)
                  · refine lv_iload_n hx hb md_M_multiply_140 rfl (lv_at hl 3 rfl) ?_
                    refine lv_iload hx hb md_M_multiply_141 (lv_at hl 1 rfl) ?_
                    refine lv_lload hx hb md_M_multiply_143 (lv_at hl 0 rfl) ?_
                    refine lv_aload_n hx hb md_M_multiply_145 rfl (lv_at hl 2 rfl) ?_
                    refine va_get (D := D) (ci := 1) (v := .int u_30.1.2.2.2.2.2.2.2.2.1) (C := "NumberProbeModel") (T := TM) (N := 12) hx hb ht inM hown hK hM.1 0 rfl rfl 9 (by decide) (ht _ tm_327) (fun _ h9 => h9) rfl md_M_multiply_146 ?_
                    refine lv_aload_n hx hb md_M_multiply_149 rfl (lv_at hl 2 rfl) ?_
                    refine va_get (D := D) (ci := 1) (v := .int u_30.1.2.2.2.2.2.2.2.2.2.1) (C := "NumberProbeModel") (T := TM) (N := 12) hx hb ht inM hown hK hM.1 0 rfl rfl 10 (by decide) (ht _ tm_328) (fun _ h9 => h9) rfl md_M_multiply_150 ?_
                    refine lv_iadd hx hb md_M_multiply_153 ?_
                    refine vp_callSl (W.runS (As := [.int p0, .int (jb z_13), .long r_28, .int (u_30.1.2.2.2.2.2.2.2.2.1 + u_30.1.2.2.2.2.2.2.2.2.2.1)]) (rest := []) ⟨hx, hb, hml, hown, hts⟩ (mt_M_round l p0 z_13 r_28 (u_30.1.2.2.2.2.2.2.2.2.1 + u_30.1.2.2.2.2.2.2.2.2.2.1)) (va_cwS 4 hts (gd_S tm_398 tm_399 tm_25 tm_400) rfl rfl rfl (by decide +kernel) ⟨Nat.le_of_ble_eq_true rfl, Nat.le_of_ble_eq_true rfl⟩) ⟨fb_0, fun U hU hW => ⟨rfl, trivial⟩⟩ rfl rfl hl.1 rfl (lv_room (Nat.le_of_ble_eq_true rfl)) md_M_multiply_154 ⟨Nat.zero_le _, Nat.zero_le _⟩) (fun r_53 e_54 => ?_)
                    exact W.lret (v := r_53) hx hb hr (fun t ht2 _ => ⟨⟨r_53, u_30, rfl, trivial, by show MWd D cL h0 q0 A _ t.heap; rw [ht2]; exact hM⟩, hS.F ht2⟩) hS.2.2 md_M_multiply_157
              · refine lv_iload_n hx hb md_M_multiply_96 rfl (lv_at hl 2 rfl) ?_
                refine lv_iload hx hb md_M_multiply_97 (lv_at hl 0 rfl) ?_
                refine lv_iload_n hx hb md_M_multiply_99 rfl (lv_at hl 2 rfl) ?_
                refine vp_callSl (W.runS (As := [.int p0]) (rest := [.int (jb z_13), .int p0]) ⟨hx, hb, hml, hown, hts⟩ (mt_M_infinity l p0) (va_cwS 1 hts (gd_S tm_377 tm_378 tm_25 tm_379) rfl rfl rfl (by decide +kernel) ⟨Nat.le_of_ble_eq_true rfl, Nat.le_of_ble_eq_true rfl⟩) ⟨fb_0, fun U hU hW => ⟨rfl, trivial⟩⟩ rfl rfl hl.1 rfl (lv_room (Nat.le_of_ble_eq_true rfl)) md_M_multiply_100 ⟨Nat.zero_le _, Nat.zero_le _⟩) (fun r_55 e_56 => ?_)
                obtain rfl : r_55 = rf_if p0 := e_56
                refine vp_callSl (W.runS (As := [.int p0, .int (jb z_13), .long (rf_if p0)]) (rest := []) ⟨hx, hb, hml, hown, hts⟩ (mt_M_signed l p0 z_13 (rf_if p0)) (va_cwS 3 hts (gd_S tm_401 tm_402 tm_25 tm_403) rfl rfl rfl (by decide +kernel) ⟨Nat.le_of_ble_eq_true rfl, Nat.le_of_ble_eq_true rfl⟩) ⟨fb_0, fun U hU hW => ⟨rfl, trivial⟩⟩ rfl rfl hl.1 rfl (lv_room (Nat.le_of_ble_eq_true rfl)) md_M_multiply_103 ⟨Nat.zero_le _, Nat.zero_le _⟩) (fun r_57 e_58 => ?_)
                exact W.lret (v := r_57) hx hb hr (fun t ht2 _ => ⟨⟨r_57, mtY p0 p2 (mtX p0 p1 u), rfl, trivial, by show MWd D cL h0 q0 A _ t.heap; rw [ht2]; exact hM⟩, hS.F ht2⟩) hS.2.2 md_M_multiply_106
          · refine lv_aload_n hx hb md_M_multiply_68 rfl (lv_at hl 1 rfl) ?_
            refine va_get (D := D) (ci := 1) (v := .long (rf_man p0 p1)) (C := "NumberProbeModel") (T := TM) (N := 12) hx hb ht inM hown hK hM.1 0 rfl rfl 7 (by decide) (ht _ tm_325) (fun _ h9 => h9) rfl md_M_multiply_69 ?_
            refine lv_lconst (v := 0) hx hb md_M_multiply_72 (by decide) ?_
            refine W.lcmp hx hb md_M_multiply_73 ?_
            refine lv_if_ne (tgt := 82) hx hb md_M_multiply_74 (by decide) (fun c_59 => ?_) (fun c_59 => ?_)
            · refine lv_aload_n hx hb md_M_multiply_82 rfl (lv_at hl 1 rfl) ?_
              refine va_get (D := D) (ci := 1) (v := .int (jb (rf_isI p0 p1))) (C := "NumberProbeModel") (T := TM) (N := 12) hx hb ht inM hown hK hM.1 0 rfl rfl 5 (by decide) (ht _ tm_323) (fun _ h9 => h9) rfl md_M_multiply_83 ?_
              refine lv_if_ne (tgt := 96) hx hb md_M_multiply_86 (by decide) (fun c_60 => ?_) (fun c_60 => ?_)
              · refine lv_iload_n hx hb md_M_multiply_96 rfl (lv_at hl 2 rfl) ?_
                refine lv_iload hx hb md_M_multiply_97 (lv_at hl 0 rfl) ?_
                refine lv_iload_n hx hb md_M_multiply_99 rfl (lv_at hl 2 rfl) ?_
                refine vp_callSl (W.runS (As := [.int p0]) (rest := [.int (jb z_13), .int p0]) ⟨hx, hb, hml, hown, hts⟩ (mt_M_infinity l p0) (va_cwS 1 hts (gd_S tm_377 tm_378 tm_25 tm_379) rfl rfl rfl (by decide +kernel) ⟨Nat.le_of_ble_eq_true rfl, Nat.le_of_ble_eq_true rfl⟩) ⟨fb_0, fun U hU hW => ⟨rfl, trivial⟩⟩ rfl rfl hl.1 rfl (lv_room (Nat.le_of_ble_eq_true rfl)) md_M_multiply_100 ⟨Nat.zero_le _, Nat.zero_le _⟩) (fun r_61 e_62 => ?_)
                obtain rfl : r_61 = rf_if p0 := e_62
                refine vp_callSl (W.runS (As := [.int p0, .int (jb z_13), .long (rf_if p0)]) (rest := []) ⟨hx, hb, hml, hown, hts⟩ (mt_M_signed l p0 z_13 (rf_if p0)) (va_cwS 3 hts (gd_S tm_401 tm_402 tm_25 tm_403) rfl rfl rfl (by decide +kernel) ⟨Nat.le_of_ble_eq_true rfl, Nat.le_of_ble_eq_true rfl⟩) ⟨fb_0, fun U hU hW => ⟨rfl, trivial⟩⟩ rfl rfl hl.1 rfl (lv_room (Nat.le_of_ble_eq_true rfl)) md_M_multiply_103 ⟨Nat.zero_le _, Nat.zero_le _⟩) (fun r_63 e_64 => ?_)
                exact W.lret (v := r_63) hx hb hr (fun t ht2 _ => ⟨⟨r_63, mtY p0 p2 (mtX p0 p1 u), rfl, trivial, by show MWd D cL h0 q0 A _ t.heap; rw [ht2]; exact hM⟩, hS.F ht2⟩) hS.2.2 md_M_multiply_106
              · refine lv_aload_n hx hb md_M_multiply_89 rfl (lv_at hl 1 rfl) ?_
                refine va_get (D := D) (ci := 1) (v := .int (jb (rf_isI p0 p2))) (C := "NumberProbeModel") (T := TM) (N := 12) hx hb ht inM hown hK hM.1 0 rfl rfl 6 (by decide) (ht _ tm_324) (fun _ h9 => h9) rfl md_M_multiply_90 ?_
                refine lv_if_eq (tgt := 107) hx hb md_M_multiply_93 (by decide) (fun c_65 => ?_) (fun c_65 => ?_)
                · refine lv_aload_n hx hb md_M_multiply_107 rfl (lv_at hl 1 rfl) ?_
                  refine lv_aload_n hx hb md_M_multiply_108 rfl (lv_at hl 1 rfl) ?_
                  refine va_get (D := D) (ci := 1) (v := .long (rf_man p0 p1)) (C := "NumberProbeModel") (T := TM) (N := 12) hx hb ht inM hown hK hM.1 0 rfl rfl 7 (by decide) (ht _ tm_325) (fun _ h9 => h9) rfl md_M_multiply_109 ?_
                  refine lv_aload_n hx hb md_M_multiply_112 rfl (lv_at hl 1 rfl) ?_
                  refine va_get (D := D) (ci := 1) (v := .long (rf_man p0 p2)) (C := "NumberProbeModel") (T := TM) (N := 12) hx hb ht inM hown hK hM.1 0 rfl rfl 8 (by decide) (ht _ tm_326) (fun _ h9 => h9) rfl md_M_multiply_113 ?_
                  refine m_calll (va_runV (C := "NumberProbeModel") (As := [.long (rf_man p0 p1), .long (rf_man p0 p2)]) (rest := []) ⟨hx, hb, hml, hown, hts⟩ (mt_M_product l D cL h0 q0 _ (mtY p0 p2 (mtX p0 p1 u)) (rf_man p0 p1) (rf_man p0 p2)) (cwV 2 hts (gd_V tm_479 tm_481 tm_17 tm_25 tm_482) rfl rfl rfl (by decide +kernel) ⟨Nat.le_of_ble_eq_true rfl, Nat.le_of_ble_eq_true rfl⟩) (m_in (locs := L_10) hK hM) rfl rfl hl.1 rfl (lv_room (Nat.le_of_ble_eq_true rfl)) md_M_multiply_116 ⟨Nat.zero_le _, Nat.zero_le _⟩) hM hS hA (fun r_66 u_68 H_69 L_70 e_67 hM hS => ?_)
                  refine lv_lstore (lv' := [(7, .long r_66), (6, .int (jb z_13)), (0, .ref h0), (1, .int p0), (2, .long p1), (4, .long p2)]) hx hb md_M_multiply_119 hl (by decide) rfl (fun ls hl => ?_)
                  refine lv_aload_n hx hb md_M_multiply_121 rfl (lv_at hl 2 rfl) ?_
                  refine va_get (D := D) (ci := 1) (v := .long u_68.1.2.2.2.2.2.2.2.2.2.2) (C := "NumberProbeModel") (T := TM) (N := 12) hx hb ht inM hown hK hM.1 0 rfl rfl 11 (by decide) (ht _ tm_329) (fun _ h9 => h9) rfl md_M_multiply_122 ?_
                  refine lv_lconst (v := 0) hx hb md_M_multiply_125 (by decide) ?_
                  refine W.lcmp hx hb md_M_multiply_126 ?_
                  refine lv_if_ne (tgt := 158) hx hb md_M_multiply_127 (by decide) (fun c_71 => ?_) (fun c_71 => ?_)
                  · refine lv_aload_n hx hb md_M_multiply_158 rfl (lv_at hl 2 rfl) ?_
                    refine va_get (D := D) (ci := 1) (v := .long u_68.1.2.2.2.2.2.2.2.2.2.2) (C := "NumberProbeModel") (T := TM) (N := 12) hx hb ht inM hown hK hM.1 0 rfl rfl 11 (by decide) (ht _ tm_329) (fun _ h9 => h9) rfl md_M_multiply_159 ?_
                    refine vp_callSi (W.runS (As := [.long u_68.1.2.2.2.2.2.2.2.2.2.2]) (rest := []) ⟨hx, hb, hml, hown, hts⟩ (mt_M_length l u_68.1.2.2.2.2.2.2.2.2.2.2) (va_cwS 1 hts (gd_S tm_404 tm_405 tm_25 tm_406) rfl rfl rfl (by decide +kernel) ⟨Nat.le_of_ble_eq_true rfl, Nat.le_of_ble_eq_true rfl⟩) ⟨fb_0, fun U hU hW => ⟨rfl, trivial⟩⟩ rfl rfl hl.1 rfl (lv_room (Nat.le_of_ble_eq_true rfl)) md_M_multiply_162 ⟨Nat.zero_le _, Nat.zero_le _⟩) (fun r_72 e_73 => ?_)
                    refine lv_iconst (v := 2) hx hb md_M_multiply_165 (by decide) ?_
                    refine lv_iadd hx hb md_M_multiply_166 ?_
                    refine lv_istore (lv' := [(9, .int (r_72 + 2)), (7, .long r_66), (6, .int (jb z_13)), (0, .ref h0), (1, .int p0), (2, .long p1), (4, .long p2)]) hx hb md_M_multiply_167 hl (by decide) rfl (fun ls hl => ?_)
                    refine lv_lload hx hb md_M_multiply_169 (lv_at hl 1 rfl) ?_
                    refine lv_iconst (v := 1) hx hb md_M_multiply_171 (by decide) ?_
                    refine lv_lushr (v := jl_ush r_66 1) hx hb md_M_multiply_172 rfl ?_
                    refine lv_iload hx hb md_M_multiply_173 (lv_at hl 0 rfl) ?_
                    refine lv_iconst (v := 1) hx hb md_M_multiply_175 (by decide) ?_
                    refine lv_isub hx hb md_M_multiply_176 ?_
                    refine vp_callSl (W.runS (As := [.long (jl_ush r_66 1), .int ((r_72 + 2) - 1)]) (rest := []) ⟨hx, hb, hml, hown, hts⟩ (mt_M_shiftedDown l (jl_ush r_66 1) ((r_72 + 2) - 1)) (va_cwS 2 hts (gd_S tm_468 tm_469 tm_25 tm_470) rfl rfl rfl (by decide +kernel) ⟨Nat.le_of_ble_eq_true rfl, Nat.le_of_ble_eq_true rfl⟩) ⟨fb_0, fun U hU hW => ⟨rfl, trivial⟩⟩ rfl rfl hl.1 rfl (lv_room (Nat.le_of_ble_eq_true rfl)) md_M_multiply_177 ⟨Nat.zero_le _, Nat.zero_le _⟩) (fun r_74 e_75 => ?_)
                    refine lv_aload_n hx hb md_M_multiply_180 rfl (lv_at hl 3 rfl) ?_
                    refine va_get (D := D) (ci := 1) (v := .long u_68.1.2.2.2.2.2.2.2.2.2.2) (C := "NumberProbeModel") (T := TM) (N := 12) hx hb ht inM hown hK hM.1 0 rfl rfl 11 (by decide) (ht _ tm_329) (fun _ h9 => h9) rfl md_M_multiply_181 ?_
                    refine lv_bipush (v := 64) hx hb md_M_multiply_184 (by decide) ?_
                    refine lv_iload hx hb md_M_multiply_186 (lv_at hl 0 rfl) ?_
                    refine lv_isub hx hb md_M_multiply_188 ?_
                    refine lv_lshl (v := jl_shl u_68.1.2.2.2.2.2.2.2.2.2.2 (64 - (r_72 + 2))) hx hb md_M_multiply_189 rfl ?_
                    refine lv_lor hx hb md_M_multiply_190 ?_
                    refine lv_lstore (lv' := [(10, .long (r_74 ||| (jl_shl u_68.1.2.2.2.2.2.2.2.2.2.2 (64 - (r_72 + 2))))), (9, .int (r_72 + 2)), (7, .long r_66), (6, .int (jb z_13)), (0, .ref h0), (1, .int p0), (2, .long p1), (4, .long p2)]) hx hb md_M_multiply_191 hl (by decide) rfl (fun ls hl => ?_)
                    refine lv_lload hx hb md_M_multiply_193 (lv_at hl 2 rfl) ?_
                    refine lv_lconst (v := 1) hx hb md_M_multiply_195 (by decide) ?_
                    refine lv_land hx hb md_M_multiply_196 ?_
                    refine lv_lconst (v := 0) hx hb md_M_multiply_197 (by decide) ?_
                    refine W.lcmp hx hb md_M_multiply_198 ?_
                    have J_77 : ∀ (z_78 : Int64) (ls : Array Slot), lv_has ls 12 [(10, .long z_78), (9, .int (r_72 + 2)), (7, .long r_66), (6, .int (jb z_13)), (0, .ref h0), (1, .int p0), (2, .long p1), (4, .long p2)] → W p l e (headSpec mw_M_multiply ({ frames := 4, cells := 0, slots := 0, locals := 91 } : Room)).room s m ([.ref h0, .int p0, .long p1, .long p2] : List Value).toArray below meth c H_69 L_70 0 0 (MQ below (MQl D cL h0 q0 A (fun (r : Int64) (v : MT) => True)) ([.ref h0, .int p0, .long p1, .long p2] : List Value).toArray s 0 0 A) (F0 m 208 ls []) := by
                      intro z_78 ls hl
                      refine lv_iload_n hx hb md_M_multiply_208 rfl (lv_at hl 5 rfl) ?_
                      refine lv_iload hx hb md_M_multiply_209 (lv_at hl 3 rfl) ?_
                      refine lv_lload hx hb md_M_multiply_211 (lv_at hl 0 rfl) ?_
                      refine lv_aload_n hx hb md_M_multiply_213 rfl (lv_at hl 4 rfl) ?_
                      refine va_get (D := D) (ci := 1) (v := .int u_68.1.2.2.2.2.2.2.2.2.1) (C := "NumberProbeModel") (T := TM) (N := 12) hx hb ht inM hown hK hM.1 0 rfl rfl 9 (by decide) (ht _ tm_327) (fun _ h9 => h9) rfl md_M_multiply_214 ?_
                      refine lv_aload_n hx hb md_M_multiply_217 rfl (lv_at hl 4 rfl) ?_
                      refine va_get (D := D) (ci := 1) (v := .int u_68.1.2.2.2.2.2.2.2.2.2.1) (C := "NumberProbeModel") (T := TM) (N := 12) hx hb ht inM hown hK hM.1 0 rfl rfl 10 (by decide) (ht _ tm_328) (fun _ h9 => h9) rfl md_M_multiply_218 ?_
                      refine lv_iadd hx hb md_M_multiply_221 ?_
                      refine lv_iload hx hb md_M_multiply_222 (lv_at hl 1 rfl) ?_
                      refine lv_iadd hx hb md_M_multiply_224 ?_
                      refine vp_callSl (W.runS (As := [.int p0, .int (jb z_13), .long z_78, .int ((u_68.1.2.2.2.2.2.2.2.2.1 + u_68.1.2.2.2.2.2.2.2.2.2.1) + (r_72 + 2))]) (rest := []) ⟨hx, hb, hml, hown, hts⟩ (mt_M_round l p0 z_13 z_78 ((u_68.1.2.2.2.2.2.2.2.2.1 + u_68.1.2.2.2.2.2.2.2.2.2.1) + (r_72 + 2))) (va_cwS 4 hts (gd_S tm_398 tm_399 tm_25 tm_400) rfl rfl rfl (by decide +kernel) ⟨Nat.le_of_ble_eq_true rfl, Nat.le_of_ble_eq_true rfl⟩) ⟨fb_0, fun U hU hW => ⟨rfl, trivial⟩⟩ rfl rfl hl.1 rfl (lv_room (Nat.le_of_ble_eq_true rfl)) md_M_multiply_225 ⟨Nat.zero_le _, Nat.zero_le _⟩) (fun r_79 e_80 => ?_)
                      exact W.lret (v := r_79) hx hb hr (fun t ht2 _ => ⟨⟨r_79, u_68, rfl, trivial, by show MWd D cL h0 q0 A _ t.heap; rw [ht2]; exact hM⟩, hS.F ht2⟩) hS.2.2 md_M_multiply_228
                    refine lv_if_eq (tgt := 208) hx hb md_M_multiply_199 (by decide) (fun c_76 => ?_) (fun c_76 => ?_)
                    · exact J_77 (r_74 ||| (jl_shl u_68.1.2.2.2.2.2.2.2.2.2.2 (64 - (r_72 + 2)))) ls (lv_sub hl [0, 1, 2, 3, 4, 5, 6, 7] rfl)
                    · refine lv_lload hx hb md_M_multiply_202 (lv_at hl 0 rfl) ?_
                      refine lv_lconst (v := 1) hx hb md_M_multiply_204 (by decide) ?_
                      refine lv_lor hx hb md_M_multiply_205 ?_
                      refine lv_lstore (lv' := [(10, .long ((r_74 ||| (jl_shl u_68.1.2.2.2.2.2.2.2.2.2.2 (64 - (r_72 + 2)))) ||| 1)), (9, .int (r_72 + 2)), (7, .long r_66), (6, .int (jb z_13)), (0, .ref h0), (1, .int p0), (2, .long p1), (4, .long p2)]) hx hb md_M_multiply_206 hl (by decide) rfl (fun ls hl => ?_)
                      exact J_77 ((r_74 ||| (jl_shl u_68.1.2.2.2.2.2.2.2.2.2.2 (64 - (r_72 + 2)))) ||| 1) ls (lv_sub hl [0, 1, 2, 3, 4, 5, 6, 7] rfl)
                  · refine lv_lload hx hb md_M_multiply_130 (lv_at hl 0 rfl) ?_
                    refine lv_bipush (v := 62) hx hb md_M_multiply_132 (by decide) ?_
                    refine lv_lushr (v := jl_ush r_66 62) hx hb md_M_multiply_134 rfl ?_
                    refine lv_lconst (v := 0) hx hb md_M_multiply_135 (by decide) ?_
                    refine W.lcmp hx hb md_M_multiply_136 ?_
                    refine lv_if_ne (tgt := 158) hx hb md_M_multiply_137 (by decide) (fun c_81 => ?_) (fun c_81 => ?_)
                    · refine lv_aload_n hx hb md_M_multiply_158 rfl (lv_at hl 2 rfl) ?_
                      refine va_get (D := D) (ci := 1) (v := .long u_68.1.2.2.2.2.2.2.2.2.2.2) (C := "NumberProbeModel") (T := TM) (N := 12) hx hb ht inM hown hK hM.1 0 rfl rfl 11 (by decide) (ht _ tm_329) (fun _ h9 => h9) rfl md_M_multiply_159 ?_
                      refine vp_callSi (W.runS (As := [.long u_68.1.2.2.2.2.2.2.2.2.2.2]) (rest := []) ⟨hx, hb, hml, hown, hts⟩ (mt_M_length l u_68.1.2.2.2.2.2.2.2.2.2.2) (va_cwS 1 hts (gd_S tm_404 tm_405 tm_25 tm_406) rfl rfl rfl (by decide +kernel) ⟨Nat.le_of_ble_eq_true rfl, Nat.le_of_ble_eq_true rfl⟩) ⟨fb_0, fun U hU hW => ⟨rfl, trivial⟩⟩ rfl rfl hl.1 rfl (lv_room (Nat.le_of_ble_eq_true rfl)) md_M_multiply_162 ⟨Nat.zero_le _, Nat.zero_le _⟩) (fun r_82 e_83 => ?_)
                      refine lv_iconst (v := 2) hx hb md_M_multiply_165 (by decide) ?_
                      refine lv_iadd hx hb md_M_multiply_166 ?_
                      refine lv_istore (lv' := [(9, .int (r_82 + 2)), (7, .long r_66), (6, .int (jb z_13)), (0, .ref h0), (1, .int p0), (2, .long p1), (4, .long p2)]) hx hb md_M_multiply_167 hl (by decide) rfl (fun ls hl => ?_)
                      refine lv_lload hx hb md_M_multiply_169 (lv_at hl 1 rfl) ?_
                      refine lv_iconst (v := 1) hx hb md_M_multiply_171 (by decide) ?_
                      refine lv_lushr (v := jl_ush r_66 1) hx hb md_M_multiply_172 rfl ?_
                      refine lv_iload hx hb md_M_multiply_173 (lv_at hl 0 rfl) ?_
                      refine lv_iconst (v := 1) hx hb md_M_multiply_175 (by decide) ?_
                      refine lv_isub hx hb md_M_multiply_176 ?_
                      refine vp_callSl (W.runS (As := [.long (jl_ush r_66 1), .int ((r_82 + 2) - 1)]) (rest := []) ⟨hx, hb, hml, hown, hts⟩ (mt_M_shiftedDown l (jl_ush r_66 1) ((r_82 + 2) - 1)) (va_cwS 2 hts (gd_S tm_468 tm_469 tm_25 tm_470) rfl rfl rfl (by decide +kernel) ⟨Nat.le_of_ble_eq_true rfl, Nat.le_of_ble_eq_true rfl⟩) ⟨fb_0, fun U hU hW => ⟨rfl, trivial⟩⟩ rfl rfl hl.1 rfl (lv_room (Nat.le_of_ble_eq_true rfl)) md_M_multiply_177 ⟨Nat.zero_le _, Nat.zero_le _⟩) (fun r_84 e_85 => ?_)
                      refine lv_aload_n hx hb md_M_multiply_180 rfl (lv_at hl 3 rfl) ?_
                      refine va_get (D := D) (ci := 1) (v := .long u_68.1.2.2.2.2.2.2.2.2.2.2) (C := "NumberProbeModel") (T := TM) (N := 12) hx hb ht inM hown hK hM.1 0 rfl rfl 11 (by decide) (ht _ tm_329) (fun _ h9 => h9) rfl md_M_multiply_181 ?_
                      refine lv_bipush (v := 64) hx hb md_M_multiply_184 (by decide) ?_
                      refine lv_iload hx hb md_M_multiply_186 (lv_at hl 0 rfl) ?_
                      refine lv_isub hx hb md_M_multiply_188 ?_
                      refine lv_lshl (v := jl_shl u_68.1.2.2.2.2.2.2.2.2.2.2 (64 - (r_82 + 2))) hx hb md_M_multiply_189 rfl ?_
                      refine lv_lor hx hb md_M_multiply_190 ?_
                      refine lv_lstore (lv' := [(10, .long (r_84 ||| (jl_shl u_68.1.2.2.2.2.2.2.2.2.2.2 (64 - (r_82 + 2))))), (9, .int (r_82 + 2)), (7, .long r_66), (6, .int (jb z_13)), (0, .ref h0), (1, .int p0), (2, .long p1), (4, .long p2)]) hx hb md_M_multiply_191 hl (by decide) rfl (fun ls hl => ?_)
                      refine lv_lload hx hb md_M_multiply_193 (lv_at hl 2 rfl) ?_
                      refine lv_lconst (v := 1) hx hb md_M_multiply_195 (by decide) ?_
                      refine lv_land hx hb md_M_multiply_196 ?_
                      refine lv_lconst (v := 0) hx hb md_M_multiply_197 (by decide) ?_
                      refine W.lcmp hx hb md_M_multiply_198 ?_
                      have J_87 : ∀ (z_88 : Int64) (ls : Array Slot), lv_has ls 12 [(10, .long z_88), (9, .int (r_82 + 2)), (7, .long r_66), (6, .int (jb z_13)), (0, .ref h0), (1, .int p0), (2, .long p1), (4, .long p2)] → W p l e (headSpec mw_M_multiply ({ frames := 4, cells := 0, slots := 0, locals := 91 } : Room)).room s m ([.ref h0, .int p0, .long p1, .long p2] : List Value).toArray below meth c H_69 L_70 0 0 (MQ below (MQl D cL h0 q0 A (fun (r : Int64) (v : MT) => True)) ([.ref h0, .int p0, .long p1, .long p2] : List Value).toArray s 0 0 A) (F0 m 208 ls []) := by
                        intro z_88 ls hl
                        refine lv_iload_n hx hb md_M_multiply_208 rfl (lv_at hl 5 rfl) ?_
                        refine lv_iload hx hb md_M_multiply_209 (lv_at hl 3 rfl) ?_
                        refine lv_lload hx hb md_M_multiply_211 (lv_at hl 0 rfl) ?_
                        refine lv_aload_n hx hb md_M_multiply_213 rfl (lv_at hl 4 rfl) ?_
                        refine va_get (D := D) (ci := 1) (v := .int u_68.1.2.2.2.2.2.2.2.2.1) (C := "NumberProbeModel") (T := TM) (N := 12) hx hb ht inM hown hK hM.1 0 rfl rfl 9 (by decide) (ht _ tm_327) (fun _ h9 => h9) rfl md_M_multiply_214 ?_
                        refine lv_aload_n hx hb md_M_multiply_217 rfl (lv_at hl 4 rfl) ?_
                        refine va_get (D := D) (ci := 1) (v := .int u_68.1.2.2.2.2.2.2.2.2.2.1) (C := "NumberProbeModel") (T := TM) (N := 12) hx hb ht inM hown hK hM.1 0 rfl rfl 10 (by decide) (ht _ tm_328) (fun _ h9 => h9) rfl md_M_multiply_218 ?_
                        refine lv_iadd hx hb md_M_multiply_221 ?_
                        refine lv_iload hx hb md_M_multiply_222 (lv_at hl 1 rfl) ?_
                        refine lv_iadd hx hb md_M_multiply_224 ?_
                        refine vp_callSl (W.runS (As := [.int p0, .int (jb z_13), .long z_88, .int ((u_68.1.2.2.2.2.2.2.2.2.1 + u_68.1.2.2.2.2.2.2.2.2.2.1) + (r_82 + 2))]) (rest := []) ⟨hx, hb, hml, hown, hts⟩ (mt_M_round l p0 z_13 z_88 ((u_68.1.2.2.2.2.2.2.2.2.1 + u_68.1.2.2.2.2.2.2.2.2.2.1) + (r_82 + 2))) (va_cwS 4 hts (gd_S tm_398 tm_399 tm_25 tm_400) rfl rfl rfl (by decide +kernel) ⟨Nat.le_of_ble_eq_true rfl, Nat.le_of_ble_eq_true rfl⟩) ⟨fb_0, fun U hU hW => ⟨rfl, trivial⟩⟩ rfl rfl hl.1 rfl (lv_room (Nat.le_of_ble_eq_true rfl)) md_M_multiply_225 ⟨Nat.zero_le _, Nat.zero_le _⟩) (fun r_89 e_90 => ?_)
                        exact W.lret (v := r_89) hx hb hr (fun t ht2 _ => ⟨⟨r_89, u_68, rfl, trivial, by show MWd D cL h0 q0 A _ t.heap; rw [ht2]; exact hM⟩, hS.F ht2⟩) hS.2.2 md_M_multiply_228
                      refine lv_if_eq (tgt := 208) hx hb md_M_multiply_199 (by decide) (fun c_86 => ?_) (fun c_86 => ?_)
                      · exact J_87 (r_84 ||| (jl_shl u_68.1.2.2.2.2.2.2.2.2.2.2 (64 - (r_82 + 2)))) ls (lv_sub hl [0, 1, 2, 3, 4, 5, 6, 7] rfl)
                      · refine lv_lload hx hb md_M_multiply_202 (lv_at hl 0 rfl) ?_
                        refine lv_lconst (v := 1) hx hb md_M_multiply_204 (by decide) ?_
                        refine lv_lor hx hb md_M_multiply_205 ?_
                        refine lv_lstore (lv' := [(10, .long ((r_84 ||| (jl_shl u_68.1.2.2.2.2.2.2.2.2.2.2 (64 - (r_82 + 2)))) ||| 1)), (9, .int (r_82 + 2)), (7, .long r_66), (6, .int (jb z_13)), (0, .ref h0), (1, .int p0), (2, .long p1), (4, .long p2)]) hx hb md_M_multiply_206 hl (by decide) rfl (fun ls hl => ?_)
                        exact J_87 ((r_84 ||| (jl_shl u_68.1.2.2.2.2.2.2.2.2.2.2 (64 - (r_82 + 2)))) ||| 1) ls (lv_sub hl [0, 1, 2, 3, 4, 5, 6, 7] rfl)
                    · refine lv_iload_n hx hb md_M_multiply_140 rfl (lv_at hl 3 rfl) ?_
                      refine lv_iload hx hb md_M_multiply_141 (lv_at hl 1 rfl) ?_
                      refine lv_lload hx hb md_M_multiply_143 (lv_at hl 0 rfl) ?_
                      refine lv_aload_n hx hb md_M_multiply_145 rfl (lv_at hl 2 rfl) ?_
                      refine va_get (D := D) (ci := 1) (v := .int u_68.1.2.2.2.2.2.2.2.2.1) (C := "NumberProbeModel") (T := TM) (N := 12) hx hb ht inM hown hK hM.1 0 rfl rfl 9 (by decide) (ht _ tm_327) (fun _ h9 => h9) rfl md_M_multiply_146 ?_
                      refine lv_aload_n hx hb md_M_multiply_149 rfl (lv_at hl 2 rfl) ?_
                      refine va_get (D := D) (ci := 1) (v := .int u_68.1.2.2.2.2.2.2.2.2.2.1) (C := "NumberProbeModel") (T := TM) (N := 12) hx hb ht inM hown hK hM.1 0 rfl rfl 10 (by decide) (ht _ tm_328) (fun _ h9 => h9) rfl md_M_multiply_150 ?_
                      refine lv_iadd hx hb md_M_multiply_153 ?_
                      refine vp_callSl (W.runS (As := [.int p0, .int (jb z_13), .long r_66, .int (u_68.1.2.2.2.2.2.2.2.2.1 + u_68.1.2.2.2.2.2.2.2.2.2.1)]) (rest := []) ⟨hx, hb, hml, hown, hts⟩ (mt_M_round l p0 z_13 r_66 (u_68.1.2.2.2.2.2.2.2.2.1 + u_68.1.2.2.2.2.2.2.2.2.2.1)) (va_cwS 4 hts (gd_S tm_398 tm_399 tm_25 tm_400) rfl rfl rfl (by decide +kernel) ⟨Nat.le_of_ble_eq_true rfl, Nat.le_of_ble_eq_true rfl⟩) ⟨fb_0, fun U hU hW => ⟨rfl, trivial⟩⟩ rfl rfl hl.1 rfl (lv_room (Nat.le_of_ble_eq_true rfl)) md_M_multiply_154 ⟨Nat.zero_le _, Nat.zero_le _⟩) (fun r_91 e_92 => ?_)
                      exact W.lret (v := r_91) hx hb hr (fun t ht2 _ => ⟨⟨r_91, u_68, rfl, trivial, by show MWd D cL h0 q0 A _ t.heap; rw [ht2]; exact hM⟩, hS.F ht2⟩) hS.2.2 md_M_multiply_157
                · refine lv_iload_n hx hb md_M_multiply_96 rfl (lv_at hl 2 rfl) ?_
                  refine lv_iload hx hb md_M_multiply_97 (lv_at hl 0 rfl) ?_
                  refine lv_iload_n hx hb md_M_multiply_99 rfl (lv_at hl 2 rfl) ?_
                  refine vp_callSl (W.runS (As := [.int p0]) (rest := [.int (jb z_13), .int p0]) ⟨hx, hb, hml, hown, hts⟩ (mt_M_infinity l p0) (va_cwS 1 hts (gd_S tm_377 tm_378 tm_25 tm_379) rfl rfl rfl (by decide +kernel) ⟨Nat.le_of_ble_eq_true rfl, Nat.le_of_ble_eq_true rfl⟩) ⟨fb_0, fun U hU hW => ⟨rfl, trivial⟩⟩ rfl rfl hl.1 rfl (lv_room (Nat.le_of_ble_eq_true rfl)) md_M_multiply_100 ⟨Nat.zero_le _, Nat.zero_le _⟩) (fun r_93 e_94 => ?_)
                  obtain rfl : r_93 = rf_if p0 := e_94
                  refine vp_callSl (W.runS (As := [.int p0, .int (jb z_13), .long (rf_if p0)]) (rest := []) ⟨hx, hb, hml, hown, hts⟩ (mt_M_signed l p0 z_13 (rf_if p0)) (va_cwS 3 hts (gd_S tm_401 tm_402 tm_25 tm_403) rfl rfl rfl (by decide +kernel) ⟨Nat.le_of_ble_eq_true rfl, Nat.le_of_ble_eq_true rfl⟩) ⟨fb_0, fun U hU hW => ⟨rfl, trivial⟩⟩ rfl rfl hl.1 rfl (lv_room (Nat.le_of_ble_eq_true rfl)) md_M_multiply_103 ⟨Nat.zero_le _, Nat.zero_le _⟩) (fun r_95 e_96 => ?_)
                  exact W.lret (v := r_95) hx hb hr (fun t ht2 _ => ⟨⟨r_95, mtY p0 p2 (mtX p0 p1 u), rfl, trivial, by show MWd D cL h0 q0 A _ t.heap; rw [ht2]; exact hM⟩, hS.F ht2⟩) hS.2.2 md_M_multiply_106
            · refine lv_iload_n hx hb md_M_multiply_77 rfl (lv_at hl 2 rfl) ?_
              refine vp_callSl (W.runS (As := [.int p0]) (rest := []) ⟨hx, hb, hml, hown, hts⟩ (mt_M_nan l p0) (va_cwS 1 hts (gd_S tm_382 tm_383 tm_25 tm_384) rfl rfl rfl (by decide +kernel) ⟨Nat.le_of_ble_eq_true rfl, Nat.le_of_ble_eq_true rfl⟩) ⟨fb_0, fun U hU hW => ⟨rfl, trivial⟩⟩ rfl rfl hl.1 rfl (lv_room (Nat.le_of_ble_eq_true rfl)) md_M_multiply_78 ⟨Nat.zero_le _, Nat.zero_le _⟩) (fun r_97 e_98 => ?_)
              obtain rfl : r_97 = rf_na p0 := e_98
              exact W.lret (v := rf_na p0) hx hb hr (fun t ht2 _ => ⟨⟨rf_na p0, mtY p0 p2 (mtX p0 p1 u), rfl, trivial, by show MWd D cL h0 q0 A _ t.heap; rw [ht2]; exact hM⟩, hS.F ht2⟩) hS.2.2 md_M_multiply_81
        · refine lv_aload_n hx hb md_M_multiply_52 rfl (lv_at hl 1 rfl) ?_
          refine va_get (D := D) (ci := 1) (v := .long (rf_man p0 p2)) (C := "NumberProbeModel") (T := TM) (N := 12) hx hb ht inM hown hK hM.1 0 rfl rfl 8 (by decide) (ht _ tm_326) (fun _ h9 => h9) rfl md_M_multiply_53 ?_
          refine lv_lconst (v := 0) hx hb md_M_multiply_56 (by decide) ?_
          refine W.lcmp hx hb md_M_multiply_57 ?_
          refine lv_if_eq (tgt := 77) hx hb md_M_multiply_58 (by decide) (fun c_99 => ?_) (fun c_99 => ?_)
          · refine lv_iload_n hx hb md_M_multiply_77 rfl (lv_at hl 2 rfl) ?_
            refine vp_callSl (W.runS (As := [.int p0]) (rest := []) ⟨hx, hb, hml, hown, hts⟩ (mt_M_nan l p0) (va_cwS 1 hts (gd_S tm_382 tm_383 tm_25 tm_384) rfl rfl rfl (by decide +kernel) ⟨Nat.le_of_ble_eq_true rfl, Nat.le_of_ble_eq_true rfl⟩) ⟨fb_0, fun U hU hW => ⟨rfl, trivial⟩⟩ rfl rfl hl.1 rfl (lv_room (Nat.le_of_ble_eq_true rfl)) md_M_multiply_78 ⟨Nat.zero_le _, Nat.zero_le _⟩) (fun r_100 e_101 => ?_)
            obtain rfl : r_100 = rf_na p0 := e_101
            exact W.lret (v := rf_na p0) hx hb hr (fun t ht2 _ => ⟨⟨rf_na p0, mtY p0 p2 (mtX p0 p1 u), rfl, trivial, by show MWd D cL h0 q0 A _ t.heap; rw [ht2]; exact hM⟩, hS.F ht2⟩) hS.2.2 md_M_multiply_81
          · refine lv_aload_n hx hb md_M_multiply_61 rfl (lv_at hl 1 rfl) ?_
            refine va_get (D := D) (ci := 1) (v := .int (jb (rf_isI p0 p2))) (C := "NumberProbeModel") (T := TM) (N := 12) hx hb ht inM hown hK hM.1 0 rfl rfl 6 (by decide) (ht _ tm_324) (fun _ h9 => h9) rfl md_M_multiply_62 ?_
            refine lv_if_eq (tgt := 82) hx hb md_M_multiply_65 (by decide) (fun c_102 => ?_) (fun c_102 => ?_)
            · refine lv_aload_n hx hb md_M_multiply_82 rfl (lv_at hl 1 rfl) ?_
              refine va_get (D := D) (ci := 1) (v := .int (jb (rf_isI p0 p1))) (C := "NumberProbeModel") (T := TM) (N := 12) hx hb ht inM hown hK hM.1 0 rfl rfl 5 (by decide) (ht _ tm_323) (fun _ h9 => h9) rfl md_M_multiply_83 ?_
              refine lv_if_ne (tgt := 96) hx hb md_M_multiply_86 (by decide) (fun c_103 => ?_) (fun c_103 => ?_)
              · refine lv_iload_n hx hb md_M_multiply_96 rfl (lv_at hl 2 rfl) ?_
                refine lv_iload hx hb md_M_multiply_97 (lv_at hl 0 rfl) ?_
                refine lv_iload_n hx hb md_M_multiply_99 rfl (lv_at hl 2 rfl) ?_
                refine vp_callSl (W.runS (As := [.int p0]) (rest := [.int (jb z_13), .int p0]) ⟨hx, hb, hml, hown, hts⟩ (mt_M_infinity l p0) (va_cwS 1 hts (gd_S tm_377 tm_378 tm_25 tm_379) rfl rfl rfl (by decide +kernel) ⟨Nat.le_of_ble_eq_true rfl, Nat.le_of_ble_eq_true rfl⟩) ⟨fb_0, fun U hU hW => ⟨rfl, trivial⟩⟩ rfl rfl hl.1 rfl (lv_room (Nat.le_of_ble_eq_true rfl)) md_M_multiply_100 ⟨Nat.zero_le _, Nat.zero_le _⟩) (fun r_104 e_105 => ?_)
                obtain rfl : r_104 = rf_if p0 := e_105
                refine vp_callSl (W.runS (As := [.int p0, .int (jb z_13), .long (rf_if p0)]) (rest := []) ⟨hx, hb, hml, hown, hts⟩ (mt_M_signed l p0 z_13 (rf_if p0)) (va_cwS 3 hts (gd_S tm_401 tm_402 tm_25 tm_403) rfl rfl rfl (by decide +kernel) ⟨Nat.le_of_ble_eq_true rfl, Nat.le_of_ble_eq_true rfl⟩) ⟨fb_0, fun U hU hW => ⟨rfl, trivial⟩⟩ rfl rfl hl.1 rfl (lv_room (Nat.le_of_ble_eq_true rfl)) md_M_multiply_103 ⟨Nat.zero_le _, Nat.zero_le _⟩) (fun r_106 e_107 => ?_)
                exact W.lret (v := r_106) hx hb hr (fun t ht2 _ => ⟨⟨r_106, mtY p0 p2 (mtX p0 p1 u), rfl, trivial, by show MWd D cL h0 q0 A _ t.heap; rw [ht2]; exact hM⟩, hS.F ht2⟩) hS.2.2 md_M_multiply_106
              · refine lv_aload_n hx hb md_M_multiply_89 rfl (lv_at hl 1 rfl) ?_
                refine va_get (D := D) (ci := 1) (v := .int (jb (rf_isI p0 p2))) (C := "NumberProbeModel") (T := TM) (N := 12) hx hb ht inM hown hK hM.1 0 rfl rfl 6 (by decide) (ht _ tm_324) (fun _ h9 => h9) rfl md_M_multiply_90 ?_
                refine lv_if_eq (tgt := 107) hx hb md_M_multiply_93 (by decide) (fun c_108 => ?_) (fun c_108 => ?_)
                · refine lv_aload_n hx hb md_M_multiply_107 rfl (lv_at hl 1 rfl) ?_
                  refine lv_aload_n hx hb md_M_multiply_108 rfl (lv_at hl 1 rfl) ?_
                  refine va_get (D := D) (ci := 1) (v := .long (rf_man p0 p1)) (C := "NumberProbeModel") (T := TM) (N := 12) hx hb ht inM hown hK hM.1 0 rfl rfl 7 (by decide) (ht _ tm_325) (fun _ h9 => h9) rfl md_M_multiply_109 ?_
                  refine lv_aload_n hx hb md_M_multiply_112 rfl (lv_at hl 1 rfl) ?_
                  refine va_get (D := D) (ci := 1) (v := .long (rf_man p0 p2)) (C := "NumberProbeModel") (T := TM) (N := 12) hx hb ht inM hown hK hM.1 0 rfl rfl 8 (by decide) (ht _ tm_326) (fun _ h9 => h9) rfl md_M_multiply_113 ?_
                  refine m_calll (va_runV (C := "NumberProbeModel") (As := [.long (rf_man p0 p1), .long (rf_man p0 p2)]) (rest := []) ⟨hx, hb, hml, hown, hts⟩ (mt_M_product l D cL h0 q0 _ (mtY p0 p2 (mtX p0 p1 u)) (rf_man p0 p1) (rf_man p0 p2)) (cwV 2 hts (gd_V tm_479 tm_481 tm_17 tm_25 tm_482) rfl rfl rfl (by decide +kernel) ⟨Nat.le_of_ble_eq_true rfl, Nat.le_of_ble_eq_true rfl⟩) (m_in (locs := L_10) hK hM) rfl rfl hl.1 rfl (lv_room (Nat.le_of_ble_eq_true rfl)) md_M_multiply_116 ⟨Nat.zero_le _, Nat.zero_le _⟩) hM hS hA (fun r_109 u_111 H_112 L_113 e_110 hM hS => ?_)
                  refine lv_lstore (lv' := [(7, .long r_109), (6, .int (jb z_13)), (0, .ref h0), (1, .int p0), (2, .long p1), (4, .long p2)]) hx hb md_M_multiply_119 hl (by decide) rfl (fun ls hl => ?_)
                  refine lv_aload_n hx hb md_M_multiply_121 rfl (lv_at hl 2 rfl) ?_
                  refine va_get (D := D) (ci := 1) (v := .long u_111.1.2.2.2.2.2.2.2.2.2.2) (C := "NumberProbeModel") (T := TM) (N := 12) hx hb ht inM hown hK hM.1 0 rfl rfl 11 (by decide) (ht _ tm_329) (fun _ h9 => h9) rfl md_M_multiply_122 ?_
                  refine lv_lconst (v := 0) hx hb md_M_multiply_125 (by decide) ?_
                  refine W.lcmp hx hb md_M_multiply_126 ?_
                  refine lv_if_ne (tgt := 158) hx hb md_M_multiply_127 (by decide) (fun c_114 => ?_) (fun c_114 => ?_)
                  · refine lv_aload_n hx hb md_M_multiply_158 rfl (lv_at hl 2 rfl) ?_
                    refine va_get (D := D) (ci := 1) (v := .long u_111.1.2.2.2.2.2.2.2.2.2.2) (C := "NumberProbeModel") (T := TM) (N := 12) hx hb ht inM hown hK hM.1 0 rfl rfl 11 (by decide) (ht _ tm_329) (fun _ h9 => h9) rfl md_M_multiply_159 ?_
                    refine vp_callSi (W.runS (As := [.long u_111.1.2.2.2.2.2.2.2.2.2.2]) (rest := []) ⟨hx, hb, hml, hown, hts⟩ (mt_M_length l u_111.1.2.2.2.2.2.2.2.2.2.2) (va_cwS 1 hts (gd_S tm_404 tm_405 tm_25 tm_406) rfl rfl rfl (by decide +kernel) ⟨Nat.le_of_ble_eq_true rfl, Nat.le_of_ble_eq_true rfl⟩) ⟨fb_0, fun U hU hW => ⟨rfl, trivial⟩⟩ rfl rfl hl.1 rfl (lv_room (Nat.le_of_ble_eq_true rfl)) md_M_multiply_162 ⟨Nat.zero_le _, Nat.zero_le _⟩) (fun r_115 e_116 => ?_)
                    refine lv_iconst (v := 2) hx hb md_M_multiply_165 (by decide) ?_
                    refine lv_iadd hx hb md_M_multiply_166 ?_
                    refine lv_istore (lv' := [(9, .int (r_115 + 2)), (7, .long r_109), (6, .int (jb z_13)), (0, .ref h0), (1, .int p0), (2, .long p1), (4, .long p2)]) hx hb md_M_multiply_167 hl (by decide) rfl (fun ls hl => ?_)
                    refine lv_lload hx hb md_M_multiply_169 (lv_at hl 1 rfl) ?_
                    refine lv_iconst (v := 1) hx hb md_M_multiply_171 (by decide) ?_
                    refine lv_lushr (v := jl_ush r_109 1) hx hb md_M_multiply_172 rfl ?_
                    refine lv_iload hx hb md_M_multiply_173 (lv_at hl 0 rfl) ?_
                    refine lv_iconst (v := 1) hx hb md_M_multiply_175 (by decide) ?_
                    refine lv_isub hx hb md_M_multiply_176 ?_
                    refine vp_callSl (W.runS (As := [.long (jl_ush r_109 1), .int ((r_115 + 2) - 1)]) (rest := []) ⟨hx, hb, hml, hown, hts⟩ (mt_M_shiftedDown l (jl_ush r_109 1) ((r_115 + 2) - 1)) (va_cwS 2 hts (gd_S tm_468 tm_469 tm_25 tm_470) rfl rfl rfl (by decide +kernel) ⟨Nat.le_of_ble_eq_true rfl, Nat.le_of_ble_eq_true rfl⟩) ⟨fb_0, fun U hU hW => ⟨rfl, trivial⟩⟩ rfl rfl hl.1 rfl (lv_room (Nat.le_of_ble_eq_true rfl)) md_M_multiply_177 ⟨Nat.zero_le _, Nat.zero_le _⟩) (fun r_117 e_118 => ?_)
                    refine lv_aload_n hx hb md_M_multiply_180 rfl (lv_at hl 3 rfl) ?_
                    refine va_get (D := D) (ci := 1) (v := .long u_111.1.2.2.2.2.2.2.2.2.2.2) (C := "NumberProbeModel") (T := TM) (N := 12) hx hb ht inM hown hK hM.1 0 rfl rfl 11 (by decide) (ht _ tm_329) (fun _ h9 => h9) rfl md_M_multiply_181 ?_
                    refine lv_bipush (v := 64) hx hb md_M_multiply_184 (by decide) ?_
                    refine lv_iload hx hb md_M_multiply_186 (lv_at hl 0 rfl) ?_
                    refine lv_isub hx hb md_M_multiply_188 ?_
                    refine lv_lshl (v := jl_shl u_111.1.2.2.2.2.2.2.2.2.2.2 (64 - (r_115 + 2))) hx hb md_M_multiply_189 rfl ?_
                    refine lv_lor hx hb md_M_multiply_190 ?_
                    refine lv_lstore (lv' := [(10, .long (r_117 ||| (jl_shl u_111.1.2.2.2.2.2.2.2.2.2.2 (64 - (r_115 + 2))))), (9, .int (r_115 + 2)), (7, .long r_109), (6, .int (jb z_13)), (0, .ref h0), (1, .int p0), (2, .long p1), (4, .long p2)]) hx hb md_M_multiply_191 hl (by decide) rfl (fun ls hl => ?_)
                    refine lv_lload hx hb md_M_multiply_193 (lv_at hl 2 rfl) ?_
                    refine lv_lconst (v := 1) hx hb md_M_multiply_195 (by decide) ?_
                    refine lv_land hx hb md_M_multiply_196 ?_
                    refine lv_lconst (v := 0) hx hb md_M_multiply_197 (by decide) ?_
                    refine W.lcmp hx hb md_M_multiply_198 ?_
                    have J_120 : ∀ (z_121 : Int64) (ls : Array Slot), lv_has ls 12 [(10, .long z_121), (9, .int (r_115 + 2)), (7, .long r_109), (6, .int (jb z_13)), (0, .ref h0), (1, .int p0), (2, .long p1), (4, .long p2)] → W p l e (headSpec mw_M_multiply ({ frames := 4, cells := 0, slots := 0, locals := 91 } : Room)).room s m ([.ref h0, .int p0, .long p1, .long p2] : List Value).toArray below meth c H_112 L_113 0 0 (MQ below (MQl D cL h0 q0 A (fun (r : Int64) (v : MT) => True)) ([.ref h0, .int p0, .long p1, .long p2] : List Value).toArray s 0 0 A) (F0 m 208 ls []) := by
                      intro z_121 ls hl
                      refine lv_iload_n hx hb md_M_multiply_208 rfl (lv_at hl 5 rfl) ?_
                      refine lv_iload hx hb md_M_multiply_209 (lv_at hl 3 rfl) ?_
                      refine lv_lload hx hb md_M_multiply_211 (lv_at hl 0 rfl) ?_
                      refine lv_aload_n hx hb md_M_multiply_213 rfl (lv_at hl 4 rfl) ?_
                      refine va_get (D := D) (ci := 1) (v := .int u_111.1.2.2.2.2.2.2.2.2.1) (C := "NumberProbeModel") (T := TM) (N := 12) hx hb ht inM hown hK hM.1 0 rfl rfl 9 (by decide) (ht _ tm_327) (fun _ h9 => h9) rfl md_M_multiply_214 ?_
                      refine lv_aload_n hx hb md_M_multiply_217 rfl (lv_at hl 4 rfl) ?_
                      refine va_get (D := D) (ci := 1) (v := .int u_111.1.2.2.2.2.2.2.2.2.2.1) (C := "NumberProbeModel") (T := TM) (N := 12) hx hb ht inM hown hK hM.1 0 rfl rfl 10 (by decide) (ht _ tm_328) (fun _ h9 => h9) rfl md_M_multiply_218 ?_
                      refine lv_iadd hx hb md_M_multiply_221 ?_
                      refine lv_iload hx hb md_M_multiply_222 (lv_at hl 1 rfl) ?_
                      refine lv_iadd hx hb md_M_multiply_224 ?_
                      refine vp_callSl (W.runS (As := [.int p0, .int (jb z_13), .long z_121, .int ((u_111.1.2.2.2.2.2.2.2.2.1 + u_111.1.2.2.2.2.2.2.2.2.2.1) + (r_115 + 2))]) (rest := []) ⟨hx, hb, hml, hown, hts⟩ (mt_M_round l p0 z_13 z_121 ((u_111.1.2.2.2.2.2.2.2.2.1 + u_111.1.2.2.2.2.2.2.2.2.2.1) + (r_115 + 2))) (va_cwS 4 hts (gd_S tm_398 tm_399 tm_25 tm_400) rfl rfl rfl (by decide +kernel) ⟨Nat.le_of_ble_eq_true rfl, Nat.le_of_ble_eq_true rfl⟩) ⟨fb_0, fun U hU hW => ⟨rfl, trivial⟩⟩ rfl rfl hl.1 rfl (lv_room (Nat.le_of_ble_eq_true rfl)) md_M_multiply_225 ⟨Nat.zero_le _, Nat.zero_le _⟩) (fun r_122 e_123 => ?_)
                      exact W.lret (v := r_122) hx hb hr (fun t ht2 _ => ⟨⟨r_122, u_111, rfl, trivial, by show MWd D cL h0 q0 A _ t.heap; rw [ht2]; exact hM⟩, hS.F ht2⟩) hS.2.2 md_M_multiply_228
                    refine lv_if_eq (tgt := 208) hx hb md_M_multiply_199 (by decide) (fun c_119 => ?_) (fun c_119 => ?_)
                    · exact J_120 (r_117 ||| (jl_shl u_111.1.2.2.2.2.2.2.2.2.2.2 (64 - (r_115 + 2)))) ls (lv_sub hl [0, 1, 2, 3, 4, 5, 6, 7] rfl)
                    · refine lv_lload hx hb md_M_multiply_202 (lv_at hl 0 rfl) ?_
                      refine lv_lconst (v := 1) hx hb md_M_multiply_204 (by decide) ?_
                      refine lv_lor hx hb md_M_multiply_205 ?_
                      refine lv_lstore (lv' := [(10, .long ((r_117 ||| (jl_shl u_111.1.2.2.2.2.2.2.2.2.2.2 (64 - (r_115 + 2)))) ||| 1)), (9, .int (r_115 + 2)), (7, .long r_109), (6, .int (jb z_13)), (0, .ref h0), (1, .int p0), (2, .long p1), (4, .long p2)]) hx hb md_M_multiply_206 hl (by decide) rfl (fun ls hl => ?_)
                      exact J_120 ((r_117 ||| (jl_shl u_111.1.2.2.2.2.2.2.2.2.2.2 (64 - (r_115 + 2)))) ||| 1) ls (lv_sub hl [0, 1, 2, 3, 4, 5, 6, 7] rfl)
                  · refine lv_lload hx hb md_M_multiply_130 (lv_at hl 0 rfl) ?_
                    refine lv_bipush (v := 62) hx hb md_M_multiply_132 (by decide) ?_
                    refine lv_lushr (v := jl_ush r_109 62) hx hb md_M_multiply_134 rfl ?_
                    refine lv_lconst (v := 0) hx hb md_M_multiply_135 (by decide) ?_
                    refine W.lcmp hx hb md_M_multiply_136 ?_
                    refine lv_if_ne (tgt := 158) hx hb md_M_multiply_137 (by decide) (fun c_124 => ?_) (fun c_124 => ?_)
                    · refine lv_aload_n hx hb md_M_multiply_158 rfl (lv_at hl 2 rfl) ?_
                      refine va_get (D := D) (ci := 1) (v := .long u_111.1.2.2.2.2.2.2.2.2.2.2) (C := "NumberProbeModel") (T := TM) (N := 12) hx hb ht inM hown hK hM.1 0 rfl rfl 11 (by decide) (ht _ tm_329) (fun _ h9 => h9) rfl md_M_multiply_159 ?_
                      refine vp_callSi (W.runS (As := [.long u_111.1.2.2.2.2.2.2.2.2.2.2]) (rest := []) ⟨hx, hb, hml, hown, hts⟩ (mt_M_length l u_111.1.2.2.2.2.2.2.2.2.2.2) (va_cwS 1 hts (gd_S tm_404 tm_405 tm_25 tm_406) rfl rfl rfl (by decide +kernel) ⟨Nat.le_of_ble_eq_true rfl, Nat.le_of_ble_eq_true rfl⟩) ⟨fb_0, fun U hU hW => ⟨rfl, trivial⟩⟩ rfl rfl hl.1 rfl (lv_room (Nat.le_of_ble_eq_true rfl)) md_M_multiply_162 ⟨Nat.zero_le _, Nat.zero_le _⟩) (fun r_125 e_126 => ?_)
                      refine lv_iconst (v := 2) hx hb md_M_multiply_165 (by decide) ?_
                      refine lv_iadd hx hb md_M_multiply_166 ?_
                      refine lv_istore (lv' := [(9, .int (r_125 + 2)), (7, .long r_109), (6, .int (jb z_13)), (0, .ref h0), (1, .int p0), (2, .long p1), (4, .long p2)]) hx hb md_M_multiply_167 hl (by decide) rfl (fun ls hl => ?_)
                      refine lv_lload hx hb md_M_multiply_169 (lv_at hl 1 rfl) ?_
                      refine lv_iconst (v := 1) hx hb md_M_multiply_171 (by decide) ?_
                      refine lv_lushr (v := jl_ush r_109 1) hx hb md_M_multiply_172 rfl ?_
                      refine lv_iload hx hb md_M_multiply_173 (lv_at hl 0 rfl) ?_
                      refine lv_iconst (v := 1) hx hb md_M_multiply_175 (by decide) ?_
                      refine lv_isub hx hb md_M_multiply_176 ?_
                      refine vp_callSl (W.runS (As := [.long (jl_ush r_109 1), .int ((r_125 + 2) - 1)]) (rest := []) ⟨hx, hb, hml, hown, hts⟩ (mt_M_shiftedDown l (jl_ush r_109 1) ((r_125 + 2) - 1)) (va_cwS 2 hts (gd_S tm_468 tm_469 tm_25 tm_470) rfl rfl rfl (by decide +kernel) ⟨Nat.le_of_ble_eq_true rfl, Nat.le_of_ble_eq_true rfl⟩) ⟨fb_0, fun U hU hW => ⟨rfl, trivial⟩⟩ rfl rfl hl.1 rfl (lv_room (Nat.le_of_ble_eq_true rfl)) md_M_multiply_177 ⟨Nat.zero_le _, Nat.zero_le _⟩) (fun r_127 e_128 => ?_)
                      refine lv_aload_n hx hb md_M_multiply_180 rfl (lv_at hl 3 rfl) ?_
                      refine va_get (D := D) (ci := 1) (v := .long u_111.1.2.2.2.2.2.2.2.2.2.2) (C := "NumberProbeModel") (T := TM) (N := 12) hx hb ht inM hown hK hM.1 0 rfl rfl 11 (by decide) (ht _ tm_329) (fun _ h9 => h9) rfl md_M_multiply_181 ?_
                      refine lv_bipush (v := 64) hx hb md_M_multiply_184 (by decide) ?_
                      refine lv_iload hx hb md_M_multiply_186 (lv_at hl 0 rfl) ?_
                      refine lv_isub hx hb md_M_multiply_188 ?_
                      refine lv_lshl (v := jl_shl u_111.1.2.2.2.2.2.2.2.2.2.2 (64 - (r_125 + 2))) hx hb md_M_multiply_189 rfl ?_
                      refine lv_lor hx hb md_M_multiply_190 ?_
                      refine lv_lstore (lv' := [(10, .long (r_127 ||| (jl_shl u_111.1.2.2.2.2.2.2.2.2.2.2 (64 - (r_125 + 2))))), (9, .int (r_125 + 2)), (7, .long r_109), (6, .int (jb z_13)), (0, .ref h0), (1, .int p0), (2, .long p1), (4, .long p2)]) hx hb md_M_multiply_191 hl (by decide) rfl (fun ls hl => ?_)
                      refine lv_lload hx hb md_M_multiply_193 (lv_at hl 2 rfl) ?_
                      refine lv_lconst (v := 1) hx hb md_M_multiply_195 (by decide) ?_
                      refine lv_land hx hb md_M_multiply_196 ?_
                      refine lv_lconst (v := 0) hx hb md_M_multiply_197 (by decide) ?_
                      refine W.lcmp hx hb md_M_multiply_198 ?_
                      have J_130 : ∀ (z_131 : Int64) (ls : Array Slot), lv_has ls 12 [(10, .long z_131), (9, .int (r_125 + 2)), (7, .long r_109), (6, .int (jb z_13)), (0, .ref h0), (1, .int p0), (2, .long p1), (4, .long p2)] → W p l e (headSpec mw_M_multiply ({ frames := 4, cells := 0, slots := 0, locals := 91 } : Room)).room s m ([.ref h0, .int p0, .long p1, .long p2] : List Value).toArray below meth c H_112 L_113 0 0 (MQ below (MQl D cL h0 q0 A (fun (r : Int64) (v : MT) => True)) ([.ref h0, .int p0, .long p1, .long p2] : List Value).toArray s 0 0 A) (F0 m 208 ls []) := by
                        intro z_131 ls hl
                        refine lv_iload_n hx hb md_M_multiply_208 rfl (lv_at hl 5 rfl) ?_
                        refine lv_iload hx hb md_M_multiply_209 (lv_at hl 3 rfl) ?_
                        refine lv_lload hx hb md_M_multiply_211 (lv_at hl 0 rfl) ?_
                        refine lv_aload_n hx hb md_M_multiply_213 rfl (lv_at hl 4 rfl) ?_
                        refine va_get (D := D) (ci := 1) (v := .int u_111.1.2.2.2.2.2.2.2.2.1) (C := "NumberProbeModel") (T := TM) (N := 12) hx hb ht inM hown hK hM.1 0 rfl rfl 9 (by decide) (ht _ tm_327) (fun _ h9 => h9) rfl md_M_multiply_214 ?_
                        refine lv_aload_n hx hb md_M_multiply_217 rfl (lv_at hl 4 rfl) ?_
                        refine va_get (D := D) (ci := 1) (v := .int u_111.1.2.2.2.2.2.2.2.2.2.1) (C := "NumberProbeModel") (T := TM) (N := 12) hx hb ht inM hown hK hM.1 0 rfl rfl 10 (by decide) (ht _ tm_328) (fun _ h9 => h9) rfl md_M_multiply_218 ?_
                        refine lv_iadd hx hb md_M_multiply_221 ?_
                        refine lv_iload hx hb md_M_multiply_222 (lv_at hl 1 rfl) ?_
                        refine lv_iadd hx hb md_M_multiply_224 ?_
                        refine vp_callSl (W.runS (As := [.int p0, .int (jb z_13), .long z_131, .int ((u_111.1.2.2.2.2.2.2.2.2.1 + u_111.1.2.2.2.2.2.2.2.2.2.1) + (r_125 + 2))]) (rest := []) ⟨hx, hb, hml, hown, hts⟩ (mt_M_round l p0 z_13 z_131 ((u_111.1.2.2.2.2.2.2.2.2.1 + u_111.1.2.2.2.2.2.2.2.2.2.1) + (r_125 + 2))) (va_cwS 4 hts (gd_S tm_398 tm_399 tm_25 tm_400) rfl rfl rfl (by decide +kernel) ⟨Nat.le_of_ble_eq_true rfl, Nat.le_of_ble_eq_true rfl⟩) ⟨fb_0, fun U hU hW => ⟨rfl, trivial⟩⟩ rfl rfl hl.1 rfl (lv_room (Nat.le_of_ble_eq_true rfl)) md_M_multiply_225 ⟨Nat.zero_le _, Nat.zero_le _⟩) (fun r_132 e_133 => ?_)
                        exact W.lret (v := r_132) hx hb hr (fun t ht2 _ => ⟨⟨r_132, u_111, rfl, trivial, by show MWd D cL h0 q0 A _ t.heap; rw [ht2]; exact hM⟩, hS.F ht2⟩) hS.2.2 md_M_multiply_228
                      refine lv_if_eq (tgt := 208) hx hb md_M_multiply_199 (by decide) (fun c_129 => ?_) (fun c_129 => ?_)
                      · exact J_130 (r_127 ||| (jl_shl u_111.1.2.2.2.2.2.2.2.2.2.2 (64 - (r_125 + 2)))) ls (lv_sub hl [0, 1, 2, 3, 4, 5, 6, 7] rfl)
                      · refine lv_lload hx hb md_M_multiply_202 (lv_at hl 0 rfl) ?_
                        refine lv_lconst (v := 1) hx hb md_M_multiply_204 (by decide) ?_
                        refine lv_lor hx hb md_M_multiply_205 ?_
                        refine lv_lstore (lv' := [(10, .long ((r_127 ||| (jl_shl u_111.1.2.2.2.2.2.2.2.2.2.2 (64 - (r_125 + 2)))) ||| 1)), (9, .int (r_125 + 2)), (7, .long r_109), (6, .int (jb z_13)), (0, .ref h0), (1, .int p0), (2, .long p1), (4, .long p2)]) hx hb md_M_multiply_206 hl (by decide) rfl (fun ls hl => ?_)
                        exact J_130 ((r_127 ||| (jl_shl u_111.1.2.2.2.2.2.2.2.2.2.2 (64 - (r_125 + 2)))) ||| 1) ls (lv_sub hl [0, 1, 2, 3, 4, 5, 6, 7] rfl)
                    · refine lv_iload_n hx hb md_M_multiply_140 rfl (lv_at hl 3 rfl) ?_
                      refine lv_iload hx hb md_M_multiply_141 (lv_at hl 1 rfl) ?_
                      refine lv_lload hx hb md_M_multiply_143 (lv_at hl 0 rfl) ?_
                      refine lv_aload_n hx hb md_M_multiply_145 rfl (lv_at hl 2 rfl) ?_
                      refine va_get (D := D) (ci := 1) (v := .int u_111.1.2.2.2.2.2.2.2.2.1) (C := "NumberProbeModel") (T := TM) (N := 12) hx hb ht inM hown hK hM.1 0 rfl rfl 9 (by decide) (ht _ tm_327) (fun _ h9 => h9) rfl md_M_multiply_146 ?_
                      refine lv_aload_n hx hb md_M_multiply_149 rfl (lv_at hl 2 rfl) ?_
                      refine va_get (D := D) (ci := 1) (v := .int u_111.1.2.2.2.2.2.2.2.2.2.1) (C := "NumberProbeModel") (T := TM) (N := 12) hx hb ht inM hown hK hM.1 0 rfl rfl 10 (by decide) (ht _ tm_328) (fun _ h9 => h9) rfl md_M_multiply_150 ?_
                      refine lv_iadd hx hb md_M_multiply_153 ?_
                      refine vp_callSl (W.runS (As := [.int p0, .int (jb z_13), .long r_109, .int (u_111.1.2.2.2.2.2.2.2.2.1 + u_111.1.2.2.2.2.2.2.2.2.2.1)]) (rest := []) ⟨hx, hb, hml, hown, hts⟩ (mt_M_round l p0 z_13 r_109 (u_111.1.2.2.2.2.2.2.2.2.1 + u_111.1.2.2.2.2.2.2.2.2.2.1)) (va_cwS 4 hts (gd_S tm_398 tm_399 tm_25 tm_400) rfl rfl rfl (by decide +kernel) ⟨Nat.le_of_ble_eq_true rfl, Nat.le_of_ble_eq_true rfl⟩) ⟨fb_0, fun U hU hW => ⟨rfl, trivial⟩⟩ rfl rfl hl.1 rfl (lv_room (Nat.le_of_ble_eq_true rfl)) md_M_multiply_154 ⟨Nat.zero_le _, Nat.zero_le _⟩) (fun r_134 e_135 => ?_)
                      exact W.lret (v := r_134) hx hb hr (fun t ht2 _ => ⟨⟨r_134, u_111, rfl, trivial, by show MWd D cL h0 q0 A _ t.heap; rw [ht2]; exact hM⟩, hS.F ht2⟩) hS.2.2 md_M_multiply_157
                · refine lv_iload_n hx hb md_M_multiply_96 rfl (lv_at hl 2 rfl) ?_
                  refine lv_iload hx hb md_M_multiply_97 (lv_at hl 0 rfl) ?_
                  refine lv_iload_n hx hb md_M_multiply_99 rfl (lv_at hl 2 rfl) ?_
                  refine vp_callSl (W.runS (As := [.int p0]) (rest := [.int (jb z_13), .int p0]) ⟨hx, hb, hml, hown, hts⟩ (mt_M_infinity l p0) (va_cwS 1 hts (gd_S tm_377 tm_378 tm_25 tm_379) rfl rfl rfl (by decide +kernel) ⟨Nat.le_of_ble_eq_true rfl, Nat.le_of_ble_eq_true rfl⟩) ⟨fb_0, fun U hU hW => ⟨rfl, trivial⟩⟩ rfl rfl hl.1 rfl (lv_room (Nat.le_of_ble_eq_true rfl)) md_M_multiply_100 ⟨Nat.zero_le _, Nat.zero_le _⟩) (fun r_136 e_137 => ?_)
                  obtain rfl : r_136 = rf_if p0 := e_137
                  refine vp_callSl (W.runS (As := [.int p0, .int (jb z_13), .long (rf_if p0)]) (rest := []) ⟨hx, hb, hml, hown, hts⟩ (mt_M_signed l p0 z_13 (rf_if p0)) (va_cwS 3 hts (gd_S tm_401 tm_402 tm_25 tm_403) rfl rfl rfl (by decide +kernel) ⟨Nat.le_of_ble_eq_true rfl, Nat.le_of_ble_eq_true rfl⟩) ⟨fb_0, fun U hU hW => ⟨rfl, trivial⟩⟩ rfl rfl hl.1 rfl (lv_room (Nat.le_of_ble_eq_true rfl)) md_M_multiply_103 ⟨Nat.zero_le _, Nat.zero_le _⟩) (fun r_138 e_139 => ?_)
                  exact W.lret (v := r_138) hx hb hr (fun t ht2 _ => ⟨⟨r_138, mtY p0 p2 (mtX p0 p1 u), rfl, trivial, by show MWd D cL h0 q0 A _ t.heap; rw [ht2]; exact hM⟩, hS.F ht2⟩) hS.2.2 md_M_multiply_106
            · refine lv_aload_n hx hb md_M_multiply_68 rfl (lv_at hl 1 rfl) ?_
              refine va_get (D := D) (ci := 1) (v := .long (rf_man p0 p1)) (C := "NumberProbeModel") (T := TM) (N := 12) hx hb ht inM hown hK hM.1 0 rfl rfl 7 (by decide) (ht _ tm_325) (fun _ h9 => h9) rfl md_M_multiply_69 ?_
              refine lv_lconst (v := 0) hx hb md_M_multiply_72 (by decide) ?_
              refine W.lcmp hx hb md_M_multiply_73 ?_
              refine lv_if_ne (tgt := 82) hx hb md_M_multiply_74 (by decide) (fun c_140 => ?_) (fun c_140 => ?_)
              · refine lv_aload_n hx hb md_M_multiply_82 rfl (lv_at hl 1 rfl) ?_
                refine va_get (D := D) (ci := 1) (v := .int (jb (rf_isI p0 p1))) (C := "NumberProbeModel") (T := TM) (N := 12) hx hb ht inM hown hK hM.1 0 rfl rfl 5 (by decide) (ht _ tm_323) (fun _ h9 => h9) rfl md_M_multiply_83 ?_
                refine lv_if_ne (tgt := 96) hx hb md_M_multiply_86 (by decide) (fun c_141 => ?_) (fun c_141 => ?_)
                · refine lv_iload_n hx hb md_M_multiply_96 rfl (lv_at hl 2 rfl) ?_
                  refine lv_iload hx hb md_M_multiply_97 (lv_at hl 0 rfl) ?_
                  refine lv_iload_n hx hb md_M_multiply_99 rfl (lv_at hl 2 rfl) ?_
                  refine vp_callSl (W.runS (As := [.int p0]) (rest := [.int (jb z_13), .int p0]) ⟨hx, hb, hml, hown, hts⟩ (mt_M_infinity l p0) (va_cwS 1 hts (gd_S tm_377 tm_378 tm_25 tm_379) rfl rfl rfl (by decide +kernel) ⟨Nat.le_of_ble_eq_true rfl, Nat.le_of_ble_eq_true rfl⟩) ⟨fb_0, fun U hU hW => ⟨rfl, trivial⟩⟩ rfl rfl hl.1 rfl (lv_room (Nat.le_of_ble_eq_true rfl)) md_M_multiply_100 ⟨Nat.zero_le _, Nat.zero_le _⟩) (fun r_142 e_143 => ?_)
                  obtain rfl : r_142 = rf_if p0 := e_143
                  refine vp_callSl (W.runS (As := [.int p0, .int (jb z_13), .long (rf_if p0)]) (rest := []) ⟨hx, hb, hml, hown, hts⟩ (mt_M_signed l p0 z_13 (rf_if p0)) (va_cwS 3 hts (gd_S tm_401 tm_402 tm_25 tm_403) rfl rfl rfl (by decide +kernel) ⟨Nat.le_of_ble_eq_true rfl, Nat.le_of_ble_eq_true rfl⟩) ⟨fb_0, fun U hU hW => ⟨rfl, trivial⟩⟩ rfl rfl hl.1 rfl (lv_room (Nat.le_of_ble_eq_true rfl)) md_M_multiply_103 ⟨Nat.zero_le _, Nat.zero_le _⟩) (fun r_144 e_145 => ?_)
                  exact W.lret (v := r_144) hx hb hr (fun t ht2 _ => ⟨⟨r_144, mtY p0 p2 (mtX p0 p1 u), rfl, trivial, by show MWd D cL h0 q0 A _ t.heap; rw [ht2]; exact hM⟩, hS.F ht2⟩) hS.2.2 md_M_multiply_106
                · refine lv_aload_n hx hb md_M_multiply_89 rfl (lv_at hl 1 rfl) ?_
                  refine va_get (D := D) (ci := 1) (v := .int (jb (rf_isI p0 p2))) (C := "NumberProbeModel") (T := TM) (N := 12) hx hb ht inM hown hK hM.1 0 rfl rfl 6 (by decide) (ht _ tm_324) (fun _ h9 => h9) rfl md_M_multiply_90 ?_
                  refine lv_if_eq (tgt := 107) hx hb md_M_multiply_93 (by decide) (fun c_146 => ?_) (fun c_146 => ?_)
                  · refine lv_aload_n hx hb md_M_multiply_107 rfl (lv_at hl 1 rfl) ?_
                    refine lv_aload_n hx hb md_M_multiply_108 rfl (lv_at hl 1 rfl) ?_
                    refine va_get (D := D) (ci := 1) (v := .long (rf_man p0 p1)) (C := "NumberProbeModel") (T := TM) (N := 12) hx hb ht inM hown hK hM.1 0 rfl rfl 7 (by decide) (ht _ tm_325) (fun _ h9 => h9) rfl md_M_multiply_109 ?_
                    refine lv_aload_n hx hb md_M_multiply_112 rfl (lv_at hl 1 rfl) ?_
                    refine va_get (D := D) (ci := 1) (v := .long (rf_man p0 p2)) (C := "NumberProbeModel") (T := TM) (N := 12) hx hb ht inM hown hK hM.1 0 rfl rfl 8 (by decide) (ht _ tm_326) (fun _ h9 => h9) rfl md_M_multiply_113 ?_
                    refine m_calll (va_runV (C := "NumberProbeModel") (As := [.long (rf_man p0 p1), .long (rf_man p0 p2)]) (rest := []) ⟨hx, hb, hml, hown, hts⟩ (mt_M_product l D cL h0 q0 _ (mtY p0 p2 (mtX p0 p1 u)) (rf_man p0 p1) (rf_man p0 p2)) (cwV 2 hts (gd_V tm_479 tm_481 tm_17 tm_25 tm_482) rfl rfl rfl (by decide +kernel) ⟨Nat.le_of_ble_eq_true rfl, Nat.le_of_ble_eq_true rfl⟩) (m_in (locs := L_10) hK hM) rfl rfl hl.1 rfl (lv_room (Nat.le_of_ble_eq_true rfl)) md_M_multiply_116 ⟨Nat.zero_le _, Nat.zero_le _⟩) hM hS hA (fun r_147 u_149 H_150 L_151 e_148 hM hS => ?_)
                    refine lv_lstore (lv' := [(7, .long r_147), (6, .int (jb z_13)), (0, .ref h0), (1, .int p0), (2, .long p1), (4, .long p2)]) hx hb md_M_multiply_119 hl (by decide) rfl (fun ls hl => ?_)
                    refine lv_aload_n hx hb md_M_multiply_121 rfl (lv_at hl 2 rfl) ?_
                    refine va_get (D := D) (ci := 1) (v := .long u_149.1.2.2.2.2.2.2.2.2.2.2) (C := "NumberProbeModel") (T := TM) (N := 12) hx hb ht inM hown hK hM.1 0 rfl rfl 11 (by decide) (ht _ tm_329) (fun _ h9 => h9) rfl md_M_multiply_122 ?_
                    refine lv_lconst (v := 0) hx hb md_M_multiply_125 (by decide) ?_
                    refine W.lcmp hx hb md_M_multiply_126 ?_
                    refine lv_if_ne (tgt := 158) hx hb md_M_multiply_127 (by decide) (fun c_152 => ?_) (fun c_152 => ?_)
                    · refine lv_aload_n hx hb md_M_multiply_158 rfl (lv_at hl 2 rfl) ?_
                      refine va_get (D := D) (ci := 1) (v := .long u_149.1.2.2.2.2.2.2.2.2.2.2) (C := "NumberProbeModel") (T := TM) (N := 12) hx hb ht inM hown hK hM.1 0 rfl rfl 11 (by decide) (ht _ tm_329) (fun _ h9 => h9) rfl md_M_multiply_159 ?_
                      refine vp_callSi (W.runS (As := [.long u_149.1.2.2.2.2.2.2.2.2.2.2]) (rest := []) ⟨hx, hb, hml, hown, hts⟩ (mt_M_length l u_149.1.2.2.2.2.2.2.2.2.2.2) (va_cwS 1 hts (gd_S tm_404 tm_405 tm_25 tm_406) rfl rfl rfl (by decide +kernel) ⟨Nat.le_of_ble_eq_true rfl, Nat.le_of_ble_eq_true rfl⟩) ⟨fb_0, fun U hU hW => ⟨rfl, trivial⟩⟩ rfl rfl hl.1 rfl (lv_room (Nat.le_of_ble_eq_true rfl)) md_M_multiply_162 ⟨Nat.zero_le _, Nat.zero_le _⟩) (fun r_153 e_154 => ?_)
                      refine lv_iconst (v := 2) hx hb md_M_multiply_165 (by decide) ?_
                      refine lv_iadd hx hb md_M_multiply_166 ?_
                      refine lv_istore (lv' := [(9, .int (r_153 + 2)), (7, .long r_147), (6, .int (jb z_13)), (0, .ref h0), (1, .int p0), (2, .long p1), (4, .long p2)]) hx hb md_M_multiply_167 hl (by decide) rfl (fun ls hl => ?_)
                      refine lv_lload hx hb md_M_multiply_169 (lv_at hl 1 rfl) ?_
                      refine lv_iconst (v := 1) hx hb md_M_multiply_171 (by decide) ?_
                      refine lv_lushr (v := jl_ush r_147 1) hx hb md_M_multiply_172 rfl ?_
                      refine lv_iload hx hb md_M_multiply_173 (lv_at hl 0 rfl) ?_
                      refine lv_iconst (v := 1) hx hb md_M_multiply_175 (by decide) ?_
                      refine lv_isub hx hb md_M_multiply_176 ?_
                      refine vp_callSl (W.runS (As := [.long (jl_ush r_147 1), .int ((r_153 + 2) - 1)]) (rest := []) ⟨hx, hb, hml, hown, hts⟩ (mt_M_shiftedDown l (jl_ush r_147 1) ((r_153 + 2) - 1)) (va_cwS 2 hts (gd_S tm_468 tm_469 tm_25 tm_470) rfl rfl rfl (by decide +kernel) ⟨Nat.le_of_ble_eq_true rfl, Nat.le_of_ble_eq_true rfl⟩) ⟨fb_0, fun U hU hW => ⟨rfl, trivial⟩⟩ rfl rfl hl.1 rfl (lv_room (Nat.le_of_ble_eq_true rfl)) md_M_multiply_177 ⟨Nat.zero_le _, Nat.zero_le _⟩) (fun r_155 e_156 => ?_)
                      refine lv_aload_n hx hb md_M_multiply_180 rfl (lv_at hl 3 rfl) ?_
                      refine va_get (D := D) (ci := 1) (v := .long u_149.1.2.2.2.2.2.2.2.2.2.2) (C := "NumberProbeModel") (T := TM) (N := 12) hx hb ht inM hown hK hM.1 0 rfl rfl 11 (by decide) (ht _ tm_329) (fun _ h9 => h9) rfl md_M_multiply_181 ?_
                      refine lv_bipush (v := 64) hx hb md_M_multiply_184 (by decide) ?_
                      refine lv_iload hx hb md_M_multiply_186 (lv_at hl 0 rfl) ?_
                      refine lv_isub hx hb md_M_multiply_188 ?_
                      refine lv_lshl (v := jl_shl u_149.1.2.2.2.2.2.2.2.2.2.2 (64 - (r_153 + 2))) hx hb md_M_multiply_189 rfl ?_
                      refine lv_lor hx hb md_M_multiply_190 ?_
                      refine lv_lstore (lv' := [(10, .long (r_155 ||| (jl_shl u_149.1.2.2.2.2.2.2.2.2.2.2 (64 - (r_153 + 2))))), (9, .int (r_153 + 2)), (7, .long r_147), (6, .int (jb z_13)), (0, .ref h0), (1, .int p0), (2, .long p1), (4, .long p2)]) hx hb md_M_multiply_191 hl (by decide) rfl (fun ls hl => ?_)
                      refine lv_lload hx hb md_M_multiply_193 (lv_at hl 2 rfl) ?_
                      refine lv_lconst (v := 1) hx hb md_M_multiply_195 (by decide) ?_
                      refine lv_land hx hb md_M_multiply_196 ?_
                      refine lv_lconst (v := 0) hx hb md_M_multiply_197 (by decide) ?_
                      refine W.lcmp hx hb md_M_multiply_198 ?_
                      have J_158 : ∀ (z_159 : Int64) (ls : Array Slot), lv_has ls 12 [(10, .long z_159), (9, .int (r_153 + 2)), (7, .long r_147), (6, .int (jb z_13)), (0, .ref h0), (1, .int p0), (2, .long p1), (4, .long p2)] → W p l e (headSpec mw_M_multiply ({ frames := 4, cells := 0, slots := 0, locals := 91 } : Room)).room s m ([.ref h0, .int p0, .long p1, .long p2] : List Value).toArray below meth c H_150 L_151 0 0 (MQ below (MQl D cL h0 q0 A (fun (r : Int64) (v : MT) => True)) ([.ref h0, .int p0, .long p1, .long p2] : List Value).toArray s 0 0 A) (F0 m 208 ls []) := by
                        intro z_159 ls hl
                        refine lv_iload_n hx hb md_M_multiply_208 rfl (lv_at hl 5 rfl) ?_
                        refine lv_iload hx hb md_M_multiply_209 (lv_at hl 3 rfl) ?_
                        refine lv_lload hx hb md_M_multiply_211 (lv_at hl 0 rfl) ?_
                        refine lv_aload_n hx hb md_M_multiply_213 rfl (lv_at hl 4 rfl) ?_
                        refine va_get (D := D) (ci := 1) (v := .int u_149.1.2.2.2.2.2.2.2.2.1) (C := "NumberProbeModel") (T := TM) (N := 12) hx hb ht inM hown hK hM.1 0 rfl rfl 9 (by decide) (ht _ tm_327) (fun _ h9 => h9) rfl md_M_multiply_214 ?_
                        refine lv_aload_n hx hb md_M_multiply_217 rfl (lv_at hl 4 rfl) ?_
                        refine va_get (D := D) (ci := 1) (v := .int u_149.1.2.2.2.2.2.2.2.2.2.1) (C := "NumberProbeModel") (T := TM) (N := 12) hx hb ht inM hown hK hM.1 0 rfl rfl 10 (by decide) (ht _ tm_328) (fun _ h9 => h9) rfl md_M_multiply_218 ?_
                        refine lv_iadd hx hb md_M_multiply_221 ?_
                        refine lv_iload hx hb md_M_multiply_222 (lv_at hl 1 rfl) ?_
                        refine lv_iadd hx hb md_M_multiply_224 ?_
                        refine vp_callSl (W.runS (As := [.int p0, .int (jb z_13), .long z_159, .int ((u_149.1.2.2.2.2.2.2.2.2.1 + u_149.1.2.2.2.2.2.2.2.2.2.1) + (r_153 + 2))]) (rest := []) ⟨hx, hb, hml, hown, hts⟩ (mt_M_round l p0 z_13 z_159 ((u_149.1.2.2.2.2.2.2.2.2.1 + u_149.1.2.2.2.2.2.2.2.2.2.1) + (r_153 + 2))) (va_cwS 4 hts (gd_S tm_398 tm_399 tm_25 tm_400) rfl rfl rfl (by decide +kernel) ⟨Nat.le_of_ble_eq_true rfl, Nat.le_of_ble_eq_true rfl⟩) ⟨fb_0, fun U hU hW => ⟨rfl, trivial⟩⟩ rfl rfl hl.1 rfl (lv_room (Nat.le_of_ble_eq_true rfl)) md_M_multiply_225 ⟨Nat.zero_le _, Nat.zero_le _⟩) (fun r_160 e_161 => ?_)
                        exact W.lret (v := r_160) hx hb hr (fun t ht2 _ => ⟨⟨r_160, u_149, rfl, trivial, by show MWd D cL h0 q0 A _ t.heap; rw [ht2]; exact hM⟩, hS.F ht2⟩) hS.2.2 md_M_multiply_228
                      refine lv_if_eq (tgt := 208) hx hb md_M_multiply_199 (by decide) (fun c_157 => ?_) (fun c_157 => ?_)
                      · exact J_158 (r_155 ||| (jl_shl u_149.1.2.2.2.2.2.2.2.2.2.2 (64 - (r_153 + 2)))) ls (lv_sub hl [0, 1, 2, 3, 4, 5, 6, 7] rfl)
                      · refine lv_lload hx hb md_M_multiply_202 (lv_at hl 0 rfl) ?_
                        refine lv_lconst (v := 1) hx hb md_M_multiply_204 (by decide) ?_
                        refine lv_lor hx hb md_M_multiply_205 ?_
                        refine lv_lstore (lv' := [(10, .long ((r_155 ||| (jl_shl u_149.1.2.2.2.2.2.2.2.2.2.2 (64 - (r_153 + 2)))) ||| 1)), (9, .int (r_153 + 2)), (7, .long r_147), (6, .int (jb z_13)), (0, .ref h0), (1, .int p0), (2, .long p1), (4, .long p2)]) hx hb md_M_multiply_206 hl (by decide) rfl (fun ls hl => ?_)
                        exact J_158 ((r_155 ||| (jl_shl u_149.1.2.2.2.2.2.2.2.2.2.2 (64 - (r_153 + 2)))) ||| 1) ls (lv_sub hl [0, 1, 2, 3, 4, 5, 6, 7] rfl)
                    · refine lv_lload hx hb md_M_multiply_130 (lv_at hl 0 rfl) ?_
                      refine lv_bipush (v := 62) hx hb md_M_multiply_132 (by decide) ?_
                      refine lv_lushr (v := jl_ush r_147 62) hx hb md_M_multiply_134 rfl ?_
                      refine lv_lconst (v := 0) hx hb md_M_multiply_135 (by decide) ?_
                      refine W.lcmp hx hb md_M_multiply_136 ?_
                      refine lv_if_ne (tgt := 158) hx hb md_M_multiply_137 (by decide) (fun c_162 => ?_) (fun c_162 => ?_)
                      · refine lv_aload_n hx hb md_M_multiply_158 rfl (lv_at hl 2 rfl) ?_
                        refine va_get (D := D) (ci := 1) (v := .long u_149.1.2.2.2.2.2.2.2.2.2.2) (C := "NumberProbeModel") (T := TM) (N := 12) hx hb ht inM hown hK hM.1 0 rfl rfl 11 (by decide) (ht _ tm_329) (fun _ h9 => h9) rfl md_M_multiply_159 ?_
                        refine vp_callSi (W.runS (As := [.long u_149.1.2.2.2.2.2.2.2.2.2.2]) (rest := []) ⟨hx, hb, hml, hown, hts⟩ (mt_M_length l u_149.1.2.2.2.2.2.2.2.2.2.2) (va_cwS 1 hts (gd_S tm_404 tm_405 tm_25 tm_406) rfl rfl rfl (by decide +kernel) ⟨Nat.le_of_ble_eq_true rfl, Nat.le_of_ble_eq_true rfl⟩) ⟨fb_0, fun U hU hW => ⟨rfl, trivial⟩⟩ rfl rfl hl.1 rfl (lv_room (Nat.le_of_ble_eq_true rfl)) md_M_multiply_162 ⟨Nat.zero_le _, Nat.zero_le _⟩) (fun r_163 e_164 => ?_)
                        refine lv_iconst (v := 2) hx hb md_M_multiply_165 (by decide) ?_
                        refine lv_iadd hx hb md_M_multiply_166 ?_
                        refine lv_istore (lv' := [(9, .int (r_163 + 2)), (7, .long r_147), (6, .int (jb z_13)), (0, .ref h0), (1, .int p0), (2, .long p1), (4, .long p2)]) hx hb md_M_multiply_167 hl (by decide) rfl (fun ls hl => ?_)
                        refine lv_lload hx hb md_M_multiply_169 (lv_at hl 1 rfl) ?_
                        refine lv_iconst (v := 1) hx hb md_M_multiply_171 (by decide) ?_
                        refine lv_lushr (v := jl_ush r_147 1) hx hb md_M_multiply_172 rfl ?_
                        refine lv_iload hx hb md_M_multiply_173 (lv_at hl 0 rfl) ?_
                        refine lv_iconst (v := 1) hx hb md_M_multiply_175 (by decide) ?_
                        refine lv_isub hx hb md_M_multiply_176 ?_
                        refine vp_callSl (W.runS (As := [.long (jl_ush r_147 1), .int ((r_163 + 2) - 1)]) (rest := []) ⟨hx, hb, hml, hown, hts⟩ (mt_M_shiftedDown l (jl_ush r_147 1) ((r_163 + 2) - 1)) (va_cwS 2 hts (gd_S tm_468 tm_469 tm_25 tm_470) rfl rfl rfl (by decide +kernel) ⟨Nat.le_of_ble_eq_true rfl, Nat.le_of_ble_eq_true rfl⟩) ⟨fb_0, fun U hU hW => ⟨rfl, trivial⟩⟩ rfl rfl hl.1 rfl (lv_room (Nat.le_of_ble_eq_true rfl)) md_M_multiply_177 ⟨Nat.zero_le _, Nat.zero_le _⟩) (fun r_165 e_166 => ?_)
                        refine lv_aload_n hx hb md_M_multiply_180 rfl (lv_at hl 3 rfl) ?_
                        refine va_get (D := D) (ci := 1) (v := .long u_149.1.2.2.2.2.2.2.2.2.2.2) (C := "NumberProbeModel") (T := TM) (N := 12) hx hb ht inM hown hK hM.1 0 rfl rfl 11 (by decide) (ht _ tm_329) (fun _ h9 => h9) rfl md_M_multiply_181 ?_
                        refine lv_bipush (v := 64) hx hb md_M_multiply_184 (by decide) ?_
                        refine lv_iload hx hb md_M_multiply_186 (lv_at hl 0 rfl) ?_
                        refine lv_isub hx hb md_M_multiply_188 ?_
                        refine lv_lshl (v := jl_shl u_149.1.2.2.2.2.2.2.2.2.2.2 (64 - (r_163 + 2))) hx hb md_M_multiply_189 rfl ?_
                        refine lv_lor hx hb md_M_multiply_190 ?_
                        refine lv_lstore (lv' := [(10, .long (r_165 ||| (jl_shl u_149.1.2.2.2.2.2.2.2.2.2.2 (64 - (r_163 + 2))))), (9, .int (r_163 + 2)), (7, .long r_147), (6, .int (jb z_13)), (0, .ref h0), (1, .int p0), (2, .long p1), (4, .long p2)]) hx hb md_M_multiply_191 hl (by decide) rfl (fun ls hl => ?_)
                        refine lv_lload hx hb md_M_multiply_193 (lv_at hl 2 rfl) ?_
                        refine lv_lconst (v := 1) hx hb md_M_multiply_195 (by decide) ?_
                        refine lv_land hx hb md_M_multiply_196 ?_
                        refine lv_lconst (v := 0) hx hb md_M_multiply_197 (by decide) ?_
                        refine W.lcmp hx hb md_M_multiply_198 ?_
                        have J_168 : ∀ (z_169 : Int64) (ls : Array Slot), lv_has ls 12 [(10, .long z_169), (9, .int (r_163 + 2)), (7, .long r_147), (6, .int (jb z_13)), (0, .ref h0), (1, .int p0), (2, .long p1), (4, .long p2)] → W p l e (headSpec mw_M_multiply ({ frames := 4, cells := 0, slots := 0, locals := 91 } : Room)).room s m ([.ref h0, .int p0, .long p1, .long p2] : List Value).toArray below meth c H_150 L_151 0 0 (MQ below (MQl D cL h0 q0 A (fun (r : Int64) (v : MT) => True)) ([.ref h0, .int p0, .long p1, .long p2] : List Value).toArray s 0 0 A) (F0 m 208 ls []) := by
                          intro z_169 ls hl
                          refine lv_iload_n hx hb md_M_multiply_208 rfl (lv_at hl 5 rfl) ?_
                          refine lv_iload hx hb md_M_multiply_209 (lv_at hl 3 rfl) ?_
                          refine lv_lload hx hb md_M_multiply_211 (lv_at hl 0 rfl) ?_
                          refine lv_aload_n hx hb md_M_multiply_213 rfl (lv_at hl 4 rfl) ?_
                          refine va_get (D := D) (ci := 1) (v := .int u_149.1.2.2.2.2.2.2.2.2.1) (C := "NumberProbeModel") (T := TM) (N := 12) hx hb ht inM hown hK hM.1 0 rfl rfl 9 (by decide) (ht _ tm_327) (fun _ h9 => h9) rfl md_M_multiply_214 ?_
                          refine lv_aload_n hx hb md_M_multiply_217 rfl (lv_at hl 4 rfl) ?_
                          refine va_get (D := D) (ci := 1) (v := .int u_149.1.2.2.2.2.2.2.2.2.2.1) (C := "NumberProbeModel") (T := TM) (N := 12) hx hb ht inM hown hK hM.1 0 rfl rfl 10 (by decide) (ht _ tm_328) (fun _ h9 => h9) rfl md_M_multiply_218 ?_
                          refine lv_iadd hx hb md_M_multiply_221 ?_
                          refine lv_iload hx hb md_M_multiply_222 (lv_at hl 1 rfl) ?_
                          refine lv_iadd hx hb md_M_multiply_224 ?_
                          refine vp_callSl (W.runS (As := [.int p0, .int (jb z_13), .long z_169, .int ((u_149.1.2.2.2.2.2.2.2.2.1 + u_149.1.2.2.2.2.2.2.2.2.2.1) + (r_163 + 2))]) (rest := []) ⟨hx, hb, hml, hown, hts⟩ (mt_M_round l p0 z_13 z_169 ((u_149.1.2.2.2.2.2.2.2.2.1 + u_149.1.2.2.2.2.2.2.2.2.2.1) + (r_163 + 2))) (va_cwS 4 hts (gd_S tm_398 tm_399 tm_25 tm_400) rfl rfl rfl (by decide +kernel) ⟨Nat.le_of_ble_eq_true rfl, Nat.le_of_ble_eq_true rfl⟩) ⟨fb_0, fun U hU hW => ⟨rfl, trivial⟩⟩ rfl rfl hl.1 rfl (lv_room (Nat.le_of_ble_eq_true rfl)) md_M_multiply_225 ⟨Nat.zero_le _, Nat.zero_le _⟩) (fun r_170 e_171 => ?_)
                          exact W.lret (v := r_170) hx hb hr (fun t ht2 _ => ⟨⟨r_170, u_149, rfl, trivial, by show MWd D cL h0 q0 A _ t.heap; rw [ht2]; exact hM⟩, hS.F ht2⟩) hS.2.2 md_M_multiply_228
                        refine lv_if_eq (tgt := 208) hx hb md_M_multiply_199 (by decide) (fun c_167 => ?_) (fun c_167 => ?_)
                        · exact J_168 (r_165 ||| (jl_shl u_149.1.2.2.2.2.2.2.2.2.2.2 (64 - (r_163 + 2)))) ls (lv_sub hl [0, 1, 2, 3, 4, 5, 6, 7] rfl)
                        · refine lv_lload hx hb md_M_multiply_202 (lv_at hl 0 rfl) ?_
                          refine lv_lconst (v := 1) hx hb md_M_multiply_204 (by decide) ?_
                          refine lv_lor hx hb md_M_multiply_205 ?_
                          refine lv_lstore (lv' := [(10, .long ((r_165 ||| (jl_shl u_149.1.2.2.2.2.2.2.2.2.2.2 (64 - (r_163 + 2)))) ||| 1)), (9, .int (r_163 + 2)), (7, .long r_147), (6, .int (jb z_13)), (0, .ref h0), (1, .int p0), (2, .long p1), (4, .long p2)]) hx hb md_M_multiply_206 hl (by decide) rfl (fun ls hl => ?_)
                          exact J_168 ((r_165 ||| (jl_shl u_149.1.2.2.2.2.2.2.2.2.2.2 (64 - (r_163 + 2)))) ||| 1) ls (lv_sub hl [0, 1, 2, 3, 4, 5, 6, 7] rfl)
                      · refine lv_iload_n hx hb md_M_multiply_140 rfl (lv_at hl 3 rfl) ?_
                        refine lv_iload hx hb md_M_multiply_141 (lv_at hl 1 rfl) ?_
                        refine lv_lload hx hb md_M_multiply_143 (lv_at hl 0 rfl) ?_
                        refine lv_aload_n hx hb md_M_multiply_145 rfl (lv_at hl 2 rfl) ?_
                        refine va_get (D := D) (ci := 1) (v := .int u_149.1.2.2.2.2.2.2.2.2.1) (C := "NumberProbeModel") (T := TM) (N := 12) hx hb ht inM hown hK hM.1 0 rfl rfl 9 (by decide) (ht _ tm_327) (fun _ h9 => h9) rfl md_M_multiply_146 ?_
                        refine lv_aload_n hx hb md_M_multiply_149 rfl (lv_at hl 2 rfl) ?_
                        refine va_get (D := D) (ci := 1) (v := .int u_149.1.2.2.2.2.2.2.2.2.2.1) (C := "NumberProbeModel") (T := TM) (N := 12) hx hb ht inM hown hK hM.1 0 rfl rfl 10 (by decide) (ht _ tm_328) (fun _ h9 => h9) rfl md_M_multiply_150 ?_
                        refine lv_iadd hx hb md_M_multiply_153 ?_
                        refine vp_callSl (W.runS (As := [.int p0, .int (jb z_13), .long r_147, .int (u_149.1.2.2.2.2.2.2.2.2.1 + u_149.1.2.2.2.2.2.2.2.2.2.1)]) (rest := []) ⟨hx, hb, hml, hown, hts⟩ (mt_M_round l p0 z_13 r_147 (u_149.1.2.2.2.2.2.2.2.2.1 + u_149.1.2.2.2.2.2.2.2.2.2.1)) (va_cwS 4 hts (gd_S tm_398 tm_399 tm_25 tm_400) rfl rfl rfl (by decide +kernel) ⟨Nat.le_of_ble_eq_true rfl, Nat.le_of_ble_eq_true rfl⟩) ⟨fb_0, fun U hU hW => ⟨rfl, trivial⟩⟩ rfl rfl hl.1 rfl (lv_room (Nat.le_of_ble_eq_true rfl)) md_M_multiply_154 ⟨Nat.zero_le _, Nat.zero_le _⟩) (fun r_172 e_173 => ?_)
                        exact W.lret (v := r_172) hx hb hr (fun t ht2 _ => ⟨⟨r_172, u_149, rfl, trivial, by show MWd D cL h0 q0 A _ t.heap; rw [ht2]; exact hM⟩, hS.F ht2⟩) hS.2.2 md_M_multiply_157
                  · refine lv_iload_n hx hb md_M_multiply_96 rfl (lv_at hl 2 rfl) ?_
                    refine lv_iload hx hb md_M_multiply_97 (lv_at hl 0 rfl) ?_
                    refine lv_iload_n hx hb md_M_multiply_99 rfl (lv_at hl 2 rfl) ?_
                    refine vp_callSl (W.runS (As := [.int p0]) (rest := [.int (jb z_13), .int p0]) ⟨hx, hb, hml, hown, hts⟩ (mt_M_infinity l p0) (va_cwS 1 hts (gd_S tm_377 tm_378 tm_25 tm_379) rfl rfl rfl (by decide +kernel) ⟨Nat.le_of_ble_eq_true rfl, Nat.le_of_ble_eq_true rfl⟩) ⟨fb_0, fun U hU hW => ⟨rfl, trivial⟩⟩ rfl rfl hl.1 rfl (lv_room (Nat.le_of_ble_eq_true rfl)) md_M_multiply_100 ⟨Nat.zero_le _, Nat.zero_le _⟩) (fun r_174 e_175 => ?_)
                    obtain rfl : r_174 = rf_if p0 := e_175
                    refine vp_callSl (W.runS (As := [.int p0, .int (jb z_13), .long (rf_if p0)]) (rest := []) ⟨hx, hb, hml, hown, hts⟩ (mt_M_signed l p0 z_13 (rf_if p0)) (va_cwS 3 hts (gd_S tm_401 tm_402 tm_25 tm_403) rfl rfl rfl (by decide +kernel) ⟨Nat.le_of_ble_eq_true rfl, Nat.le_of_ble_eq_true rfl⟩) ⟨fb_0, fun U hU hW => ⟨rfl, trivial⟩⟩ rfl rfl hl.1 rfl (lv_room (Nat.le_of_ble_eq_true rfl)) md_M_multiply_103 ⟨Nat.zero_le _, Nat.zero_le _⟩) (fun r_176 e_177 => ?_)
                    exact W.lret (v := r_176) hx hb hr (fun t ht2 _ => ⟨⟨r_176, mtY p0 p2 (mtX p0 p1 u), rfl, trivial, by show MWd D cL h0 q0 A _ t.heap; rw [ht2]; exact hM⟩, hS.F ht2⟩) hS.2.2 md_M_multiply_106
              · refine lv_iload_n hx hb md_M_multiply_77 rfl (lv_at hl 2 rfl) ?_
                refine vp_callSl (W.runS (As := [.int p0]) (rest := []) ⟨hx, hb, hml, hown, hts⟩ (mt_M_nan l p0) (va_cwS 1 hts (gd_S tm_382 tm_383 tm_25 tm_384) rfl rfl rfl (by decide +kernel) ⟨Nat.le_of_ble_eq_true rfl, Nat.le_of_ble_eq_true rfl⟩) ⟨fb_0, fun U hU hW => ⟨rfl, trivial⟩⟩ rfl rfl hl.1 rfl (lv_room (Nat.le_of_ble_eq_true rfl)) md_M_multiply_78 ⟨Nat.zero_le _, Nat.zero_le _⟩) (fun r_178 e_179 => ?_)
                obtain rfl : r_178 = rf_na p0 := e_179
                exact W.lret (v := rf_na p0) hx hb hr (fun t ht2 _ => ⟨⟨rf_na p0, mtY p0 p2 (mtX p0 p1 u), rfl, trivial, by show MWd D cL h0 q0 A _ t.heap; rw [ht2]; exact hM⟩, hS.F ht2⟩) hS.2.2 md_M_multiply_81
  refine lv_icmp_eq (tgt := 28) hx hb md_M_multiply_21 (by decide) (fun c_11 => ?_) (fun c_11 => ?_)
  · refine lv_iconst (v := 0) hx hb md_M_multiply_28 (by decide) ?_
    exact J_12 false ls (lv_sub hl [0, 1, 2, 3] rfl)
  · refine lv_iconst (v := 1) hx hb md_M_multiply_24 (by decide) ?_
    refine lv_goto (tgt := 29) hx hb md_M_multiply_25 (by decide) ?_
    exact J_12 true ls (lv_sub hl [0, 1, 2, 3] rfl)
set_option maxHeartbeats 4000000 in
set_option maxRecDepth 100000 in
theorem mt_M_divide (l : Launch) (D : va_G) (cL : ClassId) (h0 q0 sz : Nat) (u : MT) (p0 : Int32) (p1 : Int64) (p2 : Int64) : Met l my_M_divide mw_M_divide ({ frames := 4, cells := 0, slots := 0, locals := 91 } : Room) (MPc D cL h0 q0 sz u [.int p0, .long p1, .long p2]) (MQl D cL h0 q0 (MA h0 q0 cL u sz) (fun (r : Int64) (v : MT) => True)) 0 0 (MA h0 q0 cL u sz) := by
  refine Met.ofW (cc := mc_M_divide) (maxL := 17) (ret := (some .long)) (by decide) rfl ?_
  intro p e s m args below meth c s₁ B hml hv
  obtain ⟨rfl, hsz, hP, hK, hD0⟩ := hv
  have hx := B.exec
  have hb := B.bytes
  have hr := B.returns
  have hts := atoms_spec (ws := mw_M_divide) B.pre
  have ht : ∀ w ∈ gw_tbl, w.before _ s = true := fun w h => hts w (List.mem_cons_of_mem _ h)
  have hown : s.vm.findClass "NumberProbeModel" = some m.cls := findClass_of_methodNamed B.named
  have hlocks := B.notSynchronized
  subst hsz
  have hD : va_D (MA h0 q0 cL u s.heap.size) (mWs h0 q0 cL u) := hD0.self (sz := s.heap.size)
  generalize hAe : MA h0 q0 cL u s.heap.size = A at hD ⊢
  have hA : ∀ q : Nat, s.heap.size ≤ q → A q := fun q h => by rw [← hAe]; exact Or.inr h
  have hS : va_S A s.heap s.heap [] := va_S.rf
  have hM : MWd D cL h0 q0 A u s.heap := ⟨hP, hD⟩
  have hl := lv_entry ([.ref h0, .int p0, .long p1, .long p2]) (n := 17) (Nat.le_of_ble_eq_true rfl)
  rw [lg_entry_eq]
  generalize (lg_sl ([.ref h0, .int p0, .long p1, .long p2]) ++ List.replicate (17 - (lg_sl ([.ref h0, .int p0, .long p1, .long p2])).length) Slot.unset).toArray = ls at hl ⊢
  have hl : lv_has ls 17 [(0, .ref h0), (1, .int p0), (2, .long p1), (4, .long p2)] := hl
  refine lv_aload_n hx hb md_M_divide_0 rfl (lv_at hl 0 rfl) ?_
  refine lv_iload_n hx hb md_M_divide_1 rfl (lv_at hl 1 rfl) ?_
  refine lv_lload_n hx hb md_M_divide_2 rfl (lv_at hl 2 rfl) ?_
  refine m_callv (va_runV (C := "NumberProbeModel") (As := [.int p0, .long p1]) (rest := []) ⟨hx, hb, hml, hown, hts⟩ (mt_M_takeX l D cL h0 q0 _ u p0 p1) (cwV 2 hts (gd_V tm_451 tm_453 tm_13 tm_25 tm_454) rfl rfl rfl (by decide +kernel) ⟨Nat.le_of_ble_eq_true rfl, Nat.le_of_ble_eq_true rfl⟩) (m_in (locs := []) hK hM) rfl rfl hl.1 rfl (lv_room (Nat.le_of_ble_eq_true rfl)) md_M_divide_3 ⟨Nat.zero_le _, Nat.zero_le _⟩) hM hS hA (fun u_3 H_4 L_5 e_2 hM hS => ?_)
  obtain rfl : u_3 = mtX p0 p1 u := e_2
  refine lv_aload_n hx hb md_M_divide_6 rfl (lv_at hl 0 rfl) ?_
  refine lv_iload_n hx hb md_M_divide_7 rfl (lv_at hl 1 rfl) ?_
  refine lv_lload hx hb md_M_divide_8 (lv_at hl 3 rfl) ?_
  refine m_callv (va_runV (C := "NumberProbeModel") (As := [.int p0, .long p2]) (rest := []) ⟨hx, hb, hml, hown, hts⟩ (mt_M_takeY l D cL h0 q0 _ (mtX p0 p1 u) p0 p2) (cwV 2 hts (gd_V tm_464 tm_466 tm_14 tm_25 tm_467) rfl rfl rfl (by decide +kernel) ⟨Nat.le_of_ble_eq_true rfl, Nat.le_of_ble_eq_true rfl⟩) (m_in (locs := L_5) hK hM) rfl rfl hl.1 rfl (lv_room (Nat.le_of_ble_eq_true rfl)) md_M_divide_10 ⟨Nat.zero_le _, Nat.zero_le _⟩) hM hS hA (fun u_8 H_9 L_10 e_7 hM hS => ?_)
  obtain rfl : u_8 = mtY p0 p2 (mtX p0 p1 u) := e_7
  refine lv_aload_n hx hb md_M_divide_13 rfl (lv_at hl 0 rfl) ?_
  refine va_get (D := D) (ci := 1) (v := .int (jb (rf_isS p0 p1))) (C := "NumberProbeModel") (T := TM) (N := 12) hx hb ht inM hown hK hM.1 0 rfl rfl 1 (by decide) (ht _ tm_319) (fun _ h9 => h9) rfl md_M_divide_14 ?_
  refine lv_aload_n hx hb md_M_divide_17 rfl (lv_at hl 0 rfl) ?_
  refine va_get (D := D) (ci := 1) (v := .int (jb (rf_isS p0 p2))) (C := "NumberProbeModel") (T := TM) (N := 12) hx hb ht inM hown hK hM.1 0 rfl rfl 2 (by decide) (ht _ tm_320) (fun _ h9 => h9) rfl md_M_divide_18 ?_
  have J_12 : ∀ (z_13 : Bool) (ls : Array Slot), lv_has ls 17 [(0, .ref h0), (1, .int p0), (2, .long p1), (4, .long p2)] → W p l e (headSpec mw_M_divide ({ frames := 4, cells := 0, slots := 0, locals := 91 } : Room)).room s m ([.ref h0, .int p0, .long p1, .long p2] : List Value).toArray below meth c H_9 L_10 0 0 (MQ below (MQl D cL h0 q0 A (fun (r : Int64) (v : MT) => True)) ([.ref h0, .int p0, .long p1, .long p2] : List Value).toArray s 0 0 A) (F0 m 29 ls [.int (jb z_13)]) := by
    intro z_13 ls hl
    refine lv_istore (lv' := [(6, .int (jb z_13)), (0, .ref h0), (1, .int p0), (2, .long p1), (4, .long p2)]) hx hb md_M_divide_29 hl (by decide) rfl (fun ls hl => ?_)
    refine lv_aload_n hx hb md_M_divide_31 rfl (lv_at hl 1 rfl) ?_
    refine va_get (D := D) (ci := 1) (v := .long (rf_man p0 p2)) (C := "NumberProbeModel") (T := TM) (N := 12) hx hb ht inM hown hK hM.1 0 rfl rfl 8 (by decide) (ht _ tm_326) (fun _ h9 => h9) rfl md_M_divide_32 ?_
    refine lv_lconst (v := 0) hx hb md_M_divide_35 (by decide) ?_
    refine W.lcmp hx hb md_M_divide_36 ?_
    have J_18 : ∀ (z_19 : Bool) (ls : Array Slot), lv_has ls 17 [(6, .int (jb z_13)), (0, .ref h0), (1, .int p0), (2, .long p1), (4, .long p2)] → W p l e (headSpec mw_M_divide ({ frames := 4, cells := 0, slots := 0, locals := 91 } : Room)).room s m ([.ref h0, .int p0, .long p1, .long p2] : List Value).toArray below meth c H_9 L_10 0 0 (MQ below (MQl D cL h0 q0 A (fun (r : Int64) (v : MT) => True)) ([.ref h0, .int p0, .long p1, .long p2] : List Value).toArray s 0 0 A) (F0 m 52 ls [.int (jb z_19)]) := by
      intro z_19 ls hl
      refine lv_istore (lv' := [(7, .int (jb z_19)), (6, .int (jb z_13)), (0, .ref h0), (1, .int p0), (2, .long p1), (4, .long p2)]) hx hb md_M_divide_52 hl (by decide) rfl (fun ls hl => ?_)
      refine lv_aload_n hx hb md_M_divide_54 rfl (lv_at hl 2 rfl) ?_
      refine va_get (D := D) (ci := 1) (v := .int (jb (rf_isN p0 p1))) (C := "NumberProbeModel") (T := TM) (N := 12) hx hb ht inM hown hK hM.1 0 rfl rfl 3 (by decide) (ht _ tm_321) (fun _ h9 => h9) rfl md_M_divide_55 ?_
      refine lv_if_ne (tgt := 96) hx hb md_M_divide_58 (by decide) (fun c_20 => ?_) (fun c_20 => ?_)
      · refine lv_iload_n hx hb md_M_divide_96 rfl (lv_at hl 3 rfl) ?_
        refine vp_callSl (W.runS (As := [.int p0]) (rest := []) ⟨hx, hb, hml, hown, hts⟩ (mt_M_nan l p0) (va_cwS 1 hts (gd_S tm_382 tm_383 tm_25 tm_384) rfl rfl rfl (by decide +kernel) ⟨Nat.le_of_ble_eq_true rfl, Nat.le_of_ble_eq_true rfl⟩) ⟨fb_0, fun U hU hW => ⟨rfl, trivial⟩⟩ rfl rfl hl.1 rfl (lv_room (Nat.le_of_ble_eq_true rfl)) md_M_divide_97 ⟨Nat.zero_le _, Nat.zero_le _⟩) (fun r_21 e_22 => ?_)
        obtain rfl : r_21 = rf_na p0 := e_22
        exact W.lret (v := rf_na p0) hx hb hr (fun t ht2 _ => ⟨⟨rf_na p0, mtY p0 p2 (mtX p0 p1 u), rfl, trivial, by show MWd D cL h0 q0 A _ t.heap; rw [ht2]; exact hM⟩, hS.F ht2⟩) hS.2.2 md_M_divide_100
      · refine lv_aload_n hx hb md_M_divide_61 rfl (lv_at hl 2 rfl) ?_
        refine va_get (D := D) (ci := 1) (v := .int (jb (rf_isN p0 p2))) (C := "NumberProbeModel") (T := TM) (N := 12) hx hb ht inM hown hK hM.1 0 rfl rfl 4 (by decide) (ht _ tm_322) (fun _ h9 => h9) rfl md_M_divide_62 ?_
        refine lv_if_ne (tgt := 96) hx hb md_M_divide_65 (by decide) (fun c_23 => ?_) (fun c_23 => ?_)
        · refine lv_iload_n hx hb md_M_divide_96 rfl (lv_at hl 3 rfl) ?_
          refine vp_callSl (W.runS (As := [.int p0]) (rest := []) ⟨hx, hb, hml, hown, hts⟩ (mt_M_nan l p0) (va_cwS 1 hts (gd_S tm_382 tm_383 tm_25 tm_384) rfl rfl rfl (by decide +kernel) ⟨Nat.le_of_ble_eq_true rfl, Nat.le_of_ble_eq_true rfl⟩) ⟨fb_0, fun U hU hW => ⟨rfl, trivial⟩⟩ rfl rfl hl.1 rfl (lv_room (Nat.le_of_ble_eq_true rfl)) md_M_divide_97 ⟨Nat.zero_le _, Nat.zero_le _⟩) (fun r_24 e_25 => ?_)
          obtain rfl : r_24 = rf_na p0 := e_25
          exact W.lret (v := rf_na p0) hx hb hr (fun t ht2 _ => ⟨⟨rf_na p0, mtY p0 p2 (mtX p0 p1 u), rfl, trivial, by show MWd D cL h0 q0 A _ t.heap; rw [ht2]; exact hM⟩, hS.F ht2⟩) hS.2.2 md_M_divide_100
        · refine lv_aload_n hx hb md_M_divide_68 rfl (lv_at hl 2 rfl) ?_
          refine va_get (D := D) (ci := 1) (v := .int (jb (rf_isI p0 p1))) (C := "NumberProbeModel") (T := TM) (N := 12) hx hb ht inM hown hK hM.1 0 rfl rfl 5 (by decide) (ht _ tm_323) (fun _ h9 => h9) rfl md_M_divide_69 ?_
          refine lv_if_eq (tgt := 82) hx hb md_M_divide_72 (by decide) (fun c_26 => ?_) (fun c_26 => ?_)
          · refine lv_iload hx hb md_M_divide_82 (lv_at hl 0 rfl) ?_
            refine lv_if_eq (tgt := 101) hx hb md_M_divide_84 (by decide) (fun c_27 => ?_) (fun c_27 => ?_)
            · refine lv_aload_n hx hb md_M_divide_101 rfl (lv_at hl 2 rfl) ?_
              refine va_get (D := D) (ci := 1) (v := .int (jb (rf_isI p0 p1))) (C := "NumberProbeModel") (T := TM) (N := 12) hx hb ht inM hown hK hM.1 0 rfl rfl 5 (by decide) (ht _ tm_323) (fun _ h9 => h9) rfl md_M_divide_102 ?_
              refine lv_if_ne (tgt := 113) hx hb md_M_divide_105 (by decide) (fun c_28 => ?_) (fun c_28 => ?_)
              · refine lv_iload_n hx hb md_M_divide_113 rfl (lv_at hl 3 rfl) ?_
                refine lv_iload hx hb md_M_divide_114 (lv_at hl 1 rfl) ?_
                refine lv_iload_n hx hb md_M_divide_116 rfl (lv_at hl 3 rfl) ?_
                refine vp_callSl (W.runS (As := [.int p0]) (rest := [.int (jb z_13), .int p0]) ⟨hx, hb, hml, hown, hts⟩ (mt_M_infinity l p0) (va_cwS 1 hts (gd_S tm_377 tm_378 tm_25 tm_379) rfl rfl rfl (by decide +kernel) ⟨Nat.le_of_ble_eq_true rfl, Nat.le_of_ble_eq_true rfl⟩) ⟨fb_0, fun U hU hW => ⟨rfl, trivial⟩⟩ rfl rfl hl.1 rfl (lv_room (Nat.le_of_ble_eq_true rfl)) md_M_divide_117 ⟨Nat.zero_le _, Nat.zero_le _⟩) (fun r_29 e_30 => ?_)
                obtain rfl : r_29 = rf_if p0 := e_30
                refine vp_callSl (W.runS (As := [.int p0, .int (jb z_13), .long (rf_if p0)]) (rest := []) ⟨hx, hb, hml, hown, hts⟩ (mt_M_signed l p0 z_13 (rf_if p0)) (va_cwS 3 hts (gd_S tm_401 tm_402 tm_25 tm_403) rfl rfl rfl (by decide +kernel) ⟨Nat.le_of_ble_eq_true rfl, Nat.le_of_ble_eq_true rfl⟩) ⟨fb_0, fun U hU hW => ⟨rfl, trivial⟩⟩ rfl rfl hl.1 rfl (lv_room (Nat.le_of_ble_eq_true rfl)) md_M_divide_120 ⟨Nat.zero_le _, Nat.zero_le _⟩) (fun r_31 e_32 => ?_)
                exact W.lret (v := r_31) hx hb hr (fun t ht2 _ => ⟨⟨r_31, mtY p0 p2 (mtX p0 p1 u), rfl, trivial, by show MWd D cL h0 q0 A _ t.heap; rw [ht2]; exact hM⟩, hS.F ht2⟩) hS.2.2 md_M_divide_123
              · refine lv_iload hx hb md_M_divide_108 (lv_at hl 0 rfl) ?_
                refine lv_if_eq (tgt := 124) hx hb md_M_divide_110 (by decide) (fun c_33 => ?_) (fun c_33 => ?_)
                · refine lv_aload_n hx hb md_M_divide_124 rfl (lv_at hl 2 rfl) ?_
                  refine va_get (D := D) (ci := 1) (v := .int (jb (rf_isI p0 p2))) (C := "NumberProbeModel") (T := TM) (N := 12) hx hb ht inM hown hK hM.1 0 rfl rfl 6 (by decide) (ht _ tm_324) (fun _ h9 => h9) rfl md_M_divide_125 ?_
                  refine lv_if_ne (tgt := 140) hx hb md_M_divide_128 (by decide) (fun c_34 => ?_) (fun c_34 => ?_)
                  · refine lv_iload_n hx hb md_M_divide_140 rfl (lv_at hl 3 rfl) ?_
                    refine lv_iload hx hb md_M_divide_141 (lv_at hl 1 rfl) ?_
                    refine lv_lconst (v := 0) hx hb md_M_divide_143 (by decide) ?_
                    refine vp_callSl (W.runS (As := [.int p0, .int (jb z_13), .long 0]) (rest := []) ⟨hx, hb, hml, hown, hts⟩ (mt_M_signed l p0 z_13 0) (va_cwS 3 hts (gd_S tm_401 tm_402 tm_25 tm_403) rfl rfl rfl (by decide +kernel) ⟨Nat.le_of_ble_eq_true rfl, Nat.le_of_ble_eq_true rfl⟩) ⟨fb_0, fun U hU hW => ⟨rfl, trivial⟩⟩ rfl rfl hl.1 rfl (lv_room (Nat.le_of_ble_eq_true rfl)) md_M_divide_144 ⟨Nat.zero_le _, Nat.zero_le _⟩) (fun r_35 e_36 => ?_)
                    exact W.lret (v := r_35) hx hb hr (fun t ht2 _ => ⟨⟨r_35, mtY p0 p2 (mtX p0 p1 u), rfl, trivial, by show MWd D cL h0 q0 A _ t.heap; rw [ht2]; exact hM⟩, hS.F ht2⟩) hS.2.2 md_M_divide_147
                  · refine lv_aload_n hx hb md_M_divide_131 rfl (lv_at hl 2 rfl) ?_
                    refine va_get (D := D) (ci := 1) (v := .long (rf_man p0 p1)) (C := "NumberProbeModel") (T := TM) (N := 12) hx hb ht inM hown hK hM.1 0 rfl rfl 7 (by decide) (ht _ tm_325) (fun _ h9 => h9) rfl md_M_divide_132 ?_
                    refine lv_lconst (v := 0) hx hb md_M_divide_135 (by decide) ?_
                    refine W.lcmp hx hb md_M_divide_136 ?_
                    refine lv_if_ne (tgt := 148) hx hb md_M_divide_137 (by decide) (fun c_37 => ?_) (fun c_37 => ?_)
                    · refine lv_bipush (v := 53) hx hb md_M_divide_148 (by decide) ?_
                      refine lv_aload_n hx hb md_M_divide_150 rfl (lv_at hl 2 rfl) ?_
                      refine va_get (D := D) (ci := 1) (v := .long (rf_man p0 p1)) (C := "NumberProbeModel") (T := TM) (N := 12) hx hb ht inM hown hK hM.1 0 rfl rfl 7 (by decide) (ht _ tm_325) (fun _ h9 => h9) rfl md_M_divide_151 ?_
                      refine vp_callSi (W.runS (As := [.long (rf_man p0 p1)]) (rest := [.int 53]) ⟨hx, hb, hml, hown, hts⟩ (mt_M_length l (rf_man p0 p1)) (va_cwS 1 hts (gd_S tm_404 tm_405 tm_25 tm_406) rfl rfl rfl (by decide +kernel) ⟨Nat.le_of_ble_eq_true rfl, Nat.le_of_ble_eq_true rfl⟩) ⟨fb_0, fun U hU hW => ⟨rfl, trivial⟩⟩ rfl rfl hl.1 rfl (lv_room (Nat.le_of_ble_eq_true rfl)) md_M_divide_154 ⟨Nat.zero_le _, Nat.zero_le _⟩) (fun r_38 e_39 => ?_)
                      refine lv_isub hx hb md_M_divide_157 ?_
                      refine lv_istore (lv' := [(8, .int (53 - r_38)), (7, .int (jb z_19)), (6, .int (jb z_13)), (0, .ref h0), (1, .int p0), (2, .long p1), (4, .long p2)]) hx hb md_M_divide_158 hl (by decide) rfl (fun ls hl => ?_)
                      refine lv_bipush (v := 53) hx hb md_M_divide_160 (by decide) ?_
                      refine lv_aload_n hx hb md_M_divide_162 rfl (lv_at hl 3 rfl) ?_
                      refine va_get (D := D) (ci := 1) (v := .long (rf_man p0 p2)) (C := "NumberProbeModel") (T := TM) (N := 12) hx hb ht inM hown hK hM.1 0 rfl rfl 8 (by decide) (ht _ tm_326) (fun _ h9 => h9) rfl md_M_divide_163 ?_
                      refine vp_callSi (W.runS (As := [.long (rf_man p0 p2)]) (rest := [.int 53]) ⟨hx, hb, hml, hown, hts⟩ (mt_M_length l (rf_man p0 p2)) (va_cwS 1 hts (gd_S tm_404 tm_405 tm_25 tm_406) rfl rfl rfl (by decide +kernel) ⟨Nat.le_of_ble_eq_true rfl, Nat.le_of_ble_eq_true rfl⟩) ⟨fb_0, fun U hU hW => ⟨rfl, trivial⟩⟩ rfl rfl hl.1 rfl (lv_room (Nat.le_of_ble_eq_true rfl)) md_M_divide_166 ⟨Nat.zero_le _, Nat.zero_le _⟩) (fun r_40 e_41 => ?_)
                      refine lv_isub hx hb md_M_divide_169 ?_
                      refine lv_istore (lv' := [(9, .int (53 - r_40)), (8, .int (53 - r_38)), (7, .int (jb z_19)), (6, .int (jb z_13)), (0, .ref h0), (1, .int p0), (2, .long p1), (4, .long p2)]) hx hb md_M_divide_170 hl (by decide) rfl (fun ls hl => ?_)
                      refine lv_aload_n hx hb md_M_divide_172 rfl (lv_at hl 4 rfl) ?_
                      refine va_get (D := D) (ci := 1) (v := .long (rf_man p0 p1)) (C := "NumberProbeModel") (T := TM) (N := 12) hx hb ht inM hown hK hM.1 0 rfl rfl 7 (by decide) (ht _ tm_325) (fun _ h9 => h9) rfl md_M_divide_173 ?_
                      refine lv_iload hx hb md_M_divide_176 (lv_at hl 1 rfl) ?_
                      refine lv_lshl (v := jl_shl (rf_man p0 p1) (53 - r_38)) hx hb md_M_divide_178 rfl ?_
                      refine lv_lstore (lv' := [(10, .long (jl_shl (rf_man p0 p1) (53 - r_38))), (9, .int (53 - r_40)), (8, .int (53 - r_38)), (7, .int (jb z_19)), (6, .int (jb z_13)), (0, .ref h0), (1, .int p0), (2, .long p1), (4, .long p2)]) hx hb md_M_divide_179 hl (by decide) rfl (fun ls hl => ?_)
                      refine lv_aload_n hx hb md_M_divide_181 rfl (lv_at hl 5 rfl) ?_
                      refine va_get (D := D) (ci := 1) (v := .long (rf_man p0 p2)) (C := "NumberProbeModel") (T := TM) (N := 12) hx hb ht inM hown hK hM.1 0 rfl rfl 8 (by decide) (ht _ tm_326) (fun _ h9 => h9) rfl md_M_divide_182 ?_
                      refine lv_iload hx hb md_M_divide_185 (lv_at hl 1 rfl) ?_
                      refine lv_lshl (v := jl_shl (rf_man p0 p2) (53 - r_40)) hx hb md_M_divide_187 rfl ?_
                      refine lv_lstore (lv' := [(12, .long (jl_shl (rf_man p0 p2) (53 - r_40))), (10, .long (jl_shl (rf_man p0 p1) (53 - r_38))), (9, .int (53 - r_40)), (8, .int (53 - r_38)), (7, .int (jb z_19)), (6, .int (jb z_13)), (0, .ref h0), (1, .int p0), (2, .long p1), (4, .long p2)]) hx hb md_M_divide_188 hl (by decide) rfl (fun ls hl => ?_)
                      refine lv_lconst (v := 0) hx hb md_M_divide_190 (by decide) ?_
                      refine lv_lstore (lv' := [(14, .long 0), (12, .long (jl_shl (rf_man p0 p2) (53 - r_40))), (10, .long (jl_shl (rf_man p0 p1) (53 - r_38))), (9, .int (53 - r_40)), (8, .int (53 - r_38)), (7, .int (jb z_19)), (6, .int (jb z_13)), (0, .ref h0), (1, .int p0), (2, .long p1), (4, .long p2)]) hx hb md_M_divide_191 hl (by decide) rfl (fun ls hl => ?_)
                      refine lv_iconst (v := 0) hx hb md_M_divide_193 (by decide) ?_
                      refine lv_istore (lv' := [(16, .int 0), (14, .long 0), (12, .long (jl_shl (rf_man p0 p2) (53 - r_40))), (10, .long (jl_shl (rf_man p0 p1) (53 - r_38))), (9, .int (53 - r_40)), (8, .int (53 - r_38)), (7, .int (jb z_19)), (6, .int (jb z_13)), (0, .ref h0), (1, .int p0), (2, .long p1), (4, .long p2)]) hx hb md_M_divide_194 hl (by decide) rfl (fun ls hl => ?_)
                      have L_42 : ∀ (n : Nat) (z_43 : Int32) (z_44 : Int64) (z_45 : Int64) (ls : Array Slot), ((58 : Int32).toInt - z_43.toInt).toNat ≤ n → lv_has ls 17 [(16, .int z_43), (14, .long z_44), (12, .long (jl_shl (rf_man p0 p2) (53 - r_40))), (10, .long z_45), (9, .int (53 - r_40)), (8, .int (53 - r_38)), (7, .int (jb z_19)), (6, .int (jb z_13)), (0, .ref h0), (1, .int p0), (2, .long p1), (4, .long p2)] → W p l e (headSpec mw_M_divide ({ frames := 4, cells := 0, slots := 0, locals := 91 } : Room)).room s m ([.ref h0, .int p0, .long p1, .long p2] : List Value).toArray below meth c H_9 L_10 0 0 (MQ below (MQl D cL h0 q0 A (fun (r : Int64) (v : MT) => True)) ([.ref h0, .int p0, .long p1, .long p2] : List Value).toArray s 0 0 A) (F0 m 196 ls []) := by
                        intro n
                        induction n with
                        | zero =>
                          intro z_43 z_44 z_45 ls hn hl
                          refine lv_iload hx hb md_M_divide_196 (lv_at hl 0 rfl) ?_
                          refine lv_bipush (v := 58) hx hb md_M_divide_198 (by decide) ?_
                          refine lv_icmp_ge (tgt := 242) hx hb md_M_divide_200 (by decide) (fun c_46 => ?_) (fun c_46 => ?_)
                          · refine lv_lload hx hb md_M_divide_242 (lv_at hl 3 rfl) ?_
                            refine lv_lconst (v := 0) hx hb md_M_divide_244 (by decide) ?_
                            refine W.lcmp hx hb md_M_divide_245 ?_
                            have J_48 : ∀ (z_49 : Int64) (ls : Array Slot), lv_has ls 17 [(16, .int z_43), (14, .long z_49), (12, .long (jl_shl (rf_man p0 p2) (53 - r_40))), (10, .long z_45), (9, .int (53 - r_40)), (8, .int (53 - r_38)), (7, .int (jb z_19)), (6, .int (jb z_13)), (0, .ref h0), (1, .int p0), (2, .long p1), (4, .long p2)] → W p l e (headSpec mw_M_divide ({ frames := 4, cells := 0, slots := 0, locals := 91 } : Room)).room s m ([.ref h0, .int p0, .long p1, .long p2] : List Value).toArray below meth c H_9 L_10 0 0 (MQ below (MQl D cL h0 q0 A (fun (r : Int64) (v : MT) => True)) ([.ref h0, .int p0, .long p1, .long p2] : List Value).toArray s 0 0 A) (F0 m 255 ls []) := by
                              intro z_49 ls hl
                              refine lv_iload_n hx hb md_M_divide_255 rfl (lv_at hl 9 rfl) ?_
                              refine lv_iload hx hb md_M_divide_256 (lv_at hl 7 rfl) ?_
                              refine lv_lload hx hb md_M_divide_258 (lv_at hl 1 rfl) ?_
                              refine lv_aload_n hx hb md_M_divide_260 rfl (lv_at hl 8 rfl) ?_
                              refine va_get (D := D) (ci := 1) (v := .int (rf_pow p0 p1)) (C := "NumberProbeModel") (T := TM) (N := 12) hx hb ht inM hown hK hM.1 0 rfl rfl 9 (by decide) (ht _ tm_327) (fun _ h9 => h9) rfl md_M_divide_261 ?_
                              refine lv_iload hx hb md_M_divide_264 (lv_at hl 5 rfl) ?_
                              refine lv_isub hx hb md_M_divide_266 ?_
                              refine lv_aload_n hx hb md_M_divide_267 rfl (lv_at hl 8 rfl) ?_
                              refine va_get (D := D) (ci := 1) (v := .int (rf_pow p0 p2)) (C := "NumberProbeModel") (T := TM) (N := 12) hx hb ht inM hown hK hM.1 0 rfl rfl 10 (by decide) (ht _ tm_328) (fun _ h9 => h9) rfl md_M_divide_268 ?_
                              refine lv_isub hx hb md_M_divide_271 ?_
                              refine lv_iload hx hb md_M_divide_272 (lv_at hl 4 rfl) ?_
                              refine lv_iadd hx hb md_M_divide_274 ?_
                              refine lv_bipush (v := 57) hx hb md_M_divide_275 (by decide) ?_
                              refine lv_isub hx hb md_M_divide_277 ?_
                              refine vp_callSl (W.runS (As := [.int p0, .int (jb z_13), .long z_49, .int (((((rf_pow p0 p1) - (53 - r_38)) - (rf_pow p0 p2)) + (53 - r_40)) - 57)]) (rest := []) ⟨hx, hb, hml, hown, hts⟩ (mt_M_round l p0 z_13 z_49 (((((rf_pow p0 p1) - (53 - r_38)) - (rf_pow p0 p2)) + (53 - r_40)) - 57)) (va_cwS 4 hts (gd_S tm_398 tm_399 tm_25 tm_400) rfl rfl rfl (by decide +kernel) ⟨Nat.le_of_ble_eq_true rfl, Nat.le_of_ble_eq_true rfl⟩) ⟨fb_0, fun U hU hW => ⟨rfl, trivial⟩⟩ rfl rfl hl.1 rfl (lv_room (Nat.le_of_ble_eq_true rfl)) md_M_divide_278 ⟨Nat.zero_le _, Nat.zero_le _⟩) (fun r_50 e_51 => ?_)
                              exact W.lret (v := r_50) hx hb hr (fun t ht2 _ => ⟨⟨r_50, mtY p0 p2 (mtX p0 p1 u), rfl, trivial, by show MWd D cL h0 q0 A _ t.heap; rw [ht2]; exact hM⟩, hS.F ht2⟩) hS.2.2 md_M_divide_281
                            refine lv_if_eq (tgt := 255) hx hb md_M_divide_246 (by decide) (fun c_47 => ?_) (fun c_47 => ?_)
                            · exact J_48 z_44 ls (lv_sub hl [0, 1, 2, 3, 4, 5, 6, 7, 8, 9, 10, 11] rfl)
                            · refine lv_lload hx hb md_M_divide_249 (lv_at hl 1 rfl) ?_
                              refine lv_lconst (v := 1) hx hb md_M_divide_251 (by decide) ?_
                              refine lv_lor hx hb md_M_divide_252 ?_
                              refine lv_lstore (lv' := [(14, .long (z_44 ||| 1)), (16, .int z_43), (12, .long (jl_shl (rf_man p0 p2) (53 - r_40))), (10, .long z_45), (9, .int (53 - r_40)), (8, .int (53 - r_38)), (7, .int (jb z_19)), (6, .int (jb z_13)), (0, .ref h0), (1, .int p0), (2, .long p1), (4, .long p2)]) hx hb md_M_divide_253 hl (by decide) rfl (fun ls hl => ?_)
                              exact J_48 (z_44 ||| 1) ls (lv_sub hl [1, 0, 2, 3, 4, 5, 6, 7, 8, 9, 10, 11] rfl)
                          · exact (lu_0 (Int32.not_le.mp c_46) hn).elim
                        | succ n ih =>
                          intro z_43 z_44 z_45 ls hn hl
                          refine lv_iload hx hb md_M_divide_196 (lv_at hl 0 rfl) ?_
                          refine lv_bipush (v := 58) hx hb md_M_divide_198 (by decide) ?_
                          refine lv_icmp_ge (tgt := 242) hx hb md_M_divide_200 (by decide) (fun c_52 => ?_) (fun c_52 => ?_)
                          · refine lv_lload hx hb md_M_divide_242 (lv_at hl 3 rfl) ?_
                            refine lv_lconst (v := 0) hx hb md_M_divide_244 (by decide) ?_
                            refine W.lcmp hx hb md_M_divide_245 ?_
                            have J_54 : ∀ (z_55 : Int64) (ls : Array Slot), lv_has ls 17 [(16, .int z_43), (14, .long z_55), (12, .long (jl_shl (rf_man p0 p2) (53 - r_40))), (10, .long z_45), (9, .int (53 - r_40)), (8, .int (53 - r_38)), (7, .int (jb z_19)), (6, .int (jb z_13)), (0, .ref h0), (1, .int p0), (2, .long p1), (4, .long p2)] → W p l e (headSpec mw_M_divide ({ frames := 4, cells := 0, slots := 0, locals := 91 } : Room)).room s m ([.ref h0, .int p0, .long p1, .long p2] : List Value).toArray below meth c H_9 L_10 0 0 (MQ below (MQl D cL h0 q0 A (fun (r : Int64) (v : MT) => True)) ([.ref h0, .int p0, .long p1, .long p2] : List Value).toArray s 0 0 A) (F0 m 255 ls []) := by
                              intro z_55 ls hl
                              refine lv_iload_n hx hb md_M_divide_255 rfl (lv_at hl 9 rfl) ?_
                              refine lv_iload hx hb md_M_divide_256 (lv_at hl 7 rfl) ?_
                              refine lv_lload hx hb md_M_divide_258 (lv_at hl 1 rfl) ?_
                              refine lv_aload_n hx hb md_M_divide_260 rfl (lv_at hl 8 rfl) ?_
                              refine va_get (D := D) (ci := 1) (v := .int (rf_pow p0 p1)) (C := "NumberProbeModel") (T := TM) (N := 12) hx hb ht inM hown hK hM.1 0 rfl rfl 9 (by decide) (ht _ tm_327) (fun _ h9 => h9) rfl md_M_divide_261 ?_
                              refine lv_iload hx hb md_M_divide_264 (lv_at hl 5 rfl) ?_
                              refine lv_isub hx hb md_M_divide_266 ?_
                              refine lv_aload_n hx hb md_M_divide_267 rfl (lv_at hl 8 rfl) ?_
                              refine va_get (D := D) (ci := 1) (v := .int (rf_pow p0 p2)) (C := "NumberProbeModel") (T := TM) (N := 12) hx hb ht inM hown hK hM.1 0 rfl rfl 10 (by decide) (ht _ tm_328) (fun _ h9 => h9) rfl md_M_divide_268 ?_
                              refine lv_isub hx hb md_M_divide_271 ?_
                              refine lv_iload hx hb md_M_divide_272 (lv_at hl 4 rfl) ?_
                              refine lv_iadd hx hb md_M_divide_274 ?_
                              refine lv_bipush (v := 57) hx hb md_M_divide_275 (by decide) ?_
                              refine lv_isub hx hb md_M_divide_277 ?_
                              refine vp_callSl (W.runS (As := [.int p0, .int (jb z_13), .long z_55, .int (((((rf_pow p0 p1) - (53 - r_38)) - (rf_pow p0 p2)) + (53 - r_40)) - 57)]) (rest := []) ⟨hx, hb, hml, hown, hts⟩ (mt_M_round l p0 z_13 z_55 (((((rf_pow p0 p1) - (53 - r_38)) - (rf_pow p0 p2)) + (53 - r_40)) - 57)) (va_cwS 4 hts (gd_S tm_398 tm_399 tm_25 tm_400) rfl rfl rfl (by decide +kernel) ⟨Nat.le_of_ble_eq_true rfl, Nat.le_of_ble_eq_true rfl⟩) ⟨fb_0, fun U hU hW => ⟨rfl, trivial⟩⟩ rfl rfl hl.1 rfl (lv_room (Nat.le_of_ble_eq_true rfl)) md_M_divide_278 ⟨Nat.zero_le _, Nat.zero_le _⟩) (fun r_56 e_57 => ?_)
                              exact W.lret (v := r_56) hx hb hr (fun t ht2 _ => ⟨⟨r_56, mtY p0 p2 (mtX p0 p1 u), rfl, trivial, by show MWd D cL h0 q0 A _ t.heap; rw [ht2]; exact hM⟩, hS.F ht2⟩) hS.2.2 md_M_divide_281
                            refine lv_if_eq (tgt := 255) hx hb md_M_divide_246 (by decide) (fun c_53 => ?_) (fun c_53 => ?_)
                            · exact J_54 z_44 ls (lv_sub hl [0, 1, 2, 3, 4, 5, 6, 7, 8, 9, 10, 11] rfl)
                            · refine lv_lload hx hb md_M_divide_249 (lv_at hl 1 rfl) ?_
                              refine lv_lconst (v := 1) hx hb md_M_divide_251 (by decide) ?_
                              refine lv_lor hx hb md_M_divide_252 ?_
                              refine lv_lstore (lv' := [(14, .long (z_44 ||| 1)), (16, .int z_43), (12, .long (jl_shl (rf_man p0 p2) (53 - r_40))), (10, .long z_45), (9, .int (53 - r_40)), (8, .int (53 - r_38)), (7, .int (jb z_19)), (6, .int (jb z_13)), (0, .ref h0), (1, .int p0), (2, .long p1), (4, .long p2)]) hx hb md_M_divide_253 hl (by decide) rfl (fun ls hl => ?_)
                              exact J_54 (z_44 ||| 1) ls (lv_sub hl [1, 0, 2, 3, 4, 5, 6, 7, 8, 9, 10, 11] rfl)
                          · refine lv_lload hx hb md_M_divide_203 (lv_at hl 1 rfl) ?_
                            refine lv_iconst (v := 1) hx hb md_M_divide_205 (by decide) ?_
                            refine lv_lshl (v := jl_shl z_44 1) hx hb md_M_divide_206 rfl ?_
                            refine lv_lstore (lv' := [(14, .long (jl_shl z_44 1)), (16, .int z_43), (12, .long (jl_shl (rf_man p0 p2) (53 - r_40))), (10, .long z_45), (9, .int (53 - r_40)), (8, .int (53 - r_38)), (7, .int (jb z_19)), (6, .int (jb z_13)), (0, .ref h0), (1, .int p0), (2, .long p1), (4, .long p2)]) hx hb md_M_divide_207 hl (by decide) rfl (fun ls hl => ?_)
                            refine lv_lload hx hb md_M_divide_209 (lv_at hl 3 rfl) ?_
                            refine lv_lload hx hb md_M_divide_211 (lv_at hl 2 rfl) ?_
                            refine W.lcmp hx hb md_M_divide_213 ?_
                            have J_59 : ∀ (z_60 : Int64) (z_61 : Int64) (ls : Array Slot), lv_has ls 17 [(14, .long z_60), (16, .int z_43), (12, .long (jl_shl (rf_man p0 p2) (53 - r_40))), (10, .long z_61), (9, .int (53 - r_40)), (8, .int (53 - r_38)), (7, .int (jb z_19)), (6, .int (jb z_13)), (0, .ref h0), (1, .int p0), (2, .long p1), (4, .long p2)] → W p l e (headSpec mw_M_divide ({ frames := 4, cells := 0, slots := 0, locals := 91 } : Room)).room s m ([.ref h0, .int p0, .long p1, .long p2] : List Value).toArray below meth c H_9 L_10 0 0 (MQ below (MQl D cL h0 q0 A (fun (r : Int64) (v : MT) => True)) ([.ref h0, .int p0, .long p1, .long p2] : List Value).toArray s 0 0 A) (F0 m 230 ls []) := by
                              intro z_60 z_61 ls hl
                              refine lv_lload hx hb md_M_divide_230 (lv_at hl 3 rfl) ?_
                              refine lv_iconst (v := 1) hx hb md_M_divide_232 (by decide) ?_
                              refine lv_lshl (v := jl_shl z_61 1) hx hb md_M_divide_233 rfl ?_
                              refine lv_lstore (lv' := [(10, .long (jl_shl z_61 1)), (14, .long z_60), (16, .int z_43), (12, .long (jl_shl (rf_man p0 p2) (53 - r_40))), (9, .int (53 - r_40)), (8, .int (53 - r_38)), (7, .int (jb z_19)), (6, .int (jb z_13)), (0, .ref h0), (1, .int p0), (2, .long p1), (4, .long p2)]) hx hb md_M_divide_234 hl (by decide) rfl (fun ls hl => ?_)
                              refine lv_iinc (v := z_43 + 1) (lv' := [(16, .int (z_43 + 1)), (10, .long (jl_shl z_61 1)), (14, .long z_60), (12, .long (jl_shl (rf_man p0 p2) (53 - r_40))), (9, .int (53 - r_40)), (8, .int (53 - r_38)), (7, .int (jb z_19)), (6, .int (jb z_13)), (0, .ref h0), (1, .int p0), (2, .long p1), (4, .long p2)]) hx hb md_M_divide_236 hl (k := 2) rfl rfl (by decide) rfl (fun ls hl => ?_)
                              refine lv_goto (tgt := 196) hx hb md_M_divide_239 (by decide) ?_
                              exact ih (z_43 + 1) z_60 (jl_shl z_61 1) ls (lu_s (Int32.not_le.mp c_52) hn) (lv_sub hl [0, 2, 3, 1, 4, 5, 6, 7, 8, 9, 10, 11] rfl)
                            refine lv_if_lt (tgt := 230) hx hb md_M_divide_214 (by decide) (fun c_58 => ?_) (fun c_58 => ?_)
                            · exact J_59 (jl_shl z_44 1) z_45 ls (lv_sub hl [0, 1, 2, 3, 4, 5, 6, 7, 8, 9, 10, 11] rfl)
                            · refine lv_lload hx hb md_M_divide_217 (lv_at hl 3 rfl) ?_
                              refine lv_lload hx hb md_M_divide_219 (lv_at hl 2 rfl) ?_
                              refine lv_lsub hx hb md_M_divide_221 ?_
                              refine lv_lstore (lv' := [(10, .long (z_45 - (jl_shl (rf_man p0 p2) (53 - r_40)))), (14, .long (jl_shl z_44 1)), (16, .int z_43), (12, .long (jl_shl (rf_man p0 p2) (53 - r_40))), (9, .int (53 - r_40)), (8, .int (53 - r_38)), (7, .int (jb z_19)), (6, .int (jb z_13)), (0, .ref h0), (1, .int p0), (2, .long p1), (4, .long p2)]) hx hb md_M_divide_222 hl (by decide) rfl (fun ls hl => ?_)
                              refine lv_lload hx hb md_M_divide_224 (lv_at hl 1 rfl) ?_
                              refine lv_lconst (v := 1) hx hb md_M_divide_226 (by decide) ?_
                              refine lv_ladd hx hb md_M_divide_227 ?_
                              refine lv_lstore (lv' := [(14, .long ((jl_shl z_44 1) + 1)), (10, .long (z_45 - (jl_shl (rf_man p0 p2) (53 - r_40)))), (16, .int z_43), (12, .long (jl_shl (rf_man p0 p2) (53 - r_40))), (9, .int (53 - r_40)), (8, .int (53 - r_38)), (7, .int (jb z_19)), (6, .int (jb z_13)), (0, .ref h0), (1, .int p0), (2, .long p1), (4, .long p2)]) hx hb md_M_divide_228 hl (by decide) rfl (fun ls hl => ?_)
                              exact J_59 ((jl_shl z_44 1) + 1) (z_45 - (jl_shl (rf_man p0 p2) (53 - r_40))) ls (lv_sub hl [0, 2, 3, 1, 4, 5, 6, 7, 8, 9, 10, 11] rfl)
                      exact L_42 _ 0 0 (jl_shl (rf_man p0 p1) (53 - r_38)) ls (Nat.le_refl _) (lv_sub hl [0, 1, 2, 3, 4, 5, 6, 7, 8, 9, 10, 11] rfl)
                    · refine lv_iload_n hx hb md_M_divide_140 rfl (lv_at hl 3 rfl) ?_
                      refine lv_iload hx hb md_M_divide_141 (lv_at hl 1 rfl) ?_
                      refine lv_lconst (v := 0) hx hb md_M_divide_143 (by decide) ?_
                      refine vp_callSl (W.runS (As := [.int p0, .int (jb z_13), .long 0]) (rest := []) ⟨hx, hb, hml, hown, hts⟩ (mt_M_signed l p0 z_13 0) (va_cwS 3 hts (gd_S tm_401 tm_402 tm_25 tm_403) rfl rfl rfl (by decide +kernel) ⟨Nat.le_of_ble_eq_true rfl, Nat.le_of_ble_eq_true rfl⟩) ⟨fb_0, fun U hU hW => ⟨rfl, trivial⟩⟩ rfl rfl hl.1 rfl (lv_room (Nat.le_of_ble_eq_true rfl)) md_M_divide_144 ⟨Nat.zero_le _, Nat.zero_le _⟩) (fun r_62 e_63 => ?_)
                      exact W.lret (v := r_62) hx hb hr (fun t ht2 _ => ⟨⟨r_62, mtY p0 p2 (mtX p0 p1 u), rfl, trivial, by show MWd D cL h0 q0 A _ t.heap; rw [ht2]; exact hM⟩, hS.F ht2⟩) hS.2.2 md_M_divide_147
                · refine lv_iload_n hx hb md_M_divide_113 rfl (lv_at hl 3 rfl) ?_
                  refine lv_iload hx hb md_M_divide_114 (lv_at hl 1 rfl) ?_
                  refine lv_iload_n hx hb md_M_divide_116 rfl (lv_at hl 3 rfl) ?_
                  refine vp_callSl (W.runS (As := [.int p0]) (rest := [.int (jb z_13), .int p0]) ⟨hx, hb, hml, hown, hts⟩ (mt_M_infinity l p0) (va_cwS 1 hts (gd_S tm_377 tm_378 tm_25 tm_379) rfl rfl rfl (by decide +kernel) ⟨Nat.le_of_ble_eq_true rfl, Nat.le_of_ble_eq_true rfl⟩) ⟨fb_0, fun U hU hW => ⟨rfl, trivial⟩⟩ rfl rfl hl.1 rfl (lv_room (Nat.le_of_ble_eq_true rfl)) md_M_divide_117 ⟨Nat.zero_le _, Nat.zero_le _⟩) (fun r_64 e_65 => ?_)
                  obtain rfl : r_64 = rf_if p0 := e_65
                  refine vp_callSl (W.runS (As := [.int p0, .int (jb z_13), .long (rf_if p0)]) (rest := []) ⟨hx, hb, hml, hown, hts⟩ (mt_M_signed l p0 z_13 (rf_if p0)) (va_cwS 3 hts (gd_S tm_401 tm_402 tm_25 tm_403) rfl rfl rfl (by decide +kernel) ⟨Nat.le_of_ble_eq_true rfl, Nat.le_of_ble_eq_true rfl⟩) ⟨fb_0, fun U hU hW => ⟨rfl, trivial⟩⟩ rfl rfl hl.1 rfl (lv_room (Nat.le_of_ble_eq_true rfl)) md_M_divide_120 ⟨Nat.zero_le _, Nat.zero_le _⟩) (fun r_66 e_67 => ?_)
                  exact W.lret (v := r_66) hx hb hr (fun t ht2 _ => ⟨⟨r_66, mtY p0 p2 (mtX p0 p1 u), rfl, trivial, by show MWd D cL h0 q0 A _ t.heap; rw [ht2]; exact hM⟩, hS.F ht2⟩) hS.2.2 md_M_divide_123
            · refine lv_aload_n hx hb md_M_divide_87 rfl (lv_at hl 2 rfl) ?_
              refine va_get (D := D) (ci := 1) (v := .long (rf_man p0 p1)) (C := "NumberProbeModel") (T := TM) (N := 12) hx hb ht inM hown hK hM.1 0 rfl rfl 7 (by decide) (ht _ tm_325) (fun _ h9 => h9) rfl md_M_divide_88 ?_
              refine lv_lconst (v := 0) hx hb md_M_divide_91 (by decide) ?_
              refine W.lcmp hx hb md_M_divide_92 ?_
              refine lv_if_ne (tgt := 101) hx hb md_M_divide_93 (by decide) (fun c_68 => ?_) (fun c_68 => ?_)
              · refine lv_aload_n hx hb md_M_divide_101 rfl (lv_at hl 2 rfl) ?_
                refine va_get (D := D) (ci := 1) (v := .int (jb (rf_isI p0 p1))) (C := "NumberProbeModel") (T := TM) (N := 12) hx hb ht inM hown hK hM.1 0 rfl rfl 5 (by decide) (ht _ tm_323) (fun _ h9 => h9) rfl md_M_divide_102 ?_
                refine lv_if_ne (tgt := 113) hx hb md_M_divide_105 (by decide) (fun c_69 => ?_) (fun c_69 => ?_)
                · refine lv_iload_n hx hb md_M_divide_113 rfl (lv_at hl 3 rfl) ?_
                  refine lv_iload hx hb md_M_divide_114 (lv_at hl 1 rfl) ?_
                  refine lv_iload_n hx hb md_M_divide_116 rfl (lv_at hl 3 rfl) ?_
                  refine vp_callSl (W.runS (As := [.int p0]) (rest := [.int (jb z_13), .int p0]) ⟨hx, hb, hml, hown, hts⟩ (mt_M_infinity l p0) (va_cwS 1 hts (gd_S tm_377 tm_378 tm_25 tm_379) rfl rfl rfl (by decide +kernel) ⟨Nat.le_of_ble_eq_true rfl, Nat.le_of_ble_eq_true rfl⟩) ⟨fb_0, fun U hU hW => ⟨rfl, trivial⟩⟩ rfl rfl hl.1 rfl (lv_room (Nat.le_of_ble_eq_true rfl)) md_M_divide_117 ⟨Nat.zero_le _, Nat.zero_le _⟩) (fun r_70 e_71 => ?_)
                  obtain rfl : r_70 = rf_if p0 := e_71
                  refine vp_callSl (W.runS (As := [.int p0, .int (jb z_13), .long (rf_if p0)]) (rest := []) ⟨hx, hb, hml, hown, hts⟩ (mt_M_signed l p0 z_13 (rf_if p0)) (va_cwS 3 hts (gd_S tm_401 tm_402 tm_25 tm_403) rfl rfl rfl (by decide +kernel) ⟨Nat.le_of_ble_eq_true rfl, Nat.le_of_ble_eq_true rfl⟩) ⟨fb_0, fun U hU hW => ⟨rfl, trivial⟩⟩ rfl rfl hl.1 rfl (lv_room (Nat.le_of_ble_eq_true rfl)) md_M_divide_120 ⟨Nat.zero_le _, Nat.zero_le _⟩) (fun r_72 e_73 => ?_)
                  exact W.lret (v := r_72) hx hb hr (fun t ht2 _ => ⟨⟨r_72, mtY p0 p2 (mtX p0 p1 u), rfl, trivial, by show MWd D cL h0 q0 A _ t.heap; rw [ht2]; exact hM⟩, hS.F ht2⟩) hS.2.2 md_M_divide_123
                · refine lv_iload hx hb md_M_divide_108 (lv_at hl 0 rfl) ?_
                  refine lv_if_eq (tgt := 124) hx hb md_M_divide_110 (by decide) (fun c_74 => ?_) (fun c_74 => ?_)
                  · refine lv_aload_n hx hb md_M_divide_124 rfl (lv_at hl 2 rfl) ?_
                    refine va_get (D := D) (ci := 1) (v := .int (jb (rf_isI p0 p2))) (C := "NumberProbeModel") (T := TM) (N := 12) hx hb ht inM hown hK hM.1 0 rfl rfl 6 (by decide) (ht _ tm_324) (fun _ h9 => h9) rfl md_M_divide_125 ?_
                    refine lv_if_ne (tgt := 140) hx hb md_M_divide_128 (by decide) (fun c_75 => ?_) (fun c_75 => ?_)
                    · refine lv_iload_n hx hb md_M_divide_140 rfl (lv_at hl 3 rfl) ?_
                      refine lv_iload hx hb md_M_divide_141 (lv_at hl 1 rfl) ?_
                      refine lv_lconst (v := 0) hx hb md_M_divide_143 (by decide) ?_
                      refine vp_callSl (W.runS (As := [.int p0, .int (jb z_13), .long 0]) (rest := []) ⟨hx, hb, hml, hown, hts⟩ (mt_M_signed l p0 z_13 0) (va_cwS 3 hts (gd_S tm_401 tm_402 tm_25 tm_403) rfl rfl rfl (by decide +kernel) ⟨Nat.le_of_ble_eq_true rfl, Nat.le_of_ble_eq_true rfl⟩) ⟨fb_0, fun U hU hW => ⟨rfl, trivial⟩⟩ rfl rfl hl.1 rfl (lv_room (Nat.le_of_ble_eq_true rfl)) md_M_divide_144 ⟨Nat.zero_le _, Nat.zero_le _⟩) (fun r_76 e_77 => ?_)
                      exact W.lret (v := r_76) hx hb hr (fun t ht2 _ => ⟨⟨r_76, mtY p0 p2 (mtX p0 p1 u), rfl, trivial, by show MWd D cL h0 q0 A _ t.heap; rw [ht2]; exact hM⟩, hS.F ht2⟩) hS.2.2 md_M_divide_147
                    · refine lv_aload_n hx hb md_M_divide_131 rfl (lv_at hl 2 rfl) ?_
                      refine va_get (D := D) (ci := 1) (v := .long (rf_man p0 p1)) (C := "NumberProbeModel") (T := TM) (N := 12) hx hb ht inM hown hK hM.1 0 rfl rfl 7 (by decide) (ht _ tm_325) (fun _ h9 => h9) rfl md_M_divide_132 ?_
                      refine lv_lconst (v := 0) hx hb md_M_divide_135 (by decide) ?_
                      refine W.lcmp hx hb md_M_divide_136 ?_
                      refine lv_if_ne (tgt := 148) hx hb md_M_divide_137 (by decide) (fun c_78 => ?_) (fun c_78 => ?_)
                      · refine lv_bipush (v := 53) hx hb md_M_divide_148 (by decide) ?_
                        refine lv_aload_n hx hb md_M_divide_150 rfl (lv_at hl 2 rfl) ?_
                        refine va_get (D := D) (ci := 1) (v := .long (rf_man p0 p1)) (C := "NumberProbeModel") (T := TM) (N := 12) hx hb ht inM hown hK hM.1 0 rfl rfl 7 (by decide) (ht _ tm_325) (fun _ h9 => h9) rfl md_M_divide_151 ?_
                        refine vp_callSi (W.runS (As := [.long (rf_man p0 p1)]) (rest := [.int 53]) ⟨hx, hb, hml, hown, hts⟩ (mt_M_length l (rf_man p0 p1)) (va_cwS 1 hts (gd_S tm_404 tm_405 tm_25 tm_406) rfl rfl rfl (by decide +kernel) ⟨Nat.le_of_ble_eq_true rfl, Nat.le_of_ble_eq_true rfl⟩) ⟨fb_0, fun U hU hW => ⟨rfl, trivial⟩⟩ rfl rfl hl.1 rfl (lv_room (Nat.le_of_ble_eq_true rfl)) md_M_divide_154 ⟨Nat.zero_le _, Nat.zero_le _⟩) (fun r_79 e_80 => ?_)
                        refine lv_isub hx hb md_M_divide_157 ?_
                        refine lv_istore (lv' := [(8, .int (53 - r_79)), (7, .int (jb z_19)), (6, .int (jb z_13)), (0, .ref h0), (1, .int p0), (2, .long p1), (4, .long p2)]) hx hb md_M_divide_158 hl (by decide) rfl (fun ls hl => ?_)
                        refine lv_bipush (v := 53) hx hb md_M_divide_160 (by decide) ?_
                        refine lv_aload_n hx hb md_M_divide_162 rfl (lv_at hl 3 rfl) ?_
                        refine va_get (D := D) (ci := 1) (v := .long (rf_man p0 p2)) (C := "NumberProbeModel") (T := TM) (N := 12) hx hb ht inM hown hK hM.1 0 rfl rfl 8 (by decide) (ht _ tm_326) (fun _ h9 => h9) rfl md_M_divide_163 ?_
                        refine vp_callSi (W.runS (As := [.long (rf_man p0 p2)]) (rest := [.int 53]) ⟨hx, hb, hml, hown, hts⟩ (mt_M_length l (rf_man p0 p2)) (va_cwS 1 hts (gd_S tm_404 tm_405 tm_25 tm_406) rfl rfl rfl (by decide +kernel) ⟨Nat.le_of_ble_eq_true rfl, Nat.le_of_ble_eq_true rfl⟩) ⟨fb_0, fun U hU hW => ⟨rfl, trivial⟩⟩ rfl rfl hl.1 rfl (lv_room (Nat.le_of_ble_eq_true rfl)) md_M_divide_166 ⟨Nat.zero_le _, Nat.zero_le _⟩) (fun r_81 e_82 => ?_)
                        refine lv_isub hx hb md_M_divide_169 ?_
                        refine lv_istore (lv' := [(9, .int (53 - r_81)), (8, .int (53 - r_79)), (7, .int (jb z_19)), (6, .int (jb z_13)), (0, .ref h0), (1, .int p0), (2, .long p1), (4, .long p2)]) hx hb md_M_divide_170 hl (by decide) rfl (fun ls hl => ?_)
                        refine lv_aload_n hx hb md_M_divide_172 rfl (lv_at hl 4 rfl) ?_
                        refine va_get (D := D) (ci := 1) (v := .long (rf_man p0 p1)) (C := "NumberProbeModel") (T := TM) (N := 12) hx hb ht inM hown hK hM.1 0 rfl rfl 7 (by decide) (ht _ tm_325) (fun _ h9 => h9) rfl md_M_divide_173 ?_
                        refine lv_iload hx hb md_M_divide_176 (lv_at hl 1 rfl) ?_
                        refine lv_lshl (v := jl_shl (rf_man p0 p1) (53 - r_79)) hx hb md_M_divide_178 rfl ?_
                        refine lv_lstore (lv' := [(10, .long (jl_shl (rf_man p0 p1) (53 - r_79))), (9, .int (53 - r_81)), (8, .int (53 - r_79)), (7, .int (jb z_19)), (6, .int (jb z_13)), (0, .ref h0), (1, .int p0), (2, .long p1), (4, .long p2)]) hx hb md_M_divide_179 hl (by decide) rfl (fun ls hl => ?_)
                        refine lv_aload_n hx hb md_M_divide_181 rfl (lv_at hl 5 rfl) ?_
                        refine va_get (D := D) (ci := 1) (v := .long (rf_man p0 p2)) (C := "NumberProbeModel") (T := TM) (N := 12) hx hb ht inM hown hK hM.1 0 rfl rfl 8 (by decide) (ht _ tm_326) (fun _ h9 => h9) rfl md_M_divide_182 ?_
                        refine lv_iload hx hb md_M_divide_185 (lv_at hl 1 rfl) ?_
                        refine lv_lshl (v := jl_shl (rf_man p0 p2) (53 - r_81)) hx hb md_M_divide_187 rfl ?_
                        refine lv_lstore (lv' := [(12, .long (jl_shl (rf_man p0 p2) (53 - r_81))), (10, .long (jl_shl (rf_man p0 p1) (53 - r_79))), (9, .int (53 - r_81)), (8, .int (53 - r_79)), (7, .int (jb z_19)), (6, .int (jb z_13)), (0, .ref h0), (1, .int p0), (2, .long p1), (4, .long p2)]) hx hb md_M_divide_188 hl (by decide) rfl (fun ls hl => ?_)
                        refine lv_lconst (v := 0) hx hb md_M_divide_190 (by decide) ?_
                        refine lv_lstore (lv' := [(14, .long 0), (12, .long (jl_shl (rf_man p0 p2) (53 - r_81))), (10, .long (jl_shl (rf_man p0 p1) (53 - r_79))), (9, .int (53 - r_81)), (8, .int (53 - r_79)), (7, .int (jb z_19)), (6, .int (jb z_13)), (0, .ref h0), (1, .int p0), (2, .long p1), (4, .long p2)]) hx hb md_M_divide_191 hl (by decide) rfl (fun ls hl => ?_)
                        refine lv_iconst (v := 0) hx hb md_M_divide_193 (by decide) ?_
                        refine lv_istore (lv' := [(16, .int 0), (14, .long 0), (12, .long (jl_shl (rf_man p0 p2) (53 - r_81))), (10, .long (jl_shl (rf_man p0 p1) (53 - r_79))), (9, .int (53 - r_81)), (8, .int (53 - r_79)), (7, .int (jb z_19)), (6, .int (jb z_13)), (0, .ref h0), (1, .int p0), (2, .long p1), (4, .long p2)]) hx hb md_M_divide_194 hl (by decide) rfl (fun ls hl => ?_)
                        have L_83 : ∀ (n : Nat) (z_84 : Int32) (z_85 : Int64) (z_86 : Int64) (ls : Array Slot), ((58 : Int32).toInt - z_84.toInt).toNat ≤ n → lv_has ls 17 [(16, .int z_84), (14, .long z_85), (12, .long (jl_shl (rf_man p0 p2) (53 - r_81))), (10, .long z_86), (9, .int (53 - r_81)), (8, .int (53 - r_79)), (7, .int (jb z_19)), (6, .int (jb z_13)), (0, .ref h0), (1, .int p0), (2, .long p1), (4, .long p2)] → W p l e (headSpec mw_M_divide ({ frames := 4, cells := 0, slots := 0, locals := 91 } : Room)).room s m ([.ref h0, .int p0, .long p1, .long p2] : List Value).toArray below meth c H_9 L_10 0 0 (MQ below (MQl D cL h0 q0 A (fun (r : Int64) (v : MT) => True)) ([.ref h0, .int p0, .long p1, .long p2] : List Value).toArray s 0 0 A) (F0 m 196 ls []) := by
                          intro n
                          induction n with
                          | zero =>
                            intro z_84 z_85 z_86 ls hn hl
                            refine lv_iload hx hb md_M_divide_196 (lv_at hl 0 rfl) ?_
                            refine lv_bipush (v := 58) hx hb md_M_divide_198 (by decide) ?_
                            refine lv_icmp_ge (tgt := 242) hx hb md_M_divide_200 (by decide) (fun c_87 => ?_) (fun c_87 => ?_)
                            · refine lv_lload hx hb md_M_divide_242 (lv_at hl 3 rfl) ?_
                              refine lv_lconst (v := 0) hx hb md_M_divide_244 (by decide) ?_
                              refine W.lcmp hx hb md_M_divide_245 ?_
                              have J_89 : ∀ (z_90 : Int64) (ls : Array Slot), lv_has ls 17 [(16, .int z_84), (14, .long z_90), (12, .long (jl_shl (rf_man p0 p2) (53 - r_81))), (10, .long z_86), (9, .int (53 - r_81)), (8, .int (53 - r_79)), (7, .int (jb z_19)), (6, .int (jb z_13)), (0, .ref h0), (1, .int p0), (2, .long p1), (4, .long p2)] → W p l e (headSpec mw_M_divide ({ frames := 4, cells := 0, slots := 0, locals := 91 } : Room)).room s m ([.ref h0, .int p0, .long p1, .long p2] : List Value).toArray below meth c H_9 L_10 0 0 (MQ below (MQl D cL h0 q0 A (fun (r : Int64) (v : MT) => True)) ([.ref h0, .int p0, .long p1, .long p2] : List Value).toArray s 0 0 A) (F0 m 255 ls []) := by
                                intro z_90 ls hl
                                refine lv_iload_n hx hb md_M_divide_255 rfl (lv_at hl 9 rfl) ?_
                                refine lv_iload hx hb md_M_divide_256 (lv_at hl 7 rfl) ?_
                                refine lv_lload hx hb md_M_divide_258 (lv_at hl 1 rfl) ?_
                                refine lv_aload_n hx hb md_M_divide_260 rfl (lv_at hl 8 rfl) ?_
                                refine va_get (D := D) (ci := 1) (v := .int (rf_pow p0 p1)) (C := "NumberProbeModel") (T := TM) (N := 12) hx hb ht inM hown hK hM.1 0 rfl rfl 9 (by decide) (ht _ tm_327) (fun _ h9 => h9) rfl md_M_divide_261 ?_
                                refine lv_iload hx hb md_M_divide_264 (lv_at hl 5 rfl) ?_
                                refine lv_isub hx hb md_M_divide_266 ?_
                                refine lv_aload_n hx hb md_M_divide_267 rfl (lv_at hl 8 rfl) ?_
                                refine va_get (D := D) (ci := 1) (v := .int (rf_pow p0 p2)) (C := "NumberProbeModel") (T := TM) (N := 12) hx hb ht inM hown hK hM.1 0 rfl rfl 10 (by decide) (ht _ tm_328) (fun _ h9 => h9) rfl md_M_divide_268 ?_
                                refine lv_isub hx hb md_M_divide_271 ?_
                                refine lv_iload hx hb md_M_divide_272 (lv_at hl 4 rfl) ?_
                                refine lv_iadd hx hb md_M_divide_274 ?_
                                refine lv_bipush (v := 57) hx hb md_M_divide_275 (by decide) ?_
                                refine lv_isub hx hb md_M_divide_277 ?_
                                refine vp_callSl (W.runS (As := [.int p0, .int (jb z_13), .long z_90, .int (((((rf_pow p0 p1) - (53 - r_79)) - (rf_pow p0 p2)) + (53 - r_81)) - 57)]) (rest := []) ⟨hx, hb, hml, hown, hts⟩ (mt_M_round l p0 z_13 z_90 (((((rf_pow p0 p1) - (53 - r_79)) - (rf_pow p0 p2)) + (53 - r_81)) - 57)) (va_cwS 4 hts (gd_S tm_398 tm_399 tm_25 tm_400) rfl rfl rfl (by decide +kernel) ⟨Nat.le_of_ble_eq_true rfl, Nat.le_of_ble_eq_true rfl⟩) ⟨fb_0, fun U hU hW => ⟨rfl, trivial⟩⟩ rfl rfl hl.1 rfl (lv_room (Nat.le_of_ble_eq_true rfl)) md_M_divide_278 ⟨Nat.zero_le _, Nat.zero_le _⟩) (fun r_91 e_92 => ?_)
                                exact W.lret (v := r_91) hx hb hr (fun t ht2 _ => ⟨⟨r_91, mtY p0 p2 (mtX p0 p1 u), rfl, trivial, by show MWd D cL h0 q0 A _ t.heap; rw [ht2]; exact hM⟩, hS.F ht2⟩) hS.2.2 md_M_divide_281
                              refine lv_if_eq (tgt := 255) hx hb md_M_divide_246 (by decide) (fun c_88 => ?_) (fun c_88 => ?_)
                              · exact J_89 z_85 ls (lv_sub hl [0, 1, 2, 3, 4, 5, 6, 7, 8, 9, 10, 11] rfl)
                              · refine lv_lload hx hb md_M_divide_249 (lv_at hl 1 rfl) ?_
                                refine lv_lconst (v := 1) hx hb md_M_divide_251 (by decide) ?_
                                refine lv_lor hx hb md_M_divide_252 ?_
                                refine lv_lstore (lv' := [(14, .long (z_85 ||| 1)), (16, .int z_84), (12, .long (jl_shl (rf_man p0 p2) (53 - r_81))), (10, .long z_86), (9, .int (53 - r_81)), (8, .int (53 - r_79)), (7, .int (jb z_19)), (6, .int (jb z_13)), (0, .ref h0), (1, .int p0), (2, .long p1), (4, .long p2)]) hx hb md_M_divide_253 hl (by decide) rfl (fun ls hl => ?_)
                                exact J_89 (z_85 ||| 1) ls (lv_sub hl [1, 0, 2, 3, 4, 5, 6, 7, 8, 9, 10, 11] rfl)
                            · exact (lu_0 (Int32.not_le.mp c_87) hn).elim
                          | succ n ih =>
                            intro z_84 z_85 z_86 ls hn hl
                            refine lv_iload hx hb md_M_divide_196 (lv_at hl 0 rfl) ?_
                            refine lv_bipush (v := 58) hx hb md_M_divide_198 (by decide) ?_
                            refine lv_icmp_ge (tgt := 242) hx hb md_M_divide_200 (by decide) (fun c_93 => ?_) (fun c_93 => ?_)
                            · refine lv_lload hx hb md_M_divide_242 (lv_at hl 3 rfl) ?_
                              refine lv_lconst (v := 0) hx hb md_M_divide_244 (by decide) ?_
                              refine W.lcmp hx hb md_M_divide_245 ?_
                              have J_95 : ∀ (z_96 : Int64) (ls : Array Slot), lv_has ls 17 [(16, .int z_84), (14, .long z_96), (12, .long (jl_shl (rf_man p0 p2) (53 - r_81))), (10, .long z_86), (9, .int (53 - r_81)), (8, .int (53 - r_79)), (7, .int (jb z_19)), (6, .int (jb z_13)), (0, .ref h0), (1, .int p0), (2, .long p1), (4, .long p2)] → W p l e (headSpec mw_M_divide ({ frames := 4, cells := 0, slots := 0, locals := 91 } : Room)).room s m ([.ref h0, .int p0, .long p1, .long p2] : List Value).toArray below meth c H_9 L_10 0 0 (MQ below (MQl D cL h0 q0 A (fun (r : Int64) (v : MT) => True)) ([.ref h0, .int p0, .long p1, .long p2] : List Value).toArray s 0 0 A) (F0 m 255 ls []) := by
                                intro z_96 ls hl
                                refine lv_iload_n hx hb md_M_divide_255 rfl (lv_at hl 9 rfl) ?_
                                refine lv_iload hx hb md_M_divide_256 (lv_at hl 7 rfl) ?_
                                refine lv_lload hx hb md_M_divide_258 (lv_at hl 1 rfl) ?_
                                refine lv_aload_n hx hb md_M_divide_260 rfl (lv_at hl 8 rfl) ?_
                                refine va_get (D := D) (ci := 1) (v := .int (rf_pow p0 p1)) (C := "NumberProbeModel") (T := TM) (N := 12) hx hb ht inM hown hK hM.1 0 rfl rfl 9 (by decide) (ht _ tm_327) (fun _ h9 => h9) rfl md_M_divide_261 ?_
                                refine lv_iload hx hb md_M_divide_264 (lv_at hl 5 rfl) ?_
                                refine lv_isub hx hb md_M_divide_266 ?_
                                refine lv_aload_n hx hb md_M_divide_267 rfl (lv_at hl 8 rfl) ?_
                                refine va_get (D := D) (ci := 1) (v := .int (rf_pow p0 p2)) (C := "NumberProbeModel") (T := TM) (N := 12) hx hb ht inM hown hK hM.1 0 rfl rfl 10 (by decide) (ht _ tm_328) (fun _ h9 => h9) rfl md_M_divide_268 ?_
                                refine lv_isub hx hb md_M_divide_271 ?_
                                refine lv_iload hx hb md_M_divide_272 (lv_at hl 4 rfl) ?_
                                refine lv_iadd hx hb md_M_divide_274 ?_
                                refine lv_bipush (v := 57) hx hb md_M_divide_275 (by decide) ?_
                                refine lv_isub hx hb md_M_divide_277 ?_
                                refine vp_callSl (W.runS (As := [.int p0, .int (jb z_13), .long z_96, .int (((((rf_pow p0 p1) - (53 - r_79)) - (rf_pow p0 p2)) + (53 - r_81)) - 57)]) (rest := []) ⟨hx, hb, hml, hown, hts⟩ (mt_M_round l p0 z_13 z_96 (((((rf_pow p0 p1) - (53 - r_79)) - (rf_pow p0 p2)) + (53 - r_81)) - 57)) (va_cwS 4 hts (gd_S tm_398 tm_399 tm_25 tm_400) rfl rfl rfl (by decide +kernel) ⟨Nat.le_of_ble_eq_true rfl, Nat.le_of_ble_eq_true rfl⟩) ⟨fb_0, fun U hU hW => ⟨rfl, trivial⟩⟩ rfl rfl hl.1 rfl (lv_room (Nat.le_of_ble_eq_true rfl)) md_M_divide_278 ⟨Nat.zero_le _, Nat.zero_le _⟩) (fun r_97 e_98 => ?_)
                                exact W.lret (v := r_97) hx hb hr (fun t ht2 _ => ⟨⟨r_97, mtY p0 p2 (mtX p0 p1 u), rfl, trivial, by show MWd D cL h0 q0 A _ t.heap; rw [ht2]; exact hM⟩, hS.F ht2⟩) hS.2.2 md_M_divide_281
                              refine lv_if_eq (tgt := 255) hx hb md_M_divide_246 (by decide) (fun c_94 => ?_) (fun c_94 => ?_)
                              · exact J_95 z_85 ls (lv_sub hl [0, 1, 2, 3, 4, 5, 6, 7, 8, 9, 10, 11] rfl)
                              · refine lv_lload hx hb md_M_divide_249 (lv_at hl 1 rfl) ?_
                                refine lv_lconst (v := 1) hx hb md_M_divide_251 (by decide) ?_
                                refine lv_lor hx hb md_M_divide_252 ?_
                                refine lv_lstore (lv' := [(14, .long (z_85 ||| 1)), (16, .int z_84), (12, .long (jl_shl (rf_man p0 p2) (53 - r_81))), (10, .long z_86), (9, .int (53 - r_81)), (8, .int (53 - r_79)), (7, .int (jb z_19)), (6, .int (jb z_13)), (0, .ref h0), (1, .int p0), (2, .long p1), (4, .long p2)]) hx hb md_M_divide_253 hl (by decide) rfl (fun ls hl => ?_)
                                exact J_95 (z_85 ||| 1) ls (lv_sub hl [1, 0, 2, 3, 4, 5, 6, 7, 8, 9, 10, 11] rfl)
                            · refine lv_lload hx hb md_M_divide_203 (lv_at hl 1 rfl) ?_
                              refine lv_iconst (v := 1) hx hb md_M_divide_205 (by decide) ?_
                              refine lv_lshl (v := jl_shl z_85 1) hx hb md_M_divide_206 rfl ?_
                              refine lv_lstore (lv' := [(14, .long (jl_shl z_85 1)), (16, .int z_84), (12, .long (jl_shl (rf_man p0 p2) (53 - r_81))), (10, .long z_86), (9, .int (53 - r_81)), (8, .int (53 - r_79)), (7, .int (jb z_19)), (6, .int (jb z_13)), (0, .ref h0), (1, .int p0), (2, .long p1), (4, .long p2)]) hx hb md_M_divide_207 hl (by decide) rfl (fun ls hl => ?_)
                              refine lv_lload hx hb md_M_divide_209 (lv_at hl 3 rfl) ?_
                              refine lv_lload hx hb md_M_divide_211 (lv_at hl 2 rfl) ?_
                              refine W.lcmp hx hb md_M_divide_213 ?_
                              have J_100 : ∀ (z_101 : Int64) (z_102 : Int64) (ls : Array Slot), lv_has ls 17 [(14, .long z_101), (16, .int z_84), (12, .long (jl_shl (rf_man p0 p2) (53 - r_81))), (10, .long z_102), (9, .int (53 - r_81)), (8, .int (53 - r_79)), (7, .int (jb z_19)), (6, .int (jb z_13)), (0, .ref h0), (1, .int p0), (2, .long p1), (4, .long p2)] → W p l e (headSpec mw_M_divide ({ frames := 4, cells := 0, slots := 0, locals := 91 } : Room)).room s m ([.ref h0, .int p0, .long p1, .long p2] : List Value).toArray below meth c H_9 L_10 0 0 (MQ below (MQl D cL h0 q0 A (fun (r : Int64) (v : MT) => True)) ([.ref h0, .int p0, .long p1, .long p2] : List Value).toArray s 0 0 A) (F0 m 230 ls []) := by
                                intro z_101 z_102 ls hl
                                refine lv_lload hx hb md_M_divide_230 (lv_at hl 3 rfl) ?_
                                refine lv_iconst (v := 1) hx hb md_M_divide_232 (by decide) ?_
                                refine lv_lshl (v := jl_shl z_102 1) hx hb md_M_divide_233 rfl ?_
                                refine lv_lstore (lv' := [(10, .long (jl_shl z_102 1)), (14, .long z_101), (16, .int z_84), (12, .long (jl_shl (rf_man p0 p2) (53 - r_81))), (9, .int (53 - r_81)), (8, .int (53 - r_79)), (7, .int (jb z_19)), (6, .int (jb z_13)), (0, .ref h0), (1, .int p0), (2, .long p1), (4, .long p2)]) hx hb md_M_divide_234 hl (by decide) rfl (fun ls hl => ?_)
                                refine lv_iinc (v := z_84 + 1) (lv' := [(16, .int (z_84 + 1)), (10, .long (jl_shl z_102 1)), (14, .long z_101), (12, .long (jl_shl (rf_man p0 p2) (53 - r_81))), (9, .int (53 - r_81)), (8, .int (53 - r_79)), (7, .int (jb z_19)), (6, .int (jb z_13)), (0, .ref h0), (1, .int p0), (2, .long p1), (4, .long p2)]) hx hb md_M_divide_236 hl (k := 2) rfl rfl (by decide) rfl (fun ls hl => ?_)
                                refine lv_goto (tgt := 196) hx hb md_M_divide_239 (by decide) ?_
                                exact ih (z_84 + 1) z_101 (jl_shl z_102 1) ls (lu_s (Int32.not_le.mp c_93) hn) (lv_sub hl [0, 2, 3, 1, 4, 5, 6, 7, 8, 9, 10, 11] rfl)
                              refine lv_if_lt (tgt := 230) hx hb md_M_divide_214 (by decide) (fun c_99 => ?_) (fun c_99 => ?_)
                              · exact J_100 (jl_shl z_85 1) z_86 ls (lv_sub hl [0, 1, 2, 3, 4, 5, 6, 7, 8, 9, 10, 11] rfl)
                              · refine lv_lload hx hb md_M_divide_217 (lv_at hl 3 rfl) ?_
                                refine lv_lload hx hb md_M_divide_219 (lv_at hl 2 rfl) ?_
                                refine lv_lsub hx hb md_M_divide_221 ?_
                                refine lv_lstore (lv' := [(10, .long (z_86 - (jl_shl (rf_man p0 p2) (53 - r_81)))), (14, .long (jl_shl z_85 1)), (16, .int z_84), (12, .long (jl_shl (rf_man p0 p2) (53 - r_81))), (9, .int (53 - r_81)), (8, .int (53 - r_79)), (7, .int (jb z_19)), (6, .int (jb z_13)), (0, .ref h0), (1, .int p0), (2, .long p1), (4, .long p2)]) hx hb md_M_divide_222 hl (by decide) rfl (fun ls hl => ?_)
                                refine lv_lload hx hb md_M_divide_224 (lv_at hl 1 rfl) ?_
                                refine lv_lconst (v := 1) hx hb md_M_divide_226 (by decide) ?_
                                refine lv_ladd hx hb md_M_divide_227 ?_
                                refine lv_lstore (lv' := [(14, .long ((jl_shl z_85 1) + 1)), (10, .long (z_86 - (jl_shl (rf_man p0 p2) (53 - r_81)))), (16, .int z_84), (12, .long (jl_shl (rf_man p0 p2) (53 - r_81))), (9, .int (53 - r_81)), (8, .int (53 - r_79)), (7, .int (jb z_19)), (6, .int (jb z_13)), (0, .ref h0), (1, .int p0), (2, .long p1), (4, .long p2)]) hx hb md_M_divide_228 hl (by decide) rfl (fun ls hl => ?_)
                                exact J_100 ((jl_shl z_85 1) + 1) (z_86 - (jl_shl (rf_man p0 p2) (53 - r_81))) ls (lv_sub hl [0, 2, 3, 1, 4, 5, 6, 7, 8, 9, 10, 11] rfl)
                        exact L_83 _ 0 0 (jl_shl (rf_man p0 p1) (53 - r_79)) ls (Nat.le_refl _) (lv_sub hl [0, 1, 2, 3, 4, 5, 6, 7, 8, 9, 10, 11] rfl)
                      · refine lv_iload_n hx hb md_M_divide_140 rfl (lv_at hl 3 rfl) ?_
                        refine lv_iload hx hb md_M_divide_141 (lv_at hl 1 rfl) ?_
                        refine lv_lconst (v := 0) hx hb md_M_divide_143 (by decide) ?_
                        refine vp_callSl (W.runS (As := [.int p0, .int (jb z_13), .long 0]) (rest := []) ⟨hx, hb, hml, hown, hts⟩ (mt_M_signed l p0 z_13 0) (va_cwS 3 hts (gd_S tm_401 tm_402 tm_25 tm_403) rfl rfl rfl (by decide +kernel) ⟨Nat.le_of_ble_eq_true rfl, Nat.le_of_ble_eq_true rfl⟩) ⟨fb_0, fun U hU hW => ⟨rfl, trivial⟩⟩ rfl rfl hl.1 rfl (lv_room (Nat.le_of_ble_eq_true rfl)) md_M_divide_144 ⟨Nat.zero_le _, Nat.zero_le _⟩) (fun r_103 e_104 => ?_)
                        exact W.lret (v := r_103) hx hb hr (fun t ht2 _ => ⟨⟨r_103, mtY p0 p2 (mtX p0 p1 u), rfl, trivial, by show MWd D cL h0 q0 A _ t.heap; rw [ht2]; exact hM⟩, hS.F ht2⟩) hS.2.2 md_M_divide_147
                  · refine lv_iload_n hx hb md_M_divide_113 rfl (lv_at hl 3 rfl) ?_
                    refine lv_iload hx hb md_M_divide_114 (lv_at hl 1 rfl) ?_
                    refine lv_iload_n hx hb md_M_divide_116 rfl (lv_at hl 3 rfl) ?_
                    refine vp_callSl (W.runS (As := [.int p0]) (rest := [.int (jb z_13), .int p0]) ⟨hx, hb, hml, hown, hts⟩ (mt_M_infinity l p0) (va_cwS 1 hts (gd_S tm_377 tm_378 tm_25 tm_379) rfl rfl rfl (by decide +kernel) ⟨Nat.le_of_ble_eq_true rfl, Nat.le_of_ble_eq_true rfl⟩) ⟨fb_0, fun U hU hW => ⟨rfl, trivial⟩⟩ rfl rfl hl.1 rfl (lv_room (Nat.le_of_ble_eq_true rfl)) md_M_divide_117 ⟨Nat.zero_le _, Nat.zero_le _⟩) (fun r_105 e_106 => ?_)
                    obtain rfl : r_105 = rf_if p0 := e_106
                    refine vp_callSl (W.runS (As := [.int p0, .int (jb z_13), .long (rf_if p0)]) (rest := []) ⟨hx, hb, hml, hown, hts⟩ (mt_M_signed l p0 z_13 (rf_if p0)) (va_cwS 3 hts (gd_S tm_401 tm_402 tm_25 tm_403) rfl rfl rfl (by decide +kernel) ⟨Nat.le_of_ble_eq_true rfl, Nat.le_of_ble_eq_true rfl⟩) ⟨fb_0, fun U hU hW => ⟨rfl, trivial⟩⟩ rfl rfl hl.1 rfl (lv_room (Nat.le_of_ble_eq_true rfl)) md_M_divide_120 ⟨Nat.zero_le _, Nat.zero_le _⟩) (fun r_107 e_108 => ?_)
                    exact W.lret (v := r_107) hx hb hr (fun t ht2 _ => ⟨⟨r_107, mtY p0 p2 (mtX p0 p1 u), rfl, trivial, by show MWd D cL h0 q0 A _ t.heap; rw [ht2]; exact hM⟩, hS.F ht2⟩) hS.2.2 md_M_divide_123
              · refine lv_iload_n hx hb md_M_divide_96 rfl (lv_at hl 3 rfl) ?_
                refine vp_callSl (W.runS (As := [.int p0]) (rest := []) ⟨hx, hb, hml, hown, hts⟩ (mt_M_nan l p0) (va_cwS 1 hts (gd_S tm_382 tm_383 tm_25 tm_384) rfl rfl rfl (by decide +kernel) ⟨Nat.le_of_ble_eq_true rfl, Nat.le_of_ble_eq_true rfl⟩) ⟨fb_0, fun U hU hW => ⟨rfl, trivial⟩⟩ rfl rfl hl.1 rfl (lv_room (Nat.le_of_ble_eq_true rfl)) md_M_divide_97 ⟨Nat.zero_le _, Nat.zero_le _⟩) (fun r_109 e_110 => ?_)
                obtain rfl : r_109 = rf_na p0 := e_110
                exact W.lret (v := rf_na p0) hx hb hr (fun t ht2 _ => ⟨⟨rf_na p0, mtY p0 p2 (mtX p0 p1 u), rfl, trivial, by show MWd D cL h0 q0 A _ t.heap; rw [ht2]; exact hM⟩, hS.F ht2⟩) hS.2.2 md_M_divide_100
          · refine lv_aload_n hx hb md_M_divide_75 rfl (lv_at hl 2 rfl) ?_
            refine va_get (D := D) (ci := 1) (v := .int (jb (rf_isI p0 p2))) (C := "NumberProbeModel") (T := TM) (N := 12) hx hb ht inM hown hK hM.1 0 rfl rfl 6 (by decide) (ht _ tm_324) (fun _ h9 => h9) rfl md_M_divide_76 ?_
            refine lv_if_ne (tgt := 96) hx hb md_M_divide_79 (by decide) (fun c_111 => ?_) (fun c_111 => ?_)
            · refine lv_iload_n hx hb md_M_divide_96 rfl (lv_at hl 3 rfl) ?_
              refine vp_callSl (W.runS (As := [.int p0]) (rest := []) ⟨hx, hb, hml, hown, hts⟩ (mt_M_nan l p0) (va_cwS 1 hts (gd_S tm_382 tm_383 tm_25 tm_384) rfl rfl rfl (by decide +kernel) ⟨Nat.le_of_ble_eq_true rfl, Nat.le_of_ble_eq_true rfl⟩) ⟨fb_0, fun U hU hW => ⟨rfl, trivial⟩⟩ rfl rfl hl.1 rfl (lv_room (Nat.le_of_ble_eq_true rfl)) md_M_divide_97 ⟨Nat.zero_le _, Nat.zero_le _⟩) (fun r_112 e_113 => ?_)
              obtain rfl : r_112 = rf_na p0 := e_113
              exact W.lret (v := rf_na p0) hx hb hr (fun t ht2 _ => ⟨⟨rf_na p0, mtY p0 p2 (mtX p0 p1 u), rfl, trivial, by show MWd D cL h0 q0 A _ t.heap; rw [ht2]; exact hM⟩, hS.F ht2⟩) hS.2.2 md_M_divide_100
            · refine lv_iload hx hb md_M_divide_82 (lv_at hl 0 rfl) ?_
              refine lv_if_eq (tgt := 101) hx hb md_M_divide_84 (by decide) (fun c_114 => ?_) (fun c_114 => ?_)
              · refine lv_aload_n hx hb md_M_divide_101 rfl (lv_at hl 2 rfl) ?_
                refine va_get (D := D) (ci := 1) (v := .int (jb (rf_isI p0 p1))) (C := "NumberProbeModel") (T := TM) (N := 12) hx hb ht inM hown hK hM.1 0 rfl rfl 5 (by decide) (ht _ tm_323) (fun _ h9 => h9) rfl md_M_divide_102 ?_
                refine lv_if_ne (tgt := 113) hx hb md_M_divide_105 (by decide) (fun c_115 => ?_) (fun c_115 => ?_)
                · refine lv_iload_n hx hb md_M_divide_113 rfl (lv_at hl 3 rfl) ?_
                  refine lv_iload hx hb md_M_divide_114 (lv_at hl 1 rfl) ?_
                  refine lv_iload_n hx hb md_M_divide_116 rfl (lv_at hl 3 rfl) ?_
                  refine vp_callSl (W.runS (As := [.int p0]) (rest := [.int (jb z_13), .int p0]) ⟨hx, hb, hml, hown, hts⟩ (mt_M_infinity l p0) (va_cwS 1 hts (gd_S tm_377 tm_378 tm_25 tm_379) rfl rfl rfl (by decide +kernel) ⟨Nat.le_of_ble_eq_true rfl, Nat.le_of_ble_eq_true rfl⟩) ⟨fb_0, fun U hU hW => ⟨rfl, trivial⟩⟩ rfl rfl hl.1 rfl (lv_room (Nat.le_of_ble_eq_true rfl)) md_M_divide_117 ⟨Nat.zero_le _, Nat.zero_le _⟩) (fun r_116 e_117 => ?_)
                  obtain rfl : r_116 = rf_if p0 := e_117
                  refine vp_callSl (W.runS (As := [.int p0, .int (jb z_13), .long (rf_if p0)]) (rest := []) ⟨hx, hb, hml, hown, hts⟩ (mt_M_signed l p0 z_13 (rf_if p0)) (va_cwS 3 hts (gd_S tm_401 tm_402 tm_25 tm_403) rfl rfl rfl (by decide +kernel) ⟨Nat.le_of_ble_eq_true rfl, Nat.le_of_ble_eq_true rfl⟩) ⟨fb_0, fun U hU hW => ⟨rfl, trivial⟩⟩ rfl rfl hl.1 rfl (lv_room (Nat.le_of_ble_eq_true rfl)) md_M_divide_120 ⟨Nat.zero_le _, Nat.zero_le _⟩) (fun r_118 e_119 => ?_)
                  exact W.lret (v := r_118) hx hb hr (fun t ht2 _ => ⟨⟨r_118, mtY p0 p2 (mtX p0 p1 u), rfl, trivial, by show MWd D cL h0 q0 A _ t.heap; rw [ht2]; exact hM⟩, hS.F ht2⟩) hS.2.2 md_M_divide_123
                · refine lv_iload hx hb md_M_divide_108 (lv_at hl 0 rfl) ?_
                  refine lv_if_eq (tgt := 124) hx hb md_M_divide_110 (by decide) (fun c_120 => ?_) (fun c_120 => ?_)
                  · refine lv_aload_n hx hb md_M_divide_124 rfl (lv_at hl 2 rfl) ?_
                    refine va_get (D := D) (ci := 1) (v := .int (jb (rf_isI p0 p2))) (C := "NumberProbeModel") (T := TM) (N := 12) hx hb ht inM hown hK hM.1 0 rfl rfl 6 (by decide) (ht _ tm_324) (fun _ h9 => h9) rfl md_M_divide_125 ?_
                    refine lv_if_ne (tgt := 140) hx hb md_M_divide_128 (by decide) (fun c_121 => ?_) (fun c_121 => ?_)
                    · refine lv_iload_n hx hb md_M_divide_140 rfl (lv_at hl 3 rfl) ?_
                      refine lv_iload hx hb md_M_divide_141 (lv_at hl 1 rfl) ?_
                      refine lv_lconst (v := 0) hx hb md_M_divide_143 (by decide) ?_
                      refine vp_callSl (W.runS (As := [.int p0, .int (jb z_13), .long 0]) (rest := []) ⟨hx, hb, hml, hown, hts⟩ (mt_M_signed l p0 z_13 0) (va_cwS 3 hts (gd_S tm_401 tm_402 tm_25 tm_403) rfl rfl rfl (by decide +kernel) ⟨Nat.le_of_ble_eq_true rfl, Nat.le_of_ble_eq_true rfl⟩) ⟨fb_0, fun U hU hW => ⟨rfl, trivial⟩⟩ rfl rfl hl.1 rfl (lv_room (Nat.le_of_ble_eq_true rfl)) md_M_divide_144 ⟨Nat.zero_le _, Nat.zero_le _⟩) (fun r_122 e_123 => ?_)
                      exact W.lret (v := r_122) hx hb hr (fun t ht2 _ => ⟨⟨r_122, mtY p0 p2 (mtX p0 p1 u), rfl, trivial, by show MWd D cL h0 q0 A _ t.heap; rw [ht2]; exact hM⟩, hS.F ht2⟩) hS.2.2 md_M_divide_147
                    · refine lv_aload_n hx hb md_M_divide_131 rfl (lv_at hl 2 rfl) ?_
                      refine va_get (D := D) (ci := 1) (v := .long (rf_man p0 p1)) (C := "NumberProbeModel") (T := TM) (N := 12) hx hb ht inM hown hK hM.1 0 rfl rfl 7 (by decide) (ht _ tm_325) (fun _ h9 => h9) rfl md_M_divide_132 ?_
                      refine lv_lconst (v := 0) hx hb md_M_divide_135 (by decide) ?_
                      refine W.lcmp hx hb md_M_divide_136 ?_
                      refine lv_if_ne (tgt := 148) hx hb md_M_divide_137 (by decide) (fun c_124 => ?_) (fun c_124 => ?_)
                      · refine lv_bipush (v := 53) hx hb md_M_divide_148 (by decide) ?_
                        refine lv_aload_n hx hb md_M_divide_150 rfl (lv_at hl 2 rfl) ?_
                        refine va_get (D := D) (ci := 1) (v := .long (rf_man p0 p1)) (C := "NumberProbeModel") (T := TM) (N := 12) hx hb ht inM hown hK hM.1 0 rfl rfl 7 (by decide) (ht _ tm_325) (fun _ h9 => h9) rfl md_M_divide_151 ?_
                        refine vp_callSi (W.runS (As := [.long (rf_man p0 p1)]) (rest := [.int 53]) ⟨hx, hb, hml, hown, hts⟩ (mt_M_length l (rf_man p0 p1)) (va_cwS 1 hts (gd_S tm_404 tm_405 tm_25 tm_406) rfl rfl rfl (by decide +kernel) ⟨Nat.le_of_ble_eq_true rfl, Nat.le_of_ble_eq_true rfl⟩) ⟨fb_0, fun U hU hW => ⟨rfl, trivial⟩⟩ rfl rfl hl.1 rfl (lv_room (Nat.le_of_ble_eq_true rfl)) md_M_divide_154 ⟨Nat.zero_le _, Nat.zero_le _⟩) (fun r_125 e_126 => ?_)
                        refine lv_isub hx hb md_M_divide_157 ?_
                        refine lv_istore (lv' := [(8, .int (53 - r_125)), (7, .int (jb z_19)), (6, .int (jb z_13)), (0, .ref h0), (1, .int p0), (2, .long p1), (4, .long p2)]) hx hb md_M_divide_158 hl (by decide) rfl (fun ls hl => ?_)
                        refine lv_bipush (v := 53) hx hb md_M_divide_160 (by decide) ?_
                        refine lv_aload_n hx hb md_M_divide_162 rfl (lv_at hl 3 rfl) ?_
                        refine va_get (D := D) (ci := 1) (v := .long (rf_man p0 p2)) (C := "NumberProbeModel") (T := TM) (N := 12) hx hb ht inM hown hK hM.1 0 rfl rfl 8 (by decide) (ht _ tm_326) (fun _ h9 => h9) rfl md_M_divide_163 ?_
                        refine vp_callSi (W.runS (As := [.long (rf_man p0 p2)]) (rest := [.int 53]) ⟨hx, hb, hml, hown, hts⟩ (mt_M_length l (rf_man p0 p2)) (va_cwS 1 hts (gd_S tm_404 tm_405 tm_25 tm_406) rfl rfl rfl (by decide +kernel) ⟨Nat.le_of_ble_eq_true rfl, Nat.le_of_ble_eq_true rfl⟩) ⟨fb_0, fun U hU hW => ⟨rfl, trivial⟩⟩ rfl rfl hl.1 rfl (lv_room (Nat.le_of_ble_eq_true rfl)) md_M_divide_166 ⟨Nat.zero_le _, Nat.zero_le _⟩) (fun r_127 e_128 => ?_)
                        refine lv_isub hx hb md_M_divide_169 ?_
                        refine lv_istore (lv' := [(9, .int (53 - r_127)), (8, .int (53 - r_125)), (7, .int (jb z_19)), (6, .int (jb z_13)), (0, .ref h0), (1, .int p0), (2, .long p1), (4, .long p2)]) hx hb md_M_divide_170 hl (by decide) rfl (fun ls hl => ?_)
                        refine lv_aload_n hx hb md_M_divide_172 rfl (lv_at hl 4 rfl) ?_
                        refine va_get (D := D) (ci := 1) (v := .long (rf_man p0 p1)) (C := "NumberProbeModel") (T := TM) (N := 12) hx hb ht inM hown hK hM.1 0 rfl rfl 7 (by decide) (ht _ tm_325) (fun _ h9 => h9) rfl md_M_divide_173 ?_
                        refine lv_iload hx hb md_M_divide_176 (lv_at hl 1 rfl) ?_
                        refine lv_lshl (v := jl_shl (rf_man p0 p1) (53 - r_125)) hx hb md_M_divide_178 rfl ?_
                        refine lv_lstore (lv' := [(10, .long (jl_shl (rf_man p0 p1) (53 - r_125))), (9, .int (53 - r_127)), (8, .int (53 - r_125)), (7, .int (jb z_19)), (6, .int (jb z_13)), (0, .ref h0), (1, .int p0), (2, .long p1), (4, .long p2)]) hx hb md_M_divide_179 hl (by decide) rfl (fun ls hl => ?_)
                        refine lv_aload_n hx hb md_M_divide_181 rfl (lv_at hl 5 rfl) ?_
                        refine va_get (D := D) (ci := 1) (v := .long (rf_man p0 p2)) (C := "NumberProbeModel") (T := TM) (N := 12) hx hb ht inM hown hK hM.1 0 rfl rfl 8 (by decide) (ht _ tm_326) (fun _ h9 => h9) rfl md_M_divide_182 ?_
                        refine lv_iload hx hb md_M_divide_185 (lv_at hl 1 rfl) ?_
                        refine lv_lshl (v := jl_shl (rf_man p0 p2) (53 - r_127)) hx hb md_M_divide_187 rfl ?_
                        refine lv_lstore (lv' := [(12, .long (jl_shl (rf_man p0 p2) (53 - r_127))), (10, .long (jl_shl (rf_man p0 p1) (53 - r_125))), (9, .int (53 - r_127)), (8, .int (53 - r_125)), (7, .int (jb z_19)), (6, .int (jb z_13)), (0, .ref h0), (1, .int p0), (2, .long p1), (4, .long p2)]) hx hb md_M_divide_188 hl (by decide) rfl (fun ls hl => ?_)
                        refine lv_lconst (v := 0) hx hb md_M_divide_190 (by decide) ?_
                        refine lv_lstore (lv' := [(14, .long 0), (12, .long (jl_shl (rf_man p0 p2) (53 - r_127))), (10, .long (jl_shl (rf_man p0 p1) (53 - r_125))), (9, .int (53 - r_127)), (8, .int (53 - r_125)), (7, .int (jb z_19)), (6, .int (jb z_13)), (0, .ref h0), (1, .int p0), (2, .long p1), (4, .long p2)]) hx hb md_M_divide_191 hl (by decide) rfl (fun ls hl => ?_)
                        refine lv_iconst (v := 0) hx hb md_M_divide_193 (by decide) ?_
                        refine lv_istore (lv' := [(16, .int 0), (14, .long 0), (12, .long (jl_shl (rf_man p0 p2) (53 - r_127))), (10, .long (jl_shl (rf_man p0 p1) (53 - r_125))), (9, .int (53 - r_127)), (8, .int (53 - r_125)), (7, .int (jb z_19)), (6, .int (jb z_13)), (0, .ref h0), (1, .int p0), (2, .long p1), (4, .long p2)]) hx hb md_M_divide_194 hl (by decide) rfl (fun ls hl => ?_)
                        have L_129 : ∀ (n : Nat) (z_130 : Int32) (z_131 : Int64) (z_132 : Int64) (ls : Array Slot), ((58 : Int32).toInt - z_130.toInt).toNat ≤ n → lv_has ls 17 [(16, .int z_130), (14, .long z_131), (12, .long (jl_shl (rf_man p0 p2) (53 - r_127))), (10, .long z_132), (9, .int (53 - r_127)), (8, .int (53 - r_125)), (7, .int (jb z_19)), (6, .int (jb z_13)), (0, .ref h0), (1, .int p0), (2, .long p1), (4, .long p2)] → W p l e (headSpec mw_M_divide ({ frames := 4, cells := 0, slots := 0, locals := 91 } : Room)).room s m ([.ref h0, .int p0, .long p1, .long p2] : List Value).toArray below meth c H_9 L_10 0 0 (MQ below (MQl D cL h0 q0 A (fun (r : Int64) (v : MT) => True)) ([.ref h0, .int p0, .long p1, .long p2] : List Value).toArray s 0 0 A) (F0 m 196 ls []) := by
                          intro n
                          induction n with
                          | zero =>
                            intro z_130 z_131 z_132 ls hn hl
                            refine lv_iload hx hb md_M_divide_196 (lv_at hl 0 rfl) ?_
                            refine lv_bipush (v := 58) hx hb md_M_divide_198 (by decide) ?_
                            refine lv_icmp_ge (tgt := 242) hx hb md_M_divide_200 (by decide) (fun c_133 => ?_) (fun c_133 => ?_)
                            · refine lv_lload hx hb md_M_divide_242 (lv_at hl 3 rfl) ?_
                              refine lv_lconst (v := 0) hx hb md_M_divide_244 (by decide) ?_
                              refine W.lcmp hx hb md_M_divide_245 ?_
                              have J_135 : ∀ (z_136 : Int64) (ls : Array Slot), lv_has ls 17 [(16, .int z_130), (14, .long z_136), (12, .long (jl_shl (rf_man p0 p2) (53 - r_127))), (10, .long z_132), (9, .int (53 - r_127)), (8, .int (53 - r_125)), (7, .int (jb z_19)), (6, .int (jb z_13)), (0, .ref h0), (1, .int p0), (2, .long p1), (4, .long p2)] → W p l e (headSpec mw_M_divide ({ frames := 4, cells := 0, slots := 0, locals := 91 } : Room)).room s m ([.ref h0, .int p0, .long p1, .long p2] : List Value).toArray below meth c H_9 L_10 0 0 (MQ below (MQl D cL h0 q0 A (fun (r : Int64) (v : MT) => True)) ([.ref h0, .int p0, .long p1, .long p2] : List Value).toArray s 0 0 A) (F0 m 255 ls []) := by
                                intro z_136 ls hl
                                refine lv_iload_n hx hb md_M_divide_255 rfl (lv_at hl 9 rfl) ?_
                                refine lv_iload hx hb md_M_divide_256 (lv_at hl 7 rfl) ?_
                                refine lv_lload hx hb md_M_divide_258 (lv_at hl 1 rfl) ?_
                                refine lv_aload_n hx hb md_M_divide_260 rfl (lv_at hl 8 rfl) ?_
                                refine va_get (D := D) (ci := 1) (v := .int (rf_pow p0 p1)) (C := "NumberProbeModel") (T := TM) (N := 12) hx hb ht inM hown hK hM.1 0 rfl rfl 9 (by decide) (ht _ tm_327) (fun _ h9 => h9) rfl md_M_divide_261 ?_
                                refine lv_iload hx hb md_M_divide_264 (lv_at hl 5 rfl) ?_
                                refine lv_isub hx hb md_M_divide_266 ?_
                                refine lv_aload_n hx hb md_M_divide_267 rfl (lv_at hl 8 rfl) ?_
                                refine va_get (D := D) (ci := 1) (v := .int (rf_pow p0 p2)) (C := "NumberProbeModel") (T := TM) (N := 12) hx hb ht inM hown hK hM.1 0 rfl rfl 10 (by decide) (ht _ tm_328) (fun _ h9 => h9) rfl md_M_divide_268 ?_
                                refine lv_isub hx hb md_M_divide_271 ?_
                                refine lv_iload hx hb md_M_divide_272 (lv_at hl 4 rfl) ?_
                                refine lv_iadd hx hb md_M_divide_274 ?_
                                refine lv_bipush (v := 57) hx hb md_M_divide_275 (by decide) ?_
                                refine lv_isub hx hb md_M_divide_277 ?_
                                refine vp_callSl (W.runS (As := [.int p0, .int (jb z_13), .long z_136, .int (((((rf_pow p0 p1) - (53 - r_125)) - (rf_pow p0 p2)) + (53 - r_127)) - 57)]) (rest := []) ⟨hx, hb, hml, hown, hts⟩ (mt_M_round l p0 z_13 z_136 (((((rf_pow p0 p1) - (53 - r_125)) - (rf_pow p0 p2)) + (53 - r_127)) - 57)) (va_cwS 4 hts (gd_S tm_398 tm_399 tm_25 tm_400) rfl rfl rfl (by decide +kernel) ⟨Nat.le_of_ble_eq_true rfl, Nat.le_of_ble_eq_true rfl⟩) ⟨fb_0, fun U hU hW => ⟨rfl, trivial⟩⟩ rfl rfl hl.1 rfl (lv_room (Nat.le_of_ble_eq_true rfl)) md_M_divide_278 ⟨Nat.zero_le _, Nat.zero_le _⟩) (fun r_137 e_138 => ?_)
                                exact W.lret (v := r_137) hx hb hr (fun t ht2 _ => ⟨⟨r_137, mtY p0 p2 (mtX p0 p1 u), rfl, trivial, by show MWd D cL h0 q0 A _ t.heap; rw [ht2]; exact hM⟩, hS.F ht2⟩) hS.2.2 md_M_divide_281
                              refine lv_if_eq (tgt := 255) hx hb md_M_divide_246 (by decide) (fun c_134 => ?_) (fun c_134 => ?_)
                              · exact J_135 z_131 ls (lv_sub hl [0, 1, 2, 3, 4, 5, 6, 7, 8, 9, 10, 11] rfl)
                              · refine lv_lload hx hb md_M_divide_249 (lv_at hl 1 rfl) ?_
                                refine lv_lconst (v := 1) hx hb md_M_divide_251 (by decide) ?_
                                refine lv_lor hx hb md_M_divide_252 ?_
                                refine lv_lstore (lv' := [(14, .long (z_131 ||| 1)), (16, .int z_130), (12, .long (jl_shl (rf_man p0 p2) (53 - r_127))), (10, .long z_132), (9, .int (53 - r_127)), (8, .int (53 - r_125)), (7, .int (jb z_19)), (6, .int (jb z_13)), (0, .ref h0), (1, .int p0), (2, .long p1), (4, .long p2)]) hx hb md_M_divide_253 hl (by decide) rfl (fun ls hl => ?_)
                                exact J_135 (z_131 ||| 1) ls (lv_sub hl [1, 0, 2, 3, 4, 5, 6, 7, 8, 9, 10, 11] rfl)
                            · exact (lu_0 (Int32.not_le.mp c_133) hn).elim
                          | succ n ih =>
                            intro z_130 z_131 z_132 ls hn hl
                            refine lv_iload hx hb md_M_divide_196 (lv_at hl 0 rfl) ?_
                            refine lv_bipush (v := 58) hx hb md_M_divide_198 (by decide) ?_
                            refine lv_icmp_ge (tgt := 242) hx hb md_M_divide_200 (by decide) (fun c_139 => ?_) (fun c_139 => ?_)
                            · refine lv_lload hx hb md_M_divide_242 (lv_at hl 3 rfl) ?_
                              refine lv_lconst (v := 0) hx hb md_M_divide_244 (by decide) ?_
                              refine W.lcmp hx hb md_M_divide_245 ?_
                              have J_141 : ∀ (z_142 : Int64) (ls : Array Slot), lv_has ls 17 [(16, .int z_130), (14, .long z_142), (12, .long (jl_shl (rf_man p0 p2) (53 - r_127))), (10, .long z_132), (9, .int (53 - r_127)), (8, .int (53 - r_125)), (7, .int (jb z_19)), (6, .int (jb z_13)), (0, .ref h0), (1, .int p0), (2, .long p1), (4, .long p2)] → W p l e (headSpec mw_M_divide ({ frames := 4, cells := 0, slots := 0, locals := 91 } : Room)).room s m ([.ref h0, .int p0, .long p1, .long p2] : List Value).toArray below meth c H_9 L_10 0 0 (MQ below (MQl D cL h0 q0 A (fun (r : Int64) (v : MT) => True)) ([.ref h0, .int p0, .long p1, .long p2] : List Value).toArray s 0 0 A) (F0 m 255 ls []) := by
                                intro z_142 ls hl
                                refine lv_iload_n hx hb md_M_divide_255 rfl (lv_at hl 9 rfl) ?_
                                refine lv_iload hx hb md_M_divide_256 (lv_at hl 7 rfl) ?_
                                refine lv_lload hx hb md_M_divide_258 (lv_at hl 1 rfl) ?_
                                refine lv_aload_n hx hb md_M_divide_260 rfl (lv_at hl 8 rfl) ?_
                                refine va_get (D := D) (ci := 1) (v := .int (rf_pow p0 p1)) (C := "NumberProbeModel") (T := TM) (N := 12) hx hb ht inM hown hK hM.1 0 rfl rfl 9 (by decide) (ht _ tm_327) (fun _ h9 => h9) rfl md_M_divide_261 ?_
                                refine lv_iload hx hb md_M_divide_264 (lv_at hl 5 rfl) ?_
                                refine lv_isub hx hb md_M_divide_266 ?_
                                refine lv_aload_n hx hb md_M_divide_267 rfl (lv_at hl 8 rfl) ?_
                                refine va_get (D := D) (ci := 1) (v := .int (rf_pow p0 p2)) (C := "NumberProbeModel") (T := TM) (N := 12) hx hb ht inM hown hK hM.1 0 rfl rfl 10 (by decide) (ht _ tm_328) (fun _ h9 => h9) rfl md_M_divide_268 ?_
                                refine lv_isub hx hb md_M_divide_271 ?_
                                refine lv_iload hx hb md_M_divide_272 (lv_at hl 4 rfl) ?_
                                refine lv_iadd hx hb md_M_divide_274 ?_
                                refine lv_bipush (v := 57) hx hb md_M_divide_275 (by decide) ?_
                                refine lv_isub hx hb md_M_divide_277 ?_
                                refine vp_callSl (W.runS (As := [.int p0, .int (jb z_13), .long z_142, .int (((((rf_pow p0 p1) - (53 - r_125)) - (rf_pow p0 p2)) + (53 - r_127)) - 57)]) (rest := []) ⟨hx, hb, hml, hown, hts⟩ (mt_M_round l p0 z_13 z_142 (((((rf_pow p0 p1) - (53 - r_125)) - (rf_pow p0 p2)) + (53 - r_127)) - 57)) (va_cwS 4 hts (gd_S tm_398 tm_399 tm_25 tm_400) rfl rfl rfl (by decide +kernel) ⟨Nat.le_of_ble_eq_true rfl, Nat.le_of_ble_eq_true rfl⟩) ⟨fb_0, fun U hU hW => ⟨rfl, trivial⟩⟩ rfl rfl hl.1 rfl (lv_room (Nat.le_of_ble_eq_true rfl)) md_M_divide_278 ⟨Nat.zero_le _, Nat.zero_le _⟩) (fun r_143 e_144 => ?_)
                                exact W.lret (v := r_143) hx hb hr (fun t ht2 _ => ⟨⟨r_143, mtY p0 p2 (mtX p0 p1 u), rfl, trivial, by show MWd D cL h0 q0 A _ t.heap; rw [ht2]; exact hM⟩, hS.F ht2⟩) hS.2.2 md_M_divide_281
                              refine lv_if_eq (tgt := 255) hx hb md_M_divide_246 (by decide) (fun c_140 => ?_) (fun c_140 => ?_)
                              · exact J_141 z_131 ls (lv_sub hl [0, 1, 2, 3, 4, 5, 6, 7, 8, 9, 10, 11] rfl)
                              · refine lv_lload hx hb md_M_divide_249 (lv_at hl 1 rfl) ?_
                                refine lv_lconst (v := 1) hx hb md_M_divide_251 (by decide) ?_
                                refine lv_lor hx hb md_M_divide_252 ?_
                                refine lv_lstore (lv' := [(14, .long (z_131 ||| 1)), (16, .int z_130), (12, .long (jl_shl (rf_man p0 p2) (53 - r_127))), (10, .long z_132), (9, .int (53 - r_127)), (8, .int (53 - r_125)), (7, .int (jb z_19)), (6, .int (jb z_13)), (0, .ref h0), (1, .int p0), (2, .long p1), (4, .long p2)]) hx hb md_M_divide_253 hl (by decide) rfl (fun ls hl => ?_)
                                exact J_141 (z_131 ||| 1) ls (lv_sub hl [1, 0, 2, 3, 4, 5, 6, 7, 8, 9, 10, 11] rfl)
                            · refine lv_lload hx hb md_M_divide_203 (lv_at hl 1 rfl) ?_
                              refine lv_iconst (v := 1) hx hb md_M_divide_205 (by decide) ?_
                              refine lv_lshl (v := jl_shl z_131 1) hx hb md_M_divide_206 rfl ?_
                              refine lv_lstore (lv' := [(14, .long (jl_shl z_131 1)), (16, .int z_130), (12, .long (jl_shl (rf_man p0 p2) (53 - r_127))), (10, .long z_132), (9, .int (53 - r_127)), (8, .int (53 - r_125)), (7, .int (jb z_19)), (6, .int (jb z_13)), (0, .ref h0), (1, .int p0), (2, .long p1), (4, .long p2)]) hx hb md_M_divide_207 hl (by decide) rfl (fun ls hl => ?_)
                              refine lv_lload hx hb md_M_divide_209 (lv_at hl 3 rfl) ?_
                              refine lv_lload hx hb md_M_divide_211 (lv_at hl 2 rfl) ?_
                              refine W.lcmp hx hb md_M_divide_213 ?_
                              have J_146 : ∀ (z_147 : Int64) (z_148 : Int64) (ls : Array Slot), lv_has ls 17 [(14, .long z_147), (16, .int z_130), (12, .long (jl_shl (rf_man p0 p2) (53 - r_127))), (10, .long z_148), (9, .int (53 - r_127)), (8, .int (53 - r_125)), (7, .int (jb z_19)), (6, .int (jb z_13)), (0, .ref h0), (1, .int p0), (2, .long p1), (4, .long p2)] → W p l e (headSpec mw_M_divide ({ frames := 4, cells := 0, slots := 0, locals := 91 } : Room)).room s m ([.ref h0, .int p0, .long p1, .long p2] : List Value).toArray below meth c H_9 L_10 0 0 (MQ below (MQl D cL h0 q0 A (fun (r : Int64) (v : MT) => True)) ([.ref h0, .int p0, .long p1, .long p2] : List Value).toArray s 0 0 A) (F0 m 230 ls []) := by
                                intro z_147 z_148 ls hl
                                refine lv_lload hx hb md_M_divide_230 (lv_at hl 3 rfl) ?_
                                refine lv_iconst (v := 1) hx hb md_M_divide_232 (by decide) ?_
                                refine lv_lshl (v := jl_shl z_148 1) hx hb md_M_divide_233 rfl ?_
                                refine lv_lstore (lv' := [(10, .long (jl_shl z_148 1)), (14, .long z_147), (16, .int z_130), (12, .long (jl_shl (rf_man p0 p2) (53 - r_127))), (9, .int (53 - r_127)), (8, .int (53 - r_125)), (7, .int (jb z_19)), (6, .int (jb z_13)), (0, .ref h0), (1, .int p0), (2, .long p1), (4, .long p2)]) hx hb md_M_divide_234 hl (by decide) rfl (fun ls hl => ?_)
                                refine lv_iinc (v := z_130 + 1) (lv' := [(16, .int (z_130 + 1)), (10, .long (jl_shl z_148 1)), (14, .long z_147), (12, .long (jl_shl (rf_man p0 p2) (53 - r_127))), (9, .int (53 - r_127)), (8, .int (53 - r_125)), (7, .int (jb z_19)), (6, .int (jb z_13)), (0, .ref h0), (1, .int p0), (2, .long p1), (4, .long p2)]) hx hb md_M_divide_236 hl (k := 2) rfl rfl (by decide) rfl (fun ls hl => ?_)
                                refine lv_goto (tgt := 196) hx hb md_M_divide_239 (by decide) ?_
                                exact ih (z_130 + 1) z_147 (jl_shl z_148 1) ls (lu_s (Int32.not_le.mp c_139) hn) (lv_sub hl [0, 2, 3, 1, 4, 5, 6, 7, 8, 9, 10, 11] rfl)
                              refine lv_if_lt (tgt := 230) hx hb md_M_divide_214 (by decide) (fun c_145 => ?_) (fun c_145 => ?_)
                              · exact J_146 (jl_shl z_131 1) z_132 ls (lv_sub hl [0, 1, 2, 3, 4, 5, 6, 7, 8, 9, 10, 11] rfl)
                              · refine lv_lload hx hb md_M_divide_217 (lv_at hl 3 rfl) ?_
                                refine lv_lload hx hb md_M_divide_219 (lv_at hl 2 rfl) ?_
                                refine lv_lsub hx hb md_M_divide_221 ?_
                                refine lv_lstore (lv' := [(10, .long (z_132 - (jl_shl (rf_man p0 p2) (53 - r_127)))), (14, .long (jl_shl z_131 1)), (16, .int z_130), (12, .long (jl_shl (rf_man p0 p2) (53 - r_127))), (9, .int (53 - r_127)), (8, .int (53 - r_125)), (7, .int (jb z_19)), (6, .int (jb z_13)), (0, .ref h0), (1, .int p0), (2, .long p1), (4, .long p2)]) hx hb md_M_divide_222 hl (by decide) rfl (fun ls hl => ?_)
                                refine lv_lload hx hb md_M_divide_224 (lv_at hl 1 rfl) ?_
                                refine lv_lconst (v := 1) hx hb md_M_divide_226 (by decide) ?_
                                refine lv_ladd hx hb md_M_divide_227 ?_
                                refine lv_lstore (lv' := [(14, .long ((jl_shl z_131 1) + 1)), (10, .long (z_132 - (jl_shl (rf_man p0 p2) (53 - r_127)))), (16, .int z_130), (12, .long (jl_shl (rf_man p0 p2) (53 - r_127))), (9, .int (53 - r_127)), (8, .int (53 - r_125)), (7, .int (jb z_19)), (6, .int (jb z_13)), (0, .ref h0), (1, .int p0), (2, .long p1), (4, .long p2)]) hx hb md_M_divide_228 hl (by decide) rfl (fun ls hl => ?_)
                                exact J_146 ((jl_shl z_131 1) + 1) (z_132 - (jl_shl (rf_man p0 p2) (53 - r_127))) ls (lv_sub hl [0, 2, 3, 1, 4, 5, 6, 7, 8, 9, 10, 11] rfl)
                        exact L_129 _ 0 0 (jl_shl (rf_man p0 p1) (53 - r_125)) ls (Nat.le_refl _) (lv_sub hl [0, 1, 2, 3, 4, 5, 6, 7, 8, 9, 10, 11] rfl)
                      · refine lv_iload_n hx hb md_M_divide_140 rfl (lv_at hl 3 rfl) ?_
                        refine lv_iload hx hb md_M_divide_141 (lv_at hl 1 rfl) ?_
                        refine lv_lconst (v := 0) hx hb md_M_divide_143 (by decide) ?_
                        refine vp_callSl (W.runS (As := [.int p0, .int (jb z_13), .long 0]) (rest := []) ⟨hx, hb, hml, hown, hts⟩ (mt_M_signed l p0 z_13 0) (va_cwS 3 hts (gd_S tm_401 tm_402 tm_25 tm_403) rfl rfl rfl (by decide +kernel) ⟨Nat.le_of_ble_eq_true rfl, Nat.le_of_ble_eq_true rfl⟩) ⟨fb_0, fun U hU hW => ⟨rfl, trivial⟩⟩ rfl rfl hl.1 rfl (lv_room (Nat.le_of_ble_eq_true rfl)) md_M_divide_144 ⟨Nat.zero_le _, Nat.zero_le _⟩) (fun r_149 e_150 => ?_)
                        exact W.lret (v := r_149) hx hb hr (fun t ht2 _ => ⟨⟨r_149, mtY p0 p2 (mtX p0 p1 u), rfl, trivial, by show MWd D cL h0 q0 A _ t.heap; rw [ht2]; exact hM⟩, hS.F ht2⟩) hS.2.2 md_M_divide_147
                  · refine lv_iload_n hx hb md_M_divide_113 rfl (lv_at hl 3 rfl) ?_
                    refine lv_iload hx hb md_M_divide_114 (lv_at hl 1 rfl) ?_
                    refine lv_iload_n hx hb md_M_divide_116 rfl (lv_at hl 3 rfl) ?_
                    refine vp_callSl (W.runS (As := [.int p0]) (rest := [.int (jb z_13), .int p0]) ⟨hx, hb, hml, hown, hts⟩ (mt_M_infinity l p0) (va_cwS 1 hts (gd_S tm_377 tm_378 tm_25 tm_379) rfl rfl rfl (by decide +kernel) ⟨Nat.le_of_ble_eq_true rfl, Nat.le_of_ble_eq_true rfl⟩) ⟨fb_0, fun U hU hW => ⟨rfl, trivial⟩⟩ rfl rfl hl.1 rfl (lv_room (Nat.le_of_ble_eq_true rfl)) md_M_divide_117 ⟨Nat.zero_le _, Nat.zero_le _⟩) (fun r_151 e_152 => ?_)
                    obtain rfl : r_151 = rf_if p0 := e_152
                    refine vp_callSl (W.runS (As := [.int p0, .int (jb z_13), .long (rf_if p0)]) (rest := []) ⟨hx, hb, hml, hown, hts⟩ (mt_M_signed l p0 z_13 (rf_if p0)) (va_cwS 3 hts (gd_S tm_401 tm_402 tm_25 tm_403) rfl rfl rfl (by decide +kernel) ⟨Nat.le_of_ble_eq_true rfl, Nat.le_of_ble_eq_true rfl⟩) ⟨fb_0, fun U hU hW => ⟨rfl, trivial⟩⟩ rfl rfl hl.1 rfl (lv_room (Nat.le_of_ble_eq_true rfl)) md_M_divide_120 ⟨Nat.zero_le _, Nat.zero_le _⟩) (fun r_153 e_154 => ?_)
                    exact W.lret (v := r_153) hx hb hr (fun t ht2 _ => ⟨⟨r_153, mtY p0 p2 (mtX p0 p1 u), rfl, trivial, by show MWd D cL h0 q0 A _ t.heap; rw [ht2]; exact hM⟩, hS.F ht2⟩) hS.2.2 md_M_divide_123
              · refine lv_aload_n hx hb md_M_divide_87 rfl (lv_at hl 2 rfl) ?_
                refine va_get (D := D) (ci := 1) (v := .long (rf_man p0 p1)) (C := "NumberProbeModel") (T := TM) (N := 12) hx hb ht inM hown hK hM.1 0 rfl rfl 7 (by decide) (ht _ tm_325) (fun _ h9 => h9) rfl md_M_divide_88 ?_
                refine lv_lconst (v := 0) hx hb md_M_divide_91 (by decide) ?_
                refine W.lcmp hx hb md_M_divide_92 ?_
                refine lv_if_ne (tgt := 101) hx hb md_M_divide_93 (by decide) (fun c_155 => ?_) (fun c_155 => ?_)
                · refine lv_aload_n hx hb md_M_divide_101 rfl (lv_at hl 2 rfl) ?_
                  refine va_get (D := D) (ci := 1) (v := .int (jb (rf_isI p0 p1))) (C := "NumberProbeModel") (T := TM) (N := 12) hx hb ht inM hown hK hM.1 0 rfl rfl 5 (by decide) (ht _ tm_323) (fun _ h9 => h9) rfl md_M_divide_102 ?_
                  refine lv_if_ne (tgt := 113) hx hb md_M_divide_105 (by decide) (fun c_156 => ?_) (fun c_156 => ?_)
                  · refine lv_iload_n hx hb md_M_divide_113 rfl (lv_at hl 3 rfl) ?_
                    refine lv_iload hx hb md_M_divide_114 (lv_at hl 1 rfl) ?_
                    refine lv_iload_n hx hb md_M_divide_116 rfl (lv_at hl 3 rfl) ?_
                    refine vp_callSl (W.runS (As := [.int p0]) (rest := [.int (jb z_13), .int p0]) ⟨hx, hb, hml, hown, hts⟩ (mt_M_infinity l p0) (va_cwS 1 hts (gd_S tm_377 tm_378 tm_25 tm_379) rfl rfl rfl (by decide +kernel) ⟨Nat.le_of_ble_eq_true rfl, Nat.le_of_ble_eq_true rfl⟩) ⟨fb_0, fun U hU hW => ⟨rfl, trivial⟩⟩ rfl rfl hl.1 rfl (lv_room (Nat.le_of_ble_eq_true rfl)) md_M_divide_117 ⟨Nat.zero_le _, Nat.zero_le _⟩) (fun r_157 e_158 => ?_)
                    obtain rfl : r_157 = rf_if p0 := e_158
                    refine vp_callSl (W.runS (As := [.int p0, .int (jb z_13), .long (rf_if p0)]) (rest := []) ⟨hx, hb, hml, hown, hts⟩ (mt_M_signed l p0 z_13 (rf_if p0)) (va_cwS 3 hts (gd_S tm_401 tm_402 tm_25 tm_403) rfl rfl rfl (by decide +kernel) ⟨Nat.le_of_ble_eq_true rfl, Nat.le_of_ble_eq_true rfl⟩) ⟨fb_0, fun U hU hW => ⟨rfl, trivial⟩⟩ rfl rfl hl.1 rfl (lv_room (Nat.le_of_ble_eq_true rfl)) md_M_divide_120 ⟨Nat.zero_le _, Nat.zero_le _⟩) (fun r_159 e_160 => ?_)
                    exact W.lret (v := r_159) hx hb hr (fun t ht2 _ => ⟨⟨r_159, mtY p0 p2 (mtX p0 p1 u), rfl, trivial, by show MWd D cL h0 q0 A _ t.heap; rw [ht2]; exact hM⟩, hS.F ht2⟩) hS.2.2 md_M_divide_123
                  · refine lv_iload hx hb md_M_divide_108 (lv_at hl 0 rfl) ?_
                    refine lv_if_eq (tgt := 124) hx hb md_M_divide_110 (by decide) (fun c_161 => ?_) (fun c_161 => ?_)
                    · refine lv_aload_n hx hb md_M_divide_124 rfl (lv_at hl 2 rfl) ?_
                      refine va_get (D := D) (ci := 1) (v := .int (jb (rf_isI p0 p2))) (C := "NumberProbeModel") (T := TM) (N := 12) hx hb ht inM hown hK hM.1 0 rfl rfl 6 (by decide) (ht _ tm_324) (fun _ h9 => h9) rfl md_M_divide_125 ?_
                      refine lv_if_ne (tgt := 140) hx hb md_M_divide_128 (by decide) (fun c_162 => ?_) (fun c_162 => ?_)
                      · refine lv_iload_n hx hb md_M_divide_140 rfl (lv_at hl 3 rfl) ?_
                        refine lv_iload hx hb md_M_divide_141 (lv_at hl 1 rfl) ?_
                        refine lv_lconst (v := 0) hx hb md_M_divide_143 (by decide) ?_
                        refine vp_callSl (W.runS (As := [.int p0, .int (jb z_13), .long 0]) (rest := []) ⟨hx, hb, hml, hown, hts⟩ (mt_M_signed l p0 z_13 0) (va_cwS 3 hts (gd_S tm_401 tm_402 tm_25 tm_403) rfl rfl rfl (by decide +kernel) ⟨Nat.le_of_ble_eq_true rfl, Nat.le_of_ble_eq_true rfl⟩) ⟨fb_0, fun U hU hW => ⟨rfl, trivial⟩⟩ rfl rfl hl.1 rfl (lv_room (Nat.le_of_ble_eq_true rfl)) md_M_divide_144 ⟨Nat.zero_le _, Nat.zero_le _⟩) (fun r_163 e_164 => ?_)
                        exact W.lret (v := r_163) hx hb hr (fun t ht2 _ => ⟨⟨r_163, mtY p0 p2 (mtX p0 p1 u), rfl, trivial, by show MWd D cL h0 q0 A _ t.heap; rw [ht2]; exact hM⟩, hS.F ht2⟩) hS.2.2 md_M_divide_147
                      · refine lv_aload_n hx hb md_M_divide_131 rfl (lv_at hl 2 rfl) ?_
                        refine va_get (D := D) (ci := 1) (v := .long (rf_man p0 p1)) (C := "NumberProbeModel") (T := TM) (N := 12) hx hb ht inM hown hK hM.1 0 rfl rfl 7 (by decide) (ht _ tm_325) (fun _ h9 => h9) rfl md_M_divide_132 ?_
                        refine lv_lconst (v := 0) hx hb md_M_divide_135 (by decide) ?_
                        refine W.lcmp hx hb md_M_divide_136 ?_
                        refine lv_if_ne (tgt := 148) hx hb md_M_divide_137 (by decide) (fun c_165 => ?_) (fun c_165 => ?_)
                        · refine lv_bipush (v := 53) hx hb md_M_divide_148 (by decide) ?_
                          refine lv_aload_n hx hb md_M_divide_150 rfl (lv_at hl 2 rfl) ?_
                          refine va_get (D := D) (ci := 1) (v := .long (rf_man p0 p1)) (C := "NumberProbeModel") (T := TM) (N := 12) hx hb ht inM hown hK hM.1 0 rfl rfl 7 (by decide) (ht _ tm_325) (fun _ h9 => h9) rfl md_M_divide_151 ?_
                          refine vp_callSi (W.runS (As := [.long (rf_man p0 p1)]) (rest := [.int 53]) ⟨hx, hb, hml, hown, hts⟩ (mt_M_length l (rf_man p0 p1)) (va_cwS 1 hts (gd_S tm_404 tm_405 tm_25 tm_406) rfl rfl rfl (by decide +kernel) ⟨Nat.le_of_ble_eq_true rfl, Nat.le_of_ble_eq_true rfl⟩) ⟨fb_0, fun U hU hW => ⟨rfl, trivial⟩⟩ rfl rfl hl.1 rfl (lv_room (Nat.le_of_ble_eq_true rfl)) md_M_divide_154 ⟨Nat.zero_le _, Nat.zero_le _⟩) (fun r_166 e_167 => ?_)
                          refine lv_isub hx hb md_M_divide_157 ?_
                          refine lv_istore (lv' := [(8, .int (53 - r_166)), (7, .int (jb z_19)), (6, .int (jb z_13)), (0, .ref h0), (1, .int p0), (2, .long p1), (4, .long p2)]) hx hb md_M_divide_158 hl (by decide) rfl (fun ls hl => ?_)
                          refine lv_bipush (v := 53) hx hb md_M_divide_160 (by decide) ?_
                          refine lv_aload_n hx hb md_M_divide_162 rfl (lv_at hl 3 rfl) ?_
                          refine va_get (D := D) (ci := 1) (v := .long (rf_man p0 p2)) (C := "NumberProbeModel") (T := TM) (N := 12) hx hb ht inM hown hK hM.1 0 rfl rfl 8 (by decide) (ht _ tm_326) (fun _ h9 => h9) rfl md_M_divide_163 ?_
                          refine vp_callSi (W.runS (As := [.long (rf_man p0 p2)]) (rest := [.int 53]) ⟨hx, hb, hml, hown, hts⟩ (mt_M_length l (rf_man p0 p2)) (va_cwS 1 hts (gd_S tm_404 tm_405 tm_25 tm_406) rfl rfl rfl (by decide +kernel) ⟨Nat.le_of_ble_eq_true rfl, Nat.le_of_ble_eq_true rfl⟩) ⟨fb_0, fun U hU hW => ⟨rfl, trivial⟩⟩ rfl rfl hl.1 rfl (lv_room (Nat.le_of_ble_eq_true rfl)) md_M_divide_166 ⟨Nat.zero_le _, Nat.zero_le _⟩) (fun r_168 e_169 => ?_)
                          refine lv_isub hx hb md_M_divide_169 ?_
                          refine lv_istore (lv' := [(9, .int (53 - r_168)), (8, .int (53 - r_166)), (7, .int (jb z_19)), (6, .int (jb z_13)), (0, .ref h0), (1, .int p0), (2, .long p1), (4, .long p2)]) hx hb md_M_divide_170 hl (by decide) rfl (fun ls hl => ?_)
                          refine lv_aload_n hx hb md_M_divide_172 rfl (lv_at hl 4 rfl) ?_
                          refine va_get (D := D) (ci := 1) (v := .long (rf_man p0 p1)) (C := "NumberProbeModel") (T := TM) (N := 12) hx hb ht inM hown hK hM.1 0 rfl rfl 7 (by decide) (ht _ tm_325) (fun _ h9 => h9) rfl md_M_divide_173 ?_
                          refine lv_iload hx hb md_M_divide_176 (lv_at hl 1 rfl) ?_
                          refine lv_lshl (v := jl_shl (rf_man p0 p1) (53 - r_166)) hx hb md_M_divide_178 rfl ?_
                          refine lv_lstore (lv' := [(10, .long (jl_shl (rf_man p0 p1) (53 - r_166))), (9, .int (53 - r_168)), (8, .int (53 - r_166)), (7, .int (jb z_19)), (6, .int (jb z_13)), (0, .ref h0), (1, .int p0), (2, .long p1), (4, .long p2)]) hx hb md_M_divide_179 hl (by decide) rfl (fun ls hl => ?_)
                          refine lv_aload_n hx hb md_M_divide_181 rfl (lv_at hl 5 rfl) ?_
                          refine va_get (D := D) (ci := 1) (v := .long (rf_man p0 p2)) (C := "NumberProbeModel") (T := TM) (N := 12) hx hb ht inM hown hK hM.1 0 rfl rfl 8 (by decide) (ht _ tm_326) (fun _ h9 => h9) rfl md_M_divide_182 ?_
                          refine lv_iload hx hb md_M_divide_185 (lv_at hl 1 rfl) ?_
                          refine lv_lshl (v := jl_shl (rf_man p0 p2) (53 - r_168)) hx hb md_M_divide_187 rfl ?_
                          refine lv_lstore (lv' := [(12, .long (jl_shl (rf_man p0 p2) (53 - r_168))), (10, .long (jl_shl (rf_man p0 p1) (53 - r_166))), (9, .int (53 - r_168)), (8, .int (53 - r_166)), (7, .int (jb z_19)), (6, .int (jb z_13)), (0, .ref h0), (1, .int p0), (2, .long p1), (4, .long p2)]) hx hb md_M_divide_188 hl (by decide) rfl (fun ls hl => ?_)
                          refine lv_lconst (v := 0) hx hb md_M_divide_190 (by decide) ?_
                          refine lv_lstore (lv' := [(14, .long 0), (12, .long (jl_shl (rf_man p0 p2) (53 - r_168))), (10, .long (jl_shl (rf_man p0 p1) (53 - r_166))), (9, .int (53 - r_168)), (8, .int (53 - r_166)), (7, .int (jb z_19)), (6, .int (jb z_13)), (0, .ref h0), (1, .int p0), (2, .long p1), (4, .long p2)]) hx hb md_M_divide_191 hl (by decide) rfl (fun ls hl => ?_)
                          refine lv_iconst (v := 0) hx hb md_M_divide_193 (by decide) ?_
                          refine lv_istore (lv' := [(16, .int 0), (14, .long 0), (12, .long (jl_shl (rf_man p0 p2) (53 - r_168))), (10, .long (jl_shl (rf_man p0 p1) (53 - r_166))), (9, .int (53 - r_168)), (8, .int (53 - r_166)), (7, .int (jb z_19)), (6, .int (jb z_13)), (0, .ref h0), (1, .int p0), (2, .long p1), (4, .long p2)]) hx hb md_M_divide_194 hl (by decide) rfl (fun ls hl => ?_)
                          have L_170 : ∀ (n : Nat) (z_171 : Int32) (z_172 : Int64) (z_173 : Int64) (ls : Array Slot), ((58 : Int32).toInt - z_171.toInt).toNat ≤ n → lv_has ls 17 [(16, .int z_171), (14, .long z_172), (12, .long (jl_shl (rf_man p0 p2) (53 - r_168))), (10, .long z_173), (9, .int (53 - r_168)), (8, .int (53 - r_166)), (7, .int (jb z_19)), (6, .int (jb z_13)), (0, .ref h0), (1, .int p0), (2, .long p1), (4, .long p2)] → W p l e (headSpec mw_M_divide ({ frames := 4, cells := 0, slots := 0, locals := 91 } : Room)).room s m ([.ref h0, .int p0, .long p1, .long p2] : List Value).toArray below meth c H_9 L_10 0 0 (MQ below (MQl D cL h0 q0 A (fun (r : Int64) (v : MT) => True)) ([.ref h0, .int p0, .long p1, .long p2] : List Value).toArray s 0 0 A) (F0 m 196 ls []) := by
                            intro n
                            induction n with
                            | zero =>
                              intro z_171 z_172 z_173 ls hn hl
                              refine lv_iload hx hb md_M_divide_196 (lv_at hl 0 rfl) ?_
                              refine lv_bipush (v := 58) hx hb md_M_divide_198 (by decide) ?_
                              refine lv_icmp_ge (tgt := 242) hx hb md_M_divide_200 (by decide) (fun c_174 => ?_) (fun c_174 => ?_)
                              · refine lv_lload hx hb md_M_divide_242 (lv_at hl 3 rfl) ?_
                                refine lv_lconst (v := 0) hx hb md_M_divide_244 (by decide) ?_
                                refine W.lcmp hx hb md_M_divide_245 ?_
                                have J_176 : ∀ (z_177 : Int64) (ls : Array Slot), lv_has ls 17 [(16, .int z_171), (14, .long z_177), (12, .long (jl_shl (rf_man p0 p2) (53 - r_168))), (10, .long z_173), (9, .int (53 - r_168)), (8, .int (53 - r_166)), (7, .int (jb z_19)), (6, .int (jb z_13)), (0, .ref h0), (1, .int p0), (2, .long p1), (4, .long p2)] → W p l e (headSpec mw_M_divide ({ frames := 4, cells := 0, slots := 0, locals := 91 } : Room)).room s m ([.ref h0, .int p0, .long p1, .long p2] : List Value).toArray below meth c H_9 L_10 0 0 (MQ below (MQl D cL h0 q0 A (fun (r : Int64) (v : MT) => True)) ([.ref h0, .int p0, .long p1, .long p2] : List Value).toArray s 0 0 A) (F0 m 255 ls []) := by
                                  intro z_177 ls hl
                                  refine lv_iload_n hx hb md_M_divide_255 rfl (lv_at hl 9 rfl) ?_
                                  refine lv_iload hx hb md_M_divide_256 (lv_at hl 7 rfl) ?_
                                  refine lv_lload hx hb md_M_divide_258 (lv_at hl 1 rfl) ?_
                                  refine lv_aload_n hx hb md_M_divide_260 rfl (lv_at hl 8 rfl) ?_
                                  refine va_get (D := D) (ci := 1) (v := .int (rf_pow p0 p1)) (C := "NumberProbeModel") (T := TM) (N := 12) hx hb ht inM hown hK hM.1 0 rfl rfl 9 (by decide) (ht _ tm_327) (fun _ h9 => h9) rfl md_M_divide_261 ?_
                                  refine lv_iload hx hb md_M_divide_264 (lv_at hl 5 rfl) ?_
                                  refine lv_isub hx hb md_M_divide_266 ?_
                                  refine lv_aload_n hx hb md_M_divide_267 rfl (lv_at hl 8 rfl) ?_
                                  refine va_get (D := D) (ci := 1) (v := .int (rf_pow p0 p2)) (C := "NumberProbeModel") (T := TM) (N := 12) hx hb ht inM hown hK hM.1 0 rfl rfl 10 (by decide) (ht _ tm_328) (fun _ h9 => h9) rfl md_M_divide_268 ?_
                                  refine lv_isub hx hb md_M_divide_271 ?_
                                  refine lv_iload hx hb md_M_divide_272 (lv_at hl 4 rfl) ?_
                                  refine lv_iadd hx hb md_M_divide_274 ?_
                                  refine lv_bipush (v := 57) hx hb md_M_divide_275 (by decide) ?_
                                  refine lv_isub hx hb md_M_divide_277 ?_
                                  refine vp_callSl (W.runS (As := [.int p0, .int (jb z_13), .long z_177, .int (((((rf_pow p0 p1) - (53 - r_166)) - (rf_pow p0 p2)) + (53 - r_168)) - 57)]) (rest := []) ⟨hx, hb, hml, hown, hts⟩ (mt_M_round l p0 z_13 z_177 (((((rf_pow p0 p1) - (53 - r_166)) - (rf_pow p0 p2)) + (53 - r_168)) - 57)) (va_cwS 4 hts (gd_S tm_398 tm_399 tm_25 tm_400) rfl rfl rfl (by decide +kernel) ⟨Nat.le_of_ble_eq_true rfl, Nat.le_of_ble_eq_true rfl⟩) ⟨fb_0, fun U hU hW => ⟨rfl, trivial⟩⟩ rfl rfl hl.1 rfl (lv_room (Nat.le_of_ble_eq_true rfl)) md_M_divide_278 ⟨Nat.zero_le _, Nat.zero_le _⟩) (fun r_178 e_179 => ?_)
                                  exact W.lret (v := r_178) hx hb hr (fun t ht2 _ => ⟨⟨r_178, mtY p0 p2 (mtX p0 p1 u), rfl, trivial, by show MWd D cL h0 q0 A _ t.heap; rw [ht2]; exact hM⟩, hS.F ht2⟩) hS.2.2 md_M_divide_281
                                refine lv_if_eq (tgt := 255) hx hb md_M_divide_246 (by decide) (fun c_175 => ?_) (fun c_175 => ?_)
                                · exact J_176 z_172 ls (lv_sub hl [0, 1, 2, 3, 4, 5, 6, 7, 8, 9, 10, 11] rfl)
                                · refine lv_lload hx hb md_M_divide_249 (lv_at hl 1 rfl) ?_
                                  refine lv_lconst (v := 1) hx hb md_M_divide_251 (by decide) ?_
                                  refine lv_lor hx hb md_M_divide_252 ?_
                                  refine lv_lstore (lv' := [(14, .long (z_172 ||| 1)), (16, .int z_171), (12, .long (jl_shl (rf_man p0 p2) (53 - r_168))), (10, .long z_173), (9, .int (53 - r_168)), (8, .int (53 - r_166)), (7, .int (jb z_19)), (6, .int (jb z_13)), (0, .ref h0), (1, .int p0), (2, .long p1), (4, .long p2)]) hx hb md_M_divide_253 hl (by decide) rfl (fun ls hl => ?_)
                                  exact J_176 (z_172 ||| 1) ls (lv_sub hl [1, 0, 2, 3, 4, 5, 6, 7, 8, 9, 10, 11] rfl)
                              · exact (lu_0 (Int32.not_le.mp c_174) hn).elim
                            | succ n ih =>
                              intro z_171 z_172 z_173 ls hn hl
                              refine lv_iload hx hb md_M_divide_196 (lv_at hl 0 rfl) ?_
                              refine lv_bipush (v := 58) hx hb md_M_divide_198 (by decide) ?_
                              refine lv_icmp_ge (tgt := 242) hx hb md_M_divide_200 (by decide) (fun c_180 => ?_) (fun c_180 => ?_)
                              · refine lv_lload hx hb md_M_divide_242 (lv_at hl 3 rfl) ?_
                                refine lv_lconst (v := 0) hx hb md_M_divide_244 (by decide) ?_
                                refine W.lcmp hx hb md_M_divide_245 ?_
                                have J_182 : ∀ (z_183 : Int64) (ls : Array Slot), lv_has ls 17 [(16, .int z_171), (14, .long z_183), (12, .long (jl_shl (rf_man p0 p2) (53 - r_168))), (10, .long z_173), (9, .int (53 - r_168)), (8, .int (53 - r_166)), (7, .int (jb z_19)), (6, .int (jb z_13)), (0, .ref h0), (1, .int p0), (2, .long p1), (4, .long p2)] → W p l e (headSpec mw_M_divide ({ frames := 4, cells := 0, slots := 0, locals := 91 } : Room)).room s m ([.ref h0, .int p0, .long p1, .long p2] : List Value).toArray below meth c H_9 L_10 0 0 (MQ below (MQl D cL h0 q0 A (fun (r : Int64) (v : MT) => True)) ([.ref h0, .int p0, .long p1, .long p2] : List Value).toArray s 0 0 A) (F0 m 255 ls []) := by
                                  intro z_183 ls hl
                                  refine lv_iload_n hx hb md_M_divide_255 rfl (lv_at hl 9 rfl) ?_
                                  refine lv_iload hx hb md_M_divide_256 (lv_at hl 7 rfl) ?_
                                  refine lv_lload hx hb md_M_divide_258 (lv_at hl 1 rfl) ?_
                                  refine lv_aload_n hx hb md_M_divide_260 rfl (lv_at hl 8 rfl) ?_
                                  refine va_get (D := D) (ci := 1) (v := .int (rf_pow p0 p1)) (C := "NumberProbeModel") (T := TM) (N := 12) hx hb ht inM hown hK hM.1 0 rfl rfl 9 (by decide) (ht _ tm_327) (fun _ h9 => h9) rfl md_M_divide_261 ?_
                                  refine lv_iload hx hb md_M_divide_264 (lv_at hl 5 rfl) ?_
                                  refine lv_isub hx hb md_M_divide_266 ?_
                                  refine lv_aload_n hx hb md_M_divide_267 rfl (lv_at hl 8 rfl) ?_
                                  refine va_get (D := D) (ci := 1) (v := .int (rf_pow p0 p2)) (C := "NumberProbeModel") (T := TM) (N := 12) hx hb ht inM hown hK hM.1 0 rfl rfl 10 (by decide) (ht _ tm_328) (fun _ h9 => h9) rfl md_M_divide_268 ?_
                                  refine lv_isub hx hb md_M_divide_271 ?_
                                  refine lv_iload hx hb md_M_divide_272 (lv_at hl 4 rfl) ?_
                                  refine lv_iadd hx hb md_M_divide_274 ?_
                                  refine lv_bipush (v := 57) hx hb md_M_divide_275 (by decide) ?_
                                  refine lv_isub hx hb md_M_divide_277 ?_
                                  refine vp_callSl (W.runS (As := [.int p0, .int (jb z_13), .long z_183, .int (((((rf_pow p0 p1) - (53 - r_166)) - (rf_pow p0 p2)) + (53 - r_168)) - 57)]) (rest := []) ⟨hx, hb, hml, hown, hts⟩ (mt_M_round l p0 z_13 z_183 (((((rf_pow p0 p1) - (53 - r_166)) - (rf_pow p0 p2)) + (53 - r_168)) - 57)) (va_cwS 4 hts (gd_S tm_398 tm_399 tm_25 tm_400) rfl rfl rfl (by decide +kernel) ⟨Nat.le_of_ble_eq_true rfl, Nat.le_of_ble_eq_true rfl⟩) ⟨fb_0, fun U hU hW => ⟨rfl, trivial⟩⟩ rfl rfl hl.1 rfl (lv_room (Nat.le_of_ble_eq_true rfl)) md_M_divide_278 ⟨Nat.zero_le _, Nat.zero_le _⟩) (fun r_184 e_185 => ?_)
                                  exact W.lret (v := r_184) hx hb hr (fun t ht2 _ => ⟨⟨r_184, mtY p0 p2 (mtX p0 p1 u), rfl, trivial, by show MWd D cL h0 q0 A _ t.heap; rw [ht2]; exact hM⟩, hS.F ht2⟩) hS.2.2 md_M_divide_281
                                refine lv_if_eq (tgt := 255) hx hb md_M_divide_246 (by decide) (fun c_181 => ?_) (fun c_181 => ?_)
                                · exact J_182 z_172 ls (lv_sub hl [0, 1, 2, 3, 4, 5, 6, 7, 8, 9, 10, 11] rfl)
                                · refine lv_lload hx hb md_M_divide_249 (lv_at hl 1 rfl) ?_
                                  refine lv_lconst (v := 1) hx hb md_M_divide_251 (by decide) ?_
                                  refine lv_lor hx hb md_M_divide_252 ?_
                                  refine lv_lstore (lv' := [(14, .long (z_172 ||| 1)), (16, .int z_171), (12, .long (jl_shl (rf_man p0 p2) (53 - r_168))), (10, .long z_173), (9, .int (53 - r_168)), (8, .int (53 - r_166)), (7, .int (jb z_19)), (6, .int (jb z_13)), (0, .ref h0), (1, .int p0), (2, .long p1), (4, .long p2)]) hx hb md_M_divide_253 hl (by decide) rfl (fun ls hl => ?_)
                                  exact J_182 (z_172 ||| 1) ls (lv_sub hl [1, 0, 2, 3, 4, 5, 6, 7, 8, 9, 10, 11] rfl)
                              · refine lv_lload hx hb md_M_divide_203 (lv_at hl 1 rfl) ?_
                                refine lv_iconst (v := 1) hx hb md_M_divide_205 (by decide) ?_
                                refine lv_lshl (v := jl_shl z_172 1) hx hb md_M_divide_206 rfl ?_
                                refine lv_lstore (lv' := [(14, .long (jl_shl z_172 1)), (16, .int z_171), (12, .long (jl_shl (rf_man p0 p2) (53 - r_168))), (10, .long z_173), (9, .int (53 - r_168)), (8, .int (53 - r_166)), (7, .int (jb z_19)), (6, .int (jb z_13)), (0, .ref h0), (1, .int p0), (2, .long p1), (4, .long p2)]) hx hb md_M_divide_207 hl (by decide) rfl (fun ls hl => ?_)
                                refine lv_lload hx hb md_M_divide_209 (lv_at hl 3 rfl) ?_
                                refine lv_lload hx hb md_M_divide_211 (lv_at hl 2 rfl) ?_
                                refine W.lcmp hx hb md_M_divide_213 ?_
                                have J_187 : ∀ (z_188 : Int64) (z_189 : Int64) (ls : Array Slot), lv_has ls 17 [(14, .long z_188), (16, .int z_171), (12, .long (jl_shl (rf_man p0 p2) (53 - r_168))), (10, .long z_189), (9, .int (53 - r_168)), (8, .int (53 - r_166)), (7, .int (jb z_19)), (6, .int (jb z_13)), (0, .ref h0), (1, .int p0), (2, .long p1), (4, .long p2)] → W p l e (headSpec mw_M_divide ({ frames := 4, cells := 0, slots := 0, locals := 91 } : Room)).room s m ([.ref h0, .int p0, .long p1, .long p2] : List Value).toArray below meth c H_9 L_10 0 0 (MQ below (MQl D cL h0 q0 A (fun (r : Int64) (v : MT) => True)) ([.ref h0, .int p0, .long p1, .long p2] : List Value).toArray s 0 0 A) (F0 m 230 ls []) := by
                                  intro z_188 z_189 ls hl
                                  refine lv_lload hx hb md_M_divide_230 (lv_at hl 3 rfl) ?_
                                  refine lv_iconst (v := 1) hx hb md_M_divide_232 (by decide) ?_
                                  refine lv_lshl (v := jl_shl z_189 1) hx hb md_M_divide_233 rfl ?_
                                  refine lv_lstore (lv' := [(10, .long (jl_shl z_189 1)), (14, .long z_188), (16, .int z_171), (12, .long (jl_shl (rf_man p0 p2) (53 - r_168))), (9, .int (53 - r_168)), (8, .int (53 - r_166)), (7, .int (jb z_19)), (6, .int (jb z_13)), (0, .ref h0), (1, .int p0), (2, .long p1), (4, .long p2)]) hx hb md_M_divide_234 hl (by decide) rfl (fun ls hl => ?_)
                                  refine lv_iinc (v := z_171 + 1) (lv' := [(16, .int (z_171 + 1)), (10, .long (jl_shl z_189 1)), (14, .long z_188), (12, .long (jl_shl (rf_man p0 p2) (53 - r_168))), (9, .int (53 - r_168)), (8, .int (53 - r_166)), (7, .int (jb z_19)), (6, .int (jb z_13)), (0, .ref h0), (1, .int p0), (2, .long p1), (4, .long p2)]) hx hb md_M_divide_236 hl (k := 2) rfl rfl (by decide) rfl (fun ls hl => ?_)
                                  refine lv_goto (tgt := 196) hx hb md_M_divide_239 (by decide) ?_
                                  exact ih (z_171 + 1) z_188 (jl_shl z_189 1) ls (lu_s (Int32.not_le.mp c_180) hn) (lv_sub hl [0, 2, 3, 1, 4, 5, 6, 7, 8, 9, 10, 11] rfl)
                                refine lv_if_lt (tgt := 230) hx hb md_M_divide_214 (by decide) (fun c_186 => ?_) (fun c_186 => ?_)
                                · exact J_187 (jl_shl z_172 1) z_173 ls (lv_sub hl [0, 1, 2, 3, 4, 5, 6, 7, 8, 9, 10, 11] rfl)
                                · refine lv_lload hx hb md_M_divide_217 (lv_at hl 3 rfl) ?_
                                  refine lv_lload hx hb md_M_divide_219 (lv_at hl 2 rfl) ?_
                                  refine lv_lsub hx hb md_M_divide_221 ?_
                                  refine lv_lstore (lv' := [(10, .long (z_173 - (jl_shl (rf_man p0 p2) (53 - r_168)))), (14, .long (jl_shl z_172 1)), (16, .int z_171), (12, .long (jl_shl (rf_man p0 p2) (53 - r_168))), (9, .int (53 - r_168)), (8, .int (53 - r_166)), (7, .int (jb z_19)), (6, .int (jb z_13)), (0, .ref h0), (1, .int p0), (2, .long p1), (4, .long p2)]) hx hb md_M_divide_222 hl (by decide) rfl (fun ls hl => ?_)
                                  refine lv_lload hx hb md_M_divide_224 (lv_at hl 1 rfl) ?_
                                  refine lv_lconst (v := 1) hx hb md_M_divide_226 (by decide) ?_
                                  refine lv_ladd hx hb md_M_divide_227 ?_
                                  refine lv_lstore (lv' := [(14, .long ((jl_shl z_172 1) + 1)), (10, .long (z_173 - (jl_shl (rf_man p0 p2) (53 - r_168)))), (16, .int z_171), (12, .long (jl_shl (rf_man p0 p2) (53 - r_168))), (9, .int (53 - r_168)), (8, .int (53 - r_166)), (7, .int (jb z_19)), (6, .int (jb z_13)), (0, .ref h0), (1, .int p0), (2, .long p1), (4, .long p2)]) hx hb md_M_divide_228 hl (by decide) rfl (fun ls hl => ?_)
                                  exact J_187 ((jl_shl z_172 1) + 1) (z_173 - (jl_shl (rf_man p0 p2) (53 - r_168))) ls (lv_sub hl [0, 2, 3, 1, 4, 5, 6, 7, 8, 9, 10, 11] rfl)
                          exact L_170 _ 0 0 (jl_shl (rf_man p0 p1) (53 - r_166)) ls (Nat.le_refl _) (lv_sub hl [0, 1, 2, 3, 4, 5, 6, 7, 8, 9, 10, 11] rfl)
                        · refine lv_iload_n hx hb md_M_divide_140 rfl (lv_at hl 3 rfl) ?_
                          refine lv_iload hx hb md_M_divide_141 (lv_at hl 1 rfl) ?_
                          refine lv_lconst (v := 0) hx hb md_M_divide_143 (by decide) ?_
                          refine vp_callSl (W.runS (As := [.int p0, .int (jb z_13), .long 0]) (rest := []) ⟨hx, hb, hml, hown, hts⟩ (mt_M_signed l p0 z_13 0) (va_cwS 3 hts (gd_S tm_401 tm_402 tm_25 tm_403) rfl rfl rfl (by decide +kernel) ⟨Nat.le_of_ble_eq_true rfl, Nat.le_of_ble_eq_true rfl⟩) ⟨fb_0, fun U hU hW => ⟨rfl, trivial⟩⟩ rfl rfl hl.1 rfl (lv_room (Nat.le_of_ble_eq_true rfl)) md_M_divide_144 ⟨Nat.zero_le _, Nat.zero_le _⟩) (fun r_190 e_191 => ?_)
                          exact W.lret (v := r_190) hx hb hr (fun t ht2 _ => ⟨⟨r_190, mtY p0 p2 (mtX p0 p1 u), rfl, trivial, by show MWd D cL h0 q0 A _ t.heap; rw [ht2]; exact hM⟩, hS.F ht2⟩) hS.2.2 md_M_divide_147
                    · refine lv_iload_n hx hb md_M_divide_113 rfl (lv_at hl 3 rfl) ?_
                      refine lv_iload hx hb md_M_divide_114 (lv_at hl 1 rfl) ?_
                      refine lv_iload_n hx hb md_M_divide_116 rfl (lv_at hl 3 rfl) ?_
                      refine vp_callSl (W.runS (As := [.int p0]) (rest := [.int (jb z_13), .int p0]) ⟨hx, hb, hml, hown, hts⟩ (mt_M_infinity l p0) (va_cwS 1 hts (gd_S tm_377 tm_378 tm_25 tm_379) rfl rfl rfl (by decide +kernel) ⟨Nat.le_of_ble_eq_true rfl, Nat.le_of_ble_eq_true rfl⟩) ⟨fb_0, fun U hU hW => ⟨rfl, trivial⟩⟩ rfl rfl hl.1 rfl (lv_room (Nat.le_of_ble_eq_true rfl)) md_M_divide_117 ⟨Nat.zero_le _, Nat.zero_le _⟩) (fun r_192 e_193 => ?_)
                      obtain rfl : r_192 = rf_if p0 := e_193
                      refine vp_callSl (W.runS (As := [.int p0, .int (jb z_13), .long (rf_if p0)]) (rest := []) ⟨hx, hb, hml, hown, hts⟩ (mt_M_signed l p0 z_13 (rf_if p0)) (va_cwS 3 hts (gd_S tm_401 tm_402 tm_25 tm_403) rfl rfl rfl (by decide +kernel) ⟨Nat.le_of_ble_eq_true rfl, Nat.le_of_ble_eq_true rfl⟩) ⟨fb_0, fun U hU hW => ⟨rfl, trivial⟩⟩ rfl rfl hl.1 rfl (lv_room (Nat.le_of_ble_eq_true rfl)) md_M_divide_120 ⟨Nat.zero_le _, Nat.zero_le _⟩) (fun r_194 e_195 => ?_)
                      exact W.lret (v := r_194) hx hb hr (fun t ht2 _ => ⟨⟨r_194, mtY p0 p2 (mtX p0 p1 u), rfl, trivial, by show MWd D cL h0 q0 A _ t.heap; rw [ht2]; exact hM⟩, hS.F ht2⟩) hS.2.2 md_M_divide_123
                · refine lv_iload_n hx hb md_M_divide_96 rfl (lv_at hl 3 rfl) ?_
                  refine vp_callSl (W.runS (As := [.int p0]) (rest := []) ⟨hx, hb, hml, hown, hts⟩ (mt_M_nan l p0) (va_cwS 1 hts (gd_S tm_382 tm_383 tm_25 tm_384) rfl rfl rfl (by decide +kernel) ⟨Nat.le_of_ble_eq_true rfl, Nat.le_of_ble_eq_true rfl⟩) ⟨fb_0, fun U hU hW => ⟨rfl, trivial⟩⟩ rfl rfl hl.1 rfl (lv_room (Nat.le_of_ble_eq_true rfl)) md_M_divide_97 ⟨Nat.zero_le _, Nat.zero_le _⟩) (fun r_196 e_197 => ?_)
                  obtain rfl : r_196 = rf_na p0 := e_197
                  exact W.lret (v := rf_na p0) hx hb hr (fun t ht2 _ => ⟨⟨rf_na p0, mtY p0 p2 (mtX p0 p1 u), rfl, trivial, by show MWd D cL h0 q0 A _ t.heap; rw [ht2]; exact hM⟩, hS.F ht2⟩) hS.2.2 md_M_divide_100
    refine lv_if_ne (tgt := 51) hx hb md_M_divide_37 (by decide) (fun c_14 => ?_) (fun c_14 => ?_)
    · refine lv_iconst (v := 0) hx hb md_M_divide_51 (by decide) ?_
      exact J_18 false ls (lv_sub hl [0, 1, 2, 3, 4] rfl)
    · refine lv_aload_n hx hb md_M_divide_40 rfl (lv_at hl 1 rfl) ?_
      refine va_get (D := D) (ci := 1) (v := .int (jb (rf_isI p0 p2))) (C := "NumberProbeModel") (T := TM) (N := 12) hx hb ht inM hown hK hM.1 0 rfl rfl 6 (by decide) (ht _ tm_324) (fun _ h9 => h9) rfl md_M_divide_41 ?_
      have J_199 : ∀ (z_200 : Bool) (ls : Array Slot), lv_has ls 17 [(6, .int (jb z_13)), (0, .ref h0), (1, .int p0), (2, .long p1), (4, .long p2)] → W p l e (headSpec mw_M_divide ({ frames := 4, cells := 0, slots := 0, locals := 91 } : Room)).room s m ([.ref h0, .int p0, .long p1, .long p2] : List Value).toArray below meth c H_9 L_10 0 0 (MQ below (MQl D cL h0 q0 A (fun (r : Int64) (v : MT) => True)) ([.ref h0, .int p0, .long p1, .long p2] : List Value).toArray s 0 0 A) (F0 m 52 ls [.int (jb z_200)]) := by
        intro z_200 ls hl
        exact J_18 z_200 ls (lv_sub hl [0, 1, 2, 3, 4] rfl)
      refine lv_if_ne (tgt := 51) hx hb md_M_divide_44 (by decide) (fun c_198 => ?_) (fun c_198 => ?_)
      · refine lv_iconst (v := 0) hx hb md_M_divide_51 (by decide) ?_
        exact J_199 false ls (lv_sub hl [0, 1, 2, 3, 4] rfl)
      · refine lv_iconst (v := 1) hx hb md_M_divide_47 (by decide) ?_
        refine lv_goto (tgt := 52) hx hb md_M_divide_48 (by decide) ?_
        exact J_199 true ls (lv_sub hl [0, 1, 2, 3, 4] rfl)
  refine lv_icmp_eq (tgt := 28) hx hb md_M_divide_21 (by decide) (fun c_11 => ?_) (fun c_11 => ?_)
  · refine lv_iconst (v := 0) hx hb md_M_divide_28 (by decide) ?_
    exact J_12 false ls (lv_sub hl [0, 1, 2, 3] rfl)
  · refine lv_iconst (v := 1) hx hb md_M_divide_24 (by decide) ?_
    refine lv_goto (tgt := 29) hx hb md_M_divide_25 (by decide) ?_
    exact J_12 true ls (lv_sub hl [0, 1, 2, 3] rfl)
