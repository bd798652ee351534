set_option maxHeartbeats 4000000 in
set_option maxRecDepth 100000 in
theorem mt_N_put (l : Launch) (D : va_G) (cL cO : ClassId) (h0 q0 : Nat) (g ad tb : Nat → Nat) (sz : Nat) (u : Nat → Nat → Int64) (p0 : Int32) (p1 : Int32) (p2 : Int64) : Met l my_N_put mw_N_put ({ frames := 3, cells := 0, slots := 0, locals := 67 } : Room) (NPc D cL cO h0 q0 g ad tb sz u [.int p0, .int p1, .long p2]) (NQi D cL cO h0 q0 g (NA h0 q0 g cL cO u sz) (fun (r : Int32) (v : Nat → Nat → Int64) => r = mq_put p0 p1)) 0 0 (NA h0 q0 g cL cO u sz) := by
  refine Met.ofW (cc := mc_N_put) (maxL := 5) (ret := (some .int)) (by decide) rfl ?_
  intro p e s m args below meth c s₁ B hml hv
  obtain ⟨rfl, hsz, hP, hK, hD0, hE, hT⟩ := hv
  have hx := B.exec
  have hb := B.bytes
  have hr := B.returns
  have hts := atoms_spec (ws := mw_N_put) B.pre
  have ht : ∀ w ∈ gw_tbl, w.before _ s = true := fun w h => hts w (List.mem_cons_of_mem _ h)
  have hown : s.vm.findClass "NumberProbe" = some m.cls := findClass_of_methodNamed B.named
  have hlocks := B.notSynchronized
  subst hsz
  have hD : va_D (NA h0 q0 g cL cO u s.heap.size) (nWs h0 q0 g cL cO u) := hD0.self (sz := s.heap.size)
  generalize hAe : NA h0 q0 g cL cO u s.heap.size = A at hD hE hT ⊢
  have hA : ∀ q : Nat, s.heap.size ≤ q → A q := fun q h => by rw [← hAe]; exact Or.inr h
  have hS : va_S A s.heap s.heap [] := va_S.rf
  have hM : NWd D cL cO h0 q0 g A u s.heap := ⟨hP, hD⟩
  have hl := lv_entry ([.ref h0, .int p0, .int p1, .long p2]) (n := 5) (Nat.le_of_ble_eq_true rfl)
  rw [lg_entry_eq]
  generalize (lg_sl ([.ref h0, .int p0, .int p1, .long p2]) ++ List.replicate (5 - (lg_sl ([.ref h0, .int p0, .int p1, .long p2])).length) Slot.unset).toArray = ls at hl ⊢
  have hl : lv_has ls 5 [(0, .ref h0), (1, .int p0), (2, .int p1), (3, .long p2)] := hl
  refine lv_iload_n hx hb md_N_put_0 rfl (lv_at hl 1 rfl) ?_
  refine lv_iload_n hx hb md_N_put_1 rfl (lv_at hl 2 rfl) ?_
  refine vp_callSi (W.runS (As := [.int p0, .int p1]) (rest := []) ⟨hx, hb, hml, hown, hts⟩ (mt_N_isNumber l p0 p1) (va_cwS 2 hts (gd_S tm_50 tm_51 tm_24 tm_52) rfl rfl rfl (by decide +kernel) ⟨Nat.le_of_ble_eq_true rfl, Nat.le_of_ble_eq_true rfl⟩) ⟨fb_0, fun U hU hW => ⟨rfl, trivial⟩⟩ rfl rfl hl.1 rfl (lv_room (Nat.le_of_ble_eq_true rfl)) md_N_put_2 ⟨Nat.zero_le _, Nat.zero_le _⟩) (fun r_1 e_2 => ?_)
  obtain rfl : r_1 = jb (cn_num p0 p1) := e_2
  refine lv_if_ne (tgt := 10) hx hb md_N_put_5 (by decide) (fun c_3 => ?_) (fun c_3 => ?_)
  · refine lv_aload_n hx hb md_N_put_10 rfl (lv_at hl 0 rfl) ?_
    refine va_get (D := D) (ci := 0) (v := .ref q0) (C := "NumberProbe") (T := TN) (N := 1) hx hb ht inN hown hK hM.1 0 rfl rfl 0 (by decide) (ht _ tm_41) (fun _ h9 => h9) rfl md_N_put_11 ?_
    refine lv_iload_n hx hb md_N_put_14 rfl (lv_at hl 1 rfl) ?_
    refine n_ald hx hb hK hM (cn_i4 (jb_n0.mp c_3)) md_N_put_15 ?_
    refine lv_iload_n hx hb md_N_put_16 rfl (lv_at hl 2 rfl) ?_
    refine lv_iload_n hx hb md_N_put_17 rfl (lv_at hl 1 rfl) ?_
    refine vp_callSi (W.runS (As := [.int p0]) (rest := [.int p1, .ref (g p0.toNatClampNeg)]) ⟨hx, hb, hml, hown, hts⟩ (mt_N_isFloating l p0) (va_cwS 1 hts (gd_S tm_53 tm_54 tm_24 tm_55) rfl rfl rfl (by decide +kernel) ⟨Nat.le_of_ble_eq_true rfl, Nat.le_of_ble_eq_true rfl⟩) ⟨fb_0, fun U hU hW => ⟨rfl, trivial⟩⟩ rfl rfl hl.1 rfl (lv_room (Nat.le_of_ble_eq_true rfl)) md_N_put_18 ⟨Nat.zero_le _, Nat.zero_le _⟩) (fun r_4 e_5 => ?_)
    obtain rfl : r_4 = jb (cn_flt p0) := e_5
    refine lv_if_eq (tgt := 35) hx hb md_N_put_21 (by decide) (fun c_6 => ?_) (fun c_6 => ?_)
    · refine lv_iload_n hx hb md_N_put_35 rfl (lv_at hl 1 rfl) ?_
      refine lv_lload_n hx hb md_N_put_36 rfl (lv_at hl 3 rfl) ?_
      refine vp_callSl (W.runS (As := [.int p0, .long p2]) (rest := [.int p1, .ref (g p0.toNatClampNeg)]) ⟨hx, hb, hml, hown, hts⟩ (mt_N_fitted l p0 p2) (va_cwS 2 hts (gd_S tm_81 tm_82 tm_24 tm_83) rfl rfl rfl (by decide +kernel) ⟨Nat.le_of_ble_eq_true rfl, Nat.le_of_ble_eq_true rfl⟩) ⟨fb_0, fun U hU hW => ⟨rfl, trivial⟩⟩ rfl rfl hl.1 rfl (lv_room (Nat.le_of_ble_eq_true rfl)) md_N_put_37 ⟨Nat.zero_le _, Nat.zero_le _⟩) (fun r_7 e_8 => ?_)
      obtain rfl : r_7 = cn_fit p0 p2 := e_8
      refine n_last hx hb hK hM hS (vp_lt (cn_i4 (jb_n0.mp c_3))) (cn_i6 (jb_n0.mp c_3)) md_N_put_40 (fun u_9 H_10 L_11 hM hS => ?_)
      refine lv_iconst (v := 0) hx hb md_N_put_41 (by decide) ?_
      exact W.iret (v := 0) hx hb hr (fun t ht2 _ => ⟨⟨0, u_9, rfl, (by rw [mq_put_cn]; simp [(jb_n0.mp c_3), (jb_0.mp c_6)]), by show NWd D cL cO h0 q0 g A _ t.heap; rw [ht2]; exact hM⟩, hS.F ht2⟩) hS.2.2 md_N_put_42
    · refine lv_iload_n hx hb md_N_put_24 rfl (lv_at hl 1 rfl) ?_
      refine va_csr (W.runS (As := [.int p0]) (rest := [.int p1, .ref (g p0.toNatClampNeg)]) ⟨hx, hb, hml, hown, hts⟩ (mt_N_formatOf l ad p0) (va_cwS 1 hts (gd_S tm_56 tm_57 tm_24 tm_58) rfl rfl rfl (by decide +kernel) ⟨Nat.le_of_ble_eq_true rfl, Nat.le_of_ble_eq_true rfl⟩) ⟨fb_E, fun U hU hW => ⟨rfl, fw_use hE hS hU hW⟩⟩ rfl rfl hl.1 rfl (lv_room (Nat.le_of_ble_eq_true rfl)) md_N_put_25 ⟨Nat.zero_le _, Nat.zero_le _⟩) (fun r_12 e_13 => ?_)
      have hr_12 : r_12 < 2 := e_13.1
      refine lv_lload_n hx hb md_N_put_28 rfl (lv_at hl 3 rfl) ?_
      refine vp_callSl (W.runV (C := "NumberProbe$Format") (As := [.long p2]) (rest := [.int p1, .ref (g p0.toNatClampNeg)]) ⟨hx, hb, hml, hown, hts⟩ (mt_F_numberOf l ad r_12 hr_12 p2) (cwV 1 hts (gd_V tm_63 tm_64 tm_65 tm_27 tm_66) rfl rfl rfl (by decide +kernel) ⟨Nat.le_of_ble_eq_true rfl, Nat.le_of_ble_eq_true rfl⟩) ⟨fb_E, fw_recv hE hr_12 hS, fun U hU hW => ⟨rfl, fw_use hE hS hU hW⟩⟩ rfl rfl hl.1 rfl (lv_room (Nat.le_of_ble_eq_true rfl)) md_N_put_29 ⟨Nat.zero_le _, Nat.zero_le _⟩) (fun r_14 e_15 => ?_)
      refine lv_goto (tgt := 40) hx hb md_N_put_32 (by decide) ?_
      refine n_last hx hb hK hM hS (vp_lt (cn_i4 (jb_n0.mp c_3))) (cn_i6 (jb_n0.mp c_3)) md_N_put_40 (fun u_16 H_17 L_18 hM hS => ?_)
      refine lv_iconst (v := 0) hx hb md_N_put_41 (by decide) ?_
      exact W.iret (v := 0) hx hb hr (fun t ht2 _ => ⟨⟨0, u_16, rfl, (by rw [mq_put_cn]; simp [(jb_n0.mp c_3), (jb_n0.mp c_6), e_13.2]), by show NWd D cL cO h0 q0 g A _ t.heap; rw [ht2]; exact hM⟩, hS.F ht2⟩) hS.2.2 md_N_put_42
  · refine lv_iconst (v := (-1)) hx hb md_N_put_8 (by decide) ?_
    exact W.iret (v := (-1)) hx hb hr (fun t ht2 _ => ⟨⟨(-1), u, rfl, (by rw [mq_put_cn]; simp [(jb_0.mp c_3)]), by show NWd D cL cO h0 q0 g A _ t.heap; rw [ht2]; exact hM⟩, hS.F ht2⟩) hS.2.2 md_N_put_9
set_option maxHeartbeats 4000000 in
set_option maxRecDepth 100000 in
theorem mt_N_boundary (l : Launch) (D : va_G) (cL cO : ClassId) (h0 q0 : Nat) (g ad tb : Nat → Nat) (sz : Nat) (u : Nat → Nat → Int64) (p0 : Int32) (p1 : Int32) (p2 : Int32) : Met l my_N_boundary mw_N_boundary ({ frames := 1, cells := 0, slots := 0, locals := 21 } : Room) (NPc D cL cO h0 q0 g ad tb sz u [.int p0, .int p1, .int p2]) (NQi D cL cO h0 q0 g (NA h0 q0 g cL cO u sz) (fun (r : Int32) (v : Nat → Nat → Int64) => r = mq_bou p0 p1 p2)) 0 0 (NA h0 q0 g cL cO u sz) := by
  refine Met.ofW (cc := mc_N_boundary) (maxL := 5) (ret := (some .int)) (by decide) rfl ?_
  intro p e s m args below meth c s₁ B hml hv
  obtain ⟨rfl, hsz, hP, hK, hD0, hE, hT⟩ := hv
  have hx := B.exec
  have hb := B.bytes
  have hr := B.returns
  have hts := atoms_spec (ws := mw_N_boundary) B.pre
  have ht : ∀ w ∈ gw_tbl, w.before _ s = true := fun w h => hts w (List.mem_cons_of_mem _ h)
  have hown : s.vm.findClass "NumberProbe" = some m.cls := findClass_of_methodNamed B.named
  have hlocks := B.notSynchronized
  subst hsz
  have hD : va_D (NA h0 q0 g cL cO u s.heap.size) (nWs h0 q0 g cL cO u) := hD0.self (sz := s.heap.size)
  generalize hAe : NA h0 q0 g cL cO u s.heap.size = A at hD hE hT ⊢
  have hA : ∀ q : Nat, s.heap.size ≤ q → A q := fun q h => by rw [← hAe]; exact Or.inr h
  have hS : va_S A s.heap s.heap [] := va_S.rf
  have hM : NWd D cL cO h0 q0 g A u s.heap := ⟨hP, hD⟩
  have hl := lv_entry ([.ref h0, .int p0, .int p1, .int p2]) (n := 5) (Nat.le_of_ble_eq_true rfl)
  rw [lg_entry_eq]
  generalize (lg_sl ([.ref h0, .int p0, .int p1, .int p2]) ++ List.replicate (5 - (lg_sl ([.ref h0, .int p0, .int p1, .int p2])).length) Slot.unset).toArray = ls at hl ⊢
  have hl : lv_has ls 5 [(0, .ref h0), (1, .int p0), (2, .int p1), (3, .int p2)] := hl
  refine lv_iload_n hx hb md_N_boundary_0 rfl (lv_at hl 1 rfl) ?_
  refine lv_iload_n hx hb md_N_boundary_1 rfl (lv_at hl 2 rfl) ?_
  refine vp_callSi (W.runS (As := [.int p0, .int p1]) (rest := []) ⟨hx, hb, hml, hown, hts⟩ (mt_N_isNumber l p0 p1) (va_cwS 2 hts (gd_S tm_50 tm_51 tm_24 tm_52) rfl rfl rfl (by decide +kernel) ⟨Nat.le_of_ble_eq_true rfl, Nat.le_of_ble_eq_true rfl⟩) ⟨fb_0, fun U hU hW => ⟨rfl, trivial⟩⟩ rfl rfl hl.1 rfl (lv_room (Nat.le_of_ble_eq_true rfl)) md_N_boundary_2 ⟨Nat.zero_le _, Nat.zero_le _⟩) (fun r_1 e_2 => ?_)
  obtain rfl : r_1 = jb (cn_num p0 p1) := e_2
  refine lv_if_ne (tgt := 10) hx hb md_N_boundary_5 (by decide) (fun c_3 => ?_) (fun c_3 => ?_)
  · refine lv_iload_n hx hb md_N_boundary_10 rfl (lv_at hl 1 rfl) ?_
    refine va_csr (W.runS (As := [.int p0]) (rest := []) ⟨hx, hb, hml, hown, hts⟩ (mt_N_boundariesOf l tb p0) (va_cwS 1 hts (gd_S tm_88 tm_89 tm_24 tm_90) rfl rfl rfl (by decide +kernel) ⟨Nat.le_of_ble_eq_true rfl, Nat.le_of_ble_eq_true rfl⟩) ⟨fb_T, fun U hU hW => ⟨rfl, tw_use hT hS hU hW⟩⟩ rfl rfl hl.1 rfl (lv_room (Nat.le_of_ble_eq_true rfl)) md_N_boundary_11 ⟨Nat.zero_le _, Nat.zero_le _⟩) (fun r_4 e_5 => ?_)
    have hr_4 : r_4 < 4 := e_5.1
    refine lv_astore (lv' := [(4, .ref (tb r_4)), (0, .ref h0), (1, .int p0), (2, .int p1), (3, .int p2)]) hx hb md_N_boundary_14 hl (by decide) rfl (fun ls hl => ?_)
    refine lv_iload_n hx hb md_N_boundary_16 rfl (lv_at hl 4 rfl) ?_
    refine lv_if_lt (tgt := 27) hx hb md_N_boundary_17 (by decide) (fun c_6 => ?_) (fun c_6 => ?_)
    · refine lv_iconst (v := (-1)) hx hb md_N_boundary_27 (by decide) ?_
      exact W.iret (v := (-1)) hx hb hr (fun t ht2 _ => ⟨⟨(-1), u, rfl, (by rw [mq_bou_cn, ← tw_le e_5.2]; simp [(jb_n0.mp c_3), c_6]), by show NWd D cL cO h0 q0 g A _ t.heap; rw [ht2]; exact hM⟩, hS.F ht2⟩) hS.2.2 md_N_boundary_28
    · refine lv_iload_n hx hb md_N_boundary_20 rfl (lv_at hl 4 rfl) ?_
      refine lv_aload hx hb md_N_boundary_21 (lv_at hl 0 rfl) ?_
      obtain ⟨hf9, hf⟩ := (hT r_4 hr_4).2
      refine va_tlen (v := nI (tw_l r_4)) hx hb hf hS rfl md_N_boundary_23 ?_
      refine lv_icmp_lt (tgt := 29) hx hb md_N_boundary_24 (by decide) (fun c_7 => ?_) (fun c_7 => ?_)
      · refine lv_aload_n hx hb md_N_boundary_29 rfl (lv_at hl 1 rfl) ?_
        refine va_get (D := D) (ci := 0) (v := .ref q0) (C := "NumberProbe") (T := TN) (N := 1) hx hb ht inN hown hK hM.1 0 rfl rfl 0 (by decide) (ht _ tm_41) (fun _ h9 => h9) rfl md_N_boundary_30 ?_
        refine lv_iload_n hx hb md_N_boundary_33 rfl (lv_at hl 2 rfl) ?_
        refine n_ald hx hb hK hM (cn_i4 (jb_n0.mp c_3)) md_N_boundary_34 ?_
        refine lv_iload_n hx hb md_N_boundary_35 rfl (lv_at hl 3 rfl) ?_
        refine lv_aload hx hb md_N_boundary_36 (lv_at hl 0 rfl) ?_
        refine lv_iload_n hx hb md_N_boundary_38 rfl (lv_at hl 4 rfl) ?_
        refine va_tl (v := .long (hf9 p2.toNatClampNeg)) hx hb hf hS (tl_in (tw_lb r_4) (c_6) (Int32.not_le.mpr c_7)) rfl md_N_boundary_39 ?_
        refine n_last hx hb hK hM hS (vp_lt (cn_i4 (jb_n0.mp c_3))) (cn_i6 (jb_n0.mp c_3)) md_N_boundary_40 (fun u_8 H_9 L_10 hM hS => ?_)
        refine lv_iconst (v := 0) hx hb md_N_boundary_41 (by decide) ?_
        exact W.iret (v := 0) hx hb hr (fun t ht2 _ => ⟨⟨0, u_8, rfl, (by rw [mq_bou_cn, ← tw_le e_5.2]; simp [(jb_n0.mp c_3), (c_6), (Int32.not_le.mpr c_7)]), by show NWd D cL cO h0 q0 g A _ t.heap; rw [ht2]; exact hM⟩, hS.F ht2⟩) hS.2.2 md_N_boundary_42
      · refine lv_iconst (v := (-1)) hx hb md_N_boundary_27 (by decide) ?_
        exact W.iret (v := (-1)) hx hb hr (fun t ht2 _ => ⟨⟨(-1), u, rfl, (by rw [mq_bou_cn, ← tw_le e_5.2]; simp [(jb_n0.mp c_3), (c_6), (Int32.not_lt.mp (c_7))]), by show NWd D cL cO h0 q0 g A _ t.heap; rw [ht2]; exact hM⟩, hS.F ht2⟩) hS.2.2 md_N_boundary_28
  · refine lv_iconst (v := (-1)) hx hb md_N_boundary_8 (by decide) ?_
    exact W.iret (v := (-1)) hx hb hr (fun t ht2 _ => ⟨⟨(-1), u, rfl, (by rw [mq_bou_cn]; simp [(jb_0.mp c_3)]), by show NWd D cL cO h0 q0 g A _ t.heap; rw [ht2]; exact hM⟩, hS.F ht2⟩) hS.2.2 md_N_boundary_9
set_option maxHeartbeats 4000000 in
set_option maxRecDepth 100000 in
theorem mt_N_bits (l : Launch) (D : va_G) (cL cO : ClassId) (h0 q0 : Nat) (g ad tb : Nat → Nat) (sz : Nat) (u : Nat → Nat → Int64) (p0 : Int32) (p1 : Int32) : Met l my_N_bits mw_N_bits ({ frames := 1, cells := 0, slots := 0, locals := 21 } : Room) (NPc D cL cO h0 q0 g ad tb sz u [.int p0, .int p1]) (NQl D cL cO h0 q0 g (NA h0 q0 g cL cO u sz) (fun (r : Int64) (v : Nat → Nat → Int64) => True)) 0 0 (NA h0 q0 g cL cO u sz) := by
  refine Met.ofW (cc := mc_N_bits) (maxL := 3) (ret := (some .long)) (by decide) rfl ?_
  intro p e s m args below meth c s₁ B hml hv
  obtain ⟨rfl, hsz, hP, hK, hD0, hE, hT⟩ := hv
  have hx := B.exec
  have hb := B.bytes
  have hr := B.returns
  have hts := atoms_spec (ws := mw_N_bits) B.pre
  have ht : ∀ w ∈ gw_tbl, w.before _ s = true := fun w h => hts w (List.mem_cons_of_mem _ h)
  have hown : s.vm.findClass "NumberProbe" = some m.cls := findClass_of_methodNamed B.named
  have hlocks := B.notSynchronized
  subst hsz
  have hD : va_D (NA h0 q0 g cL cO u s.heap.size) (nWs h0 q0 g cL cO u) := hD0.self (sz := s.heap.size)
  generalize hAe : NA h0 q0 g cL cO u s.heap.size = A at hD hE hT ⊢
  have hA : ∀ q : Nat, s.heap.size ≤ q → A q := fun q h => by rw [← hAe]; exact Or.inr h
  have hS : va_S A s.heap s.heap [] := va_S.rf
  have hM : NWd D cL cO h0 q0 g A u s.heap := ⟨hP, hD⟩
  have hl := lv_entry ([.ref h0, .int p0, .int p1]) (n := 3) (Nat.le_of_ble_eq_true rfl)
  rw [lg_entry_eq]
  generalize (lg_sl ([.ref h0, .int p0, .int p1]) ++ List.replicate (3 - (lg_sl ([.ref h0, .int p0, .int p1])).length) Slot.unset).toArray = ls at hl ⊢
  have hl : lv_has ls 3 [(0, .ref h0), (1, .int p0), (2, .int p1)] := hl
  refine lv_iload_n hx hb md_N_bits_0 rfl (lv_at hl 1 rfl) ?_
  refine lv_iload_n hx hb md_N_bits_1 rfl (lv_at hl 2 rfl) ?_
  refine vp_callSi (W.runS (As := [.int p0, .int p1]) (rest := []) ⟨hx, hb, hml, hown, hts⟩ (mt_N_isNumber l p0 p1) (va_cwS 2 hts (gd_S tm_50 tm_51 tm_24 tm_52) rfl rfl rfl (by decide +kernel) ⟨Nat.le_of_ble_eq_true rfl, Nat.le_of_ble_eq_true rfl⟩) ⟨fb_0, fun U hU hW => ⟨rfl, trivial⟩⟩ rfl rfl hl.1 rfl (lv_room (Nat.le_of_ble_eq_true rfl)) md_N_bits_2 ⟨Nat.zero_le _, Nat.zero_le _⟩) (fun r_1 e_2 => ?_)
  obtain rfl : r_1 = jb (cn_num p0 p1) := e_2
  have J_4 : ∀ (z_5 : Int64) (ls : Array Slot), lv_has ls 3 [(0, .ref h0), (1, .int p0), (2, .int p1)] → W p l e (headSpec mw_N_bits ({ frames := 1, cells := 0, slots := 0, locals := 21 } : Room)).room s m ([.ref h0, .int p0, .int p1] : List Value).toArray below meth c s.heap [] 0 0 (MQ below (NQl D cL cO h0 q0 g A (fun (r : Int64) (v : Nat → Nat → Int64) => True)) ([.ref h0, .int p0, .int p1] : List Value).toArray s 0 0 A) (F0 m 20 ls [.long z_5]) := by
    intro z_5 ls hl
    exact W.lret (v := z_5) hx hb hr (fun t ht2 _ => ⟨⟨z_5, u, rfl, trivial, by show NWd D cL cO h0 q0 g A _ t.heap; rw [ht2]; exact hM⟩, hS.F ht2⟩) hS.2.2 md_N_bits_20
  refine lv_if_eq (tgt := 19) hx hb md_N_bits_5 (by decide) (fun c_3 => ?_) (fun c_3 => ?_)
  · refine lv_lconst (v := 0) hx hb md_N_bits_19 (by decide) ?_
    exact J_4 0 ls (lv_sub hl [0, 1, 2] rfl)
  · refine lv_aload_n hx hb md_N_bits_8 rfl (lv_at hl 0 rfl) ?_
    refine va_get (D := D) (ci := 0) (v := .ref q0) (C := "NumberProbe") (T := TN) (N := 1) hx hb ht inN hown hK hM.1 0 rfl rfl 0 (by decide) (ht _ tm_41) (fun _ h9 => h9) rfl md_N_bits_9 ?_
    refine lv_iload_n hx hb md_N_bits_12 rfl (lv_at hl 1 rfl) ?_
    refine n_ald hx hb hK hM (cn_i4 (jb_n0.mp c_3)) md_N_bits_13 ?_
    refine lv_iload_n hx hb md_N_bits_14 rfl (lv_at hl 2 rfl) ?_
    refine n_lald hx hb hK hM (vp_lt (cn_i4 (jb_n0.mp c_3))) (cn_i6 (jb_n0.mp c_3)) md_N_bits_15 ?_
    refine lv_goto (tgt := 20) hx hb md_N_bits_16 (by decide) ?_
    exact J_4 (u p0.toNatClampNeg p1.toNatClampNeg) ls (lv_sub hl [0, 1, 2] rfl)
set_option maxHeartbeats 4000000 in
set_option maxRecDepth 100000 in
theorem mt_N_convert (l : Launch) (D : va_G) (cL cO : ClassId) (h0 q0 : Nat) (g ad tb : Nat → Nat) (sz : Nat) (u : Nat → Nat → Int64) (p0 : Int32) (p1 : Int32) (p2 : Int32) (p3 : Int32) : Met l my_N_convert mw_N_convert ({ frames := 5, cells := 0, slots := 0, locals := 122 } : Room) (NPc D cL cO h0 q0 g ad tb sz u [.int p0, .int p1, .int p2, .int p3]) (NQi D cL cO h0 q0 g (NA h0 q0 g cL cO u sz) (fun (r : Int32) (v : Nat → Nat → Int64) => r = mq_cnv p0 p1 p2 p3)) 0 0 (NA h0 q0 g cL cO u sz) := by
  refine Met.ofW (cc := mc_N_convert) (maxL := 5) (ret := (some .int)) (by decide) rfl ?_
  intro p e s m args below meth c s₁ B hml hv
  obtain ⟨rfl, hsz, hP, hK, hD0, hE, hT⟩ := hv
  have hx := B.exec
  have hb := B.bytes
  have hr := B.returns
  have hts := atoms_spec (ws := mw_N_convert) B.pre
  have ht : ∀ w ∈ gw_tbl, w.before _ s = true := fun w h => hts w (List.mem_cons_of_mem _ h)
  have hown : s.vm.findClass "NumberProbe" = some m.cls := findClass_of_methodNamed B.named
  have hlocks := B.notSynchronized
  subst hsz
  have hD : va_D (NA h0 q0 g cL cO u s.heap.size) (nWs h0 q0 g cL cO u) := hD0.self (sz := s.heap.size)
  generalize hAe : NA h0 q0 g cL cO u s.heap.size = A at hD hE hT ⊢
  have hA : ∀ q : Nat, s.heap.size ≤ q → A q := fun q h => by rw [← hAe]; exact Or.inr h
  have hS : va_S A s.heap s.heap [] := va_S.rf
  have hM : NWd D cL cO h0 q0 g A u s.heap := ⟨hP, hD⟩
  have hl := lv_entry ([.ref h0, .int p0, .int p1, .int p2, .int p3]) (n := 5) (Nat.le_of_ble_eq_true rfl)
  rw [lg_entry_eq]
  generalize (lg_sl ([.ref h0, .int p0, .int p1, .int p2, .int p3]) ++ List.replicate (5 - (lg_sl ([.ref h0, .int p0, .int p1, .int p2, .int p3])).length) Slot.unset).toArray = ls at hl ⊢
  have hl : lv_has ls 5 [(0, .ref h0), (1, .int p0), (2, .int p1), (3, .int p2), (4, .int p3)] := hl
  refine lv_iload_n hx hb md_N_convert_0 rfl (lv_at hl 1 rfl) ?_
  refine lv_iload_n hx hb md_N_convert_1 rfl (lv_at hl 2 rfl) ?_
  refine vp_callSi (W.runS (As := [.int p0, .int p1]) (rest := []) ⟨hx, hb, hml, hown, hts⟩ (mt_N_isNumber l p0 p1) (va_cwS 2 hts (gd_S tm_50 tm_51 tm_24 tm_52) rfl rfl rfl (by decide +kernel) ⟨Nat.le_of_ble_eq_true rfl, Nat.le_of_ble_eq_true rfl⟩) ⟨fb_0, fun U hU hW => ⟨rfl, trivial⟩⟩ rfl rfl hl.1 rfl (lv_room (Nat.le_of_ble_eq_true rfl)) md_N_convert_2 ⟨Nat.zero_le _, Nat.zero_le _⟩) (fun r_1 e_2 => ?_)
  obtain rfl : r_1 = jb (cn_num p0 p1) := e_2
  refine lv_if_eq (tgt := 17) hx hb md_N_convert_5 (by decide) (fun c_3 => ?_) (fun c_3 => ?_)
  · refine lv_iconst (v := (-1)) hx hb md_N_convert_17 (by decide) ?_
    exact W.iret (v := (-1)) hx hb hr (fun t ht2 _ => ⟨⟨(-1), u, rfl, (by rw [mq_cnv_cn]; simp [(jb_0.mp c_3)]), by show NWd D cL cO h0 q0 g A _ t.heap; rw [ht2]; exact hM⟩, hS.F ht2⟩) hS.2.2 md_N_convert_18
  · refine lv_iload_n hx hb md_N_convert_8 rfl (lv_at hl 3 rfl) ?_
    refine lv_iload hx hb md_N_convert_9 (lv_at hl 4 rfl) ?_
    refine vp_callSi (W.runS (As := [.int p2, .int p3]) (rest := []) ⟨hx, hb, hml, hown, hts⟩ (mt_N_isNumber l p2 p3) (va_cwS 2 hts (gd_S tm_50 tm_51 tm_24 tm_52) rfl rfl rfl (by decide +kernel) ⟨Nat.le_of_ble_eq_true rfl, Nat.le_of_ble_eq_true rfl⟩) ⟨fb_0, fun U hU hW => ⟨rfl, trivial⟩⟩ rfl rfl hl.1 rfl (lv_room (Nat.le_of_ble_eq_true rfl)) md_N_convert_11 ⟨Nat.zero_le _, Nat.zero_le _⟩) (fun r_4 e_5 => ?_)
    obtain rfl : r_4 = jb (cn_num p2 p3) := e_5
    refine lv_if_ne (tgt := 19) hx hb md_N_convert_14 (by decide) (fun c_6 => ?_) (fun c_6 => ?_)
    · refine lv_aload_n hx hb md_N_convert_19 rfl (lv_at hl 0 rfl) ?_
      refine va_get (D := D) (ci := 0) (v := .ref q0) (C := "NumberProbe") (T := TN) (N := 1) hx hb ht inN hown hK hM.1 0 rfl rfl 0 (by decide) (ht _ tm_41) (fun _ h9 => h9) rfl md_N_convert_20 ?_
      refine lv_iload_n hx hb md_N_convert_23 rfl (lv_at hl 3 rfl) ?_
      refine n_ald hx hb hK hM (cn_i4 (jb_n0.mp c_6)) md_N_convert_24 ?_
      refine lv_iload hx hb md_N_convert_25 (lv_at hl 4 rfl) ?_
      refine lv_iload_n hx hb md_N_convert_27 rfl (lv_at hl 1 rfl) ?_
      refine lv_aload_n hx hb md_N_convert_28 rfl (lv_at hl 0 rfl) ?_
      refine va_get (D := D) (ci := 0) (v := .ref q0) (C := "NumberProbe") (T := TN) (N := 1) hx hb ht inN hown hK hM.1 0 rfl rfl 0 (by decide) (ht _ tm_41) (fun _ h9 => h9) rfl md_N_convert_29 ?_
      refine lv_iload_n hx hb md_N_convert_32 rfl (lv_at hl 1 rfl) ?_
      refine n_ald hx hb hK hM (cn_i4 (jb_n0.mp c_3)) md_N_convert_33 ?_
      refine lv_iload_n hx hb md_N_convert_34 rfl (lv_at hl 2 rfl) ?_
      refine n_lald hx hb hK hM (vp_lt (cn_i4 (jb_n0.mp c_3))) (cn_i6 (jb_n0.mp c_3)) md_N_convert_35 ?_
      refine lv_iload_n hx hb md_N_convert_36 rfl (lv_at hl 3 rfl) ?_
      refine vp_callSl (W.runS (As := [.int p0, .long (u p0.toNatClampNeg p1.toNatClampNeg), .int p2]) (rest := [.int p3, .ref (g p2.toNatClampNeg)]) ⟨hx, hb, hml, hown, hts⟩ (mt_N_converted l ad p0 (u p0.toNatClampNeg p1.toNatClampNeg) p2) (va_cwS 3 hts (gd_S tm_236 tm_237 tm_24 tm_238) rfl rfl rfl (by decide +kernel) ⟨Nat.le_of_ble_eq_true rfl, Nat.le_of_ble_eq_true rfl⟩) ⟨fb_E, fun U hU hW => ⟨rfl, fw_use hE hS hU hW⟩⟩ rfl rfl hl.1 rfl (lv_room (Nat.le_of_ble_eq_true rfl)) md_N_convert_37 ⟨Nat.zero_le _, Nat.zero_le _⟩) (fun r_7 e_8 => ?_)
      refine n_last hx hb hK hM hS (vp_lt (cn_i4 (jb_n0.mp c_6))) (cn_i6 (jb_n0.mp c_6)) md_N_convert_40 (fun u_9 H_10 L_11 hM hS => ?_)
      refine lv_iconst (v := 0) hx hb md_N_convert_41 (by decide) ?_
      exact W.iret (v := 0) hx hb hr (fun t ht2 _ => ⟨⟨0, u_9, rfl, (by rw [mq_cnv_cn]; simp [(jb_n0.mp c_3), (jb_n0.mp c_6)]), by show NWd D cL cO h0 q0 g A _ t.heap; rw [ht2]; exact hM⟩, hS.F ht2⟩) hS.2.2 md_N_convert_42
    · refine lv_iconst (v := (-1)) hx hb md_N_convert_17 (by decide) ?_
      exact W.iret (v := (-1)) hx hb hr (fun t ht2 _ => ⟨⟨(-1), u, rfl, (by rw [mq_cnv_cn]; simp [(jb_n0.mp c_3), (jb_0.mp c_6)]), by show NWd D cL cO h0 q0 g A _ t.heap; rw [ht2]; exact hM⟩, hS.F ht2⟩) hS.2.2 md_N_convert_18
set_option maxHeartbeats 4000000 in
set_option maxRecDepth 100000 in
theorem mt_N_operate (l : Launch) (D : va_G) (cL cO : ClassId) (h0 q0 : Nat) (g ad tb : Nat → Nat) (sz : Nat) (u : Nat → Nat → Int64) (p0 : Int32) (p1 : Int32) (p2 : Int32) (p3 : Int32) (p4 : Int32) : Met l my_N_operate mw_N_operate ({ frames := 7, cells := 0, slots := 0, locals := 184 } : Room) (NPc D cL cO h0 q0 g ad tb sz u [.int p0, .int p1, .int p2, .int p3, .int p4]) (NQi D cL cO h0 q0 g (NA h0 q0 g cL cO u sz) (fun (r : Int32) (v : Nat → Nat → Int64) => True)) 0 0 (NA h0 q0 g cL cO u sz) := by
  refine Met.ofW (cc := mc_N_operate) (maxL := 8) (ret := (some .int)) (by decide) rfl ?_
  intro p e s m args below meth c s₁ B hml hv
  obtain ⟨rfl, hsz, hP, hK, hD0, hE, hT⟩ := hv
  have hx := B.exec
  have hb := B.bytes
  have hr := B.returns
  have hts := atoms_spec (ws := mw_N_operate) B.pre
  have ht : ∀ w ∈ gw_tbl, w.before _ s = true := fun w h => hts w (List.mem_cons_of_mem _ h)
  have hown : s.vm.findClass "NumberProbe" = some m.cls := findClass_of_methodNamed B.named
  have hlocks := B.notSynchronized
  subst hsz
  have hD : va_D (NA h0 q0 g cL cO u s.heap.size) (nWs h0 q0 g cL cO u) := hD0.self (sz := s.heap.size)
  generalize hAe : NA h0 q0 g cL cO u s.heap.size = A at hD hE hT ⊢
  have hA : ∀ q : Nat, s.heap.size ≤ q → A q := fun q h => by rw [← hAe]; exact Or.inr h
  have hS : va_S A s.heap s.heap [] := va_S.rf
  have hM : NWd D cL cO h0 q0 g A u s.heap := ⟨hP, hD⟩
  have hl := lv_entry ([.ref h0, .int p0, .int p1, .int p2, .int p3, .int p4]) (n := 8) (Nat.le_of_ble_eq_true rfl)
  rw [lg_entry_eq]
  generalize (lg_sl ([.ref h0, .int p0, .int p1, .int p2, .int p3, .int p4]) ++ List.replicate (8 - (lg_sl ([.ref h0, .int p0, .int p1, .int p2, .int p3, .int p4])).length) Slot.unset).toArray = ls at hl ⊢
  have hl : lv_has ls 8 [(0, .ref h0), (1, .int p0), (2, .int p1), (3, .int p2), (4, .int p3), (5, .int p4)] := hl
  refine lv_iload_n hx hb md_N_operate_0 rfl (lv_at hl 1 rfl) ?_
  refine lv_iload_n hx hb md_N_operate_1 rfl (lv_at hl 3 rfl) ?_
  refine vp_callSi (W.runS (As := [.int p0, .int p2]) (rest := []) ⟨hx, hb, hml, hown, hts⟩ (mt_N_isNumber l p0 p2) (va_cwS 2 hts (gd_S tm_50 tm_51 tm_24 tm_52) rfl rfl rfl (by decide +kernel) ⟨Nat.le_of_ble_eq_true rfl, Nat.le_of_ble_eq_true rfl⟩) ⟨fb_0, fun U hU hW => ⟨rfl, trivial⟩⟩ rfl rfl hl.1 rfl (lv_room (Nat.le_of_ble_eq_true rfl)) md_N_operate_2 ⟨Nat.zero_le _, Nat.zero_le _⟩) (fun r_1 e_2 => ?_)
  obtain rfl : r_1 = jb (cn_num p0 p2) := e_2
  refine lv_if_eq (tgt := 34) hx hb md_N_operate_5 (by decide) (fun c_3 => ?_) (fun c_3 => ?_)
  · refine lv_iconst (v := (-1)) hx hb md_N_operate_34 (by decide) ?_
    exact W.iret (v := (-1)) hx hb hr (fun t ht2 _ => ⟨⟨(-1), u, rfl, trivial, by show NWd D cL cO h0 q0 g A _ t.heap; rw [ht2]; exact hM⟩, hS.F ht2⟩) hS.2.2 md_N_operate_35
  · refine lv_iload_n hx hb md_N_operate_8 rfl (lv_at hl 1 rfl) ?_
    refine lv_iload hx hb md_N_operate_9 (lv_at hl 4 rfl) ?_
    refine vp_callSi (W.runS (As := [.int p0, .int p3]) (rest := []) ⟨hx, hb, hml, hown, hts⟩ (mt_N_isNumber l p0 p3) (va_cwS 2 hts (gd_S tm_50 tm_51 tm_24 tm_52) rfl rfl rfl (by decide +kernel) ⟨Nat.le_of_ble_eq_true rfl, Nat.le_of_ble_eq_true rfl⟩) ⟨fb_0, fun U hU hW => ⟨rfl, trivial⟩⟩ rfl rfl hl.1 rfl (lv_room (Nat.le_of_ble_eq_true rfl)) md_N_operate_11 ⟨Nat.zero_le _, Nat.zero_le _⟩) (fun r_4 e_5 => ?_)
    obtain rfl : r_4 = jb (cn_num p0 p3) := e_5
    refine lv_if_eq (tgt := 34) hx hb md_N_operate_14 (by decide) (fun c_6 => ?_) (fun c_6 => ?_)
    · refine lv_iconst (v := (-1)) hx hb md_N_operate_34 (by decide) ?_
      exact W.iret (v := (-1)) hx hb hr (fun t ht2 _ => ⟨⟨(-1), u, rfl, trivial, by show NWd D cL cO h0 q0 g A _ t.heap; rw [ht2]; exact hM⟩, hS.F ht2⟩) hS.2.2 md_N_operate_35
    · refine lv_iload_n hx hb md_N_operate_17 rfl (lv_at hl 1 rfl) ?_
      refine lv_iload hx hb md_N_operate_18 (lv_at hl 5 rfl) ?_
      refine vp_callSi (W.runS (As := [.int p0, .int p4]) (rest := []) ⟨hx, hb, hml, hown, hts⟩ (mt_N_isNumber l p0 p4) (va_cwS 2 hts (gd_S tm_50 tm_51 tm_24 tm_52) rfl rfl rfl (by decide +kernel) ⟨Nat.le_of_ble_eq_true rfl, Nat.le_of_ble_eq_true rfl⟩) ⟨fb_0, fun U hU hW => ⟨rfl, trivial⟩⟩ rfl rfl hl.1 rfl (lv_room (Nat.le_of_ble_eq_true rfl)) md_N_operate_20 ⟨Nat.zero_le _, Nat.zero_le _⟩) (fun r_7 e_8 => ?_)
      obtain rfl : r_7 = jb (cn_num p0 p4) := e_8
      refine lv_if_eq (tgt := 34) hx hb md_N_operate_23 (by decide) (fun c_9 => ?_) (fun c_9 => ?_)
      · refine lv_iconst (v := (-1)) hx hb md_N_operate_34 (by decide) ?_
        exact W.iret (v := (-1)) hx hb hr (fun t ht2 _ => ⟨⟨(-1), u, rfl, trivial, by show NWd D cL cO h0 q0 g A _ t.heap; rw [ht2]; exact hM⟩, hS.F ht2⟩) hS.2.2 md_N_operate_35
      · refine lv_iload_n hx hb md_N_operate_26 rfl (lv_at hl 1 rfl) ?_
        refine lv_iload_n hx hb md_N_operate_27 rfl (lv_at hl 2 rfl) ?_
        refine vp_callSi (W.runS (As := [.int p0, .int p1]) (rest := []) ⟨hx, hb, hml, hown, hts⟩ (mt_N_isOperation l p0 p1) (va_cwS 2 hts (gd_S tm_107 tm_108 tm_24 tm_109) rfl rfl rfl (by decide +kernel) ⟨Nat.le_of_ble_eq_true rfl, Nat.le_of_ble_eq_true rfl⟩) ⟨fb_0, fun U hU hW => ⟨rfl, trivial⟩⟩ rfl rfl hl.1 rfl (lv_room (Nat.le_of_ble_eq_true rfl)) md_N_operate_28 ⟨Nat.zero_le _, Nat.zero_le _⟩) (fun r_10 e_11 => ?_)
        obtain rfl : r_10 = jb (cn_opn p0 p1) := e_11
        refine lv_if_ne (tgt := 36) hx hb md_N_operate_31 (by decide) (fun c_12 => ?_) (fun c_12 => ?_)
        · refine lv_aload_n hx hb md_N_operate_36 rfl (lv_at hl 0 rfl) ?_
          refine va_get (D := D) (ci := 0) (v := .ref q0) (C := "NumberProbe") (T := TN) (N := 1) hx hb ht inN hown hK hM.1 0 rfl rfl 0 (by decide) (ht _ tm_41) (fun _ h9 => h9) rfl md_N_operate_37 ?_
          refine lv_iload_n hx hb md_N_operate_40 rfl (lv_at hl 1 rfl) ?_
          refine n_ald hx hb hK hM (cn_i4 (jb_n0.mp c_9)) md_N_operate_41 ?_
          refine lv_iload hx hb md_N_operate_42 (lv_at hl 4 rfl) ?_
          refine n_lald hx hb hK hM (vp_lt (cn_i4 (jb_n0.mp c_9))) (cn_i6 (jb_n0.mp c_6)) md_N_operate_44 ?_
          refine lv_lstore (lv' := [(6, .long (u p0.toNatClampNeg p3.toNatClampNeg)), (0, .ref h0), (1, .int p0), (2, .int p1), (3, .int p2), (4, .int p3), (5, .int p4)]) hx hb md_N_operate_45 hl (by decide) rfl (fun ls hl => ?_)
          refine lv_iload_n hx hb md_N_operate_47 rfl (lv_at hl 2 rfl) ?_
          refine lv_iload_n hx hb md_N_operate_48 rfl (lv_at hl 3 rfl) ?_
          refine lv_lload hx hb md_N_operate_49 (lv_at hl 0 rfl) ?_
          refine vp_callSi (W.runS (As := [.int p0, .int p1, .long (u p0.toNatClampNeg p3.toNatClampNeg)]) (rest := []) ⟨hx, hb, hml, hown, hts⟩ (mt_N_dividesByZero l p0 p1 (u p0.toNatClampNeg p3.toNatClampNeg)) (va_cwS 3 hts (gd_S tm_110 tm_111 tm_24 tm_112) rfl rfl rfl (by decide +kernel) ⟨Nat.le_of_ble_eq_true rfl, Nat.le_of_ble_eq_true rfl⟩) ⟨fb_0, fun U hU hW => ⟨rfl, trivial⟩⟩ rfl rfl hl.1 rfl (lv_room (Nat.le_of_ble_eq_true rfl)) md_N_operate_51 ⟨Nat.zero_le _, Nat.zero_le _⟩) (fun r_13 e_14 => ?_)
          obtain rfl : r_13 = jb (cn_dbz p0 p1 (u p0.toNatClampNeg p3.toNatClampNeg)) := e_14
          refine lv_if_eq (tgt := 60) hx hb md_N_operate_54 (by decide) (fun c_15 => ?_) (fun c_15 => ?_)
          · refine lv_aload_n hx hb md_N_operate_60 rfl (lv_at hl 1 rfl) ?_
            refine va_get (D := D) (ci := 0) (v := .ref q0) (C := "NumberProbe") (T := TN) (N := 1) hx hb ht inN hown hK hM.1 0 rfl rfl 0 (by decide) (ht _ tm_41) (fun _ h9 => h9) rfl md_N_operate_61 ?_
            refine lv_iload_n hx hb md_N_operate_64 rfl (lv_at hl 2 rfl) ?_
            refine n_ald hx hb hK hM (cn_i4 (jb_n0.mp c_9)) md_N_operate_65 ?_
            refine lv_iload hx hb md_N_operate_66 (lv_at hl 6 rfl) ?_
            refine lv_iload_n hx hb md_N_operate_68 rfl (lv_at hl 2 rfl) ?_
            refine lv_iload_n hx hb md_N_operate_69 rfl (lv_at hl 3 rfl) ?_
            refine lv_aload_n hx hb md_N_operate_70 rfl (lv_at hl 1 rfl) ?_
            refine va_get (D := D) (ci := 0) (v := .ref q0) (C := "NumberProbe") (T := TN) (N := 1) hx hb ht inN hown hK hM.1 0 rfl rfl 0 (by decide) (ht _ tm_41) (fun _ h9 => h9) rfl md_N_operate_71 ?_
            refine lv_iload_n hx hb md_N_operate_74 rfl (lv_at hl 2 rfl) ?_
            refine n_ald hx hb hK hM (cn_i4 (jb_n0.mp c_9)) md_N_operate_75 ?_
            refine lv_iload_n hx hb md_N_operate_76 rfl (lv_at hl 4 rfl) ?_
            refine n_lald hx hb hK hM (vp_lt (cn_i4 (jb_n0.mp c_9))) (cn_i6 (jb_n0.mp c_3)) md_N_operate_77 ?_
            refine lv_lload hx hb md_N_operate_78 (lv_at hl 0 rfl) ?_
            refine vp_callSl (W.runS (As := [.int p0, .int p1, .long (u p0.toNatClampNeg p2.toNatClampNeg), .long (u p0.toNatClampNeg p3.toNatClampNeg)]) (rest := [.int p4, .ref (g p0.toNatClampNeg)]) ⟨hx, hb, hml, hown, hts⟩ (mt_N_result l ad p0 p1 (u p0.toNatClampNeg p2.toNatClampNeg) (u p0.toNatClampNeg p3.toNatClampNeg) (jb_0.mp c_15)) (va_cwS 4 hts (gd_S tm_113 tm_114 tm_24 tm_115) rfl rfl rfl (by decide +kernel) ⟨Nat.le_of_ble_eq_true rfl, Nat.le_of_ble_eq_true rfl⟩) ⟨fb_E, fun U hU hW => ⟨rfl, fw_use hE hS hU hW⟩⟩ rfl rfl hl.1 rfl (lv_room (Nat.le_of_ble_eq_true rfl)) md_N_operate_80 ⟨Nat.zero_le _, Nat.zero_le _⟩) (fun r_16 e_17 => ?_)
            refine n_last hx hb hK hM hS (vp_lt (cn_i4 (jb_n0.mp c_9))) (cn_i6 (jb_n0.mp c_9)) md_N_operate_83 (fun u_18 H_19 L_20 hM hS => ?_)
            refine lv_iconst (v := 0) hx hb md_N_operate_84 (by decide) ?_
            exact W.iret (v := 0) hx hb hr (fun t ht2 _ => ⟨⟨0, u_18, rfl, trivial, by show NWd D cL cO h0 q0 g A _ t.heap; rw [ht2]; exact hM⟩, hS.F ht2⟩) hS.2.2 md_N_operate_85
          · refine lv_bipush (v := (-2)) hx hb md_N_operate_57 (by decide) ?_
            exact W.iret (v := (-2)) hx hb hr (fun t ht2 _ => ⟨⟨(-2), u, rfl, trivial, by show NWd D cL cO h0 q0 g A _ t.heap; rw [ht2]; exact hM⟩, hS.F ht2⟩) hS.2.2 md_N_operate_59
        · refine lv_iconst (v := (-1)) hx hb md_N_operate_34 (by decide) ?_
          exact W.iret (v := (-1)) hx hb hr (fun t ht2 _ => ⟨⟨(-1), u, rfl, trivial, by show NWd D cL cO h0 q0 g A _ t.heap; rw [ht2]; exact hM⟩, hS.F ht2⟩) hS.2.2 md_N_operate_35
set_option maxHeartbeats 4000000 in
set_option maxRecDepth 100000 in
theorem mt_N_assign (l : Launch) (D : va_G) (cL cO : ClassId) (h0 q0 : Nat) (g ad tb : Nat → Nat) (sz : Nat) (u : Nat → Nat → Int64) (p0 : Int32) (p1 : Int32) (p2 : Int32) (p3 : Int32) (p4 : Int32) : Met l my_N_assign mw_N_assign ({ frames := 7, cells := 0, slots := 0, locals := 184 } : Room) (NPc D cL cO h0 q0 g ad tb sz u [.int p0, .int p1, .int p2, .int p3, .int p4]) (NQi D cL cO h0 q0 g (NA h0 q0 g cL cO u sz) (fun (r : Int32) (v : Nat → Nat → Int64) => True)) 0 0 (NA h0 q0 g cL cO u sz) := by
  refine Met.ofW (cc := mc_N_assign) (maxL := 11) (ret := (some .int)) (by decide) rfl ?_
  intro p e s m args below meth c s₁ B hml hv
  obtain ⟨rfl, hsz, hP, hK, hD0, hE, hT⟩ := hv
  have hx := B.exec
  have hb := B.bytes
  have hr := B.returns
  have hts := atoms_spec (ws := mw_N_assign) B.pre
  have ht : ∀ w ∈ gw_tbl, w.before _ s = true := fun w h => hts w (List.mem_cons_of_mem _ h)
  have hown : s.vm.findClass "NumberProbe" = some m.cls := findClass_of_methodNamed B.named
  have hlocks := B.notSynchronized
  subst hsz
  have hD : va_D (NA h0 q0 g cL cO u s.heap.size) (nWs h0 q0 g cL cO u) := hD0.self (sz := s.heap.size)
  generalize hAe : NA h0 q0 g cL cO u s.heap.size = A at hD hE hT ⊢
  have hA : ∀ q : Nat, s.heap.size ≤ q → A q := fun q h => by rw [← hAe]; exact Or.inr h
  have hS : va_S A s.heap s.heap [] := va_S.rf
  have hM : NWd D cL cO h0 q0 g A u s.heap := ⟨hP, hD⟩
  have hl := lv_entry ([.ref h0, .int p0, .int p1, .int p2, .int p3, .int p4]) (n := 11) (Nat.le_of_ble_eq_true rfl)
  rw [lg_entry_eq]
  generalize (lg_sl ([.ref h0, .int p0, .int p1, .int p2, .int p3, .int p4]) ++ List.replicate (11 - (lg_sl ([.ref h0, .int p0, .int p1, .int p2, .int p3, .int p4])).length) Slot.unset).toArray = ls at hl ⊢
  have hl : lv_has ls 11 [(0, .ref h0), (1, .int p0), (2, .int p1), (3, .int p2), (4, .int p3), (5, .int p4)] := hl
  refine lv_iload_n hx hb md_N_assign_0 rfl (lv_at hl 1 rfl) ?_
  refine lv_iload_n hx hb md_N_assign_1 rfl (lv_at hl 2 rfl) ?_
  refine vp_callSi (W.runS (As := [.int p0, .int p1]) (rest := []) ⟨hx, hb, hml, hown, hts⟩ (mt_N_isNumber l p0 p1) (va_cwS 2 hts (gd_S tm_50 tm_51 tm_24 tm_52) rfl rfl rfl (by decide +kernel) ⟨Nat.le_of_ble_eq_true rfl, Nat.le_of_ble_eq_true rfl⟩) ⟨fb_0, fun U hU hW => ⟨rfl, trivial⟩⟩ rfl rfl hl.1 rfl (lv_room (Nat.le_of_ble_eq_true rfl)) md_N_assign_2 ⟨Nat.zero_le _, Nat.zero_le _⟩) (fun r_1 e_2 => ?_)
  obtain rfl : r_1 = jb (cn_num p0 p1) := e_2
  refine lv_if_eq (tgt := 27) hx hb md_N_assign_5 (by decide) (fun c_3 => ?_) (fun c_3 => ?_)
  · refine lv_iconst (v := (-1)) hx hb md_N_assign_27 (by decide) ?_
    exact W.iret (v := (-1)) hx hb hr (fun t ht2 _ => ⟨⟨(-1), u, rfl, trivial, by show NWd D cL cO h0 q0 g A _ t.heap; rw [ht2]; exact hM⟩, hS.F ht2⟩) hS.2.2 md_N_assign_28
  · refine lv_iload hx hb md_N_assign_8 (lv_at hl 4 rfl) ?_
    refine lv_iload hx hb md_N_assign_10 (lv_at hl 5 rfl) ?_
    refine vp_callSi (W.runS (As := [.int p3, .int p4]) (rest := []) ⟨hx, hb, hml, hown, hts⟩ (mt_N_isNumber l p3 p4) (va_cwS 2 hts (gd_S tm_50 tm_51 tm_24 tm_52) rfl rfl rfl (by decide +kernel) ⟨Nat.le_of_ble_eq_true rfl, Nat.le_of_ble_eq_true rfl⟩) ⟨fb_0, fun U hU hW => ⟨rfl, trivial⟩⟩ rfl rfl hl.1 rfl (lv_room (Nat.le_of_ble_eq_true rfl)) md_N_assign_12 ⟨Nat.zero_le _, Nat.zero_le _⟩) (fun r_4 e_5 => ?_)
    obtain rfl : r_4 = jb (cn_num p3 p4) := e_5
    refine lv_if_eq (tgt := 27) hx hb md_N_assign_15 (by decide) (fun c_6 => ?_) (fun c_6 => ?_)
    · refine lv_iconst (v := (-1)) hx hb md_N_assign_27 (by decide) ?_
      exact W.iret (v := (-1)) hx hb hr (fun t ht2 _ => ⟨⟨(-1), u, rfl, trivial, by show NWd D cL cO h0 q0 g A _ t.heap; rw [ht2]; exact hM⟩, hS.F ht2⟩) hS.2.2 md_N_assign_28
    · refine lv_iload_n hx hb md_N_assign_18 rfl (lv_at hl 3 rfl) ?_
      refine lv_if_lt (tgt := 27) hx hb md_N_assign_19 (by decide) (fun c_7 => ?_) (fun c_7 => ?_)
      · refine lv_iconst (v := (-1)) hx hb md_N_assign_27 (by decide) ?_
        exact W.iret (v := (-1)) hx hb hr (fun t ht2 _ => ⟨⟨(-1), u, rfl, trivial, by show NWd D cL cO h0 q0 g A _ t.heap; rw [ht2]; exact hM⟩, hS.F ht2⟩) hS.2.2 md_N_assign_28
      · refine lv_iload_n hx hb md_N_assign_22 rfl (lv_at hl 3 rfl) ?_
        refine lv_iconst (v := 3) hx hb md_N_assign_23 (by decide) ?_
        refine lv_icmp_le (tgt := 29) hx hb md_N_assign_24 (by decide) (fun c_8 => ?_) (fun c_8 => ?_)
        · refine lv_iload_n hx hb md_N_assign_29 rfl (lv_at hl 1 rfl) ?_
          refine vp_callSi (W.runS (As := [.int p0]) (rest := []) ⟨hx, hb, hml, hown, hts⟩ (mt_N_widthOf l p0) (va_cwS 1 hts (gd_S tm_233 tm_234 tm_24 tm_235) rfl rfl rfl (by decide +kernel) ⟨Nat.le_of_ble_eq_true rfl, Nat.le_of_ble_eq_true rfl⟩) ⟨fb_0, fun U hU hW => ⟨rfl, trivial⟩⟩ rfl rfl hl.1 rfl (lv_room (Nat.le_of_ble_eq_true rfl)) md_N_assign_30 ⟨Nat.zero_le _, Nat.zero_le _⟩) (fun r_9 e_10 => ?_)
          obtain rfl : r_9 = cn_wid p0 := e_10
          refine lv_iload hx hb md_N_assign_33 (lv_at hl 4 rfl) ?_
          refine vp_callSi (W.runS (As := [.int p3]) (rest := [.int (cn_wid p0)]) ⟨hx, hb, hml, hown, hts⟩ (mt_N_widthOf l p3) (va_cwS 1 hts (gd_S tm_233 tm_234 tm_24 tm_235) rfl rfl rfl (by decide +kernel) ⟨Nat.le_of_ble_eq_true rfl, Nat.le_of_ble_eq_true rfl⟩) ⟨fb_0, fun U hU hW => ⟨rfl, trivial⟩⟩ rfl rfl hl.1 rfl (lv_room (Nat.le_of_ble_eq_true rfl)) md_N_assign_35 ⟨Nat.zero_le _, Nat.zero_le _⟩) (fun r_11 e_12 => ?_)
          obtain rfl : r_11 = cn_wid p3 := e_12
          have J_14 : ∀ (z_15 : Int32) (ls : Array Slot), lv_has ls 11 [(0, .ref h0), (1, .int p0), (2, .int p1), (3, .int p2), (4, .int p3), (5, .int p4)] → W p l e (headSpec mw_N_assign ({ frames := 7, cells := 0, slots := 0, locals := 184 } : Room)).room s m ([.ref h0, .int p0, .int p1, .int p2, .int p3, .int p4] : List Value).toArray below meth c s.heap [] 0 0 (MQ below (NQi D cL cO h0 q0 g A (fun (r : Int32) (v : Nat → Nat → Int64) => True)) ([.ref h0, .int p0, .int p1, .int p2, .int p3, .int p4] : List Value).toArray s 0 0 A) (F0 m 47 ls [.int z_15]) := by
            intro z_15 ls hl
            refine lv_istore (lv' := [(6, .int z_15), (0, .ref h0), (1, .int p0), (2, .int p1), (3, .int p2), (4, .int p3), (5, .int p4)]) hx hb md_N_assign_47 hl (by decide) rfl (fun ls hl => ?_)
            refine lv_iload_n hx hb md_N_assign_49 rfl (lv_at hl 2 rfl) ?_
            refine lv_aload_n hx hb md_N_assign_50 rfl (lv_at hl 1 rfl) ?_
            refine va_get (D := D) (ci := 0) (v := .ref q0) (C := "NumberProbe") (T := TN) (N := 1) hx hb ht inN hown hK hM.1 0 rfl rfl 0 (by decide) (ht _ tm_41) (fun _ h9 => h9) rfl md_N_assign_51 ?_
            refine lv_iload_n hx hb md_N_assign_54 rfl (lv_at hl 2 rfl) ?_
            refine n_ald hx hb hK hM (cn_i4 (jb_n0.mp c_3)) md_N_assign_55 ?_
            refine lv_iload_n hx hb md_N_assign_56 rfl (lv_at hl 3 rfl) ?_
            refine n_lald hx hb hK hM (vp_lt (cn_i4 (jb_n0.mp c_3))) (cn_i6 (jb_n0.mp c_3)) md_N_assign_57 ?_
            refine lv_iload hx hb md_N_assign_58 (lv_at hl 0 rfl) ?_
            refine vp_callSl (W.runS (As := [.int p0, .long (u p0.toNatClampNeg p1.toNatClampNeg), .int z_15]) (rest := []) ⟨hx, hb, hml, hown, hts⟩ (mt_N_converted l ad p0 (u p0.toNatClampNeg p1.toNatClampNeg) z_15) (va_cwS 3 hts (gd_S tm_236 tm_237 tm_24 tm_238) rfl rfl rfl (by decide +kernel) ⟨Nat.le_of_ble_eq_true rfl, Nat.le_of_ble_eq_true rfl⟩) ⟨fb_E, fun U hU hW => ⟨rfl, fw_use hE hS hU hW⟩⟩ rfl rfl hl.1 rfl (lv_room (Nat.le_of_ble_eq_true rfl)) md_N_assign_60 ⟨Nat.zero_le _, Nat.zero_le _⟩) (fun r_16 e_17 => ?_)
            refine lv_lstore (lv' := [(7, .long r_16), (6, .int z_15), (0, .ref h0), (1, .int p0), (2, .int p1), (3, .int p2), (4, .int p3), (5, .int p4)]) hx hb md_N_assign_63 hl (by decide) rfl (fun ls hl => ?_)
            refine lv_iload hx hb md_N_assign_65 (lv_at hl 6 rfl) ?_
            refine lv_aload_n hx hb md_N_assign_67 rfl (lv_at hl 2 rfl) ?_
            refine va_get (D := D) (ci := 0) (v := .ref q0) (C := "NumberProbe") (T := TN) (N := 1) hx hb ht inN hown hK hM.1 0 rfl rfl 0 (by decide) (ht _ tm_41) (fun _ h9 => h9) rfl md_N_assign_68 ?_
            refine lv_iload hx hb md_N_assign_71 (lv_at hl 6 rfl) ?_
            refine n_ald hx hb hK hM (cn_i4 (jb_n0.mp c_6)) md_N_assign_73 ?_
            refine lv_iload hx hb md_N_assign_74 (lv_at hl 7 rfl) ?_
            refine n_lald hx hb hK hM (vp_lt (cn_i4 (jb_n0.mp c_6))) (cn_i6 (jb_n0.mp c_6)) md_N_assign_76 ?_
            refine lv_iload hx hb md_N_assign_77 (lv_at hl 1 rfl) ?_
            refine vp_callSl (W.runS (As := [.int p3, .long (u p3.toNatClampNeg p4.toNatClampNeg), .int z_15]) (rest := []) ⟨hx, hb, hml, hown, hts⟩ (mt_N_converted l ad p3 (u p3.toNatClampNeg p4.toNatClampNeg) z_15) (va_cwS 3 hts (gd_S tm_236 tm_237 tm_24 tm_238) rfl rfl rfl (by decide +kernel) ⟨Nat.le_of_ble_eq_true rfl, Nat.le_of_ble_eq_true rfl⟩) ⟨fb_E, fun U hU hW => ⟨rfl, fw_use hE hS hU hW⟩⟩ rfl rfl hl.1 rfl (lv_room (Nat.le_of_ble_eq_true rfl)) md_N_assign_79 ⟨Nat.zero_le _, Nat.zero_le _⟩) (fun r_18 e_19 => ?_)
            refine lv_lstore (lv' := [(9, .long r_18), (7, .long r_16), (6, .int z_15), (0, .ref h0), (1, .int p0), (2, .int p1), (3, .int p2), (4, .int p3), (5, .int p4)]) hx hb md_N_assign_82 hl (by decide) rfl (fun ls hl => ?_)
            refine lv_iload hx hb md_N_assign_84 (lv_at hl 2 rfl) ?_
            refine lv_iload_n hx hb md_N_assign_86 rfl (lv_at hl 6 rfl) ?_
            refine lv_lload hx hb md_N_assign_87 (lv_at hl 0 rfl) ?_
            refine vp_callSi (W.runS (As := [.int z_15, .int p2, .long r_18]) (rest := []) ⟨hx, hb, hml, hown, hts⟩ (mt_N_dividesByZero l z_15 p2 r_18) (va_cwS 3 hts (gd_S tm_110 tm_111 tm_24 tm_112) rfl rfl rfl (by decide +kernel) ⟨Nat.le_of_ble_eq_true rfl, Nat.le_of_ble_eq_true rfl⟩) ⟨fb_0, fun U hU hW => ⟨rfl, trivial⟩⟩ rfl rfl hl.1 rfl (lv_room (Nat.le_of_ble_eq_true rfl)) md_N_assign_89 ⟨Nat.zero_le _, Nat.zero_le _⟩) (fun r_20 e_21 => ?_)
            obtain rfl : r_20 = jb (cn_dbz z_15 p2 r_18) := e_21
            refine lv_if_eq (tgt := 98) hx hb md_N_assign_92 (by decide) (fun c_22 => ?_) (fun c_22 => ?_)
            · refine lv_aload_n hx hb md_N_assign_98 rfl (lv_at hl 3 rfl) ?_
              refine va_get (D := D) (ci := 0) (v := .ref q0) (C := "NumberProbe") (T := TN) (N := 1) hx hb ht inN hown hK hM.1 0 rfl rfl 0 (by decide) (ht _ tm_41) (fun _ h9 => h9) rfl md_N_assign_99 ?_
              refine lv_iload_n hx hb md_N_assign_102 rfl (lv_at hl 4 rfl) ?_
              refine n_ald hx hb hK hM (cn_i4 (jb_n0.mp c_3)) md_N_assign_103 ?_
              refine lv_iload_n hx hb md_N_assign_104 rfl (lv_at hl 5 rfl) ?_
              refine lv_iload hx hb md_N_assign_105 (lv_at hl 2 rfl) ?_
              refine lv_iload hx hb md_N_assign_107 (lv_at hl 2 rfl) ?_
              refine lv_iload_n hx hb md_N_assign_109 rfl (lv_at hl 6 rfl) ?_
              refine lv_lload hx hb md_N_assign_110 (lv_at hl 1 rfl) ?_
              refine lv_lload hx hb md_N_assign_112 (lv_at hl 0 rfl) ?_
              refine vp_callSl (W.runS (As := [.int z_15, .int p2, .long r_16, .long r_18]) (rest := [.int z_15, .int p1, .ref (g p0.toNatClampNeg)]) ⟨hx, hb, hml, hown, hts⟩ (mt_N_result l ad z_15 p2 r_16 r_18 (jb_0.mp c_22)) (va_cwS 4 hts (gd_S tm_113 tm_114 tm_24 tm_115) rfl rfl rfl (by decide +kernel) ⟨Nat.le_of_ble_eq_true rfl, Nat.le_of_ble_eq_true rfl⟩) ⟨fb_E, fun U hU hW => ⟨rfl, fw_use hE hS hU hW⟩⟩ rfl rfl hl.1 rfl (lv_room (Nat.le_of_ble_eq_true rfl)) md_N_assign_114 ⟨Nat.zero_le _, Nat.zero_le _⟩) (fun r_23 e_24 => ?_)
              refine lv_iload_n hx hb md_N_assign_117 rfl (lv_at hl 4 rfl) ?_
              refine vp_callSl (W.runS (As := [.int z_15, .long r_23, .int p0]) (rest := [.int p1, .ref (g p0.toNatClampNeg)]) ⟨hx, hb, hml, hown, hts⟩ (mt_N_converted l ad z_15 r_23 p0) (va_cwS 3 hts (gd_S tm_236 tm_237 tm_24 tm_238) rfl rfl rfl (by decide +kernel) ⟨Nat.le_of_ble_eq_true rfl, Nat.le_of_ble_eq_true rfl⟩) ⟨fb_E, fun U hU hW => ⟨rfl, fw_use hE hS hU hW⟩⟩ rfl rfl hl.1 rfl (lv_room (Nat.le_of_ble_eq_true rfl)) md_N_assign_118 ⟨Nat.zero_le _, Nat.zero_le _⟩) (fun r_25 e_26 => ?_)
              refine n_last hx hb hK hM hS (vp_lt (cn_i4 (jb_n0.mp c_3))) (cn_i6 (jb_n0.mp c_3)) md_N_assign_121 (fun u_27 H_28 L_29 hM hS => ?_)
              refine lv_iconst (v := 0) hx hb md_N_assign_122 (by decide) ?_
              exact W.iret (v := 0) hx hb hr (fun t ht2 _ => ⟨⟨0, u_27, rfl, trivial, by show NWd D cL cO h0 q0 g A _ t.heap; rw [ht2]; exact hM⟩, hS.F ht2⟩) hS.2.2 md_N_assign_123
            · refine lv_bipush (v := (-2)) hx hb md_N_assign_95 (by decide) ?_
              exact W.iret (v := (-2)) hx hb hr (fun t ht2 _ => ⟨⟨(-2), u, rfl, trivial, by show NWd D cL cO h0 q0 g A _ t.heap; rw [ht2]; exact hM⟩, hS.F ht2⟩) hS.2.2 md_N_assign_97
          refine lv_icmp_lt (tgt := 45) hx hb md_N_assign_38 (by decide) (fun c_13 => ?_) (fun c_13 => ?_)
          · refine lv_iload hx hb md_N_assign_45 (lv_at hl 4 rfl) ?_
            exact J_14 p3 ls (lv_sub hl [0, 1, 2, 3, 4, 5] rfl)
          · refine lv_iload_n hx hb md_N_assign_41 rfl (lv_at hl 1 rfl) ?_
            refine lv_goto (tgt := 47) hx hb md_N_assign_42 (by decide) ?_
            exact J_14 p0 ls (lv_sub hl [0, 1, 2, 3, 4, 5] rfl)
        · refine lv_iconst (v := (-1)) hx hb md_N_assign_27 (by decide) ?_
          exact W.iret (v := (-1)) hx hb hr (fun t ht2 _ => ⟨⟨(-1), u, rfl, trivial, by show NWd D cL cO h0 q0 g A _ t.heap; rw [ht2]; exact hM⟩, hS.F ht2⟩) hS.2.2 md_N_assign_28
set_option maxHeartbeats 4000000 in
set_option maxRecDepth 100000 in
theorem mt_N_narrow (l : Launch) (D : va_G) (cL cO : ClassId) (h0 q0 : Nat) (g ad tb : Nat → Nat) (sz : Nat) (u : Nat → Nat → Int64) (p0 : Int32) (p1 : Int32) (p2 : Int32) : Met l my_N_narrow mw_N_narrow ({ frames := 5, cells := 0, slots := 0, locals := 122 } : Room) (NPc D cL cO h0 q0 g ad tb sz u [.int p0, .int p1, .int p2]) (NQi D cL cO h0 q0 g (NA h0 q0 g cL cO u sz) (fun (r : Int32) (v : Nat → Nat → Int64) => True)) 0 0 (NA h0 q0 g cL cO u sz) := by
  refine Met.ofW (cc := mc_N_narrow) (maxL := 5) (ret := (some .int)) (by decide) rfl ?_
  intro p e s m args below meth c s₁ B hml hv
  obtain ⟨rfl, hsz, hP, hK, hD0, hE, hT⟩ := hv
  have hx := B.exec
  have hb := B.bytes
  have hr := B.returns
  have hts := atoms_spec (ws := mw_N_narrow) B.pre
  have ht : ∀ w ∈ gw_tbl, w.before _ s = true := fun w h => hts w (List.mem_cons_of_mem _ h)
  have hown : s.vm.findClass "NumberProbe" = some m.cls := findClass_of_methodNamed B.named
  have hlocks := B.notSynchronized
  subst hsz
  have hD : va_D (NA h0 q0 g cL cO u s.heap.size) (nWs h0 q0 g cL cO u) := hD0.self (sz := s.heap.size)
  generalize hAe : NA h0 q0 g cL cO u s.heap.size = A at hD hE hT ⊢
  have hA : ∀ q : Nat, s.heap.size ≤ q → A q := fun q h => by rw [← hAe]; exact Or.inr h
  have hS : va_S A s.heap s.heap [] := va_S.rf
  have hM : NWd D cL cO h0 q0 g A u s.heap := ⟨hP, hD⟩
  have hl := lv_entry ([.ref h0, .int p0, .int p1, .int p2]) (n := 5) (Nat.le_of_ble_eq_true rfl)
  rw [lg_entry_eq]
  generalize (lg_sl ([.ref h0, .int p0, .int p1, .int p2]) ++ List.replicate (5 - (lg_sl ([.ref h0, .int p0, .int p1, .int p2])).length) Slot.unset).toArray = ls at hl ⊢
  have hl : lv_has ls 5 [(0, .ref h0), (1, .int p0), (2, .int p1), (3, .int p2)] := hl
  refine lv_iload_n hx hb md_N_narrow_0 rfl (lv_at hl 1 rfl) ?_
  refine lv_iload_n hx hb md_N_narrow_1 rfl (lv_at hl 2 rfl) ?_
  refine vp_callSi (W.runS (As := [.int p0, .int p1]) (rest := []) ⟨hx, hb, hml, hown, hts⟩ (mt_N_isNumber l p0 p1) (va_cwS 2 hts (gd_S tm_50 tm_51 tm_24 tm_52) rfl rfl rfl (by decide +kernel) ⟨Nat.le_of_ble_eq_true rfl, Nat.le_of_ble_eq_true rfl⟩) ⟨fb_0, fun U hU hW => ⟨rfl, trivial⟩⟩ rfl rfl hl.1 rfl (lv_room (Nat.le_of_ble_eq_true rfl)) md_N_narrow_2 ⟨Nat.zero_le _, Nat.zero_le _⟩) (fun r_1 e_2 => ?_)
  obtain rfl : r_1 = jb (cn_num p0 p1) := e_2
  refine lv_if_ne (tgt := 10) hx hb md_N_narrow_5 (by decide) (fun c_3 => ?_) (fun c_3 => ?_)
  · refine lv_iload_n hx hb md_N_narrow_10 rfl (lv_at hl 1 rfl) ?_
    refine lv_aload_n hx hb md_N_narrow_11 rfl (lv_at hl 0 rfl) ?_
    refine va_get (D := D) (ci := 0) (v := .ref q0) (C := "NumberProbe") (T := TN) (N := 1) hx hb ht inN hown hK hM.1 0 rfl rfl 0 (by decide) (ht _ tm_41) (fun _ h9 => h9) rfl md_N_narrow_12 ?_
    refine lv_iload_n hx hb md_N_narrow_15 rfl (lv_at hl 1 rfl) ?_
    refine n_ald hx hb hK hM (cn_i4 (jb_n0.mp c_3)) md_N_narrow_16 ?_
    refine lv_iload_n hx hb md_N_narrow_17 rfl (lv_at hl 2 rfl) ?_
    refine n_lald hx hb hK hM (vp_lt (cn_i4 (jb_n0.mp c_3))) (cn_i6 (jb_n0.mp c_3)) md_N_narrow_18 ?_
    refine lv_iconst (v := 2) hx hb md_N_narrow_19 (by decide) ?_
    refine vp_callSl (W.runS (As := [.int p0, .long (u p0.toNatClampNeg p1.toNatClampNeg), .int 2]) (rest := []) ⟨hx, hb, hml, hown, hts⟩ (mt_N_converted l ad p0 (u p0.toNatClampNeg p1.toNatClampNeg) 2) (va_cwS 3 hts (gd_S tm_236 tm_237 tm_24 tm_238) rfl rfl rfl (by decide +kernel) ⟨Nat.le_of_ble_eq_true rfl, Nat.le_of_ble_eq_true rfl⟩) ⟨fb_E, fun U hU hW => ⟨rfl, fw_use hE hS hU hW⟩⟩ rfl rfl hl.1 rfl (lv_room (Nat.le_of_ble_eq_true rfl)) md_N_narrow_20 ⟨Nat.zero_le _, Nat.zero_le _⟩) (fun r_4 e_5 => ?_)
    refine lv_l2i (v := r_4.toInt32) hx hb md_N_narrow_23 rfl ?_
    refine lv_istore (lv' := [(4, .int r_4.toInt32), (0, .ref h0), (1, .int p0), (2, .int p1), (3, .int p2)]) hx hb md_N_narrow_24 hl (by decide) rfl (fun ls hl => ?_)
    refine lv_iload_n hx hb md_N_narrow_26 rfl (lv_at hl 4 rfl) ?_
    by_cases k_6 : p2 = 0
    · refine lv_tableIn (off := 29) (tgt := 56) hx hb md_N_narrow_27 (by rw [k_6]; decide) (by rw [k_6]; decide) (by rw [k_6]; rfl) (by decide) ?_
      refine lv_iload hx hb md_N_narrow_56 (lv_at hl 0 rfl) ?_
      refine lv_i2b (v := r_4.toInt32.toInt8.toInt32) hx hb md_N_narrow_58 rfl ?_
      exact W.iret (v := r_4.toInt32.toInt8.toInt32) hx hb hr (fun t ht2 _ => ⟨⟨r_4.toInt32.toInt8.toInt32, u, rfl, trivial, by show NWd D cL cO h0 q0 g A _ t.heap; rw [ht2]; exact hM⟩, hS.F ht2⟩) hS.2.2 md_N_narrow_59
    by_cases k_7 : p2 = 1
    · refine lv_tableIn (off := 33) (tgt := 60) hx hb md_N_narrow_27 (by rw [k_7]; decide) (by rw [k_7]; decide) (by rw [k_7]; rfl) (by decide) ?_
      refine lv_iload hx hb md_N_narrow_60 (lv_at hl 0 rfl) ?_
      refine lv_i2c (v := (r_4.toInt32.toUInt32 % 65536).toInt32) hx hb md_N_narrow_62 rfl ?_
      exact W.iret (v := (r_4.toInt32.toUInt32 % 65536).toInt32) hx hb hr (fun t ht2 _ => ⟨⟨(r_4.toInt32.toUInt32 % 65536).toInt32, u, rfl, trivial, by show NWd D cL cO h0 q0 g A _ t.heap; rw [ht2]; exact hM⟩, hS.F ht2⟩) hS.2.2 md_N_narrow_63
    by_cases k_8 : p2 = 2
    · refine lv_tableIn (off := 37) (tgt := 64) hx hb md_N_narrow_27 (by rw [k_8]; decide) (by rw [k_8]; decide) (by rw [k_8]; rfl) (by decide) ?_
      refine lv_iload hx hb md_N_narrow_64 (lv_at hl 0 rfl) ?_
      refine lv_i2s (v := r_4.toInt32.toInt16.toInt32) hx hb md_N_narrow_66 rfl ?_
      exact W.iret (v := r_4.toInt32.toInt16.toInt32) hx hb hr (fun t ht2 _ => ⟨⟨r_4.toInt32.toInt16.toInt32, u, rfl, trivial, by show NWd D cL cO h0 q0 g A _ t.heap; rw [ht2]; exact hM⟩, hS.F ht2⟩) hS.2.2 md_N_narrow_67
    by_cases k_9 : p2 = 3
    · refine lv_tableIn (off := 41) (tgt := 68) hx hb md_N_narrow_27 (by rw [k_9]; decide) (by rw [k_9]; decide) (by rw [k_9]; rfl) (by decide) ?_
      refine lv_iload hx hb md_N_narrow_68 (lv_at hl 0 rfl) ?_
      exact W.iret (v := r_4.toInt32) hx hb hr (fun t ht2 _ => ⟨⟨r_4.toInt32, u, rfl, trivial, by show NWd D cL cO h0 q0 g A _ t.heap; rw [ht2]; exact hM⟩, hS.F ht2⟩) hS.2.2 md_N_narrow_70
    refine lv_tableOut (tgt := 71) hx hb md_N_narrow_27 (by have := lv_neT k_6 (a := 0) rfl; have := lv_neT k_7 (a := 1) rfl; have := lv_neT k_8 (a := 2) rfl; have := lv_neT k_9 (a := 3) rfl; omega) (by decide) ?_
    refine lv_iconst (v := 0) hx hb md_N_narrow_71 (by decide) ?_
    exact W.iret (v := 0) hx hb hr (fun t ht2 _ => ⟨⟨0, u, rfl, trivial, by show NWd D cL cO h0 q0 g A _ t.heap; rw [ht2]; exact hM⟩, hS.F ht2⟩) hS.2.2 md_N_narrow_72
  · refine lv_iconst (v := 0) hx hb md_N_narrow_8 (by decide) ?_
    exact W.iret (v := 0) hx hb hr (fun t ht2 _ => ⟨⟨0, u, rfl, trivial, by show NWd D cL cO h0 q0 g A _ t.heap; rw [ht2]; exact hM⟩, hS.F ht2⟩) hS.2.2 md_N_narrow_9
set_option maxHeartbeats 4000000 in
set_option maxRecDepth 100000 in
theorem mt_N_compare (l : Launch) (D : va_G) (cL cO : ClassId) (h0 q0 : Nat) (g ad tb : Nat → Nat) (sz : Nat) (u : Nat → Nat → Int64) (p0 : Int32) (p1 : Int32) (p2 : Int32) : Met l my_N_compare mw_N_compare ({ frames := 3, cells := 0, slots := 0, locals := 66 } : Room) (NPc D cL cO h0 q0 g ad tb sz u [.int p0, .int p1, .int p2]) (NQi D cL cO h0 q0 g (NA h0 q0 g cL cO u sz) (fun (r : Int32) (v : Nat → Nat → Int64) => True)) 0 0 (NA h0 q0 g cL cO u sz) := by
  refine Met.ofW (cc := mc_N_compare) (maxL := 9) (ret := (some .int)) (by decide) rfl ?_
  intro p e s m args below meth c s₁ B hml hv
  obtain ⟨rfl, hsz, hP, hK, hD0, hE, hT⟩ := hv
  have hx := B.exec
  have hb := B.bytes
  have hr := B.returns
  have hts := atoms_spec (ws := mw_N_compare) B.pre
  have ht : ∀ w ∈ gw_tbl, w.before _ s = true := fun w h => hts w (List.mem_cons_of_mem _ h)
  have hown : s.vm.findClass "NumberProbe" = some m.cls := findClass_of_methodNamed B.named
  have hlocks := B.notSynchronized
  subst hsz
  have hD : va_D (NA h0 q0 g cL cO u s.heap.size) (nWs h0 q0 g cL cO u) := hD0.self (sz := s.heap.size)
  generalize hAe : NA h0 q0 g cL cO u s.heap.size = A at hD hE hT ⊢
  have hA : ∀ q : Nat, s.heap.size ≤ q → A q := fun q h => by rw [← hAe]; exact Or.inr h
  have hS : va_S A s.heap s.heap [] := va_S.rf
  have hM : NWd D cL cO h0 q0 g A u s.heap := ⟨hP, hD⟩
  have hl := lv_entry ([.ref h0, .int p0, .int p1, .int p2]) (n := 9) (Nat.le_of_ble_eq_true rfl)
  rw [lg_entry_eq]
  generalize (lg_sl ([.ref h0, .int p0, .int p1, .int p2]) ++ List.replicate (9 - (lg_sl ([.ref h0, .int p0, .int p1, .int p2])).length) Slot.unset).toArray = ls at hl ⊢
  have hl : lv_has ls 9 [(0, .ref h0), (1, .int p0), (2, .int p1), (3, .int p2)] := hl
  refine lv_iload_n hx hb md_N_compare_0 rfl (lv_at hl 1 rfl) ?_
  refine lv_iload_n hx hb md_N_compare_1 rfl (lv_at hl 2 rfl) ?_
  refine vp_callSi (W.runS (As := [.int p0, .int p1]) (rest := []) ⟨hx, hb, hml, hown, hts⟩ (mt_N_isNumber l p0 p1) (va_cwS 2 hts (gd_S tm_50 tm_51 tm_24 tm_52) rfl rfl rfl (by decide +kernel) ⟨Nat.le_of_ble_eq_true rfl, Nat.le_of_ble_eq_true rfl⟩) ⟨fb_0, fun U hU hW => ⟨rfl, trivial⟩⟩ rfl rfl hl.1 rfl (lv_room (Nat.le_of_ble_eq_true rfl)) md_N_compare_2 ⟨Nat.zero_le _, Nat.zero_le _⟩) (fun r_1 e_2 => ?_)
  obtain rfl : r_1 = jb (cn_num p0 p1) := e_2
  refine lv_if_eq (tgt := 16) hx hb md_N_compare_5 (by decide) (fun c_3 => ?_) (fun c_3 => ?_)
  · refine lv_iconst (v := (-1)) hx hb md_N_compare_16 (by decide) ?_
    exact W.iret (v := (-1)) hx hb hr (fun t ht2 _ => ⟨⟨(-1), u, rfl, trivial, by show NWd D cL cO h0 q0 g A _ t.heap; rw [ht2]; exact hM⟩, hS.F ht2⟩) hS.2.2 md_N_compare_17
  · refine lv_iload_n hx hb md_N_compare_8 rfl (lv_at hl 1 rfl) ?_
    refine lv_iload_n hx hb md_N_compare_9 rfl (lv_at hl 3 rfl) ?_
    refine vp_callSi (W.runS (As := [.int p0, .int p2]) (rest := []) ⟨hx, hb, hml, hown, hts⟩ (mt_N_isNumber l p0 p2) (va_cwS 2 hts (gd_S tm_50 tm_51 tm_24 tm_52) rfl rfl rfl (by decide +kernel) ⟨Nat.le_of_ble_eq_true rfl, Nat.le_of_ble_eq_true rfl⟩) ⟨fb_0, fun U hU hW => ⟨rfl, trivial⟩⟩ rfl rfl hl.1 rfl (lv_room (Nat.le_of_ble_eq_true rfl)) md_N_compare_10 ⟨Nat.zero_le _, Nat.zero_le _⟩) (fun r_4 e_5 => ?_)
    obtain rfl : r_4 = jb (cn_num p0 p2) := e_5
    refine lv_if_ne (tgt := 18) hx hb md_N_compare_13 (by decide) (fun c_6 => ?_) (fun c_6 => ?_)
    · refine lv_aload_n hx hb md_N_compare_18 rfl (lv_at hl 0 rfl) ?_
      refine va_get (D := D) (ci := 0) (v := .ref q0) (C := "NumberProbe") (T := TN) (N := 1) hx hb ht inN hown hK hM.1 0 rfl rfl 0 (by decide) (ht _ tm_41) (fun _ h9 => h9) rfl md_N_compare_19 ?_
      refine lv_iload_n hx hb md_N_compare_22 rfl (lv_at hl 1 rfl) ?_
      refine n_ald hx hb hK hM (cn_i4 (jb_n0.mp c_6)) md_N_compare_23 ?_
      refine lv_iload_n hx hb md_N_compare_24 rfl (lv_at hl 2 rfl) ?_
      refine n_lald hx hb hK hM (vp_lt (cn_i4 (jb_n0.mp c_6))) (cn_i6 (jb_n0.mp c_3)) md_N_compare_25 ?_
      refine lv_lstore (lv' := [(4, .long (u p0.toNatClampNeg p1.toNatClampNeg)), (0, .ref h0), (1, .int p0), (2, .int p1), (3, .int p2)]) hx hb md_N_compare_26 hl (by decide) rfl (fun ls hl => ?_)
      refine lv_aload_n hx hb md_N_compare_28 rfl (lv_at hl 1 rfl) ?_
      refine va_get (D := D) (ci := 0) (v := .ref q0) (C := "NumberProbe") (T := TN) (N := 1) hx hb ht inN hown hK hM.1 0 rfl rfl 0 (by decide) (ht _ tm_41) (fun _ h9 => h9) rfl md_N_compare_29 ?_
      refine lv_iload_n hx hb md_N_compare_32 rfl (lv_at hl 2 rfl) ?_
      refine n_ald hx hb hK hM (cn_i4 (jb_n0.mp c_6)) md_N_compare_33 ?_
      refine lv_iload_n hx hb md_N_compare_34 rfl (lv_at hl 4 rfl) ?_
      refine n_lald hx hb hK hM (vp_lt (cn_i4 (jb_n0.mp c_6))) (cn_i6 (jb_n0.mp c_6)) md_N_compare_35 ?_
      refine lv_lstore (lv' := [(6, .long (u p0.toNatClampNeg p2.toNatClampNeg)), (4, .long (u p0.toNatClampNeg p1.toNatClampNeg)), (0, .ref h0), (1, .int p0), (2, .int p1), (3, .int p2)]) hx hb md_N_compare_36 hl (by decide) rfl (fun ls hl => ?_)
      refine lv_iload_n hx hb md_N_compare_38 rfl (lv_at hl 3 rfl) ?_
      refine vp_callSi (W.runS (As := [.int p0]) (rest := []) ⟨hx, hb, hml, hown, hts⟩ (mt_N_isFloating l p0) (va_cwS 1 hts (gd_S tm_53 tm_54 tm_24 tm_55) rfl rfl rfl (by decide +kernel) ⟨Nat.le_of_ble_eq_true rfl, Nat.le_of_ble_eq_true rfl⟩) ⟨fb_0, fun U hU hW => ⟨rfl, trivial⟩⟩ rfl rfl hl.1 rfl (lv_room (Nat.le_of_ble_eq_true rfl)) md_N_compare_39 ⟨Nat.zero_le _, Nat.zero_le _⟩) (fun r_7 e_8 => ?_)
      obtain rfl : r_7 = jb (cn_flt p0) := e_8
      refine lv_if_eq (tgt := 93) hx hb md_N_compare_42 (by decide) (fun c_9 => ?_) (fun c_9 => ?_)
      · refine lv_lload hx hb md_N_compare_93 (lv_at hl 1 rfl) ?_
        refine lv_lload hx hb md_N_compare_95 (lv_at hl 0 rfl) ?_
        refine W.lcmp hx hb md_N_compare_97 ?_
        refine lv_if_ne (tgt := 104) hx hb md_N_compare_98 (by decide) (fun c_10 => ?_) (fun c_10 => ?_)
        · refine lv_lload hx hb md_N_compare_104 (lv_at hl 1 rfl) ?_
          refine lv_lload hx hb md_N_compare_106 (lv_at hl 0 rfl) ?_
          refine W.lcmp hx hb md_N_compare_108 ?_
          have J_12 : ∀ (z_13 : Int32) (ls : Array Slot), lv_has ls 9 [(6, .long (u p0.toNatClampNeg p2.toNatClampNeg)), (4, .long (u p0.toNatClampNeg p1.toNatClampNeg)), (0, .ref h0), (1, .int p0), (2, .int p1), (3, .int p2)] → W p l e (headSpec mw_N_compare ({ frames := 3, cells := 0, slots := 0, locals := 66 } : Room)).room s m ([.ref h0, .int p0, .int p1, .int p2] : List Value).toArray below meth c s.heap [] 0 0 (MQ below (NQi D cL cO h0 q0 g A (fun (r : Int32) (v : Nat → Nat → Int64) => True)) ([.ref h0, .int p0, .int p1, .int p2] : List Value).toArray s 0 0 A) (F0 m 120 ls [.int z_13]) := by
            intro z_13 ls hl
            exact W.iret (v := z_13) hx hb hr (fun t ht2 _ => ⟨⟨z_13, u, rfl, trivial, by show NWd D cL cO h0 q0 g A _ t.heap; rw [ht2]; exact hM⟩, hS.F ht2⟩) hS.2.2 md_N_compare_120
          refine lv_if_ge (tgt := 118) hx hb md_N_compare_109 (by decide) (fun c_11 => ?_) (fun c_11 => ?_)
          · refine lv_bipush (v := 108) hx hb md_N_compare_118 (by decide) ?_
            exact J_12 108 ls (lv_sub hl [0, 1, 2, 3, 4, 5] rfl)
          · refine lv_sipush (v := 163) hx hb md_N_compare_112 (by decide) ?_
            refine lv_goto (tgt := 120) hx hb md_N_compare_115 (by decide) ?_
            exact J_12 163 ls (lv_sub hl [0, 1, 2, 3, 4, 5] rfl)
        · refine lv_bipush (v := 90) hx hb md_N_compare_101 (by decide) ?_
          exact W.iret (v := 90) hx hb hr (fun t ht2 _ => ⟨⟨90, u, rfl, trivial, by show NWd D cL cO h0 q0 g A _ t.heap; rw [ht2]; exact hM⟩, hS.F ht2⟩) hS.2.2 md_N_compare_103
      · refine lv_iload_n hx hb md_N_compare_45 rfl (lv_at hl 3 rfl) ?_
        refine va_csr (W.runS (As := [.int p0]) (rest := []) ⟨hx, hb, hml, hown, hts⟩ (mt_N_formatOf l ad p0) (va_cwS 1 hts (gd_S tm_56 tm_57 tm_24 tm_58) rfl rfl rfl (by decide +kernel) ⟨Nat.le_of_ble_eq_true rfl, Nat.le_of_ble_eq_true rfl⟩) ⟨fb_E, fun U hU hW => ⟨rfl, fw_use hE hS hU hW⟩⟩ rfl rfl hl.1 rfl (lv_room (Nat.le_of_ble_eq_true rfl)) md_N_compare_46 ⟨Nat.zero_le _, Nat.zero_le _⟩) (fun r_14 e_15 => ?_)
        have hr_14 : r_14 < 2 := e_15.1
        refine lv_astore (lv' := [(8, .ref (ad r_14)), (6, .long (u p0.toNatClampNeg p2.toNatClampNeg)), (4, .long (u p0.toNatClampNeg p1.toNatClampNeg)), (0, .ref h0), (1, .int p0), (2, .int p1), (3, .int p2)]) hx hb md_N_compare_49 hl (by decide) rfl (fun ls hl => ?_)
        refine lv_aload hx hb md_N_compare_51 (lv_at hl 0 rfl) ?_
        refine lv_lload hx hb md_N_compare_53 (lv_at hl 2 rfl) ?_
        refine vp_callSi (W.runV (C := "NumberProbe$Format") (As := [.long (u p0.toNatClampNeg p1.toNatClampNeg)]) (rest := []) ⟨hx, hb, hml, hown, hts⟩ (mt_F_isNaN l ad r_14 hr_14 (u p0.toNatClampNeg p1.toNatClampNeg)) (cwV 1 hts (gd_V tm_267 tm_68 tm_69 tm_27 tm_70) rfl rfl rfl (by decide +kernel) ⟨Nat.le_of_ble_eq_true rfl, Nat.le_of_ble_eq_true rfl⟩) ⟨fb_E, fw_recv hE hr_14 hS, fun U hU hW => ⟨rfl, fw_use hE hS hU hW⟩⟩ rfl rfl hl.1 rfl (lv_room (Nat.le_of_ble_eq_true rfl)) md_N_compare_55 ⟨Nat.zero_le _, Nat.zero_le _⟩) (fun r_16 e_17 => ?_)
        obtain rfl : r_16 = jb (cf_nan r_14 (u p0.toNatClampNeg p1.toNatClampNeg)) := e_17
        refine lv_if_ne (tgt := 71) hx hb md_N_compare_58 (by decide) (fun c_18 => ?_) (fun c_18 => ?_)
        · refine lv_sipush (v := 224) hx hb md_N_compare_71 (by decide) ?_
          exact W.iret (v := 224) hx hb hr (fun t ht2 _ => ⟨⟨224, u, rfl, trivial, by show NWd D cL cO h0 q0 g A _ t.heap; rw [ht2]; exact hM⟩, hS.F ht2⟩) hS.2.2 md_N_compare_74
        · refine lv_aload hx hb md_N_compare_61 (lv_at hl 0 rfl) ?_
          refine lv_lload hx hb md_N_compare_63 (lv_at hl 1 rfl) ?_
          refine vp_callSi (W.runV (C := "NumberProbe$Format") (As := [.long (u p0.toNatClampNeg p2.toNatClampNeg)]) (rest := []) ⟨hx, hb, hml, hown, hts⟩ (mt_F_isNaN l ad r_14 hr_14 (u p0.toNatClampNeg p2.toNatClampNeg)) (cwV 1 hts (gd_V tm_267 tm_68 tm_69 tm_27 tm_70) rfl rfl rfl (by decide +kernel) ⟨Nat.le_of_ble_eq_true rfl, Nat.le_of_ble_eq_true rfl⟩) ⟨fb_E, fw_recv hE hr_14 hS, fun U hU hW => ⟨rfl, fw_use hE hS hU hW⟩⟩ rfl rfl hl.1 rfl (lv_room (Nat.le_of_ble_eq_true rfl)) md_N_compare_65 ⟨Nat.zero_le _, Nat.zero_le _⟩) (fun r_19 e_20 => ?_)
          obtain rfl : r_19 = jb (cf_nan r_14 (u p0.toNatClampNeg p2.toNatClampNeg)) := e_20
          refine lv_if_eq (tgt := 75) hx hb md_N_compare_68 (by decide) (fun c_21 => ?_) (fun c_21 => ?_)
          · refine lv_aload hx hb md_N_compare_75 (lv_at hl 0 rfl) ?_
            refine lv_lload hx hb md_N_compare_77 (lv_at hl 2 rfl) ?_
            refine vp_callSl (W.runV (C := "NumberProbe$Format") (As := [.long (u p0.toNatClampNeg p1.toNatClampNeg)]) (rest := []) ⟨hx, hb, hml, hown, hts⟩ (mt_F_rankByValue l ad r_14 hr_14 (u p0.toNatClampNeg p1.toNatClampNeg)) (cwV 1 hts (gd_V tm_268 tm_269 tm_270 tm_27 tm_271) rfl rfl rfl (by decide +kernel) ⟨Nat.le_of_ble_eq_true rfl, Nat.le_of_ble_eq_true rfl⟩) ⟨fb_E, fw_recv hE hr_14 hS, fun U hU hW => ⟨rfl, fw_use hE hS hU hW⟩⟩ rfl rfl hl.1 rfl (lv_room (Nat.le_of_ble_eq_true rfl)) md_N_compare_79 ⟨Nat.zero_le _, Nat.zero_le _⟩) (fun r_22 e_23 => ?_)
            obtain rfl : r_22 = cf_rbv r_14 (u p0.toNatClampNeg p1.toNatClampNeg) := e_23
            refine lv_lstore (lv' := [(4, .long (cf_rbv r_14 (u p0.toNatClampNeg p1.toNatClampNeg))), (8, .ref (ad r_14)), (6, .long (u p0.toNatClampNeg p2.toNatClampNeg)), (0, .ref h0), (1, .int p0), (2, .int p1), (3, .int p2)]) hx hb md_N_compare_82 hl (by decide) rfl (fun ls hl => ?_)
            refine lv_aload hx hb md_N_compare_84 (lv_at hl 1 rfl) ?_
            refine lv_lload hx hb md_N_compare_86 (lv_at hl 2 rfl) ?_
            refine vp_callSl (W.runV (C := "NumberProbe$Format") (As := [.long (u p0.toNatClampNeg p2.toNatClampNeg)]) (rest := []) ⟨hx, hb, hml, hown, hts⟩ (mt_F_rankByValue l ad r_14 hr_14 (u p0.toNatClampNeg p2.toNatClampNeg)) (cwV 1 hts (gd_V tm_268 tm_269 tm_270 tm_27 tm_271) rfl rfl rfl (by decide +kernel) ⟨Nat.le_of_ble_eq_true rfl, Nat.le_of_ble_eq_true rfl⟩) ⟨fb_E, fw_recv hE hr_14 hS, fun U hU hW => ⟨rfl, fw_use hE hS hU hW⟩⟩ rfl rfl hl.1 rfl (lv_room (Nat.le_of_ble_eq_true rfl)) md_N_compare_88 ⟨Nat.zero_le _, Nat.zero_le _⟩) (fun r_24 e_25 => ?_)
            obtain rfl : r_24 = cf_rbv r_14 (u p0.toNatClampNeg p2.toNatClampNeg) := e_25
            refine lv_lstore (lv' := [(6, .long (cf_rbv r_14 (u p0.toNatClampNeg p2.toNatClampNeg))), (4, .long (cf_rbv r_14 (u p0.toNatClampNeg p1.toNatClampNeg))), (8, .ref (ad r_14)), (0, .ref h0), (1, .int p0), (2, .int p1), (3, .int p2)]) hx hb md_N_compare_91 hl (by decide) rfl (fun ls hl => ?_)
            refine lv_lload hx hb md_N_compare_93 (lv_at hl 1 rfl) ?_
            refine lv_lload hx hb md_N_compare_95 (lv_at hl 0 rfl) ?_
            refine W.lcmp hx hb md_N_compare_97 ?_
            refine lv_if_ne (tgt := 104) hx hb md_N_compare_98 (by decide) (fun c_26 => ?_) (fun c_26 => ?_)
            · refine lv_lload hx hb md_N_compare_104 (lv_at hl 1 rfl) ?_
              refine lv_lload hx hb md_N_compare_106 (lv_at hl 0 rfl) ?_
              refine W.lcmp hx hb md_N_compare_108 ?_
              have J_28 : ∀ (z_29 : Int32) (ls : Array Slot), lv_has ls 9 [(6, .long (cf_rbv r_14 (u p0.toNatClampNeg p2.toNatClampNeg))), (4, .long (cf_rbv r_14 (u p0.toNatClampNeg p1.toNatClampNeg))), (8, .ref (ad r_14)), (0, .ref h0), (1, .int p0), (2, .int p1), (3, .int p2)] → W p l e (headSpec mw_N_compare ({ frames := 3, cells := 0, slots := 0, locals := 66 } : Room)).room s m ([.ref h0, .int p0, .int p1, .int p2] : List Value).toArray below meth c s.heap [] 0 0 (MQ below (NQi D cL cO h0 q0 g A (fun (r : Int32) (v : Nat → Nat → Int64) => True)) ([.ref h0, .int p0, .int p1, .int p2] : List Value).toArray s 0 0 A) (F0 m 120 ls [.int z_29]) := by
                intro z_29 ls hl
                exact W.iret (v := z_29) hx hb hr (fun t ht2 _ => ⟨⟨z_29, u, rfl, trivial, by show NWd D cL cO h0 q0 g A _ t.heap; rw [ht2]; exact hM⟩, hS.F ht2⟩) hS.2.2 md_N_compare_120
              refine lv_if_ge (tgt := 118) hx hb md_N_compare_109 (by decide) (fun c_27 => ?_) (fun c_27 => ?_)
              · refine lv_bipush (v := 108) hx hb md_N_compare_118 (by decide) ?_
                exact J_28 108 ls (lv_sub hl [0, 1, 2, 3, 4, 5, 6] rfl)
              · refine lv_sipush (v := 163) hx hb md_N_compare_112 (by decide) ?_
                refine lv_goto (tgt := 120) hx hb md_N_compare_115 (by decide) ?_
                exact J_28 163 ls (lv_sub hl [0, 1, 2, 3, 4, 5, 6] rfl)
            · refine lv_bipush (v := 90) hx hb md_N_compare_101 (by decide) ?_
              exact W.iret (v := 90) hx hb hr (fun t ht2 _ => ⟨⟨90, u, rfl, trivial, by show NWd D cL cO h0 q0 g A _ t.heap; rw [ht2]; exact hM⟩, hS.F ht2⟩) hS.2.2 md_N_compare_103
          · refine lv_sipush (v := 224) hx hb md_N_compare_71 (by decide) ?_
            exact W.iret (v := 224) hx hb hr (fun t ht2 _ => ⟨⟨224, u, rfl, trivial, by show NWd D cL cO h0 q0 g A _ t.heap; rw [ht2]; exact hM⟩, hS.F ht2⟩) hS.2.2 md_N_compare_74
    · refine lv_iconst (v := (-1)) hx hb md_N_compare_16 (by decide) ?_
      exact W.iret (v := (-1)) hx hb hr (fun t ht2 _ => ⟨⟨(-1), u, rfl, trivial, by show NWd D cL cO h0 q0 g A _ t.heap; rw [ht2]; exact hM⟩, hS.F ht2⟩) hS.2.2 md_N_compare_17
set_option maxHeartbeats 4000000 in
set_option maxRecDepth 100000 in
theorem mt_N_order (l : Launch) (D : va_G) (cL cO : ClassId) (h0 q0 : Nat) (g ad tb : Nat → Nat) (sz : Nat) (u : Nat → Nat → Int64) (p0 : Int32) (p1 : Int32) (p2 : Int32) : Met l my_N_order mw_N_order ({ frames := 1, cells := 0, slots := 0, locals := 23 } : Room) (NPc D cL cO h0 q0 g ad tb sz u [.int p0, .int p1, .int p2]) (NQi D cL cO h0 q0 g (NA h0 q0 g cL cO u sz) (fun (r : Int32) (v : Nat → Nat → Int64) => True)) 0 0 (NA h0 q0 g cL cO u sz) := by
  refine Met.ofW (cc := mc_N_order) (maxL := 9) (ret := (some .int)) (by decide) rfl ?_
  intro p e s m args below meth c s₁ B hml hv
  obtain ⟨rfl, hsz, hP, hK, hD0, hE, hT⟩ := hv
  have hx := B.exec
  have hb := B.bytes
  have hr := B.returns
  have hts := atoms_spec (ws := mw_N_order) B.pre
  have ht : ∀ w ∈ gw_tbl, w.before _ s = true := fun w h => hts w (List.mem_cons_of_mem _ h)
  have hown : s.vm.findClass "NumberProbe" = some m.cls := findClass_of_methodNamed B.named
  have hlocks := B.notSynchronized
  subst hsz
  have hD : va_D (NA h0 q0 g cL cO u s.heap.size) (nWs h0 q0 g cL cO u) := hD0.self (sz := s.heap.size)
  generalize hAe : NA h0 q0 g cL cO u s.heap.size = A at hD hE hT ⊢
  have hA : ∀ q : Nat, s.heap.size ≤ q → A q := fun q h => by rw [← hAe]; exact Or.inr h
  have hS : va_S A s.heap s.heap [] := va_S.rf
  have hM : NWd D cL cO h0 q0 g A u s.heap := ⟨hP, hD⟩
  have hl := lv_entry ([.ref h0, .int p0, .int p1, .int p2]) (n := 9) (Nat.le_of_ble_eq_true rfl)
  rw [lg_entry_eq]
  generalize (lg_sl ([.ref h0, .int p0, .int p1, .int p2]) ++ List.replicate (9 - (lg_sl ([.ref h0, .int p0, .int p1, .int p2])).length) Slot.unset).toArray = ls at hl ⊢
  have hl : lv_has ls 9 [(0, .ref h0), (1, .int p0), (2, .int p1), (3, .int p2)] := hl
  refine lv_iload_n hx hb md_N_order_0 rfl (lv_at hl 1 rfl) ?_
  refine lv_iload_n hx hb md_N_order_1 rfl (lv_at hl 2 rfl) ?_
  refine vp_callSi (W.runS (As := [.int p0, .int p1]) (rest := []) ⟨hx, hb, hml, hown, hts⟩ (mt_N_isNumber l p0 p1) (va_cwS 2 hts (gd_S tm_50 tm_51 tm_24 tm_52) rfl rfl rfl (by decide +kernel) ⟨Nat.le_of_ble_eq_true rfl, Nat.le_of_ble_eq_true rfl⟩) ⟨fb_0, fun U hU hW => ⟨rfl, trivial⟩⟩ rfl rfl hl.1 rfl (lv_room (Nat.le_of_ble_eq_true rfl)) md_N_order_2 ⟨Nat.zero_le _, Nat.zero_le _⟩) (fun r_1 e_2 => ?_)
  obtain rfl : r_1 = jb (cn_num p0 p1) := e_2
  refine lv_if_eq (tgt := 16) hx hb md_N_order_5 (by decide) (fun c_3 => ?_) (fun c_3 => ?_)
  · refine lv_iconst (v := (-1)) hx hb md_N_order_16 (by decide) ?_
    exact W.iret (v := (-1)) hx hb hr (fun t ht2 _ => ⟨⟨(-1), u, rfl, trivial, by show NWd D cL cO h0 q0 g A _ t.heap; rw [ht2]; exact hM⟩, hS.F ht2⟩) hS.2.2 md_N_order_17
  · refine lv_iload_n hx hb md_N_order_8 rfl (lv_at hl 1 rfl) ?_
    refine lv_iload_n hx hb md_N_order_9 rfl (lv_at hl 3 rfl) ?_
    refine vp_callSi (W.runS (As := [.int p0, .int p2]) (rest := []) ⟨hx, hb, hml, hown, hts⟩ (mt_N_isNumber l p0 p2) (va_cwS 2 hts (gd_S tm_50 tm_51 tm_24 tm_52) rfl rfl rfl (by decide +kernel) ⟨Nat.le_of_ble_eq_true rfl, Nat.le_of_ble_eq_true rfl⟩) ⟨fb_0, fun U hU hW => ⟨rfl, trivial⟩⟩ rfl rfl hl.1 rfl (lv_room (Nat.le_of_ble_eq_true rfl)) md_N_order_10 ⟨Nat.zero_le _, Nat.zero_le _⟩) (fun r_4 e_5 => ?_)
    obtain rfl : r_4 = jb (cn_num p0 p2) := e_5
    refine lv_if_ne (tgt := 18) hx hb md_N_order_13 (by decide) (fun c_6 => ?_) (fun c_6 => ?_)
    · refine lv_aload_n hx hb md_N_order_18 rfl (lv_at hl 0 rfl) ?_
      refine va_get (D := D) (ci := 0) (v := .ref q0) (C := "NumberProbe") (T := TN) (N := 1) hx hb ht inN hown hK hM.1 0 rfl rfl 0 (by decide) (ht _ tm_41) (fun _ h9 => h9) rfl md_N_order_19 ?_
      refine lv_iload_n hx hb md_N_order_22 rfl (lv_at hl 1 rfl) ?_
      refine n_ald hx hb hK hM (cn_i4 (jb_n0.mp c_6)) md_N_order_23 ?_
      refine lv_iload_n hx hb md_N_order_24 rfl (lv_at hl 2 rfl) ?_
      refine n_lald hx hb hK hM (vp_lt (cn_i4 (jb_n0.mp c_6))) (cn_i6 (jb_n0.mp c_3)) md_N_order_25 ?_
      refine lv_lstore (lv' := [(4, .long (u p0.toNatClampNeg p1.toNatClampNeg)), (0, .ref h0), (1, .int p0), (2, .int p1), (3, .int p2)]) hx hb md_N_order_26 hl (by decide) rfl (fun ls hl => ?_)
      refine lv_aload_n hx hb md_N_order_28 rfl (lv_at hl 1 rfl) ?_
      refine va_get (D := D) (ci := 0) (v := .ref q0) (C := "NumberProbe") (T := TN) (N := 1) hx hb ht inN hown hK hM.1 0 rfl rfl 0 (by decide) (ht _ tm_41) (fun _ h9 => h9) rfl md_N_order_29 ?_
      refine lv_iload_n hx hb md_N_order_32 rfl (lv_at hl 2 rfl) ?_
      refine n_ald hx hb hK hM (cn_i4 (jb_n0.mp c_6)) md_N_order_33 ?_
      refine lv_iload_n hx hb md_N_order_34 rfl (lv_at hl 4 rfl) ?_
      refine n_lald hx hb hK hM (vp_lt (cn_i4 (jb_n0.mp c_6))) (cn_i6 (jb_n0.mp c_6)) md_N_order_35 ?_
      refine lv_lstore (lv' := [(6, .long (u p0.toNatClampNeg p2.toNatClampNeg)), (4, .long (u p0.toNatClampNeg p1.toNatClampNeg)), (0, .ref h0), (1, .int p0), (2, .int p1), (3, .int p2)]) hx hb md_N_order_36 hl (by decide) rfl (fun ls hl => ?_)
      refine lv_iload_n hx hb md_N_order_38 rfl (lv_at hl 3 rfl) ?_
      refine vp_callSi (W.runS (As := [.int p0]) (rest := []) ⟨hx, hb, hml, hown, hts⟩ (mt_N_isFloating l p0) (va_cwS 1 hts (gd_S tm_53 tm_54 tm_24 tm_55) rfl rfl rfl (by decide +kernel) ⟨Nat.le_of_ble_eq_true rfl, Nat.le_of_ble_eq_true rfl⟩) ⟨fb_0, fun U hU hW => ⟨rfl, trivial⟩⟩ rfl rfl hl.1 rfl (lv_room (Nat.le_of_ble_eq_true rfl)) md_N_order_39 ⟨Nat.zero_le _, Nat.zero_le _⟩) (fun r_7 e_8 => ?_)
      obtain rfl : r_7 = jb (cn_flt p0) := e_8
      have J_16 : ∀ (z_17 : Int64) (z_18 : Int64) (ls : Array Slot), lv_has ls 9 [(6, .long z_17), (4, .long z_18), (0, .ref h0), (1, .int p0), (2, .int p1), (3, .int p2)] → W p l e (headSpec mw_N_order ({ frames := 1, cells := 0, slots := 0, locals := 23 } : Room)).room s m ([.ref h0, .int p0, .int p1, .int p2] : List Value).toArray below meth c s.heap [] 0 0 (MQ below (NQi D cL cO h0 q0 g A (fun (r : Int32) (v : Nat → Nat → Int64) => True)) ([.ref h0, .int p0, .int p1, .int p2] : List Value).toArray s 0 0 A) (F0 m 69 ls []) := by
        intro z_17 z_18 ls hl
        refine lv_lload hx hb md_N_order_69 (lv_at hl 1 rfl) ?_
        refine lv_lload hx hb md_N_order_71 (lv_at hl 0 rfl) ?_
        refine vp_callSi (W.runS (As := [.long z_18, .long z_17]) (rest := []) ⟨hx, hb, hml, hown, hts⟩ (mt_JL_compare l z_18 z_17) (va_cwS 2 hts (gd_S tm_277 tm_278 tm_29 tm_279) rfl rfl rfl (by decide +kernel) ⟨Nat.le_of_ble_eq_true rfl, Nat.le_of_ble_eq_true rfl⟩) ⟨fb_0, fun U hU hW => ⟨rfl, trivial⟩⟩ rfl rfl hl.1 rfl (lv_room (Nat.le_of_ble_eq_true rfl)) md_N_order_73 ⟨Nat.zero_le _, Nat.zero_le _⟩) (fun r_19 e_20 => ?_)
        exact W.iret (v := r_19) hx hb hr (fun t ht2 _ => ⟨⟨r_19, u, rfl, trivial, by show NWd D cL cO h0 q0 g A _ t.heap; rw [ht2]; exact hM⟩, hS.F ht2⟩) hS.2.2 md_N_order_76
      refine lv_if_eq (tgt := 69) hx hb md_N_order_42 (by decide) (fun c_9 => ?_) (fun c_9 => ?_)
      · exact J_16 (u p0.toNatClampNeg p2.toNatClampNeg) (u p0.toNatClampNeg p1.toNatClampNeg) ls (lv_sub hl [0, 1, 2, 3, 4, 5] rfl)
      · refine lv_iload_n hx hb md_N_order_45 rfl (lv_at hl 3 rfl) ?_
        refine va_csr (W.runS (As := [.int p0]) (rest := []) ⟨hx, hb, hml, hown, hts⟩ (mt_N_formatOf l ad p0) (va_cwS 1 hts (gd_S tm_56 tm_57 tm_24 tm_58) rfl rfl rfl (by decide +kernel) ⟨Nat.le_of_ble_eq_true rfl, Nat.le_of_ble_eq_true rfl⟩) ⟨fb_E, fun U hU hW => ⟨rfl, fw_use hE hS hU hW⟩⟩ rfl rfl hl.1 rfl (lv_room (Nat.le_of_ble_eq_true rfl)) md_N_order_46 ⟨Nat.zero_le _, Nat.zero_le _⟩) (fun r_21 e_22 => ?_)
        have hr_21 : r_21 < 2 := e_22.1
        refine lv_astore (lv' := [(8, .ref (ad r_21)), (6, .long (u p0.toNatClampNeg p2.toNatClampNeg)), (4, .long (u p0.toNatClampNeg p1.toNatClampNeg)), (0, .ref h0), (1, .int p0), (2, .int p1), (3, .int p2)]) hx hb md_N_order_49 hl (by decide) rfl (fun ls hl => ?_)
        refine lv_aload hx hb md_N_order_51 (lv_at hl 0 rfl) ?_
        refine lv_lload hx hb md_N_order_53 (lv_at hl 2 rfl) ?_
        refine vp_callSl (W.runV (C := "NumberProbe$Format") (As := [.long (u p0.toNatClampNeg p1.toNatClampNeg)]) (rest := []) ⟨hx, hb, hml, hown, hts⟩ (mt_F_rankInSorting l ad r_21 hr_21 (u p0.toNatClampNeg p1.toNatClampNeg)) (cwV 1 hts (gd_V tm_276 tm_209 tm_210 tm_27 tm_211) rfl rfl rfl (by decide +kernel) ⟨Nat.le_of_ble_eq_true rfl, Nat.le_of_ble_eq_true rfl⟩) ⟨fb_E, fw_recv hE hr_21 hS, fun U hU hW => ⟨rfl, fw_use hE hS hU hW⟩⟩ rfl rfl hl.1 rfl (lv_room (Nat.le_of_ble_eq_true rfl)) md_N_order_55 ⟨Nat.zero_le _, Nat.zero_le _⟩) (fun r_23 e_24 => ?_)
        obtain rfl : r_23 = cf_ris r_21 (u p0.toNatClampNeg p1.toNatClampNeg) := e_24
        refine lv_lstore (lv' := [(4, .long (cf_ris r_21 (u p0.toNatClampNeg p1.toNatClampNeg))), (8, .ref (ad r_21)), (6, .long (u p0.toNatClampNeg p2.toNatClampNeg)), (0, .ref h0), (1, .int p0), (2, .int p1), (3, .int p2)]) hx hb md_N_order_58 hl (by decide) rfl (fun ls hl => ?_)
        refine lv_aload hx hb md_N_order_60 (lv_at hl 1 rfl) ?_
        refine lv_lload hx hb md_N_order_62 (lv_at hl 2 rfl) ?_
        refine vp_callSl (W.runV (C := "NumberProbe$Format") (As := [.long (u p0.toNatClampNeg p2.toNatClampNeg)]) (rest := []) ⟨hx, hb, hml, hown, hts⟩ (mt_F_rankInSorting l ad r_21 hr_21 (u p0.toNatClampNeg p2.toNatClampNeg)) (cwV 1 hts (gd_V tm_276 tm_209 tm_210 tm_27 tm_211) rfl rfl rfl (by decide +kernel) ⟨Nat.le_of_ble_eq_true rfl, Nat.le_of_ble_eq_true rfl⟩) ⟨fb_E, fw_recv hE hr_21 hS, fun U hU hW => ⟨rfl, fw_use hE hS hU hW⟩⟩ rfl rfl hl.1 rfl (lv_room (Nat.le_of_ble_eq_true rfl)) md_N_order_64 ⟨Nat.zero_le _, Nat.zero_le _⟩) (fun r_25 e_26 => ?_)
        obtain rfl : r_25 = cf_ris r_21 (u p0.toNatClampNeg p2.toNatClampNeg) := e_26
        refine lv_lstore (lv' := [(6, .long (cf_ris r_21 (u p0.toNatClampNeg p2.toNatClampNeg))), (4, .long (cf_ris r_21 (u p0.toNatClampNeg p1.toNatClampNeg))), (8, .ref (ad r_21)), (0, .ref h0), (1, .int p0), (2, .int p1), (3, .int p2)]) hx hb md_N_order_67 hl (by decide) rfl (fun ls hl => ?_)
        exact J_16 (cf_ris r_21 (u p0.toNatClampNeg p2.toNatClampNeg)) (cf_ris r_21 (u p0.toNatClampNeg p1.toNatClampNeg)) ls (lv_sub hl [0, 1, 3, 4, 5, 6] rfl)
    · refine lv_iconst (v := (-1)) hx hb md_N_order_16 (by decide) ?_
      exact W.iret (v := (-1)) hx hb hr (fun t ht2 _ => ⟨⟨(-1), u, rfl, trivial, by show NWd D cL cO h0 q0 g A _ t.heap; rw [ht2]; exact hM⟩, hS.F ht2⟩) hS.2.2 md_N_order_17
set_option maxHeartbeats 4000000 in
set_option maxRecDepth 100000 in
theorem mt_N_sort (l : Launch) (D : va_G) (cL cO : ClassId) (h0 q0 : Nat) (g ad tb : Nat → Nat) (sz : Nat) (u : Nat → Nat → Int64) (p0 : Int32) (p1 : Int32) : Met l my_N_sort mw_N_sort ({ frames := 4, cells := 0, slots := 0, locals := 91 } : Room) (NPc D cL cO h0 q0 g ad tb sz u [.int p0, .int p1]) (NQi D cL cO h0 q0 g (NA h0 q0 g cL cO u sz) (fun (r : Int32) (v : Nat → Nat → Int64) => True)) 0 0 (NA h0 q0 g cL cO u sz) := by
  refine Met.ofW (cc := mc_N_sort) (maxL := 3) (ret := (some .int)) (by decide) rfl ?_
  intro p e s m args below meth c s₁ B hml hv
  obtain ⟨rfl, hsz, hP, hK, hD0, hE, hT⟩ := hv
  have hx := B.exec
  have hb := B.bytes
  have hr := B.returns
  have hts := atoms_spec (ws := mw_N_sort) B.pre
  have ht : ∀ w ∈ gw_tbl, w.before _ s = true := fun w h => hts w (List.mem_cons_of_mem _ h)
  have hown : s.vm.findClass "NumberProbe" = some m.cls := findClass_of_methodNamed B.named
  have hlocks := B.notSynchronized
  subst hsz
  have hD : va_D (NA h0 q0 g cL cO u s.heap.size) (nWs h0 q0 g cL cO u) := hD0.self (sz := s.heap.size)
  generalize hAe : NA h0 q0 g cL cO u s.heap.size = A at hD hE hT ⊢
  have hA : ∀ q : Nat, s.heap.size ≤ q → A q := fun q h => by rw [← hAe]; exact Or.inr h
  have hS : va_S A s.heap s.heap [] := va_S.rf
  have hM : NWd D cL cO h0 q0 g A u s.heap := ⟨hP, hD⟩
  have hl := lv_entry ([.ref h0, .int p0, .int p1]) (n := 3) (Nat.le_of_ble_eq_true rfl)
  rw [lg_entry_eq]
  generalize (lg_sl ([.ref h0, .int p0, .int p1]) ++ List.replicate (3 - (lg_sl ([.ref h0, .int p0, .int p1])).length) Slot.unset).toArray = ls at hl ⊢
  have hl : lv_has ls 3 [(0, .ref h0), (1, .int p0), (2, .int p1)] := hl
  refine lv_iload_n hx hb md_N_sort_0 rfl (lv_at hl 1 rfl) ?_
  refine lv_iload_n hx hb md_N_sort_1 rfl (lv_at hl 2 rfl) ?_
  refine vp_callSi (W.runS (As := [.int p0, .int p1]) (rest := []) ⟨hx, hb, hml, hown, hts⟩ (mt_N_isNumber l p0 p1) (va_cwS 2 hts (gd_S tm_50 tm_51 tm_24 tm_52) rfl rfl rfl (by decide +kernel) ⟨Nat.le_of_ble_eq_true rfl, Nat.le_of_ble_eq_true rfl⟩) ⟨fb_0, fun U hU hW => ⟨rfl, trivial⟩⟩ rfl rfl hl.1 rfl (lv_room (Nat.le_of_ble_eq_true rfl)) md_N_sort_2 ⟨Nat.zero_le _, Nat.zero_le _⟩) (fun r_1 e_2 => ?_)
  obtain rfl : r_1 = jb (cn_num p0 p1) := e_2
  refine lv_if_ne (tgt := 10) hx hb md_N_sort_5 (by decide) (fun c_3 => ?_) (fun c_3 => ?_)
  · refine lv_iload_n hx hb md_N_sort_10 rfl (lv_at hl 1 rfl) ?_
    refine vp_callSi (W.runS (As := [.int p0]) (rest := []) ⟨hx, hb, hml, hown, hts⟩ (mt_N_isFloating l p0) (va_cwS 1 hts (gd_S tm_53 tm_54 tm_24 tm_55) rfl rfl rfl (by decide +kernel) ⟨Nat.le_of_ble_eq_true rfl, Nat.le_of_ble_eq_true rfl⟩) ⟨fb_0, fun U hU hW => ⟨rfl, trivial⟩⟩ rfl rfl hl.1 rfl (lv_room (Nat.le_of_ble_eq_true rfl)) md_N_sort_11 ⟨Nat.zero_le _, Nat.zero_le _⟩) (fun r_4 e_5 => ?_)
    obtain rfl : r_4 = jb (cn_flt p0) := e_5
    have J_11 : ∀ (z_12 : Int32) (ls : Array Slot), lv_has ls 3 [(0, .ref h0), (1, .int p0), (2, .int p1)] → W p l e (headSpec mw_N_sort ({ frames := 4, cells := 0, slots := 0, locals := 91 } : Room)).room s m ([.ref h0, .int p0, .int p1] : List Value).toArray below meth c s.heap [] 0 0 (MQ below (NQi D cL cO h0 q0 g A (fun (r : Int32) (v : Nat → Nat → Int64) => True)) ([.ref h0, .int p0, .int p1] : List Value).toArray s 0 0 A) (F0 m 36 ls [.int z_12]) := by
      intro z_12 ls hl
      exact W.iret (v := z_12) hx hb hr (fun t ht2 _ => ⟨⟨z_12, u, rfl, trivial, by show NWd D cL cO h0 q0 g A _ t.heap; rw [ht2]; exact hM⟩, hS.F ht2⟩) hS.2.2 md_N_sort_36
    refine lv_if_eq (tgt := 35) hx hb md_N_sort_14 (by decide) (fun c_6 => ?_) (fun c_6 => ?_)
    · refine lv_iconst (v := 0) hx hb md_N_sort_35 (by decide) ?_
      exact J_11 0 ls (lv_sub hl [0, 1, 2] rfl)
    · refine lv_iload_n hx hb md_N_sort_17 rfl (lv_at hl 1 rfl) ?_
      refine va_csr (W.runS (As := [.int p0]) (rest := []) ⟨hx, hb, hml, hown, hts⟩ (mt_N_formatOf l ad p0) (va_cwS 1 hts (gd_S tm_56 tm_57 tm_24 tm_58) rfl rfl rfl (by decide +kernel) ⟨Nat.le_of_ble_eq_true rfl, Nat.le_of_ble_eq_true rfl⟩) ⟨fb_E, fun U hU hW => ⟨rfl, fw_use hE hS hU hW⟩⟩ rfl rfl hl.1 rfl (lv_room (Nat.le_of_ble_eq_true rfl)) md_N_sort_18 ⟨Nat.zero_le _, Nat.zero_le _⟩) (fun r_13 e_14 => ?_)
      have hr_13 : r_13 < 2 := e_14.1
      refine lv_aload_n hx hb md_N_sort_21 rfl (lv_at hl 0 rfl) ?_
      refine va_get (D := D) (ci := 0) (v := .ref q0) (C := "NumberProbe") (T := TN) (N := 1) hx hb ht inN hown hK hM.1 0 rfl rfl 0 (by decide) (ht _ tm_41) (fun _ h9 => h9) rfl md_N_sort_22 ?_
      refine lv_iload_n hx hb md_N_sort_25 rfl (lv_at hl 1 rfl) ?_
      refine n_ald hx hb hK hM (cn_i4 (jb_n0.mp c_3)) md_N_sort_26 ?_
      refine lv_iload_n hx hb md_N_sort_27 rfl (lv_at hl 2 rfl) ?_
      refine n_lald hx hb hK hM (vp_lt (cn_i4 (jb_n0.mp c_3))) (cn_i6 (jb_n0.mp c_3)) md_N_sort_28 ?_
      refine vp_callSi (W.runV (C := "NumberProbe$Format") (As := [.long (u p0.toNatClampNeg p1.toNatClampNeg)]) (rest := []) ⟨hx, hb, hml, hown, hts⟩ (mt_F_traits l ad r_13 hr_13 (u p0.toNatClampNeg p1.toNatClampNeg)) (cwV 1 hts (gd_V tm_284 tm_285 tm_286 tm_27 tm_287) rfl rfl rfl (by decide +kernel) ⟨Nat.le_of_ble_eq_true rfl, Nat.le_of_ble_eq_true rfl⟩) ⟨fb_E, fw_recv hE hr_13 hS, fun U hU hW => ⟨rfl, fw_use hE hS hU hW⟩⟩ rfl rfl hl.1 rfl (lv_room (Nat.le_of_ble_eq_true rfl)) md_N_sort_29 ⟨Nat.zero_le _, Nat.zero_le _⟩) (fun r_15 e_16 => ?_)
      refine lv_goto (tgt := 36) hx hb md_N_sort_32 (by decide) ?_
      exact J_11 r_15 ls (lv_sub hl [0, 1, 2] rfl)
  · refine lv_iconst (v := (-1)) hx hb md_N_sort_8 (by decide) ?_
    exact W.iret (v := (-1)) hx hb hr (fun t ht2 _ => ⟨⟨(-1), u, rfl, trivial, by show NWd D cL cO h0 q0 g A _ t.heap; rw [ht2]; exact hM⟩, hS.F ht2⟩) hS.2.2 md_N_sort_9
set_option maxHeartbeats 4000000 in
set_option maxRecDepth 100000 in
theorem mt_N_series (l : Launch) (D : va_G) (cL cO : ClassId) (h0 q0 : Nat) (g ad tb : Nat → Nat) (sz : Nat) (u : Nat → Nat → Int64) (p0 : Int32) (p1 : Int32) (p2 : Int32) (p3 : Int32) : Met l my_N_series mw_N_series ({ frames := 5, cells := 0, slots := 0, locals := 130 } : Room) (NPc D cL cO h0 q0 g ad tb sz u [.int p0, .int p1, .int p2, .int p3]) (NQi D cL cO h0 q0 g (NA h0 q0 g cL cO u sz) (fun (r : Int32) (v : Nat → Nat → Int64) => r = mq_ser p0 p1 p2 p3)) 0 0 (NA h0 q0 g cL cO u sz) := by
  refine Met.ofW (cc := mc_N_series) (maxL := 12) (ret := (some .int)) (by decide) rfl ?_
  intro p e s m args below meth c s₁ B hml hv
  obtain ⟨rfl, hsz, hP, hK, hD0, hE, hT⟩ := hv
  have hx := B.exec
  have hb := B.bytes
  have hr := B.returns
  have hts := atoms_spec (ws := mw_N_series) B.pre
  have ht : ∀ w ∈ gw_tbl, w.before _ s = true := fun w h => hts w (List.mem_cons_of_mem _ h)
  have hown : s.vm.findClass "NumberProbe" = some m.cls := findClass_of_methodNamed B.named
  have hlocks := B.notSynchronized
  subst hsz
  have hD : va_D (NA h0 q0 g cL cO u s.heap.size) (nWs h0 q0 g cL cO u) := hD0.self (sz := s.heap.size)
  generalize hAe : NA h0 q0 g cL cO u s.heap.size = A at hD hE hT ⊢
  have hA : ∀ q : Nat, s.heap.size ≤ q → A q := fun q h => by rw [← hAe]; exact Or.inr h
  have hS : va_S A s.heap s.heap [] := va_S.rf
  have hM : NWd D cL cO h0 q0 g A u s.heap := ⟨hP, hD⟩
  have hl := lv_entry ([.ref h0, .int p0, .int p1, .int p2, .int p3]) (n := 12) (Nat.le_of_ble_eq_true rfl)
  rw [lg_entry_eq]
  generalize (lg_sl ([.ref h0, .int p0, .int p1, .int p2, .int p3]) ++ List.replicate (12 - (lg_sl ([.ref h0, .int p0, .int p1, .int p2, .int p3])).length) Slot.unset).toArray = ls at hl ⊢
  have hl : lv_has ls 12 [(0, .ref h0), (1, .int p0), (2, .int p1), (3, .int p2), (4, .int p3)] := hl
  refine lv_iconst (v := 1) hx hb md_N_series_0 (by decide) ?_
  refine lv_iload_n hx hb md_N_series_1 rfl (lv_at hl 1 rfl) ?_
  refine vp_callSi (W.runS (As := [.int 1, .int p0]) (rest := []) ⟨hx, hb, hml, hown, hts⟩ (mt_N_isNumber l 1 p0) (va_cwS 2 hts (gd_S tm_50 tm_51 tm_24 tm_52) rfl rfl rfl (by decide +kernel) ⟨Nat.le_of_ble_eq_true rfl, Nat.le_of_ble_eq_true rfl⟩) ⟨fb_0, fun U hU hW => ⟨rfl, trivial⟩⟩ rfl rfl hl.1 rfl (lv_room (Nat.le_of_ble_eq_true rfl)) md_N_series_2 ⟨Nat.zero_le _, Nat.zero_le _⟩) (fun r_1 e_2 => ?_)
  obtain rfl : r_1 = jb (cn_num 1 p0) := e_2
  refine lv_if_eq (tgt := 35) hx hb md_N_series_5 (by decide) (fun c_3 => ?_) (fun c_3 => ?_)
  · refine lv_iconst (v := (-1)) hx hb md_N_series_35 (by decide) ?_
    exact W.iret (v := (-1)) hx hb hr (fun t ht2 _ => ⟨⟨(-1), u, rfl, (by rw [mq_ser_cn]; simp [(jb_0.mp c_3)]), by show NWd D cL cO h0 q0 g A _ t.heap; rw [ht2]; exact hM⟩, hS.F ht2⟩) hS.2.2 md_N_series_36
  · refine lv_iconst (v := 1) hx hb md_N_series_8 (by decide) ?_
    refine lv_iload_n hx hb md_N_series_9 rfl (lv_at hl 2 rfl) ?_
    refine vp_callSi (W.runS (As := [.int 1, .int p1]) (rest := []) ⟨hx, hb, hml, hown, hts⟩ (mt_N_isNumber l 1 p1) (va_cwS 2 hts (gd_S tm_50 tm_51 tm_24 tm_52) rfl rfl rfl (by decide +kernel) ⟨Nat.le_of_ble_eq_true rfl, Nat.le_of_ble_eq_true rfl⟩) ⟨fb_0, fun U hU hW => ⟨rfl, trivial⟩⟩ rfl rfl hl.1 rfl (lv_room (Nat.le_of_ble_eq_true rfl)) md_N_series_10 ⟨Nat.zero_le _, Nat.zero_le _⟩) (fun r_4 e_5 => ?_)
    obtain rfl : r_4 = jb (cn_num 1 p1) := e_5
    refine lv_if_eq (tgt := 35) hx hb md_N_series_13 (by decide) (fun c_6 => ?_) (fun c_6 => ?_)
    · refine lv_iconst (v := (-1)) hx hb md_N_series_35 (by decide) ?_
      exact W.iret (v := (-1)) hx hb hr (fun t ht2 _ => ⟨⟨(-1), u, rfl, (by rw [mq_ser_cn]; simp [(jb_n0.mp c_3), (jb_0.mp c_6)]), by show NWd D cL cO h0 q0 g A _ t.heap; rw [ht2]; exact hM⟩, hS.F ht2⟩) hS.2.2 md_N_series_36
    · refine lv_iconst (v := 1) hx hb md_N_series_16 (by decide) ?_
      refine lv_iload hx hb md_N_series_17 (lv_at hl 4 rfl) ?_
      refine vp_callSi (W.runS (As := [.int 1, .int p3]) (rest := []) ⟨hx, hb, hml, hown, hts⟩ (mt_N_isNumber l 1 p3) (va_cwS 2 hts (gd_S tm_50 tm_51 tm_24 tm_52) rfl rfl rfl (by decide +kernel) ⟨Nat.le_of_ble_eq_true rfl, Nat.le_of_ble_eq_true rfl⟩) ⟨fb_0, fun U hU hW => ⟨rfl, trivial⟩⟩ rfl rfl hl.1 rfl (lv_room (Nat.le_of_ble_eq_true rfl)) md_N_series_19 ⟨Nat.zero_le _, Nat.zero_le _⟩) (fun r_7 e_8 => ?_)
      obtain rfl : r_7 = jb (cn_num 1 p3) := e_8
      refine lv_if_eq (tgt := 35) hx hb md_N_series_22 (by decide) (fun c_9 => ?_) (fun c_9 => ?_)
      · refine lv_iconst (v := (-1)) hx hb md_N_series_35 (by decide) ?_
        exact W.iret (v := (-1)) hx hb hr (fun t ht2 _ => ⟨⟨(-1), u, rfl, (by rw [mq_ser_cn]; simp [(jb_n0.mp c_3), (jb_n0.mp c_6), (jb_0.mp c_9)]), by show NWd D cL cO h0 q0 g A _ t.heap; rw [ht2]; exact hM⟩, hS.F ht2⟩) hS.2.2 md_N_series_36
      · refine lv_iload_n hx hb md_N_series_25 rfl (lv_at hl 3 rfl) ?_
        refine lv_if_lt (tgt := 35) hx hb md_N_series_26 (by decide) (fun c_10 => ?_) (fun c_10 => ?_)
        · refine lv_iconst (v := (-1)) hx hb md_N_series_35 (by decide) ?_
          exact W.iret (v := (-1)) hx hb hr (fun t ht2 _ => ⟨⟨(-1), u, rfl, (by rw [mq_ser_cn]; simp [(jb_n0.mp c_3), (jb_n0.mp c_6), (jb_n0.mp c_9), c_10]), by show NWd D cL cO h0 q0 g A _ t.heap; rw [ht2]; exact hM⟩, hS.F ht2⟩) hS.2.2 md_N_series_36
        · refine lv_iload_n hx hb md_N_series_29 rfl (lv_at hl 3 rfl) ?_
          refine lv_bipush (v := 40) hx hb md_N_series_30 (by decide) ?_
          refine lv_icmp_le (tgt := 37) hx hb md_N_series_32 (by decide) (fun c_11 => ?_) (fun c_11 => ?_)
          · refine lv_aload_n hx hb md_N_series_37 rfl (lv_at hl 0 rfl) ?_
            refine va_get (D := D) (ci := 0) (v := .ref q0) (C := "NumberProbe") (T := TN) (N := 1) hx hb ht inN hown hK hM.1 0 rfl rfl 0 (by decide) (ht _ tm_41) (fun _ h9 => h9) rfl md_N_series_38 ?_
            refine lv_iconst (v := 1) hx hb md_N_series_41 (by decide) ?_
            refine n_ald hx hb hK hM (vp_in_iff.mpr (by decide)) md_N_series_42 ?_
            refine lv_iload_n hx hb md_N_series_43 rfl (lv_at hl 1 rfl) ?_
            refine n_lald hx hb hK hM (vp_lt (vp_in_iff.mpr (by decide))) (cn_i6 (jb_n0.mp c_3)) md_N_series_44 ?_
            refine lv_lstore (lv' := [(5, .long (u (1 : Int32).toNatClampNeg p0.toNatClampNeg)), (0, .ref h0), (1, .int p0), (2, .int p1), (3, .int p2), (4, .int p3)]) hx hb md_N_series_45 hl (by decide) rfl (fun ls hl => ?_)
            refine lv_aload_n hx hb md_N_series_47 rfl (lv_at hl 1 rfl) ?_
            refine va_get (D := D) (ci := 0) (v := .ref q0) (C := "NumberProbe") (T := TN) (N := 1) hx hb ht inN hown hK hM.1 0 rfl rfl 0 (by decide) (ht _ tm_41) (fun _ h9 => h9) rfl md_N_series_48 ?_
            refine lv_iconst (v := 1) hx hb md_N_series_51 (by decide) ?_
            refine n_ald hx hb hK hM (vp_in_iff.mpr (by decide)) md_N_series_52 ?_
            refine lv_iload_n hx hb md_N_series_53 rfl (lv_at hl 3 rfl) ?_
            refine n_lald hx hb hK hM (vp_lt (vp_in_iff.mpr (by decide))) (cn_i6 (jb_n0.mp c_6)) md_N_series_54 ?_
            refine lv_lstore (lv' := [(7, .long (u (1 : Int32).toNatClampNeg p1.toNatClampNeg)), (5, .long (u (1 : Int32).toNatClampNeg p0.toNatClampNeg)), (0, .ref h0), (1, .int p0), (2, .int p1), (3, .int p2), (4, .int p3)]) hx hb md_N_series_55 hl (by decide) rfl (fun ls hl => ?_)
            refine lv_iload_n hx hb md_N_series_57 rfl (lv_at hl 5 rfl) ?_
            refine lv_if_ne (tgt := 65) hx hb md_N_series_58 (by decide) (fun c_12 => ?_) (fun c_12 => ?_)
            · refine lv_lload hx hb md_N_series_65 (lv_at hl 1 rfl) ?_
              refine lv_lstore (lv' := [(9, .long (u (1 : Int32).toNatClampNeg p0.toNatClampNeg)), (7, .long (u (1 : Int32).toNatClampNeg p1.toNatClampNeg)), (5, .long (u (1 : Int32).toNatClampNeg p0.toNatClampNeg)), (0, .ref h0), (1, .int p0), (2, .int p1), (3, .int p2), (4, .int p3)]) hx hb md_N_series_67 hl (by decide) rfl (fun ls hl => ?_)
              refine lv_iconst (v := 1) hx hb md_N_series_69 (by decide) ?_
              refine lv_istore (lv' := [(11, .int 1), (9, .long (u (1 : Int32).toNatClampNeg p0.toNatClampNeg)), (7, .long (u (1 : Int32).toNatClampNeg p1.toNatClampNeg)), (5, .long (u (1 : Int32).toNatClampNeg p0.toNatClampNeg)), (0, .ref h0), (1, .int p0), (2, .int p1), (3, .int p2), (4, .int p3)]) hx hb md_N_series_70 hl (by decide) rfl (fun ls hl => ?_)
              have L_13 : ∀ (n : Nat) (z_14 : Int32) (z_15 : Int64) (z_16 : Int64) (ls : Array Slot), ((p2 : Int32).toInt - z_14.toInt).toNat ≤ n → lv_has ls 12 [(11, .int z_14), (9, .long z_15), (7, .long (u (1 : Int32).toNatClampNeg p1.toNatClampNeg)), (5, .long z_16), (0, .ref h0), (1, .int p0), (2, .int p1), (3, .int p2), (4, .int p3)] → W p l e (headSpec mw_N_series ({ frames := 5, cells := 0, slots := 0, locals := 130 } : Room)).room s m ([.ref h0, .int p0, .int p1, .int p2, .int p3] : List Value).toArray below meth c s.heap [] 0 0 (MQ below (NQi D cL cO h0 q0 g A (fun (r : Int32) (v : Nat → Nat → Int64) => r = mq_ser p0 p1 p2 p3)) ([.ref h0, .int p0, .int p1, .int p2, .int p3] : List Value).toArray s 0 0 A) (F0 m 72 ls []) := by
                intro n
                induction n with
                | zero =>
                  intro z_14 z_15 z_16 ls hn hl
                  refine lv_iload hx hb md_N_series_72 (lv_at hl 0 rfl) ?_
                  refine lv_iload_n hx hb md_N_series_74 rfl (lv_at hl 7 rfl) ?_
                  refine lv_icmp_ge (tgt := 108) hx hb md_N_series_75 (by decide) (fun c_17 => ?_) (fun c_17 => ?_)
                  · refine lv_aload_n hx hb md_N_series_108 rfl (lv_at hl 4 rfl) ?_
                    refine va_get (D := D) (ci := 0) (v := .ref q0) (C := "NumberProbe") (T := TN) (N := 1) hx hb ht inN hown hK hM.1 0 rfl rfl 0 (by decide) (ht _ tm_41) (fun _ h9 => h9) rfl md_N_series_109 ?_
                    refine lv_iconst (v := 1) hx hb md_N_series_112 (by decide) ?_
                    refine n_ald hx hb hK hM (vp_in_iff.mpr (by decide)) md_N_series_113 ?_
                    refine lv_iload hx hb md_N_series_114 (lv_at hl 8 rfl) ?_
                    refine lv_lload hx hb md_N_series_116 (lv_at hl 1 rfl) ?_
                    refine n_last hx hb hK hM hS (vp_lt (vp_in_iff.mpr (by decide))) (cn_i6 (jb_n0.mp c_9)) md_N_series_118 (fun u_18 H_19 L_20 hM hS => ?_)
                    refine lv_iconst (v := 0) hx hb md_N_series_119 (by decide) ?_
                    exact W.iret (v := 0) hx hb hr (fun t ht2 _ => ⟨⟨0, u_18, rfl, (by rw [mq_ser_cn]; simp [(jb_n0.mp c_3), (jb_n0.mp c_6), (jb_n0.mp c_9), (c_10), c_11, c_12]), by show NWd D cL cO h0 q0 g A _ t.heap; rw [ht2]; exact hM⟩, hS.F ht2⟩) hS.2.2 md_N_series_120
                  · exact (lu_0 (Int32.not_le.mp c_17) hn).elim
                | succ n ih =>
                  intro z_14 z_15 z_16 ls hn hl
                  refine lv_iload hx hb md_N_series_72 (lv_at hl 0 rfl) ?_
                  refine lv_iload_n hx hb md_N_series_74 rfl (lv_at hl 7 rfl) ?_
                  refine lv_icmp_ge (tgt := 108) hx hb md_N_series_75 (by decide) (fun c_21 => ?_) (fun c_21 => ?_)
                  · refine lv_aload_n hx hb md_N_series_108 rfl (lv_at hl 4 rfl) ?_
                    refine va_get (D := D) (ci := 0) (v := .ref q0) (C := "NumberProbe") (T := TN) (N := 1) hx hb ht inN hown hK hM.1 0 rfl rfl 0 (by decide) (ht _ tm_41) (fun _ h9 => h9) rfl md_N_series_109 ?_
                    refine lv_iconst (v := 1) hx hb md_N_series_112 (by decide) ?_
                    refine n_ald hx hb hK hM (vp_in_iff.mpr (by decide)) md_N_series_113 ?_
                    refine lv_iload hx hb md_N_series_114 (lv_at hl 8 rfl) ?_
                    refine lv_lload hx hb md_N_series_116 (lv_at hl 1 rfl) ?_
                    refine n_last hx hb hK hM hS (vp_lt (vp_in_iff.mpr (by decide))) (cn_i6 (jb_n0.mp c_9)) md_N_series_118 (fun u_22 H_23 L_24 hM hS => ?_)
                    refine lv_iconst (v := 0) hx hb md_N_series_119 (by decide) ?_
                    exact W.iret (v := 0) hx hb hr (fun t ht2 _ => ⟨⟨0, u_22, rfl, (by rw [mq_ser_cn]; simp [(jb_n0.mp c_3), (jb_n0.mp c_6), (jb_n0.mp c_9), (c_10), c_11, c_12]), by show NWd D cL cO h0 q0 g A _ t.heap; rw [ht2]; exact hM⟩, hS.F ht2⟩) hS.2.2 md_N_series_120
                  · refine va_gets hx hb hE.2.2.2.2.2.2.2.2 hS hown (ht _ tm_61) (fun _ h9 => h9) md_N_series_78 ?_
                    refine lv_lload hx hb md_N_series_81 (lv_at hl 3 rfl) ?_
                    refine lv_lload hx hb md_N_series_83 (lv_at hl 2 rfl) ?_
                    refine vp_callSl (W.runV (C := "NumberProbe$Format") (As := [.long z_16, .long (u (1 : Int32).toNatClampNeg p1.toNatClampNeg)]) (rest := []) ⟨hx, hb, hml, hown, hts⟩ (mt_F_sum l ad 1 (by decide) z_16 (u (1 : Int32).toNatClampNeg p1.toNatClampNeg)) (cwV 2 hts (gd_V tm_119 tm_120 tm_121 tm_27 tm_122) rfl rfl rfl (by decide +kernel) ⟨Nat.le_of_ble_eq_true rfl, Nat.le_of_ble_eq_true rfl⟩) ⟨fb_E, fw_recv hE (by decide) hS, fun U hU hW => ⟨rfl, fw_use hE hS hU hW⟩⟩ rfl rfl hl.1 rfl (lv_room (Nat.le_of_ble_eq_true rfl)) md_N_series_85 ⟨Nat.zero_le _, Nat.zero_le _⟩) (fun r_25 e_26 => ?_)
                    refine lv_lstore (lv' := [(5, .long r_25), (11, .int z_14), (9, .long z_15), (7, .long (u (1 : Int32).toNatClampNeg p1.toNatClampNeg)), (0, .ref h0), (1, .int p0), (2, .int p1), (3, .int p2), (4, .int p3)]) hx hb md_N_series_88 hl (by decide) rfl (fun ls hl => ?_)
                    refine va_gets hx hb hE.2.2.2.2.2.2.2.2 hS hown (ht _ tm_61) (fun _ h9 => h9) md_N_series_90 ?_
                    refine lv_lload hx hb md_N_series_93 (lv_at hl 2 rfl) ?_
                    refine lv_lload hx hb md_N_series_95 (lv_at hl 0 rfl) ?_
                    refine vp_callSl (W.runV (C := "NumberProbe$Format") (As := [.long z_15, .long r_25]) (rest := []) ⟨hx, hb, hml, hown, hts⟩ (mt_F_sum l ad 1 (by decide) z_15 r_25) (cwV 2 hts (gd_V tm_119 tm_120 tm_121 tm_27 tm_122) rfl rfl rfl (by decide +kernel) ⟨Nat.le_of_ble_eq_true rfl, Nat.le_of_ble_eq_true rfl⟩) ⟨fb_E, fw_recv hE (by decide) hS, fun U hU hW => ⟨rfl, fw_use hE hS hU hW⟩⟩ rfl rfl hl.1 rfl (lv_room (Nat.le_of_ble_eq_true rfl)) md_N_series_97 ⟨Nat.zero_le _, Nat.zero_le _⟩) (fun r_27 e_28 => ?_)
                    refine lv_lstore (lv' := [(9, .long r_27), (5, .long r_25), (11, .int z_14), (7, .long (u (1 : Int32).toNatClampNeg p1.toNatClampNeg)), (0, .ref h0), (1, .int p0), (2, .int p1), (3, .int p2), (4, .int p3)]) hx hb md_N_series_100 hl (by decide) rfl (fun ls hl => ?_)
                    refine lv_iinc (v := z_14 + 1) (lv' := [(11, .int (z_14 + 1)), (9, .long r_27), (5, .long r_25), (7, .long (u (1 : Int32).toNatClampNeg p1.toNatClampNeg)), (0, .ref h0), (1, .int p0), (2, .int p1), (3, .int p2), (4, .int p3)]) hx hb md_N_series_102 hl (k := 2) rfl rfl (by decide) rfl (fun ls hl => ?_)
                    refine lv_goto (tgt := 72) hx hb md_N_series_105 (by decide) ?_
                    exact ih (z_14 + 1) r_27 r_25 ls (lu_s (Int32.not_le.mp c_21) hn) (lv_sub hl [0, 1, 3, 2, 4, 5, 6, 7, 8] rfl)
              exact L_13 _ 1 (u (1 : Int32).toNatClampNeg p0.toNatClampNeg) (u (1 : Int32).toNatClampNeg p0.toNatClampNeg) ls (Nat.le_refl _) (lv_sub hl [0, 1, 2, 3, 4, 5, 6, 7, 8] rfl)
            · refine lv_lconst (v := 0) hx hb md_N_series_61 (by decide) ?_
              refine lv_goto (tgt := 67) hx hb md_N_series_62 (by decide) ?_
              refine lv_lstore (lv' := [(9, .long 0), (7, .long (u (1 : Int32).toNatClampNeg p1.toNatClampNeg)), (5, .long (u (1 : Int32).toNatClampNeg p0.toNatClampNeg)), (0, .ref h0), (1, .int p0), (2, .int p1), (3, .int p2), (4, .int p3)]) hx hb md_N_series_67 hl (by decide) rfl (fun ls hl => ?_)
              refine lv_iconst (v := 1) hx hb md_N_series_69 (by decide) ?_
              refine lv_istore (lv' := [(11, .int 1), (9, .long 0), (7, .long (u (1 : Int32).toNatClampNeg p1.toNatClampNeg)), (5, .long (u (1 : Int32).toNatClampNeg p0.toNatClampNeg)), (0, .ref h0), (1, .int p0), (2, .int p1), (3, .int p2), (4, .int p3)]) hx hb md_N_series_70 hl (by decide) rfl (fun ls hl => ?_)
              have L_29 : ∀ (n : Nat) (z_30 : Int32) (z_31 : Int64) (z_32 : Int64) (ls : Array Slot), ((p2 : Int32).toInt - z_30.toInt).toNat ≤ n → lv_has ls 12 [(11, .int z_30), (9, .long z_31), (7, .long (u (1 : Int32).toNatClampNeg p1.toNatClampNeg)), (5, .long z_32), (0, .ref h0), (1, .int p0), (2, .int p1), (3, .int p2), (4, .int p3)] → W p l e (headSpec mw_N_series ({ frames := 5, cells := 0, slots := 0, locals := 130 } : Room)).room s m ([.ref h0, .int p0, .int p1, .int p2, .int p3] : List Value).toArray below meth c s.heap [] 0 0 (MQ below (NQi D cL cO h0 q0 g A (fun (r : Int32) (v : Nat → Nat → Int64) => r = mq_ser p0 p1 p2 p3)) ([.ref h0, .int p0, .int p1, .int p2, .int p3] : List Value).toArray s 0 0 A) (F0 m 72 ls []) := by
                intro n
                induction n with
                | zero =>
                  intro z_30 z_31 z_32 ls hn hl
                  refine lv_iload hx hb md_N_series_72 (lv_at hl 0 rfl) ?_
                  refine lv_iload_n hx hb md_N_series_74 rfl (lv_at hl 7 rfl) ?_
                  refine lv_icmp_ge (tgt := 108) hx hb md_N_series_75 (by decide) (fun c_33 => ?_) (fun c_33 => ?_)
                  · refine lv_aload_n hx hb md_N_series_108 rfl (lv_at hl 4 rfl) ?_
                    refine va_get (D := D) (ci := 0) (v := .ref q0) (C := "NumberProbe") (T := TN) (N := 1) hx hb ht inN hown hK hM.1 0 rfl rfl 0 (by decide) (ht _ tm_41) (fun _ h9 => h9) rfl md_N_series_109 ?_
                    refine lv_iconst (v := 1) hx hb md_N_series_112 (by decide) ?_
                    refine n_ald hx hb hK hM (vp_in_iff.mpr (by decide)) md_N_series_113 ?_
                    refine lv_iload hx hb md_N_series_114 (lv_at hl 8 rfl) ?_
                    refine lv_lload hx hb md_N_series_116 (lv_at hl 1 rfl) ?_
                    refine n_last hx hb hK hM hS (vp_lt (vp_in_iff.mpr (by decide))) (cn_i6 (jb_n0.mp c_9)) md_N_series_118 (fun u_34 H_35 L_36 hM hS => ?_)
                    refine lv_iconst (v := 0) hx hb md_N_series_119 (by decide) ?_
                    exact W.iret (v := 0) hx hb hr (fun t ht2 _ => ⟨⟨0, u_34, rfl, (by rw [mq_ser_cn]; simp [(jb_n0.mp c_3), (jb_n0.mp c_6), (jb_n0.mp c_9), (c_10), c_11, (c_12)]), by show NWd D cL cO h0 q0 g A _ t.heap; rw [ht2]; exact hM⟩, hS.F ht2⟩) hS.2.2 md_N_series_120
                  · exact (lu_0 (Int32.not_le.mp c_33) hn).elim
                | succ n ih =>
                  intro z_30 z_31 z_32 ls hn hl
                  refine lv_iload hx hb md_N_series_72 (lv_at hl 0 rfl) ?_
                  refine lv_iload_n hx hb md_N_series_74 rfl (lv_at hl 7 rfl) ?_
                  refine lv_icmp_ge (tgt := 108) hx hb md_N_series_75 (by decide) (fun c_37 => ?_) (fun c_37 => ?_)
                  · refine lv_aload_n hx hb md_N_series_108 rfl (lv_at hl 4 rfl) ?_
                    refine va_get (D := D) (ci := 0) (v := .ref q0) (C := "NumberProbe") (T := TN) (N := 1) hx hb ht inN hown hK hM.1 0 rfl rfl 0 (by decide) (ht _ tm_41) (fun _ h9 => h9) rfl md_N_series_109 ?_
                    refine lv_iconst (v := 1) hx hb md_N_series_112 (by decide) ?_
                    refine n_ald hx hb hK hM (vp_in_iff.mpr (by decide)) md_N_series_113 ?_
                    refine lv_iload hx hb md_N_series_114 (lv_at hl 8 rfl) ?_
                    refine lv_lload hx hb md_N_series_116 (lv_at hl 1 rfl) ?_
                    refine n_last hx hb hK hM hS (vp_lt (vp_in_iff.mpr (by decide))) (cn_i6 (jb_n0.mp c_9)) md_N_series_118 (fun u_38 H_39 L_40 hM hS => ?_)
                    refine lv_iconst (v := 0) hx hb md_N_series_119 (by decide) ?_
                    exact W.iret (v := 0) hx hb hr (fun t ht2 _ => ⟨⟨0, u_38, rfl, (by rw [mq_ser_cn]; simp [(jb_n0.mp c_3), (jb_n0.mp c_6), (jb_n0.mp c_9), (c_10), c_11, (c_12)]), by show NWd D cL cO h0 q0 g A _ t.heap; rw [ht2]; exact hM⟩, hS.F ht2⟩) hS.2.2 md_N_series_120
                  · refine va_gets hx hb hE.2.2.2.2.2.2.2.2 hS hown (ht _ tm_61) (fun _ h9 => h9) md_N_series_78 ?_
                    refine lv_lload hx hb md_N_series_81 (lv_at hl 3 rfl) ?_
                    refine lv_lload hx hb md_N_series_83 (lv_at hl 2 rfl) ?_
                    refine vp_callSl (W.runV (C := "NumberProbe$Format") (As := [.long z_32, .long (u (1 : Int32).toNatClampNeg p1.toNatClampNeg)]) (rest := []) ⟨hx, hb, hml, hown, hts⟩ (mt_F_sum l ad 1 (by decide) z_32 (u (1 : Int32).toNatClampNeg p1.toNatClampNeg)) (cwV 2 hts (gd_V tm_119 tm_120 tm_121 tm_27 tm_122) rfl rfl rfl (by decide +kernel) ⟨Nat.le_of_ble_eq_true rfl, Nat.le_of_ble_eq_true rfl⟩) ⟨fb_E, fw_recv hE (by decide) hS, fun U hU hW => ⟨rfl, fw_use hE hS hU hW⟩⟩ rfl rfl hl.1 rfl (lv_room (Nat.le_of_ble_eq_true rfl)) md_N_series_85 ⟨Nat.zero_le _, Nat.zero_le _⟩) (fun r_41 e_42 => ?_)
                    refine lv_lstore (lv' := [(5, .long r_41), (11, .int z_30), (9, .long z_31), (7, .long (u (1 : Int32).toNatClampNeg p1.toNatClampNeg)), (0, .ref h0), (1, .int p0), (2, .int p1), (3, .int p2), (4, .int p3)]) hx hb md_N_series_88 hl (by decide) rfl (fun ls hl => ?_)
                    refine va_gets hx hb hE.2.2.2.2.2.2.2.2 hS hown (ht _ tm_61) (fun _ h9 => h9) md_N_series_90 ?_
                    refine lv_lload hx hb md_N_series_93 (lv_at hl 2 rfl) ?_
                    refine lv_lload hx hb md_N_series_95 (lv_at hl 0 rfl) ?_
                    refine vp_callSl (W.runV (C := "NumberProbe$Format") (As := [.long z_31, .long r_41]) (rest := []) ⟨hx, hb, hml, hown, hts⟩ (mt_F_sum l ad 1 (by decide) z_31 r_41) (cwV 2 hts (gd_V tm_119 tm_120 tm_121 tm_27 tm_122) rfl rfl rfl (by decide +kernel) ⟨Nat.le_of_ble_eq_true rfl, Nat.le_of_ble_eq_true rfl⟩) ⟨fb_E, fw_recv hE (by decide) hS, fun U hU hW => ⟨rfl, fw_use hE hS hU hW⟩⟩ rfl rfl hl.1 rfl (lv_room (Nat.le_of_ble_eq_true rfl)) md_N_series_97 ⟨Nat.zero_le _, Nat.zero_le _⟩) (fun r_43 e_44 => ?_)
                    refine lv_lstore (lv' := [(9, .long r_43), (5, .long r_41), (11, .int z_30), (7, .long (u (1 : Int32).toNatClampNeg p1.toNatClampNeg)), (0, .ref h0), (1, .int p0), (2, .int p1), (3, .int p2), (4, .int p3)]) hx hb md_N_series_100 hl (by decide) rfl (fun ls hl => ?_)
                    refine lv_iinc (v := z_30 + 1) (lv' := [(11, .int (z_30 + 1)), (9, .long r_43), (5, .long r_41), (7, .long (u (1 : Int32).toNatClampNeg p1.toNatClampNeg)), (0, .ref h0), (1, .int p0), (2, .int p1), (3, .int p2), (4, .int p3)]) hx hb md_N_series_102 hl (k := 2) rfl rfl (by decide) rfl (fun ls hl => ?_)
                    refine lv_goto (tgt := 72) hx hb md_N_series_105 (by decide) ?_
                    exact ih (z_30 + 1) r_43 r_41 ls (lu_s (Int32.not_le.mp c_37) hn) (lv_sub hl [0, 1, 3, 2, 4, 5, 6, 7, 8] rfl)
              exact L_29 _ 1 0 (u (1 : Int32).toNatClampNeg p0.toNatClampNeg) ls (Nat.le_refl _) (lv_sub hl [0, 1, 2, 3, 4, 5, 6, 7, 8] rfl)
          · refine lv_iconst (v := (-1)) hx hb md_N_series_35 (by decide) ?_
            exact W.iret (v := (-1)) hx hb hr (fun t ht2 _ => ⟨⟨(-1), u, rfl, (by rw [mq_ser_cn]; simp [(jb_n0.mp c_3), (jb_n0.mp c_6), (jb_n0.mp c_9), (c_10), (c_11)]), by show NWd D cL cO h0 q0 g A _ t.heap; rw [ht2]; exact hM⟩, hS.F ht2⟩) hS.2.2 md_N_series_36
set_option maxHeartbeats 4000000 in
set_option maxRecDepth 100000 in
theorem mt_N_polynomial (l : Launch) (D : va_G) (cL cO : ClassId) (h0 q0 : Nat) (g ad tb : Nat → Nat) (sz : Nat) (u : Nat → Nat → Int64) (p0 : Int32) (p1 : Int32) : Met l my_N_polynomial mw_N_polynomial ({ frames := 5, cells := 0, slots := 0, locals := 134 } : Room) (NPc D cL cO h0 q0 g ad tb sz u [.int p0, .int p1]) (NQi D cL cO h0 q0 g (NA h0 q0 g cL cO u sz) (fun (r : Int32) (v : Nat → Nat → Int64) => r = mq_pol p0 p1)) 0 0 (NA h0 q0 g cL cO u sz) := by
  refine Met.ofW (cc := mc_N_polynomial) (maxL := 7) (ret := (some .int)) (by decide) rfl ?_
  intro p e s m args below meth c s₁ B hml hv
  obtain ⟨rfl, hsz, hP, hK, hD0, hE, hT⟩ := hv
  have hx := B.exec
  have hb := B.bytes
  have hr := B.returns
  have hts := atoms_spec (ws := mw_N_polynomial) B.pre
  have ht : ∀ w ∈ gw_tbl, w.before _ s = true := fun w h => hts w (List.mem_cons_of_mem _ h)
  have hown : s.vm.findClass "NumberProbe" = some m.cls := findClass_of_methodNamed B.named
  have hlocks := B.notSynchronized
  subst hsz
  have hD : va_D (NA h0 q0 g cL cO u s.heap.size) (nWs h0 q0 g cL cO u) := hD0.self (sz := s.heap.size)
  generalize hAe : NA h0 q0 g cL cO u s.heap.size = A at hD hE hT ⊢
  have hA : ∀ q : Nat, s.heap.size ≤ q → A q := fun q h => by rw [← hAe]; exact Or.inr h
  have hS : va_S A s.heap s.heap [] := va_S.rf
  have hM : NWd D cL cO h0 q0 g A u s.heap := ⟨hP, hD⟩
  have hl := lv_entry ([.ref h0, .int p0, .int p1]) (n := 7) (Nat.le_of_ble_eq_true rfl)
  rw [lg_entry_eq]
  generalize (lg_sl ([.ref h0, .int p0, .int p1]) ++ List.replicate (7 - (lg_sl ([.ref h0, .int p0, .int p1])).length) Slot.unset).toArray = ls at hl ⊢
  have hl : lv_has ls 7 [(0, .ref h0), (1, .int p0), (2, .int p1)] := hl
  refine lv_iconst (v := 0) hx hb md_N_polynomial_0 (by decide) ?_
  refine lv_iload_n hx hb md_N_polynomial_1 rfl (lv_at hl 1 rfl) ?_
  refine vp_callSi (W.runS (As := [.int 0, .int p0]) (rest := []) ⟨hx, hb, hml, hown, hts⟩ (mt_N_isNumber l 0 p0) (va_cwS 2 hts (gd_S tm_50 tm_51 tm_24 tm_52) rfl rfl rfl (by decide +kernel) ⟨Nat.le_of_ble_eq_true rfl, Nat.le_of_ble_eq_true rfl⟩) ⟨fb_0, fun U hU hW => ⟨rfl, trivial⟩⟩ rfl rfl hl.1 rfl (lv_room (Nat.le_of_ble_eq_true rfl)) md_N_polynomial_2 ⟨Nat.zero_le _, Nat.zero_le _⟩) (fun r_1 e_2 => ?_)
  obtain rfl : r_1 = jb (cn_num 0 p0) := e_2
  refine lv_if_eq (tgt := 16) hx hb md_N_polynomial_5 (by decide) (fun c_3 => ?_) (fun c_3 => ?_)
  · refine lv_iconst (v := (-1)) hx hb md_N_polynomial_16 (by decide) ?_
    exact W.iret (v := (-1)) hx hb hr (fun t ht2 _ => ⟨⟨(-1), u, rfl, (by rw [mq_pol_cn]; simp [(jb_0.mp c_3)]), by show NWd D cL cO h0 q0 g A _ t.heap; rw [ht2]; exact hM⟩, hS.F ht2⟩) hS.2.2 md_N_polynomial_17
  · refine lv_iconst (v := 0) hx hb md_N_polynomial_8 (by decide) ?_
    refine lv_iload_n hx hb md_N_polynomial_9 rfl (lv_at hl 2 rfl) ?_
    refine vp_callSi (W.runS (As := [.int 0, .int p1]) (rest := []) ⟨hx, hb, hml, hown, hts⟩ (mt_N_isNumber l 0 p1) (va_cwS 2 hts (gd_S tm_50 tm_51 tm_24 tm_52) rfl rfl rfl (by decide +kernel) ⟨Nat.le_of_ble_eq_true rfl, Nat.le_of_ble_eq_true rfl⟩) ⟨fb_0, fun U hU hW => ⟨rfl, trivial⟩⟩ rfl rfl hl.1 rfl (lv_room (Nat.le_of_ble_eq_true rfl)) md_N_polynomial_10 ⟨Nat.zero_le _, Nat.zero_le _⟩) (fun r_4 e_5 => ?_)
    obtain rfl : r_4 = jb (cn_num 0 p1) := e_5
    refine lv_if_ne (tgt := 18) hx hb md_N_polynomial_13 (by decide) (fun c_6 => ?_) (fun c_6 => ?_)
    · refine lv_aload_n hx hb md_N_polynomial_18 rfl (lv_at hl 0 rfl) ?_
      refine va_get (D := D) (ci := 0) (v := .ref q0) (C := "NumberProbe") (T := TN) (N := 1) hx hb ht inN hown hK hM.1 0 rfl rfl 0 (by decide) (ht _ tm_41) (fun _ h9 => h9) rfl md_N_polynomial_19 ?_
      refine lv_iconst (v := 0) hx hb md_N_polynomial_22 (by decide) ?_
      refine n_ald hx hb hK hM (vp_in_iff.mpr (by decide)) md_N_polynomial_23 ?_
      refine lv_astore_n (lv' := [(3, .ref (g (0 : Int32).toNatClampNeg)), (0, .ref h0), (1, .int p0), (2, .int p1)]) hx hb md_N_polynomial_24 rfl hl (by decide) rfl (fun ls hl => ?_)
      refine lv_aload_n hx hb md_N_polynomial_25 rfl (lv_at hl 0 rfl) ?_
      refine lv_iconst (v := 5) hx hb md_N_polynomial_26 (by decide) ?_
      refine n_lald hx hb hK hM (vp_lt (vp_in_iff.mpr (by decide))) (vp_in_iff.mpr (by decide)) md_N_polynomial_27 ?_
      refine lv_lstore (lv' := [(4, .long (u (0 : Int32).toNatClampNeg (5 : Int32).toNatClampNeg)), (3, .ref (g (0 : Int32).toNatClampNeg)), (0, .ref h0), (1, .int p0), (2, .int p1)]) hx hb md_N_polynomial_28 hl (by decide) rfl (fun ls hl => ?_)
      refine lv_iconst (v := 4) hx hb md_N_polynomial_30 (by decide) ?_
      refine lv_istore (lv' := [(6, .int 4), (4, .long (u (0 : Int32).toNatClampNeg (5 : Int32).toNatClampNeg)), (3, .ref (g (0 : Int32).toNatClampNeg)), (0, .ref h0), (1, .int p0), (2, .int p1)]) hx hb md_N_polynomial_31 hl (by decide) rfl (fun ls hl => ?_)
      have L_7 : ∀ (n : Nat) (z_8 : Int32) (z_9 : Int64) (ls : Array Slot), (z_8.toInt + 1).toNat ≤ n → z_8 ≤ 4 → lv_has ls 7 [(6, .int z_8), (4, .long z_9), (3, .ref (g (0 : Int32).toNatClampNeg)), (0, .ref h0), (1, .int p0), (2, .int p1)] → W p l e (headSpec mw_N_polynomial ({ frames := 5, cells := 0, slots := 0, locals := 134 } : Room)).room s m ([.ref h0, .int p0, .int p1] : List Value).toArray below meth c s.heap [] 0 0 (MQ below (NQi D cL cO h0 q0 g A (fun (r : Int32) (v : Nat → Nat → Int64) => r = mq_pol p0 p1)) ([.ref h0, .int p0, .int p1] : List Value).toArray s 0 0 A) (F0 m 33 ls []) := by
        intro n
        induction n with
        | zero =>
          intro z_8 z_9 ls hn hi hl
          refine lv_iload hx hb md_N_polynomial_33 (lv_at hl 0 rfl) ?_
          refine lv_if_lt (tgt := 67) hx hb md_N_polynomial_35 (by decide) (fun c_10 => ?_) (fun c_10 => ?_)
          · refine lv_aload_n hx hb md_N_polynomial_67 rfl (lv_at hl 2 rfl) ?_
            refine lv_iload_n hx hb md_N_polynomial_68 rfl (lv_at hl 5 rfl) ?_
            refine lv_lload hx hb md_N_polynomial_69 (lv_at hl 1 rfl) ?_
            refine n_last hx hb hK hM hS (vp_lt (vp_in_iff.mpr (by decide))) (cn_i6 (jb_n0.mp c_6)) md_N_polynomial_71 (fun u_11 H_12 L_13 hM hS => ?_)
            refine lv_iconst (v := 0) hx hb md_N_polynomial_72 (by decide) ?_
            exact W.iret (v := 0) hx hb hr (fun t ht2 _ => ⟨⟨0, u_11, rfl, (by rw [mq_pol_cn]; simp [(jb_n0.mp c_3), (jb_n0.mp c_6)]), by show NWd D cL cO h0 q0 g A _ t.heap; rw [ht2]; exact hM⟩, hS.F ht2⟩) hS.2.2 md_N_polynomial_73
          · exact (lg_0 (Int32.not_lt.mp c_10) hn).elim
        | succ n ih =>
          intro z_8 z_9 ls hn hi hl
          refine lv_iload hx hb md_N_polynomial_33 (lv_at hl 0 rfl) ?_
          refine lv_if_lt (tgt := 67) hx hb md_N_polynomial_35 (by decide) (fun c_14 => ?_) (fun c_14 => ?_)
          · refine lv_aload_n hx hb md_N_polynomial_67 rfl (lv_at hl 2 rfl) ?_
            refine lv_iload_n hx hb md_N_polynomial_68 rfl (lv_at hl 5 rfl) ?_
            refine lv_lload hx hb md_N_polynomial_69 (lv_at hl 1 rfl) ?_
            refine n_last hx hb hK hM hS (vp_lt (vp_in_iff.mpr (by decide))) (cn_i6 (jb_n0.mp c_6)) md_N_polynomial_71 (fun u_15 H_16 L_17 hM hS => ?_)
            refine lv_iconst (v := 0) hx hb md_N_polynomial_72 (by decide) ?_
            exact W.iret (v := 0) hx hb hr (fun t ht2 _ => ⟨⟨0, u_15, rfl, (by rw [mq_pol_cn]; simp [(jb_n0.mp c_3), (jb_n0.mp c_6)]), by show NWd D cL cO h0 q0 g A _ t.heap; rw [ht2]; exact hM⟩, hS.F ht2⟩) hS.2.2 md_N_polynomial_73
          · refine va_gets hx hb hE.2.2.2.2.2.2.2.1 hS hown (ht _ tm_59) (fun _ h9 => h9) md_N_polynomial_38 ?_
            refine va_gets hx hb hE.2.2.2.2.2.2.2.1 hS hown (ht _ tm_59) (fun _ h9 => h9) md_N_polynomial_41 ?_
            refine lv_lload hx hb md_N_polynomial_44 (lv_at hl 1 rfl) ?_
            refine lv_aload_n hx hb md_N_polynomial_46 rfl (lv_at hl 2 rfl) ?_
            refine lv_iload_n hx hb md_N_polynomial_47 rfl (lv_at hl 4 rfl) ?_
            refine n_lald hx hb hK hM (vp_lt (vp_in_iff.mpr (by decide))) (cn_i6 (jb_n0.mp c_3)) md_N_polynomial_48 ?_
            refine vp_callSl (W.runV (C := "NumberProbe$Format") (As := [.long z_9, .long (u (0 : Int32).toNatClampNeg p0.toNatClampNeg)]) (rest := [.ref (ad 0)]) ⟨hx, hb, hml, hown, hts⟩ (mt_F_product l ad 0 (by decide) z_9 (u (0 : Int32).toNatClampNeg p0.toNatClampNeg)) (cwV 2 hts (gd_V tm_170 tm_171 tm_172 tm_27 tm_173) rfl rfl rfl (by decide +kernel) ⟨Nat.le_of_ble_eq_true rfl, Nat.le_of_ble_eq_true rfl⟩) ⟨fb_E, fw_recv hE (by decide) hS, fun U hU hW => ⟨rfl, fw_use hE hS hU hW⟩⟩ rfl rfl hl.1 rfl (lv_room (Nat.le_of_ble_eq_true rfl)) md_N_polynomial_49 ⟨Nat.zero_le _, Nat.zero_le _⟩) (fun r_18 e_19 => ?_)
            refine lv_aload_n hx hb md_N_polynomial_52 rfl (lv_at hl 2 rfl) ?_
            refine lv_iload hx hb md_N_polynomial_53 (lv_at hl 0 rfl) ?_
            refine n_lald hx hb hK hM (vp_lt (vp_in_iff.mpr (by decide))) (lp_in (Int32.not_lt.mp c_14) hi (by decide)) md_N_polynomial_55 ?_
            refine vp_callSl (W.runV (C := "NumberProbe$Format") (As := [.long r_18, .long (u (0 : Int32).toNatClampNeg z_8.toNatClampNeg)]) (rest := []) ⟨hx, hb, hml, hown, hts⟩ (mt_F_sum l ad 0 (by decide) r_18 (u (0 : Int32).toNatClampNeg z_8.toNatClampNeg)) (cwV 2 hts (gd_V tm_119 tm_120 tm_121 tm_27 tm_122) rfl rfl rfl (by decide +kernel) ⟨Nat.le_of_ble_eq_true rfl, Nat.le_of_ble_eq_true rfl⟩) ⟨fb_E, fw_recv hE (by decide) hS, fun U hU hW => ⟨rfl, fw_use hE hS hU hW⟩⟩ rfl rfl hl.1 rfl (lv_room (Nat.le_of_ble_eq_true rfl)) md_N_polynomial_56 ⟨Nat.zero_le _, Nat.zero_le _⟩) (fun r_20 e_21 => ?_)
            refine lv_lstore (lv' := [(4, .long r_20), (6, .int z_8), (3, .ref (g (0 : Int32).toNatClampNeg)), (0, .ref h0), (1, .int p0), (2, .int p1)]) hx hb md_N_polynomial_59 hl (by decide) rfl (fun ls hl => ?_)
            refine lv_iinc (v := z_8 + (-1)) (lv' := [(6, .int (z_8 + (-1))), (4, .long r_20), (3, .ref (g (0 : Int32).toNatClampNeg)), (0, .ref h0), (1, .int p0), (2, .int p1)]) hx hb md_N_polynomial_61 hl (k := 1) rfl rfl (by decide) rfl (fun ls hl => ?_)
            refine lv_goto (tgt := 33) hx hb md_N_polynomial_64 (by decide) ?_
            exact ih (z_8 + (-1)) r_20 ls (lg_s (Int32.not_lt.mp c_14) hn) (lp_st (Int32.not_lt.mp c_14) hi) (lv_sub hl [0, 1, 2, 3, 4, 5] rfl)
      exact L_7 _ 4 (u (0 : Int32).toNatClampNeg (5 : Int32).toNatClampNeg) ls (Nat.le_refl _) (by decide) (lv_sub hl [0, 1, 2, 3, 4, 5] rfl)
    · refine lv_iconst (v := (-1)) hx hb md_N_polynomial_16 (by decide) ?_
      exact W.iret (v := (-1)) hx hb hr (fun t ht2 _ => ⟨⟨(-1), u, rfl, (by rw [mq_pol_cn]; simp [(jb_n0.mp c_3), (jb_0.mp c_6)]), by show NWd D cL cO h0 q0 g A _ t.heap; rw [ht2]; exact hM⟩, hS.F ht2⟩) hS.2.2 md_N_polynomial_17
