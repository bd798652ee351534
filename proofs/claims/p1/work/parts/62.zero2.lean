set_option maxHeartbeats 4000000 in
set_option maxRecDepth 100000 in
theorem mz_N_bits (l : Launch) (D : va_G) (cL cO : ClassId) (h0 q0 : Nat) (g ad tb : Nat → Nat) (sz : Nat) (u : Nat → Nat → Int64) (p0 : Int32) (p1 : Int32) (hz : ∀ a b, u a b = 0) : Met l my_N_bits mw_N_bits ({ frames := 1, cells := 0, slots := 0, locals := 21 } : Room) (NPc D cL cO h0 q0 g ad tb sz u [.int p0, .int p1]) (NQl D cL cO h0 q0 g (NA h0 q0 g cL cO u sz) (fun (r : Int64) (v : Nat → Nat → Int64) => r = 0)) 0 0 (NA h0 q0 g cL cO u sz) := by
  refine Met.ofW (cc := mc_N_bits) (maxL := 3) (ret := (some .long)) (by decide) rfl ?_
  intro p e s m args below meth c s₁ B hml hv
  obtain ⟨rfl, hsz, hP, hK, hD0, hE, hT⟩ := hv
  have hx := B.exec
  have hb := B.bytes
  have hr := B.returns
  have hts := atoms_spec (ws := mw_N_bits) B.pre
  have ht : ∀ w ∈ gw_tbl, w.before _ s = true := fun w h => hts w (List.mem_cons_of_mem _ h)
  have hown : s.vm.findClass "NumberProbe" = some m.cls := findClass_of_methodNamed B.named
  have hlocks := B.notSynchronized
  subst hsz
  have hD : va_D (NA h0 q0 g cL cO u s.heap.size) (nWs h0 q0 g cL cO u) := hD0.self (sz := s.heap.size)
  generalize hAe : NA h0 q0 g cL cO u s.heap.size = A at hD hE hT ⊢
  have hA : ∀ q : Nat, s.heap.size ≤ q → A q := fun q h => by rw [← hAe]; exact Or.inr h
  have hS : va_S A s.heap s.heap [] := va_S.rf
  have hM : NWd D cL cO h0 q0 g A u s.heap := ⟨hP, hD⟩
  have hl := lv_entry ([.ref h0, .int p0, .int p1]) (n := 3) (Nat.le_of_ble_eq_true rfl)
  rw [lg_entry_eq]
  generalize (lg_sl ([.ref h0, .int p0, .int p1]) ++ List.replicate (3 - (lg_sl ([.ref h0, .int p0, .int p1])).length) Slot.unset).toArray = ls at hl ⊢
  have hl : lv_has ls 3 [(0, .ref h0), (1, .int p0), (2, .int p1)] := hl
  refine lv_iload_n hx hb md_N_bits_0 rfl (lv_at hl 1 rfl) ?_
  refine lv_iload_n hx hb md_N_bits_1 rfl (lv_at hl 2 rfl) ?_
  refine vp_callSi (W.runS (As := [.int p0, .int p1]) (rest := []) ⟨hx, hb, hml, hown, hts⟩ (mt_N_isNumber l p0 p1) (va_cwS 2 hts (gd_S tm_50 tm_51 tm_24 tm_52) rfl rfl rfl (by decide +kernel) ⟨Nat.le_of_ble_eq_true rfl, Nat.le_of_ble_eq_true rfl⟩) ⟨fb_0, fun U hU hW => ⟨rfl, trivial⟩⟩ rfl rfl hl.1 rfl (lv_room (Nat.le_of_ble_eq_true rfl)) md_N_bits_2 ⟨Nat.zero_le _, Nat.zero_le _⟩) (fun r_1 e_2 => ?_)
  obtain rfl : r_1 = jb (cn_num p0 p1) := e_2
  refine lv_if_eq (tgt := 19) hx hb md_N_bits_5 (by decide) (fun c_3 => ?_) (fun c_3 => ?_)
  · refine lv_lconst (v := 0) hx hb md_N_bits_19 (by decide) ?_
    exact W.lret (v := 0) hx hb hr (fun t ht2 _ => ⟨⟨0, u, rfl, (by first | rfl | exact hz _ _), by show NWd D cL cO h0 q0 g A _ t.heap; rw [ht2]; exact hM⟩, hS.F ht2⟩) hS.2.2 md_N_bits_20
  · refine lv_aload_n hx hb md_N_bits_8 rfl (lv_at hl 0 rfl) ?_
    refine va_get (D := D) (ci := 0) (v := .ref q0) (C := "NumberProbe") (T := TN) (N := 1) hx hb ht inN hown hK hM.1 0 rfl rfl 0 (by decide) (ht _ tm_41) (fun _ h9 => h9) rfl md_N_bits_9 ?_
    refine lv_iload_n hx hb md_N_bits_12 rfl (lv_at hl 1 rfl) ?_
    refine n_ald hx hb hK hM (cn_i4 (jb_n0.mp c_3)) md_N_bits_13 ?_
    refine lv_iload_n hx hb md_N_bits_14 rfl (lv_at hl 2 rfl) ?_
    refine n_lald hx hb hK hM (vp_lt (cn_i4 (jb_n0.mp c_3))) (cn_i6 (jb_n0.mp c_3)) md_N_bits_15 ?_
    refine lv_goto (tgt := 20) hx hb md_N_bits_16 (by decide) ?_
    exact W.lret (v := u p0.toNatClampNeg p1.toNatClampNeg) hx hb hr (fun t ht2 _ => ⟨⟨u p0.toNatClampNeg p1.toNatClampNeg, u, rfl, (by first | rfl | exact hz _ _), by show NWd D cL cO h0 q0 g A _ t.heap; rw [ht2]; exact hM⟩, hS.F ht2⟩) hS.2.2 md_N_bits_20
set_option maxHeartbeats 4000000 in
set_option maxRecDepth 100000 in
theorem mz_N_operate (l : Launch) (D : va_G) (cL cO : ClassId) (h0 q0 : Nat) (g ad tb : Nat → Nat) (sz : Nat) (u : Nat → Nat → Int64) (p0 : Int32) (p1 : Int32) (p2 : Int32) (p3 : Int32) (p4 : Int32) (hz : ∀ a b, u a b = 0) : Met l my_N_operate mw_N_operate ({ frames := 7, cells := 0, slots := 0, locals := 184 } : Room) (NPc D cL cO h0 q0 g ad tb sz u [.int p0, .int p1, .int p2, .int p3, .int p4]) (NQi D cL cO h0 q0 g (NA h0 q0 g cL cO u sz) (fun (r : Int32) (v : Nat → Nat → Int64) => r = nz_ope p0 p1 p2 p3 p4)) 0 0 (NA h0 q0 g cL cO u sz) := by
  refine Met.ofW (cc := mc_N_operate) (maxL := 8) (ret := (some .int)) (by decide) rfl ?_
  intro p e s m args below meth c s₁ B hml hv
  obtain ⟨rfl, hsz, hP, hK, hD0, hE, hT⟩ := hv
  have hx := B.exec
  have hb := B.bytes
  have hr := B.returns
  have hts := atoms_spec (ws := mw_N_operate) B.pre
  have ht : ∀ w ∈ gw_tbl, w.before _ s = true := fun w h => hts w (List.mem_cons_of_mem _ h)
  have hown : s.vm.findClass "NumberProbe" = some m.cls := findClass_of_methodNamed B.named
  have hlocks := B.notSynchronized
  subst hsz
  have hD : va_D (NA h0 q0 g cL cO u s.heap.size) (nWs h0 q0 g cL cO u) := hD0.self (sz := s.heap.size)
  generalize hAe : NA h0 q0 g cL cO u s.heap.size = A at hD hE hT ⊢
  have hA : ∀ q : Nat, s.heap.size ≤ q → A q := fun q h => by rw [← hAe]; exact Or.inr h
  have hS : va_S A s.heap s.heap [] := va_S.rf
  have hM : NWd D cL cO h0 q0 g A u s.heap := ⟨hP, hD⟩
  have hl := lv_entry ([.ref h0, .int p0, .int p1, .int p2, .int p3, .int p4]) (n := 8) (Nat.le_of_ble_eq_true rfl)
  rw [lg_entry_eq]
  generalize (lg_sl ([.ref h0, .int p0, .int p1, .int p2, .int p3, .int p4]) ++ List.replicate (8 - (lg_sl ([.ref h0, .int p0, .int p1, .int p2, .int p3, .int p4])).length) Slot.unset).toArray = ls at hl ⊢
  have hl : lv_has ls 8 [(0, .ref h0), (1, .int p0), (2, .int p1), (3, .int p2), (4, .int p3), (5, .int p4)] := hl
  refine lv_iload_n hx hb md_N_operate_0 rfl (lv_at hl 1 rfl) ?_
  refine lv_iload_n hx hb md_N_operate_1 rfl (lv_at hl 3 rfl) ?_
  refine vp_callSi (W.runS (As := [.int p0, .int p2]) (rest := []) ⟨hx, hb, hml, hown, hts⟩ (mt_N_isNumber l p0 p2) (va_cwS 2 hts (gd_S tm_50 tm_51 tm_24 tm_52) rfl rfl rfl (by decide +kernel) ⟨Nat.le_of_ble_eq_true rfl, Nat.le_of_ble_eq_true rfl⟩) ⟨fb_0, fun U hU hW => ⟨rfl, trivial⟩⟩ rfl rfl hl.1 rfl (lv_room (Nat.le_of_ble_eq_true rfl)) md_N_operate_2 ⟨Nat.zero_le _, Nat.zero_le _⟩) (fun r_1 e_2 => ?_)
  obtain rfl : r_1 = jb (cn_num p0 p2) := e_2
  refine lv_if_eq (tgt := 34) hx hb md_N_operate_5 (by decide) (fun c_3 => ?_) (fun c_3 => ?_)
  · refine lv_iconst (v := (-1)) hx hb md_N_operate_34 (by decide) ?_
    exact W.iret (v := (-1)) hx hb hr (fun t ht2 _ => ⟨⟨(-1), u, rfl, (by simp [nz_ope, (jb_0.mp c_3)]), by show NWd D cL cO h0 q0 g A _ t.heap; rw [ht2]; exact hM⟩, hS.F ht2⟩) hS.2.2 md_N_operate_35
  · refine lv_iload_n hx hb md_N_operate_8 rfl (lv_at hl 1 rfl) ?_
    refine lv_iload hx hb md_N_operate_9 (lv_at hl 4 rfl) ?_
    refine vp_callSi (W.runS (As := [.int p0, .int p3]) (rest := []) ⟨hx, hb, hml, hown, hts⟩ (mt_N_isNumber l p0 p3) (va_cwS 2 hts (gd_S tm_50 tm_51 tm_24 tm_52) rfl rfl rfl (by decide +kernel) ⟨Nat.le_of_ble_eq_true rfl, Nat.le_of_ble_eq_true rfl⟩) ⟨fb_0, fun U hU hW => ⟨rfl, trivial⟩⟩ rfl rfl hl.1 rfl (lv_room (Nat.le_of_ble_eq_true rfl)) md_N_operate_11 ⟨Nat.zero_le _, Nat.zero_le _⟩) (fun r_4 e_5 => ?_)
    obtain rfl : r_4 = jb (cn_num p0 p3) := e_5
    refine lv_if_eq (tgt := 34) hx hb md_N_operate_14 (by decide) (fun c_6 => ?_) (fun c_6 => ?_)
    · refine lv_iconst (v := (-1)) hx hb md_N_operate_34 (by decide) ?_
      exact W.iret (v := (-1)) hx hb hr (fun t ht2 _ => ⟨⟨(-1), u, rfl, (by simp [nz_ope, (jb_n0.mp c_3), (jb_0.mp c_6)]), by show NWd D cL cO h0 q0 g A _ t.heap; rw [ht2]; exact hM⟩, hS.F ht2⟩) hS.2.2 md_N_operate_35
    · refine lv_iload_n hx hb md_N_operate_17 rfl (lv_at hl 1 rfl) ?_
      refine lv_iload hx hb md_N_operate_18 (lv_at hl 5 rfl) ?_
      refine vp_callSi (W.runS (As := [.int p0, .int p4]) (rest := []) ⟨hx, hb, hml, hown, hts⟩ (mt_N_isNumber l p0 p4) (va_cwS 2 hts (gd_S tm_50 tm_51 tm_24 tm_52) rfl rfl rfl (by decide +kernel) ⟨Nat.le_of_ble_eq_true rfl, Nat.le_of_ble_eq_true rfl⟩) ⟨fb_0, fun U hU hW => ⟨rfl, trivial⟩⟩ rfl rfl hl.1 rfl (lv_room (Nat.le_of_ble_eq_true rfl)) md_N_operate_20 ⟨Nat.zero_le _, Nat.zero_le _⟩) (fun r_7 e_8 => ?_)
      obtain rfl : r_7 = jb (cn_num p0 p4) := e_8
      refine lv_if_eq (tgt := 34) hx hb md_N_operate_23 (by decide) (fun c_9 => ?_) (fun c_9 => ?_)
      · refine lv_iconst (v := (-1)) hx hb md_N_operate_34 (by decide) ?_
        exact W.iret (v := (-1)) hx hb hr (fun t ht2 _ => ⟨⟨(-1), u, rfl, (by simp [nz_ope, (jb_n0.mp c_3), (jb_n0.mp c_6), (jb_0.mp c_9)]), by show NWd D cL cO h0 q0 g A _ t.heap; rw [ht2]; exact hM⟩, hS.F ht2⟩) hS.2.2 md_N_operate_35
      · refine lv_iload_n hx hb md_N_operate_26 rfl (lv_at hl 1 rfl) ?_
        refine lv_iload_n hx hb md_N_operate_27 rfl (lv_at hl 2 rfl) ?_
        refine vp_callSi (W.runS (As := [.int p0, .int p1]) (rest := []) ⟨hx, hb, hml, hown, hts⟩ (mt_N_isOperation l p0 p1) (va_cwS 2 hts (gd_S tm_107 tm_108 tm_24 tm_109) rfl rfl rfl (by decide +kernel) ⟨Nat.le_of_ble_eq_true rfl, Nat.le_of_ble_eq_true rfl⟩) ⟨fb_0, fun U hU hW => ⟨rfl, trivial⟩⟩ rfl rfl hl.1 rfl (lv_room (Nat.le_of_ble_eq_true rfl)) md_N_operate_28 ⟨Nat.zero_le _, Nat.zero_le _⟩) (fun r_10 e_11 => ?_)
        obtain rfl : r_10 = jb (cn_opn p0 p1) := e_11
        refine lv_if_ne (tgt := 36) hx hb md_N_operate_31 (by decide) (fun c_12 => ?_) (fun c_12 => ?_)
        · refine lv_aload_n hx hb md_N_operate_36 rfl (lv_at hl 0 rfl) ?_
          refine va_get (D := D) (ci := 0) (v := .ref q0) (C := "NumberProbe") (T := TN) (N := 1) hx hb ht inN hown hK hM.1 0 rfl rfl 0 (by decide) (ht _ tm_41) (fun _ h9 => h9) rfl md_N_operate_37 ?_
          refine lv_iload_n hx hb md_N_operate_40 rfl (lv_at hl 1 rfl) ?_
          refine n_ald hx hb hK hM (cn_i4 (jb_n0.mp c_9)) md_N_operate_41 ?_
          refine lv_iload hx hb md_N_operate_42 (lv_at hl 4 rfl) ?_
          refine n_lald hx hb hK hM (vp_lt (cn_i4 (jb_n0.mp c_9))) (cn_i6 (jb_n0.mp c_6)) md_N_operate_44 ?_
          refine lv_lstore (lv' := [(6, .long (u p0.toNatClampNeg p3.toNatClampNeg)), (0, .ref h0), (1, .int p0), (2, .int p1), (3, .int p2), (4, .int p3), (5, .int p4)]) hx hb md_N_operate_45 hl (by decide) rfl (fun ls hl => ?_)
          refine lv_iload_n hx hb md_N_operate_47 rfl (lv_at hl 2 rfl) ?_
          refine lv_iload_n hx hb md_N_operate_48 rfl (lv_at hl 3 rfl) ?_
          refine lv_lload hx hb md_N_operate_49 (lv_at hl 0 rfl) ?_
          refine vp_callSi (W.runS (As := [.int p0, .int p1, .long (u p0.toNatClampNeg p3.toNatClampNeg)]) (rest := []) ⟨hx, hb, hml, hown, hts⟩ (mt_N_dividesByZero l p0 p1 (u p0.toNatClampNeg p3.toNatClampNeg)) (va_cwS 3 hts (gd_S tm_110 tm_111 tm_24 tm_112) rfl rfl rfl (by decide +kernel) ⟨Nat.le_of_ble_eq_true rfl, Nat.le_of_ble_eq_true rfl⟩) ⟨fb_0, fun U hU hW => ⟨rfl, trivial⟩⟩ rfl rfl hl.1 rfl (lv_room (Nat.le_of_ble_eq_true rfl)) md_N_operate_51 ⟨Nat.zero_le _, Nat.zero_le _⟩) (fun r_13 e_14 => ?_)
          obtain rfl : r_13 = jb (cn_dbz p0 p1 (u p0.toNatClampNeg p3.toNatClampNeg)) := e_14
          refine lv_if_eq (tgt := 60) hx hb md_N_operate_54 (by decide) (fun c_15 => ?_) (fun c_15 => ?_)
          · refine lv_aload_n hx hb md_N_operate_60 rfl (lv_at hl 1 rfl) ?_
            refine va_get (D := D) (ci := 0) (v := .ref q0) (C := "NumberProbe") (T := TN) (N := 1) hx hb ht inN hown hK hM.1 0 rfl rfl 0 (by decide) (ht _ tm_41) (fun _ h9 => h9) rfl md_N_operate_61 ?_
            refine lv_iload_n hx hb md_N_operate_64 rfl (lv_at hl 2 rfl) ?_
            refine n_ald hx hb hK hM (cn_i4 (jb_n0.mp c_9)) md_N_operate_65 ?_
            refine lv_iload hx hb md_N_operate_66 (lv_at hl 6 rfl) ?_
            refine lv_iload_n hx hb md_N_operate_68 rfl (lv_at hl 2 rfl) ?_
            refine lv_iload_n hx hb md_N_operate_69 rfl (lv_at hl 3 rfl) ?_
            refine lv_aload_n hx hb md_N_operate_70 rfl (lv_at hl 1 rfl) ?_
            refine va_get (D := D) (ci := 0) (v := .ref q0) (C := "NumberProbe") (T := TN) (N := 1) hx hb ht inN hown hK hM.1 0 rfl rfl 0 (by decide) (ht _ tm_41) (fun _ h9 => h9) rfl md_N_operate_71 ?_
            refine lv_iload_n hx hb md_N_operate_74 rfl (lv_at hl 2 rfl) ?_
            refine n_ald hx hb hK hM (cn_i4 (jb_n0.mp c_9)) md_N_operate_75 ?_
            refine lv_iload_n hx hb md_N_operate_76 rfl (lv_at hl 4 rfl) ?_
            refine n_lald hx hb hK hM (vp_lt (cn_i4 (jb_n0.mp c_9))) (cn_i6 (jb_n0.mp c_3)) md_N_operate_77 ?_
            refine lv_lload hx hb md_N_operate_78 (lv_at hl 0 rfl) ?_
            refine vp_callSl (W.runS (As := [.int p0, .int p1, .long (u p0.toNatClampNeg p2.toNatClampNeg), .long (u p0.toNatClampNeg p3.toNatClampNeg)]) (rest := [.int p4, .ref (g p0.toNatClampNeg)]) ⟨hx, hb, hml, hown, hts⟩ (mt_N_result l ad p0 p1 (u p0.toNatClampNeg p2.toNatClampNeg) (u p0.toNatClampNeg p3.toNatClampNeg) (jb_0.mp c_15)) (va_cwS 4 hts (gd_S tm_113 tm_114 tm_24 tm_115) rfl rfl rfl (by decide +kernel) ⟨Nat.le_of_ble_eq_true rfl, Nat.le_of_ble_eq_true rfl⟩) ⟨fb_E, fun U hU hW => ⟨rfl, fw_use hE hS hU hW⟩⟩ rfl rfl hl.1 rfl (lv_room (Nat.le_of_ble_eq_true rfl)) md_N_operate_80 ⟨Nat.zero_le _, Nat.zero_le _⟩) (fun r_16 e_17 => ?_)
            refine n_last hx hb hK hM hS (vp_lt (cn_i4 (jb_n0.mp c_9))) (cn_i6 (jb_n0.mp c_9)) md_N_operate_83 (fun u_18 H_19 L_20 hM hS => ?_)
            refine lv_iconst (v := 0) hx hb md_N_operate_84 (by decide) ?_
            exact W.iret (v := 0) hx hb hr (fun t ht2 _ => ⟨⟨0, u_18, rfl, (by simp [nz_ope, (jb_n0.mp c_3), (jb_n0.mp c_6), (jb_n0.mp c_9), (jb_n0.mp c_12), (show cn_dbz p0 p1 0 = false from (by have f9 := (jb_0.mp c_15); rw [hz] at f9; exact f9))]), by show NWd D cL cO h0 q0 g A _ t.heap; rw [ht2]; exact hM⟩, hS.F ht2⟩) hS.2.2 md_N_operate_85
          · refine lv_bipush (v := (-2)) hx hb md_N_operate_57 (by decide) ?_
            exact W.iret (v := (-2)) hx hb hr (fun t ht2 _ => ⟨⟨(-2), u, rfl, (by simp [nz_ope, (jb_n0.mp c_3), (jb_n0.mp c_6), (jb_n0.mp c_9), (jb_n0.mp c_12), (show cn_dbz p0 p1 0 = true from (by have f9 := (jb_n0.mp c_15); rw [hz] at f9; exact f9))]), by show NWd D cL cO h0 q0 g A _ t.heap; rw [ht2]; exact hM⟩, hS.F ht2⟩) hS.2.2 md_N_operate_59
        · refine lv_iconst (v := (-1)) hx hb md_N_operate_34 (by decide) ?_
          exact W.iret (v := (-1)) hx hb hr (fun t ht2 _ => ⟨⟨(-1), u, rfl, (by simp [nz_ope, (jb_n0.mp c_3), (jb_n0.mp c_6), (jb_n0.mp c_9), (jb_0.mp c_12)]), by show NWd D cL cO h0 q0 g A _ t.heap; rw [ht2]; exact hM⟩, hS.F ht2⟩) hS.2.2 md_N_operate_35
set_option maxHeartbeats 4000000 in
set_option maxRecDepth 100000 in
theorem mz_N_assign (l : Launch) (D : va_G) (cL cO : ClassId) (h0 q0 : Nat) (g ad tb : Nat → Nat) (sz : Nat) (u : Nat → Nat → Int64) (p0 : Int32) (p1 : Int32) (p2 : Int32) (p3 : Int32) (p4 : Int32) (hz : ∀ a b, u a b = 0) : Met l my_N_assign mw_N_assign ({ frames := 7, cells := 0, slots := 0, locals := 184 } : Room) (NPc D cL cO h0 q0 g ad tb sz u [.int p0, .int p1, .int p2, .int p3, .int p4]) (NQi D cL cO h0 q0 g (NA h0 q0 g cL cO u sz) (fun (r : Int32) (v : Nat → Nat → Int64) => r = nz_asg p0 p1 p2 p3 p4)) 0 0 (NA h0 q0 g cL cO u sz) := by
  refine Met.ofW (cc := mc_N_assign) (maxL := 11) (ret := (some .int)) (by decide) rfl ?_
  intro p e s m args below meth c s₁ B hml hv
  obtain ⟨rfl, hsz, hP, hK, hD0, hE, hT⟩ := hv
  have hx := B.exec
  have hb := B.bytes
  have hr := B.returns
  have hts := atoms_spec (ws := mw_N_assign) B.pre
  have ht : ∀ w ∈ gw_tbl, w.before _ s = true := fun w h => hts w (List.mem_cons_of_mem _ h)
  have hown : s.vm.findClass "NumberProbe" = some m.cls := findClass_of_methodNamed B.named
  have hlocks := B.notSynchronized
  subst hsz
  have hD : va_D (NA h0 q0 g cL cO u s.heap.size) (nWs h0 q0 g cL cO u) := hD0.self (sz := s.heap.size)
  generalize hAe : NA h0 q0 g cL cO u s.heap.size = A at hD hE hT ⊢
  have hA : ∀ q : Nat, s.heap.size ≤ q → A q := fun q h => by rw [← hAe]; exact Or.inr h
  have hS : va_S A s.heap s.heap [] := va_S.rf
  have hM : NWd D cL cO h0 q0 g A u s.heap := ⟨hP, hD⟩
  have hl := lv_entry ([.ref h0, .int p0, .int p1, .int p2, .int p3, .int p4]) (n := 11) (Nat.le_of_ble_eq_true rfl)
  rw [lg_entry_eq]
  generalize (lg_sl ([.ref h0, .int p0, .int p1, .int p2, .int p3, .int p4]) ++ List.replicate (11 - (lg_sl ([.ref h0, .int p0, .int p1, .int p2, .int p3, .int p4])).length) Slot.unset).toArray = ls at hl ⊢
  have hl : lv_has ls 11 [(0, .ref h0), (1, .int p0), (2, .int p1), (3, .int p2), (4, .int p3), (5, .int p4)] := hl
  refine lv_iload_n hx hb md_N_assign_0 rfl (lv_at hl 1 rfl) ?_
  refine lv_iload_n hx hb md_N_assign_1 rfl (lv_at hl 2 rfl) ?_
  refine vp_callSi (W.runS (As := [.int p0, .int p1]) (rest := []) ⟨hx, hb, hml, hown, hts⟩ (mt_N_isNumber l p0 p1) (va_cwS 2 hts (gd_S tm_50 tm_51 tm_24 tm_52) rfl rfl rfl (by decide +kernel) ⟨Nat.le_of_ble_eq_true rfl, Nat.le_of_ble_eq_true rfl⟩) ⟨fb_0, fun U hU hW => ⟨rfl, trivial⟩⟩ rfl rfl hl.1 rfl (lv_room (Nat.le_of_ble_eq_true rfl)) md_N_assign_2 ⟨Nat.zero_le _, Nat.zero_le _⟩) (fun r_1 e_2 => ?_)
  obtain rfl : r_1 = jb (cn_num p0 p1) := e_2
  refine lv_if_eq (tgt := 27) hx hb md_N_assign_5 (by decide) (fun c_3 => ?_) (fun c_3 => ?_)
  · refine lv_iconst (v := (-1)) hx hb md_N_assign_27 (by decide) ?_
    exact W.iret (v := (-1)) hx hb hr (fun t ht2 _ => ⟨⟨(-1), u, rfl, (by simp [nz_asg, nz_wid, (jb_0.mp c_3)]), by show NWd D cL cO h0 q0 g A _ t.heap; rw [ht2]; exact hM⟩, hS.F ht2⟩) hS.2.2 md_N_assign_28
  · refine lv_iload hx hb md_N_assign_8 (lv_at hl 4 rfl) ?_
    refine lv_iload hx hb md_N_assign_10 (lv_at hl 5 rfl) ?_
    refine vp_callSi (W.runS (As := [.int p3, .int p4]) (rest := []) ⟨hx, hb, hml, hown, hts⟩ (mt_N_isNumber l p3 p4) (va_cwS 2 hts (gd_S tm_50 tm_51 tm_24 tm_52) rfl rfl rfl (by decide +kernel) ⟨Nat.le_of_ble_eq_true rfl, Nat.le_of_ble_eq_true rfl⟩) ⟨fb_0, fun U hU hW => ⟨rfl, trivial⟩⟩ rfl rfl hl.1 rfl (lv_room (Nat.le_of_ble_eq_true rfl)) md_N_assign_12 ⟨Nat.zero_le _, Nat.zero_le _⟩) (fun r_4 e_5 => ?_)
    obtain rfl : r_4 = jb (cn_num p3 p4) := e_5
    refine lv_if_eq (tgt := 27) hx hb md_N_assign_15 (by decide) (fun c_6 => ?_) (fun c_6 => ?_)
    · refine lv_iconst (v := (-1)) hx hb md_N_assign_27 (by decide) ?_
      exact W.iret (v := (-1)) hx hb hr (fun t ht2 _ => ⟨⟨(-1), u, rfl, (by simp [nz_asg, nz_wid, (jb_n0.mp c_3), (jb_0.mp c_6)]), by show NWd D cL cO h0 q0 g A _ t.heap; rw [ht2]; exact hM⟩, hS.F ht2⟩) hS.2.2 md_N_assign_28
    · refine lv_iload_n hx hb md_N_assign_18 rfl (lv_at hl 3 rfl) ?_
      refine lv_if_lt (tgt := 27) hx hb md_N_assign_19 (by decide) (fun c_7 => ?_) (fun c_7 => ?_)
      · refine lv_iconst (v := (-1)) hx hb md_N_assign_27 (by decide) ?_
        exact W.iret (v := (-1)) hx hb hr (fun t ht2 _ => ⟨⟨(-1), u, rfl, (by simp [nz_asg, nz_wid, (jb_n0.mp c_3), (jb_n0.mp c_6), c_7]), by show NWd D cL cO h0 q0 g A _ t.heap; rw [ht2]; exact hM⟩, hS.F ht2⟩) hS.2.2 md_N_assign_28
      · refine lv_iload_n hx hb md_N_assign_22 rfl (lv_at hl 3 rfl) ?_
        refine lv_iconst (v := 3) hx hb md_N_assign_23 (by decide) ?_
        refine lv_icmp_le (tgt := 29) hx hb md_N_assign_24 (by decide) (fun c_8 => ?_) (fun c_8 => ?_)
        · refine lv_iload_n hx hb md_N_assign_29 rfl (lv_at hl 1 rfl) ?_
          refine vp_callSi (W.runS (As := [.int p0]) (rest := []) ⟨hx, hb, hml, hown, hts⟩ (mt_N_widthOf l p0) (va_cwS 1 hts (gd_S tm_233 tm_234 tm_24 tm_235) rfl rfl rfl (by decide +kernel) ⟨Nat.le_of_ble_eq_true rfl, Nat.le_of_ble_eq_true rfl⟩) ⟨fb_0, fun U hU hW => ⟨rfl, trivial⟩⟩ rfl rfl hl.1 rfl (lv_room (Nat.le_of_ble_eq_true rfl)) md_N_assign_30 ⟨Nat.zero_le _, Nat.zero_le _⟩) (fun r_9 e_10 => ?_)
          obtain rfl : r_9 = cn_wid p0 := e_10
          refine lv_iload hx hb md_N_assign_33 (lv_at hl 4 rfl) ?_
          refine vp_callSi (W.runS (As := [.int p3]) (rest := [.int (cn_wid p0)]) ⟨hx, hb, hml, hown, hts⟩ (mt_N_widthOf l p3) (va_cwS 1 hts (gd_S tm_233 tm_234 tm_24 tm_235) rfl rfl rfl (by decide +kernel) ⟨Nat.le_of_ble_eq_true rfl, Nat.le_of_ble_eq_true rfl⟩) ⟨fb_0, fun U hU hW => ⟨rfl, trivial⟩⟩ rfl rfl hl.1 rfl (lv_room (Nat.le_of_ble_eq_true rfl)) md_N_assign_35 ⟨Nat.zero_le _, Nat.zero_le _⟩) (fun r_11 e_12 => ?_)
          obtain rfl : r_11 = cn_wid p3 := e_12
          refine lv_icmp_lt (tgt := 45) hx hb md_N_assign_38 (by decide) (fun c_13 => ?_) (fun c_13 => ?_)
          · refine lv_iload hx hb md_N_assign_45 (lv_at hl 4 rfl) ?_
            refine lv_istore (lv' := [(6, .int p3), (0, .ref h0), (1, .int p0), (2, .int p1), (3, .int p2), (4, .int p3), (5, .int p4)]) hx hb md_N_assign_47 hl (by decide) rfl (fun ls hl => ?_)
            refine lv_iload_n hx hb md_N_assign_49 rfl (lv_at hl 2 rfl) ?_
            refine lv_aload_n hx hb md_N_assign_50 rfl (lv_at hl 1 rfl) ?_
            refine va_get (D := D) (ci := 0) (v := .ref q0) (C := "NumberProbe") (T := TN) (N := 1) hx hb ht inN hown hK hM.1 0 rfl rfl 0 (by decide) (ht _ tm_41) (fun _ h9 => h9) rfl md_N_assign_51 ?_
            refine lv_iload_n hx hb md_N_assign_54 rfl (lv_at hl 2 rfl) ?_
            refine n_ald hx hb hK hM (cn_i4 (jb_n0.mp c_3)) md_N_assign_55 ?_
            refine lv_iload_n hx hb md_N_assign_56 rfl (lv_at hl 3 rfl) ?_
            refine n_lald hx hb hK hM (vp_lt (cn_i4 (jb_n0.mp c_3))) (cn_i6 (jb_n0.mp c_3)) md_N_assign_57 ?_
            refine lv_iload hx hb md_N_assign_58 (lv_at hl 0 rfl) ?_
            refine vp_callSl (W.runS (As := [.int p0, .long (u p0.toNatClampNeg p1.toNatClampNeg), .int p3]) (rest := []) ⟨hx, hb, hml, hown, hts⟩ (mz_N_converted l ad p0 (u p0.toNatClampNeg p1.toNatClampNeg) p3) (va_cwS 3 hts (gd_S tm_236 tm_237 tm_24 tm_238) rfl rfl rfl (by decide +kernel) ⟨Nat.le_of_ble_eq_true rfl, Nat.le_of_ble_eq_true rfl⟩) ⟨fb_E, fun U hU hW => ⟨rfl, fw_use hE hS hU hW⟩⟩ rfl rfl hl.1 rfl (lv_room (Nat.le_of_ble_eq_true rfl)) md_N_assign_60 ⟨Nat.zero_le _, Nat.zero_le _⟩) (fun r_14 e_15 => ?_)
            refine lv_lstore (lv' := [(7, .long r_14), (6, .int p3), (0, .ref h0), (1, .int p0), (2, .int p1), (3, .int p2), (4, .int p3), (5, .int p4)]) hx hb md_N_assign_63 hl (by decide) rfl (fun ls hl => ?_)
            refine lv_iload hx hb md_N_assign_65 (lv_at hl 6 rfl) ?_
            refine lv_aload_n hx hb md_N_assign_67 rfl (lv_at hl 2 rfl) ?_
            refine va_get (D := D) (ci := 0) (v := .ref q0) (C := "NumberProbe") (T := TN) (N := 1) hx hb ht inN hown hK hM.1 0 rfl rfl 0 (by decide) (ht _ tm_41) (fun _ h9 => h9) rfl md_N_assign_68 ?_
            refine lv_iload hx hb md_N_assign_71 (lv_at hl 6 rfl) ?_
            refine n_ald hx hb hK hM (cn_i4 (jb_n0.mp c_6)) md_N_assign_73 ?_
            refine lv_iload hx hb md_N_assign_74 (lv_at hl 7 rfl) ?_
            refine n_lald hx hb hK hM (vp_lt (cn_i4 (jb_n0.mp c_6))) (cn_i6 (jb_n0.mp c_6)) md_N_assign_76 ?_
            refine lv_iload hx hb md_N_assign_77 (lv_at hl 1 rfl) ?_
            refine vp_callSl (W.runS (As := [.int p3, .long (u p3.toNatClampNeg p4.toNatClampNeg), .int p3]) (rest := []) ⟨hx, hb, hml, hown, hts⟩ (mz_N_converted l ad p3 (u p3.toNatClampNeg p4.toNatClampNeg) p3) (va_cwS 3 hts (gd_S tm_236 tm_237 tm_24 tm_238) rfl rfl rfl (by decide +kernel) ⟨Nat.le_of_ble_eq_true rfl, Nat.le_of_ble_eq_true rfl⟩) ⟨fb_E, fun U hU hW => ⟨rfl, fw_use hE hS hU hW⟩⟩ rfl rfl hl.1 rfl (lv_room (Nat.le_of_ble_eq_true rfl)) md_N_assign_79 ⟨Nat.zero_le _, Nat.zero_le _⟩) (fun r_16 e_17 => ?_)
            refine lv_lstore (lv' := [(9, .long r_16), (7, .long r_14), (6, .int p3), (0, .ref h0), (1, .int p0), (2, .int p1), (3, .int p2), (4, .int p3), (5, .int p4)]) hx hb md_N_assign_82 hl (by decide) rfl (fun ls hl => ?_)
            refine lv_iload hx hb md_N_assign_84 (lv_at hl 2 rfl) ?_
            refine lv_iload_n hx hb md_N_assign_86 rfl (lv_at hl 6 rfl) ?_
            refine lv_lload hx hb md_N_assign_87 (lv_at hl 0 rfl) ?_
            refine vp_callSi (W.runS (As := [.int p3, .int p2, .long r_16]) (rest := []) ⟨hx, hb, hml, hown, hts⟩ (mt_N_dividesByZero l p3 p2 r_16) (va_cwS 3 hts (gd_S tm_110 tm_111 tm_24 tm_112) rfl rfl rfl (by decide +kernel) ⟨Nat.le_of_ble_eq_true rfl, Nat.le_of_ble_eq_true rfl⟩) ⟨fb_0, fun U hU hW => ⟨rfl, trivial⟩⟩ rfl rfl hl.1 rfl (lv_room (Nat.le_of_ble_eq_true rfl)) md_N_assign_89 ⟨Nat.zero_le _, Nat.zero_le _⟩) (fun r_18 e_19 => ?_)
            obtain rfl : r_18 = jb (cn_dbz p3 p2 r_16) := e_19
            refine lv_if_eq (tgt := 98) hx hb md_N_assign_92 (by decide) (fun c_20 => ?_) (fun c_20 => ?_)
            · refine lv_aload_n hx hb md_N_assign_98 rfl (lv_at hl 3 rfl) ?_
              refine va_get (D := D) (ci := 0) (v := .ref q0) (C := "NumberProbe") (T := TN) (N := 1) hx hb ht inN hown hK hM.1 0 rfl rfl 0 (by decide) (ht _ tm_41) (fun _ h9 => h9) rfl md_N_assign_99 ?_
              refine lv_iload_n hx hb md_N_assign_102 rfl (lv_at hl 4 rfl) ?_
              refine n_ald hx hb hK hM (cn_i4 (jb_n0.mp c_3)) md_N_assign_103 ?_
              refine lv_iload_n hx hb md_N_assign_104 rfl (lv_at hl 5 rfl) ?_
              refine lv_iload hx hb md_N_assign_105 (lv_at hl 2 rfl) ?_
              refine lv_iload hx hb md_N_assign_107 (lv_at hl 2 rfl) ?_
              refine lv_iload_n hx hb md_N_assign_109 rfl (lv_at hl 6 rfl) ?_
              refine lv_lload hx hb md_N_assign_110 (lv_at hl 1 rfl) ?_
              refine lv_lload hx hb md_N_assign_112 (lv_at hl 0 rfl) ?_
              refine vp_callSl (W.runS (As := [.int p3, .int p2, .long r_14, .long r_16]) (rest := [.int p3, .int p1, .ref (g p0.toNatClampNeg)]) ⟨hx, hb, hml, hown, hts⟩ (mt_N_result l ad p3 p2 r_14 r_16 (jb_0.mp c_20)) (va_cwS 4 hts (gd_S tm_113 tm_114 tm_24 tm_115) rfl rfl rfl (by decide +kernel) ⟨Nat.le_of_ble_eq_true rfl, Nat.le_of_ble_eq_true rfl⟩) ⟨fb_E, fun U hU hW => ⟨rfl, fw_use hE hS hU hW⟩⟩ rfl rfl hl.1 rfl (lv_room (Nat.le_of_ble_eq_true rfl)) md_N_assign_114 ⟨Nat.zero_le _, Nat.zero_le _⟩) (fun r_21 e_22 => ?_)
              refine lv_iload_n hx hb md_N_assign_117 rfl (lv_at hl 4 rfl) ?_
              refine vp_callSl (W.runS (As := [.int p3, .long r_21, .int p0]) (rest := [.int p1, .ref (g p0.toNatClampNeg)]) ⟨hx, hb, hml, hown, hts⟩ (mz_N_converted l ad p3 r_21 p0) (va_cwS 3 hts (gd_S tm_236 tm_237 tm_24 tm_238) rfl rfl rfl (by decide +kernel) ⟨Nat.le_of_ble_eq_true rfl, Nat.le_of_ble_eq_true rfl⟩) ⟨fb_E, fun U hU hW => ⟨rfl, fw_use hE hS hU hW⟩⟩ rfl rfl hl.1 rfl (lv_room (Nat.le_of_ble_eq_true rfl)) md_N_assign_118 ⟨Nat.zero_le _, Nat.zero_le _⟩) (fun r_23 e_24 => ?_)
              refine n_last hx hb hK hM hS (vp_lt (cn_i4 (jb_n0.mp c_3))) (cn_i6 (jb_n0.mp c_3)) md_N_assign_121 (fun u_25 H_26 L_27 hM hS => ?_)
              refine lv_iconst (v := 0) hx hb md_N_assign_122 (by decide) ?_
              exact W.iret (v := 0) hx hb hr (fun t ht2 _ => ⟨⟨0, u_25, rfl, (by simp [nz_asg, nz_wid, (jb_n0.mp c_3), (jb_n0.mp c_6), (c_7), c_8, c_13, (show cn_dbz p3 p2 0 = false from (nz_dbz2 (fun h9 => e_17 (hz _ _) h9)).symm.trans (jb_0.mp c_20))]), by show NWd D cL cO h0 q0 g A _ t.heap; rw [ht2]; exact hM⟩, hS.F ht2⟩) hS.2.2 md_N_assign_123
            · refine lv_bipush (v := (-2)) hx hb md_N_assign_95 (by decide) ?_
              exact W.iret (v := (-2)) hx hb hr (fun t ht2 _ => ⟨⟨(-2), u, rfl, (by simp [nz_asg, nz_wid, (jb_n0.mp c_3), (jb_n0.mp c_6), (c_7), c_8, c_13, (show cn_dbz p3 p2 0 = true from (nz_dbz2 (fun h9 => e_17 (hz _ _) h9)).symm.trans (jb_n0.mp c_20))]), by show NWd D cL cO h0 q0 g A _ t.heap; rw [ht2]; exact hM⟩, hS.F ht2⟩) hS.2.2 md_N_assign_97
          · refine lv_iload_n hx hb md_N_assign_41 rfl (lv_at hl 1 rfl) ?_
            refine lv_goto (tgt := 47) hx hb md_N_assign_42 (by decide) ?_
            refine lv_istore (lv' := [(6, .int p0), (0, .ref h0), (1, .int p0), (2, .int p1), (3, .int p2), (4, .int p3), (5, .int p4)]) hx hb md_N_assign_47 hl (by decide) rfl (fun ls hl => ?_)
            refine lv_iload_n hx hb md_N_assign_49 rfl (lv_at hl 2 rfl) ?_
            refine lv_aload_n hx hb md_N_assign_50 rfl (lv_at hl 1 rfl) ?_
            refine va_get (D := D) (ci := 0) (v := .ref q0) (C := "NumberProbe") (T := TN) (N := 1) hx hb ht inN hown hK hM.1 0 rfl rfl 0 (by decide) (ht _ tm_41) (fun _ h9 => h9) rfl md_N_assign_51 ?_
            refine lv_iload_n hx hb md_N_assign_54 rfl (lv_at hl 2 rfl) ?_
            refine n_ald hx hb hK hM (cn_i4 (jb_n0.mp c_3)) md_N_assign_55 ?_
            refine lv_iload_n hx hb md_N_assign_56 rfl (lv_at hl 3 rfl) ?_
            refine n_lald hx hb hK hM (vp_lt (cn_i4 (jb_n0.mp c_3))) (cn_i6 (jb_n0.mp c_3)) md_N_assign_57 ?_
            refine lv_iload hx hb md_N_assign_58 (lv_at hl 0 rfl) ?_
            refine vp_callSl (W.runS (As := [.int p0, .long (u p0.toNatClampNeg p1.toNatClampNeg), .int p0]) (rest := []) ⟨hx, hb, hml, hown, hts⟩ (mz_N_converted l ad p0 (u p0.toNatClampNeg p1.toNatClampNeg) p0) (va_cwS 3 hts (gd_S tm_236 tm_237 tm_24 tm_238) rfl rfl rfl (by decide +kernel) ⟨Nat.le_of_ble_eq_true rfl, Nat.le_of_ble_eq_true rfl⟩) ⟨fb_E, fun U hU hW => ⟨rfl, fw_use hE hS hU hW⟩⟩ rfl rfl hl.1 rfl (lv_room (Nat.le_of_ble_eq_true rfl)) md_N_assign_60 ⟨Nat.zero_le _, Nat.zero_le _⟩) (fun r_28 e_29 => ?_)
            refine lv_lstore (lv' := [(7, .long r_28), (6, .int p0), (0, .ref h0), (1, .int p0), (2, .int p1), (3, .int p2), (4, .int p3), (5, .int p4)]) hx hb md_N_assign_63 hl (by decide) rfl (fun ls hl => ?_)
            refine lv_iload hx hb md_N_assign_65 (lv_at hl 6 rfl) ?_
            refine lv_aload_n hx hb md_N_assign_67 rfl (lv_at hl 2 rfl) ?_
            refine va_get (D := D) (ci := 0) (v := .ref q0) (C := "NumberProbe") (T := TN) (N := 1) hx hb ht inN hown hK hM.1 0 rfl rfl 0 (by decide) (ht _ tm_41) (fun _ h9 => h9) rfl md_N_assign_68 ?_
            refine lv_iload hx hb md_N_assign_71 (lv_at hl 6 rfl) ?_
            refine n_ald hx hb hK hM (cn_i4 (jb_n0.mp c_6)) md_N_assign_73 ?_
            refine lv_iload hx hb md_N_assign_74 (lv_at hl 7 rfl) ?_
            refine n_lald hx hb hK hM (vp_lt (cn_i4 (jb_n0.mp c_6))) (cn_i6 (jb_n0.mp c_6)) md_N_assign_76 ?_
            refine lv_iload hx hb md_N_assign_77 (lv_at hl 1 rfl) ?_
            refine vp_callSl (W.runS (As := [.int p3, .long (u p3.toNatClampNeg p4.toNatClampNeg), .int p0]) (rest := []) ⟨hx, hb, hml, hown, hts⟩ (mz_N_converted l ad p3 (u p3.toNatClampNeg p4.toNatClampNeg) p0) (va_cwS 3 hts (gd_S tm_236 tm_237 tm_24 tm_238) rfl rfl rfl (by decide +kernel) ⟨Nat.le_of_ble_eq_true rfl, Nat.le_of_ble_eq_true rfl⟩) ⟨fb_E, fun U hU hW => ⟨rfl, fw_use hE hS hU hW⟩⟩ rfl rfl hl.1 rfl (lv_room (Nat.le_of_ble_eq_true rfl)) md_N_assign_79 ⟨Nat.zero_le _, Nat.zero_le _⟩) (fun r_30 e_31 => ?_)
            refine lv_lstore (lv' := [(9, .long r_30), (7, .long r_28), (6, .int p0), (0, .ref h0), (1, .int p0), (2, .int p1), (3, .int p2), (4, .int p3), (5, .int p4)]) hx hb md_N_assign_82 hl (by decide) rfl (fun ls hl => ?_)
            refine lv_iload hx hb md_N_assign_84 (lv_at hl 2 rfl) ?_
            refine lv_iload_n hx hb md_N_assign_86 rfl (lv_at hl 6 rfl) ?_
            refine lv_lload hx hb md_N_assign_87 (lv_at hl 0 rfl) ?_
            refine vp_callSi (W.runS (As := [.int p0, .int p2, .long r_30]) (rest := []) ⟨hx, hb, hml, hown, hts⟩ (mt_N_dividesByZero l p0 p2 r_30) (va_cwS 3 hts (gd_S tm_110 tm_111 tm_24 tm_112) rfl rfl rfl (by decide +kernel) ⟨Nat.le_of_ble_eq_true rfl, Nat.le_of_ble_eq_true rfl⟩) ⟨fb_0, fun U hU hW => ⟨rfl, trivial⟩⟩ rfl rfl hl.1 rfl (lv_room (Nat.le_of_ble_eq_true rfl)) md_N_assign_89 ⟨Nat.zero_le _, Nat.zero_le _⟩) (fun r_32 e_33 => ?_)
            obtain rfl : r_32 = jb (cn_dbz p0 p2 r_30) := e_33
            refine lv_if_eq (tgt := 98) hx hb md_N_assign_92 (by decide) (fun c_34 => ?_) (fun c_34 => ?_)
            · refine lv_aload_n hx hb md_N_assign_98 rfl (lv_at hl 3 rfl) ?_
              refine va_get (D := D) (ci := 0) (v := .ref q0) (C := "NumberProbe") (T := TN) (N := 1) hx hb ht inN hown hK hM.1 0 rfl rfl 0 (by decide) (ht _ tm_41) (fun _ h9 => h9) rfl md_N_assign_99 ?_
              refine lv_iload_n hx hb md_N_assign_102 rfl (lv_at hl 4 rfl) ?_
              refine n_ald hx hb hK hM (cn_i4 (jb_n0.mp c_3)) md_N_assign_103 ?_
              refine lv_iload_n hx hb md_N_assign_104 rfl (lv_at hl 5 rfl) ?_
              refine lv_iload hx hb md_N_assign_105 (lv_at hl 2 rfl) ?_
              refine lv_iload hx hb md_N_assign_107 (lv_at hl 2 rfl) ?_
              refine lv_iload_n hx hb md_N_assign_109 rfl (lv_at hl 6 rfl) ?_
              refine lv_lload hx hb md_N_assign_110 (lv_at hl 1 rfl) ?_
              refine lv_lload hx hb md_N_assign_112 (lv_at hl 0 rfl) ?_
              refine vp_callSl (W.runS (As := [.int p0, .int p2, .long r_28, .long r_30]) (rest := [.int p0, .int p1, .ref (g p0.toNatClampNeg)]) ⟨hx, hb, hml, hown, hts⟩ (mt_N_result l ad p0 p2 r_28 r_30 (jb_0.mp c_34)) (va_cwS 4 hts (gd_S tm_113 tm_114 tm_24 tm_115) rfl rfl rfl (by decide +kernel) ⟨Nat.le_of_ble_eq_true rfl, Nat.le_of_ble_eq_true rfl⟩) ⟨fb_E, fun U hU hW => ⟨rfl, fw_use hE hS hU hW⟩⟩ rfl rfl hl.1 rfl (lv_room (Nat.le_of_ble_eq_true rfl)) md_N_assign_114 ⟨Nat.zero_le _, Nat.zero_le _⟩) (fun r_35 e_36 => ?_)
              refine lv_iload_n hx hb md_N_assign_117 rfl (lv_at hl 4 rfl) ?_
              refine vp_callSl (W.runS (As := [.int p0, .long r_35, .int p0]) (rest := [.int p1, .ref (g p0.toNatClampNeg)]) ⟨hx, hb, hml, hown, hts⟩ (mz_N_converted l ad p0 r_35 p0) (va_cwS 3 hts (gd_S tm_236 tm_237 tm_24 tm_238) rfl rfl rfl (by decide +kernel) ⟨Nat.le_of_ble_eq_true rfl, Nat.le_of_ble_eq_true rfl⟩) ⟨fb_E, fun U hU hW => ⟨rfl, fw_use hE hS hU hW⟩⟩ rfl rfl hl.1 rfl (lv_room (Nat.le_of_ble_eq_true rfl)) md_N_assign_118 ⟨Nat.zero_le _, Nat.zero_le _⟩) (fun r_37 e_38 => ?_)
              refine n_last hx hb hK hM hS (vp_lt (cn_i4 (jb_n0.mp c_3))) (cn_i6 (jb_n0.mp c_3)) md_N_assign_121 (fun u_39 H_40 L_41 hM hS => ?_)
              refine lv_iconst (v := 0) hx hb md_N_assign_122 (by decide) ?_
              exact W.iret (v := 0) hx hb hr (fun t ht2 _ => ⟨⟨0, u_39, rfl, (by simp [nz_asg, nz_wid, (jb_n0.mp c_3), (jb_n0.mp c_6), (c_7), c_8, (c_13), (show cn_dbz p0 p2 0 = false from (nz_dbz2 (fun h9 => e_31 (hz _ _) h9)).symm.trans (jb_0.mp c_34))]), by show NWd D cL cO h0 q0 g A _ t.heap; rw [ht2]; exact hM⟩, hS.F ht2⟩) hS.2.2 md_N_assign_123
            · refine lv_bipush (v := (-2)) hx hb md_N_assign_95 (by decide) ?_
              exact W.iret (v := (-2)) hx hb hr (fun t ht2 _ => ⟨⟨(-2), u, rfl, (by simp [nz_asg, nz_wid, (jb_n0.mp c_3), (jb_n0.mp c_6), (c_7), c_8, (c_13), (show cn_dbz p0 p2 0 = true from (nz_dbz2 (fun h9 => e_31 (hz _ _) h9)).symm.trans (jb_n0.mp c_34))]), by show NWd D cL cO h0 q0 g A _ t.heap; rw [ht2]; exact hM⟩, hS.F ht2⟩) hS.2.2 md_N_assign_97
        · refine lv_iconst (v := (-1)) hx hb md_N_assign_27 (by decide) ?_
          exact W.iret (v := (-1)) hx hb hr (fun t ht2 _ => ⟨⟨(-1), u, rfl, (by simp [nz_asg, nz_wid, (jb_n0.mp c_3), (jb_n0.mp c_6), (c_7), (c_8)]), by show NWd D cL cO h0 q0 g A _ t.heap; rw [ht2]; exact hM⟩, hS.F ht2⟩) hS.2.2 md_N_assign_28
set_option maxHeartbeats 4000000 in
set_option maxRecDepth 100000 in
theorem mz_N_narrow (l : Launch) (D : va_G) (cL cO : ClassId) (h0 q0 : Nat) (g ad tb : Nat → Nat) (sz : Nat) (u : Nat → Nat → Int64) (p0 : Int32) (p1 : Int32) (p2 : Int32) (hz : ∀ a b, u a b = 0) : Met l my_N_narrow mw_N_narrow ({ frames := 5, cells := 0, slots := 0, locals := 122 } : Room) (NPc D cL cO h0 q0 g ad tb sz u [.int p0, .int p1, .int p2]) (NQi D cL cO h0 q0 g (NA h0 q0 g cL cO u sz) (fun (r : Int32) (v : Nat → Nat → Int64) => r = 0)) 0 0 (NA h0 q0 g cL cO u sz) := by
  refine Met.ofW (cc := mc_N_narrow) (maxL := 5) (ret := (some .int)) (by decide) rfl ?_
  intro p e s m args below meth c s₁ B hml hv
  obtain ⟨rfl, hsz, hP, hK, hD0, hE, hT⟩ := hv
  have hx := B.exec
  have hb := B.bytes
  have hr := B.returns
  have hts := atoms_spec (ws := mw_N_narrow) B.pre
  have ht : ∀ w ∈ gw_tbl, w.before _ s = true := fun w h => hts w (List.mem_cons_of_mem _ h)
  have hown : s.vm.findClass "NumberProbe" = some m.cls := findClass_of_methodNamed B.named
  have hlocks := B.notSynchronized
  subst hsz
  have hD : va_D (NA h0 q0 g cL cO u s.heap.size) (nWs h0 q0 g cL cO u) := hD0.self (sz := s.heap.size)
  generalize hAe : NA h0 q0 g cL cO u s.heap.size = A at hD hE hT ⊢
  have hA : ∀ q : Nat, s.heap.size ≤ q → A q := fun q h => by rw [← hAe]; exact Or.inr h
  have hS : va_S A s.heap s.heap [] := va_S.rf
  have hM : NWd D cL cO h0 q0 g A u s.heap := ⟨hP, hD⟩
  have hl := lv_entry ([.ref h0, .int p0, .int p1, .int p2]) (n := 5) (Nat.le_of_ble_eq_true rfl)
  rw [lg_entry_eq]
  generalize (lg_sl ([.ref h0, .int p0, .int p1, .int p2]) ++ List.replicate (5 - (lg_sl ([.ref h0, .int p0, .int p1, .int p2])).length) Slot.unset).toArray = ls at hl ⊢
  have hl : lv_has ls 5 [(0, .ref h0), (1, .int p0), (2, .int p1), (3, .int p2)] := hl
  refine lv_iload_n hx hb md_N_narrow_0 rfl (lv_at hl 1 rfl) ?_
  refine lv_iload_n hx hb md_N_narrow_1 rfl (lv_at hl 2 rfl) ?_
  refine vp_callSi (W.runS (As := [.int p0, .int p1]) (rest := []) ⟨hx, hb, hml, hown, hts⟩ (mt_N_isNumber l p0 p1) (va_cwS 2 hts (gd_S tm_50 tm_51 tm_24 tm_52) rfl rfl rfl (by decide +kernel) ⟨Nat.le_of_ble_eq_true rfl, Nat.le_of_ble_eq_true rfl⟩) ⟨fb_0, fun U hU hW => ⟨rfl, trivial⟩⟩ rfl rfl hl.1 rfl (lv_room (Nat.le_of_ble_eq_true rfl)) md_N_narrow_2 ⟨Nat.zero_le _, Nat.zero_le _⟩) (fun r_1 e_2 => ?_)
  obtain rfl : r_1 = jb (cn_num p0 p1) := e_2
  refine lv_if_ne (tgt := 10) hx hb md_N_narrow_5 (by decide) (fun c_3 => ?_) (fun c_3 => ?_)
  · refine lv_iload_n hx hb md_N_narrow_10 rfl (lv_at hl 1 rfl) ?_
    refine lv_aload_n hx hb md_N_narrow_11 rfl (lv_at hl 0 rfl) ?_
    refine va_get (D := D) (ci := 0) (v := .ref q0) (C := "NumberProbe") (T := TN) (N := 1) hx hb ht inN hown hK hM.1 0 rfl rfl 0 (by decide) (ht _ tm_41) (fun _ h9 => h9) rfl md_N_narrow_12 ?_
    refine lv_iload_n hx hb md_N_narrow_15 rfl (lv_at hl 1 rfl) ?_
    refine n_ald hx hb hK hM (cn_i4 (jb_n0.mp c_3)) md_N_narrow_16 ?_
    refine lv_iload_n hx hb md_N_narrow_17 rfl (lv_at hl 2 rfl) ?_
    refine n_lald hx hb hK hM (vp_lt (cn_i4 (jb_n0.mp c_3))) (cn_i6 (jb_n0.mp c_3)) md_N_narrow_18 ?_
    refine lv_iconst (v := 2) hx hb md_N_narrow_19 (by decide) ?_
    refine vp_callSl (W.runS (As := [.int p0, .long (u p0.toNatClampNeg p1.toNatClampNeg), .int 2]) (rest := []) ⟨hx, hb, hml, hown, hts⟩ (mz_N_converted l ad p0 (u p0.toNatClampNeg p1.toNatClampNeg) 2) (va_cwS 3 hts (gd_S tm_236 tm_237 tm_24 tm_238) rfl rfl rfl (by decide +kernel) ⟨Nat.le_of_ble_eq_true rfl, Nat.le_of_ble_eq_true rfl⟩) ⟨fb_E, fun U hU hW => ⟨rfl, fw_use hE hS hU hW⟩⟩ rfl rfl hl.1 rfl (lv_room (Nat.le_of_ble_eq_true rfl)) md_N_narrow_20 ⟨Nat.zero_le _, Nat.zero_le _⟩) (fun r_4 e_5 => ?_)
    refine lv_l2i (v := r_4.toInt32) hx hb md_N_narrow_23 rfl ?_
    refine lv_istore (lv' := [(4, .int r_4.toInt32), (0, .ref h0), (1, .int p0), (2, .int p1), (3, .int p2)]) hx hb md_N_narrow_24 hl (by decide) rfl (fun ls hl => ?_)
    refine lv_iload_n hx hb md_N_narrow_26 rfl (lv_at hl 4 rfl) ?_
    by_cases k_6 : p2 = 0
    · refine lv_tableIn (off := 29) (tgt := 56) hx hb md_N_narrow_27 (by rw [k_6]; decide) (by rw [k_6]; decide) (by rw [k_6]; rfl) (by decide) ?_
      refine lv_iload hx hb md_N_narrow_56 (lv_at hl 0 rfl) ?_
      refine lv_i2b (v := r_4.toInt32.toInt8.toInt32) hx hb md_N_narrow_58 rfl ?_
      exact W.iret (v := r_4.toInt32.toInt8.toInt32) hx hb hr (fun t ht2 _ => ⟨⟨r_4.toInt32.toInt8.toInt32, u, rfl, (by rw [e_5 (hz _ _) (by decide)]; rfl), by show NWd D cL cO h0 q0 g A _ t.heap; rw [ht2]; exact hM⟩, hS.F ht2⟩) hS.2.2 md_N_narrow_59
    by_cases k_7 : p2 = 1
    · refine lv_tableIn (off := 33) (tgt := 60) hx hb md_N_narrow_27 (by rw [k_7]; decide) (by rw [k_7]; decide) (by rw [k_7]; rfl) (by decide) ?_
      refine lv_iload hx hb md_N_narrow_60 (lv_at hl 0 rfl) ?_
      refine lv_i2c (v := (r_4.toInt32.toUInt32 % 65536).toInt32) hx hb md_N_narrow_62 rfl ?_
      exact W.iret (v := (r_4.toInt32.toUInt32 % 65536).toInt32) hx hb hr (fun t ht2 _ => ⟨⟨(r_4.toInt32.toUInt32 % 65536).toInt32, u, rfl, (by rw [e_5 (hz _ _) (by decide)]; rfl), by show NWd D cL cO h0 q0 g A _ t.heap; rw [ht2]; exact hM⟩, hS.F ht2⟩) hS.2.2 md_N_narrow_63
    by_cases k_8 : p2 = 2
    · refine lv_tableIn (off := 37) (tgt := 64) hx hb md_N_narrow_27 (by rw [k_8]; decide) (by rw [k_8]; decide) (by rw [k_8]; rfl) (by decide) ?_
      refine lv_iload hx hb md_N_narrow_64 (lv_at hl 0 rfl) ?_
      refine lv_i2s (v := r_4.toInt32.toInt16.toInt32) hx hb md_N_narrow_66 rfl ?_
      exact W.iret (v := r_4.toInt32.toInt16.toInt32) hx hb hr (fun t ht2 _ => ⟨⟨r_4.toInt32.toInt16.toInt32, u, rfl, (by rw [e_5 (hz _ _) (by decide)]; rfl), by show NWd D cL cO h0 q0 g A _ t.heap; rw [ht2]; exact hM⟩, hS.F ht2⟩) hS.2.2 md_N_narrow_67
    by_cases k_9 : p2 = 3
    · refine lv_tableIn (off := 41) (tgt := 68) hx hb md_N_narrow_27 (by rw [k_9]; decide) (by rw [k_9]; decide) (by rw [k_9]; rfl) (by decide) ?_
      refine lv_iload hx hb md_N_narrow_68 (lv_at hl 0 rfl) ?_
      exact W.iret (v := r_4.toInt32) hx hb hr (fun t ht2 _ => ⟨⟨r_4.toInt32, u, rfl, (by rw [e_5 (hz _ _) (by decide)]; rfl), by show NWd D cL cO h0 q0 g A _ t.heap; rw [ht2]; exact hM⟩, hS.F ht2⟩) hS.2.2 md_N_narrow_70
    refine lv_tableOut (tgt := 71) hx hb md_N_narrow_27 (by have := lv_neT k_6 (a := 0) rfl; have := lv_neT k_7 (a := 1) rfl; have := lv_neT k_8 (a := 2) rfl; have := lv_neT k_9 (a := 3) rfl; omega) (by decide) ?_
    refine lv_iconst (v := 0) hx hb md_N_narrow_71 (by decide) ?_
    exact W.iret (v := 0) hx hb hr (fun t ht2 _ => ⟨⟨0, u, rfl, (by rfl), by show NWd D cL cO h0 q0 g A _ t.heap; rw [ht2]; exact hM⟩, hS.F ht2⟩) hS.2.2 md_N_narrow_72
  · refine lv_iconst (v := 0) hx hb md_N_narrow_8 (by decide) ?_
    exact W.iret (v := 0) hx hb hr (fun t ht2 _ => ⟨⟨0, u, rfl, (by rfl), by show NWd D cL cO h0 q0 g A _ t.heap; rw [ht2]; exact hM⟩, hS.F ht2⟩) hS.2.2 md_N_narrow_9
set_option maxHeartbeats 4000000 in
set_option maxRecDepth 100000 in
theorem mz_N_compare (l : Launch) (D : va_G) (cL cO : ClassId) (h0 q0 : Nat) (g ad tb : Nat → Nat) (sz : Nat) (u : Nat → Nat → Int64) (p0 : Int32) (p1 : Int32) (p2 : Int32) (hz : ∀ a b, u a b = 0) : Met l my_N_compare mw_N_compare ({ frames := 3, cells := 0, slots := 0, locals := 66 } : Room) (NPc D cL cO h0 q0 g ad tb sz u [.int p0, .int p1, .int p2]) (NQi D cL cO h0 q0 g (NA h0 q0 g cL cO u sz) (fun (r : Int32) (v : Nat → Nat → Int64) => r = nz_cmp p0 p1 p2)) 0 0 (NA h0 q0 g cL cO u sz) := by
  refine Met.ofW (cc := mc_N_compare) (maxL := 9) (ret := (some .int)) (by decide) rfl ?_
  intro p e s m args below meth c s₁ B hml hv
  obtain ⟨rfl, hsz, hP, hK, hD0, hE, hT⟩ := hv
  have hx := B.exec
  have hb := B.bytes
  have hr := B.returns
  have hts := atoms_spec (ws := mw_N_compare) B.pre
  have ht : ∀ w ∈ gw_tbl, w.before _ s = true := fun w h => hts w (List.mem_cons_of_mem _ h)
  have hown : s.vm.findClass "NumberProbe" = some m.cls := findClass_of_methodNamed B.named
  have hlocks := B.notSynchronized
  subst hsz
  have hD : va_D (NA h0 q0 g cL cO u s.heap.size) (nWs h0 q0 g cL cO u) := hD0.self (sz := s.heap.size)
  generalize hAe : NA h0 q0 g cL cO u s.heap.size = A at hD hE hT ⊢
  have hA : ∀ q : Nat, s.heap.size ≤ q → A q := fun q h => by rw [← hAe]; exact Or.inr h
  have hS : va_S A s.heap s.heap [] := va_S.rf
  have hM : NWd D cL cO h0 q0 g A u s.heap := ⟨hP, hD⟩
  have hl := lv_entry ([.ref h0, .int p0, .int p1, .int p2]) (n := 9) (Nat.le_of_ble_eq_true rfl)
  rw [lg_entry_eq]
  generalize (lg_sl ([.ref h0, .int p0, .int p1, .int p2]) ++ List.replicate (9 - (lg_sl ([.ref h0, .int p0, .int p1, .int p2])).length) Slot.unset).toArray = ls at hl ⊢
  have hl : lv_has ls 9 [(0, .ref h0), (1, .int p0), (2, .int p1), (3, .int p2)] := hl
  refine lv_iload_n hx hb md_N_compare_0 rfl (lv_at hl 1 rfl) ?_
  refine lv_iload_n hx hb md_N_compare_1 rfl (lv_at hl 2 rfl) ?_
  refine vp_callSi (W.runS (As := [.int p0, .int p1]) (rest := []) ⟨hx, hb, hml, hown, hts⟩ (mt_N_isNumber l p0 p1) (va_cwS 2 hts (gd_S tm_50 tm_51 tm_24 tm_52) rfl rfl rfl (by decide +kernel) ⟨Nat.le_of_ble_eq_true rfl, Nat.le_of_ble_eq_true rfl⟩) ⟨fb_0, fun U hU hW => ⟨rfl, trivial⟩⟩ rfl rfl hl.1 rfl (lv_room (Nat.le_of_ble_eq_true rfl)) md_N_compare_2 ⟨Nat.zero_le _, Nat.zero_le _⟩) (fun r_1 e_2 => ?_)
  obtain rfl : r_1 = jb (cn_num p0 p1) := e_2
  refine lv_if_eq (tgt := 16) hx hb md_N_compare_5 (by decide) (fun c_3 => ?_) (fun c_3 => ?_)
  · refine lv_iconst (v := (-1)) hx hb md_N_compare_16 (by decide) ?_
    exact W.iret (v := (-1)) hx hb hr (fun t ht2 _ => ⟨⟨(-1), u, rfl, (by first | (simp [nz_cmp, (jb_0.mp c_3)]; done) | (simp [nz_cmp, hz, (jb_0.mp c_3)]; done) | (have f9 := (jb_0.mp c_3); simp [hz] at f9; done)), by show NWd D cL cO h0 q0 g A _ t.heap; rw [ht2]; exact hM⟩, hS.F ht2⟩) hS.2.2 md_N_compare_17
  · refine lv_iload_n hx hb md_N_compare_8 rfl (lv_at hl 1 rfl) ?_
    refine lv_iload_n hx hb md_N_compare_9 rfl (lv_at hl 3 rfl) ?_
    refine vp_callSi (W.runS (As := [.int p0, .int p2]) (rest := []) ⟨hx, hb, hml, hown, hts⟩ (mt_N_isNumber l p0 p2) (va_cwS 2 hts (gd_S tm_50 tm_51 tm_24 tm_52) rfl rfl rfl (by decide +kernel) ⟨Nat.le_of_ble_eq_true rfl, Nat.le_of_ble_eq_true rfl⟩) ⟨fb_0, fun U hU hW => ⟨rfl, trivial⟩⟩ rfl rfl hl.1 rfl (lv_room (Nat.le_of_ble_eq_true rfl)) md_N_compare_10 ⟨Nat.zero_le _, Nat.zero_le _⟩) (fun r_4 e_5 => ?_)
    obtain rfl : r_4 = jb (cn_num p0 p2) := e_5
    refine lv_if_ne (tgt := 18) hx hb md_N_compare_13 (by decide) (fun c_6 => ?_) (fun c_6 => ?_)
    · refine lv_aload_n hx hb md_N_compare_18 rfl (lv_at hl 0 rfl) ?_
      refine va_get (D := D) (ci := 0) (v := .ref q0) (C := "NumberProbe") (T := TN) (N := 1) hx hb ht inN hown hK hM.1 0 rfl rfl 0 (by decide) (ht _ tm_41) (fun _ h9 => h9) rfl md_N_compare_19 ?_
      refine lv_iload_n hx hb md_N_compare_22 rfl (lv_at hl 1 rfl) ?_
      refine n_ald hx hb hK hM (cn_i4 (jb_n0.mp c_6)) md_N_compare_23 ?_
      refine lv_iload_n hx hb md_N_compare_24 rfl (lv_at hl 2 rfl) ?_
      refine n_lald hx hb hK hM (vp_lt (cn_i4 (jb_n0.mp c_6))) (cn_i6 (jb_n0.mp c_3)) md_N_compare_25 ?_
      refine lv_lstore (lv' := [(4, .long (u p0.toNatClampNeg p1.toNatClampNeg)), (0, .ref h0), (1, .int p0), (2, .int p1), (3, .int p2)]) hx hb md_N_compare_26 hl (by decide) rfl (fun ls hl => ?_)
      refine lv_aload_n hx hb md_N_compare_28 rfl (lv_at hl 1 rfl) ?_
      refine va_get (D := D) (ci := 0) (v := .ref q0) (C := "NumberProbe") (T := TN) (N := 1) hx hb ht inN hown hK hM.1 0 rfl rfl 0 (by decide) (ht _ tm_41) (fun _ h9 => h9) rfl md_N_compare_29 ?_
      refine lv_iload_n hx hb md_N_compare_32 rfl (lv_at hl 2 rfl) ?_
      refine n_ald hx hb hK hM (cn_i4 (jb_n0.mp c_6)) md_N_compare_33 ?_
      refine lv_iload_n hx hb md_N_compare_34 rfl (lv_at hl 4 rfl) ?_
      refine n_lald hx hb hK hM (vp_lt (cn_i4 (jb_n0.mp c_6))) (cn_i6 (jb_n0.mp c_6)) md_N_compare_35 ?_
      refine lv_lstore (lv' := [(6, .long (u p0.toNatClampNeg p2.toNatClampNeg)), (4, .long (u p0.toNatClampNeg p1.toNatClampNeg)), (0, .ref h0), (1, .int p0), (2, .int p1), (3, .int p2)]) hx hb md_N_compare_36 hl (by decide) rfl (fun ls hl => ?_)
      refine lv_iload_n hx hb md_N_compare_38 rfl (lv_at hl 3 rfl) ?_
      refine vp_callSi (W.runS (As := [.int p0]) (rest := []) ⟨hx, hb, hml, hown, hts⟩ (mt_N_isFloating l p0) (va_cwS 1 hts (gd_S tm_53 tm_54 tm_24 tm_55) rfl rfl rfl (by decide +kernel) ⟨Nat.le_of_ble_eq_true rfl, Nat.le_of_ble_eq_true rfl⟩) ⟨fb_0, fun U hU hW => ⟨rfl, trivial⟩⟩ rfl rfl hl.1 rfl (lv_room (Nat.le_of_ble_eq_true rfl)) md_N_compare_39 ⟨Nat.zero_le _, Nat.zero_le _⟩) (fun r_7 e_8 => ?_)
      obtain rfl : r_7 = jb (cn_flt p0) := e_8
      refine lv_if_eq (tgt := 93) hx hb md_N_compare_42 (by decide) (fun c_9 => ?_) (fun c_9 => ?_)
      · refine lv_lload hx hb md_N_compare_93 (lv_at hl 1 rfl) ?_
        refine lv_lload hx hb md_N_compare_95 (lv_at hl 0 rfl) ?_
        refine W.lcmp hx hb md_N_compare_97 ?_
        refine lv_if_ne (tgt := 104) hx hb md_N_compare_98 (by decide) (fun c_10 => ?_) (fun c_10 => ?_)
        · refine lv_lload hx hb md_N_compare_104 (lv_at hl 1 rfl) ?_
          refine lv_lload hx hb md_N_compare_106 (lv_at hl 0 rfl) ?_
          refine W.lcmp hx hb md_N_compare_108 ?_
          refine lv_if_ge (tgt := 118) hx hb md_N_compare_109 (by decide) (fun c_11 => ?_) (fun c_11 => ?_)
          · refine lv_bipush (v := 108) hx hb md_N_compare_118 (by decide) ?_
            exact W.iret (v := 108) hx hb hr (fun t ht2 _ => ⟨⟨108, u, rfl, (by first | (simp [nz_cmp, (jb_n0.mp c_3), (jb_n0.mp c_6), (jb_0.mp c_9), (mt (lg_cmp_eq _ _).mpr c_10), ((lg_cmp_ge _ _).mp c_11)]; done) | (simp [nz_cmp, hz, (jb_n0.mp c_3), (jb_n0.mp c_6), (jb_0.mp c_9), (mt (lg_cmp_eq _ _).mpr c_10), ((lg_cmp_ge _ _).mp c_11)]; done) | (have f9 := (jb_n0.mp c_3); simp [hz] at f9; done) | (have f9 := (jb_n0.mp c_6); simp [hz] at f9; done) | (have f9 := (jb_0.mp c_9); simp [hz] at f9; done) | (have f9 := (mt (lg_cmp_eq _ _).mpr c_10); simp [hz] at f9; done) | (have f9 := ((lg_cmp_ge _ _).mp c_11); simp [hz] at f9; done)), by show NWd D cL cO h0 q0 g A _ t.heap; rw [ht2]; exact hM⟩, hS.F ht2⟩) hS.2.2 md_N_compare_120
          · refine lv_sipush (v := 163) hx hb md_N_compare_112 (by decide) ?_
            refine lv_goto (tgt := 120) hx hb md_N_compare_115 (by decide) ?_
            exact W.iret (v := 163) hx hb hr (fun t ht2 _ => ⟨⟨163, u, rfl, (by first | (simp [nz_cmp, (jb_n0.mp c_3), (jb_n0.mp c_6), (jb_0.mp c_9), (mt (lg_cmp_eq _ _).mpr c_10), (mt (lg_cmp_ge _ _).mpr c_11)]; done) | (simp [nz_cmp, hz, (jb_n0.mp c_3), (jb_n0.mp c_6), (jb_0.mp c_9), (mt (lg_cmp_eq _ _).mpr c_10), (mt (lg_cmp_ge _ _).mpr c_11)]; done) | (have f9 := (jb_n0.mp c_3); simp [hz] at f9; done) | (have f9 := (jb_n0.mp c_6); simp [hz] at f9; done) | (have f9 := (jb_0.mp c_9); simp [hz] at f9; done) | (have f9 := (mt (lg_cmp_eq _ _).mpr c_10); simp [hz] at f9; done) | (have f9 := (mt (lg_cmp_ge _ _).mpr c_11); simp [hz] at f9; done)), by show NWd D cL cO h0 q0 g A _ t.heap; rw [ht2]; exact hM⟩, hS.F ht2⟩) hS.2.2 md_N_compare_120
        · refine lv_bipush (v := 90) hx hb md_N_compare_101 (by decide) ?_
          exact W.iret (v := 90) hx hb hr (fun t ht2 _ => ⟨⟨90, u, rfl, (by first | (simp [nz_cmp, (jb_n0.mp c_3), (jb_n0.mp c_6), (jb_0.mp c_9), ((lg_cmp_eq _ _).mp c_10)]; done) | (simp [nz_cmp, hz, (jb_n0.mp c_3), (jb_n0.mp c_6), (jb_0.mp c_9), ((lg_cmp_eq _ _).mp c_10)]; done) | (have f9 := (jb_n0.mp c_3); simp [hz] at f9; done) | (have f9 := (jb_n0.mp c_6); simp [hz] at f9; done) | (have f9 := (jb_0.mp c_9); simp [hz] at f9; done) | (have f9 := ((lg_cmp_eq _ _).mp c_10); simp [hz] at f9; done)), by show NWd D cL cO h0 q0 g A _ t.heap; rw [ht2]; exact hM⟩, hS.F ht2⟩) hS.2.2 md_N_compare_103
      · refine lv_iload_n hx hb md_N_compare_45 rfl (lv_at hl 3 rfl) ?_
        refine va_csr (W.runS (As := [.int p0]) (rest := []) ⟨hx, hb, hml, hown, hts⟩ (mt_N_formatOf l ad p0) (va_cwS 1 hts (gd_S tm_56 tm_57 tm_24 tm_58) rfl rfl rfl (by decide +kernel) ⟨Nat.le_of_ble_eq_true rfl, Nat.le_of_ble_eq_true rfl⟩) ⟨fb_E, fun U hU hW => ⟨rfl, fw_use hE hS hU hW⟩⟩ rfl rfl hl.1 rfl (lv_room (Nat.le_of_ble_eq_true rfl)) md_N_compare_46 ⟨Nat.zero_le _, Nat.zero_le _⟩) (fun r_12 e_13 => ?_)
        have hr_12 : r_12 < 2 := e_13.1
        refine lv_astore (lv' := [(8, .ref (ad r_12)), (6, .long (u p0.toNatClampNeg p2.toNatClampNeg)), (4, .long (u p0.toNatClampNeg p1.toNatClampNeg)), (0, .ref h0), (1, .int p0), (2, .int p1), (3, .int p2)]) hx hb md_N_compare_49 hl (by decide) rfl (fun ls hl => ?_)
        refine lv_aload hx hb md_N_compare_51 (lv_at hl 0 rfl) ?_
        refine lv_lload hx hb md_N_compare_53 (lv_at hl 2 rfl) ?_
        refine vp_callSi (W.runV (C := "NumberProbe$Format") (As := [.long (u p0.toNatClampNeg p1.toNatClampNeg)]) (rest := []) ⟨hx, hb, hml, hown, hts⟩ (mt_F_isNaN l ad r_12 hr_12 (u p0.toNatClampNeg p1.toNatClampNeg)) (cwV 1 hts (gd_V tm_267 tm_68 tm_69 tm_27 tm_70) rfl rfl rfl (by decide +kernel) ⟨Nat.le_of_ble_eq_true rfl, Nat.le_of_ble_eq_true rfl⟩) ⟨fb_E, fw_recv hE hr_12 hS, fun U hU hW => ⟨rfl, fw_use hE hS hU hW⟩⟩ rfl rfl hl.1 rfl (lv_room (Nat.le_of_ble_eq_true rfl)) md_N_compare_55 ⟨Nat.zero_le _, Nat.zero_le _⟩) (fun r_14 e_15 => ?_)
        obtain rfl : r_14 = jb (cf_nan r_12 (u p0.toNatClampNeg p1.toNatClampNeg)) := e_15
        refine lv_if_ne (tgt := 71) hx hb md_N_compare_58 (by decide) (fun c_16 => ?_) (fun c_16 => ?_)
        · refine lv_sipush (v := 224) hx hb md_N_compare_71 (by decide) ?_
          exact W.iret (v := 224) hx hb hr (fun t ht2 _ => ⟨⟨224, u, rfl, (by first | (simp [nz_cmp, (jb_n0.mp c_3), (jb_n0.mp c_6), (jb_n0.mp c_9), (jb_n0.mp c_16)]; done) | (simp [nz_cmp, hz, z_nan hr_12, z_rbv hr_12, z_ris hr_12, (jb_n0.mp c_3), (jb_n0.mp c_6), (jb_n0.mp c_9), (jb_n0.mp c_16)]; done) | (have f9 := (jb_n0.mp c_3); simp [hz, z_nan hr_12, z_rbv hr_12, z_ris hr_12] at f9; done) | (have f9 := (jb_n0.mp c_6); simp [hz, z_nan hr_12, z_rbv hr_12, z_ris hr_12] at f9; done) | (have f9 := (jb_n0.mp c_9); simp [hz, z_nan hr_12, z_rbv hr_12, z_ris hr_12] at f9; done) | (have f9 := (jb_n0.mp c_16); simp [hz, z_nan hr_12, z_rbv hr_12, z_ris hr_12] at f9; done)), by show NWd D cL cO h0 q0 g A _ t.heap; rw [ht2]; exact hM⟩, hS.F ht2⟩) hS.2.2 md_N_compare_74
        · refine lv_aload hx hb md_N_compare_61 (lv_at hl 0 rfl) ?_
          refine lv_lload hx hb md_N_compare_63 (lv_at hl 1 rfl) ?_
          refine vp_callSi (W.runV (C := "NumberProbe$Format") (As := [.long (u p0.toNatClampNeg p2.toNatClampNeg)]) (rest := []) ⟨hx, hb, hml, hown, hts⟩ (mt_F_isNaN l ad r_12 hr_12 (u p0.toNatClampNeg p2.toNatClampNeg)) (cwV 1 hts (gd_V tm_267 tm_68 tm_69 tm_27 tm_70) rfl rfl rfl (by decide +kernel) ⟨Nat.le_of_ble_eq_true rfl, Nat.le_of_ble_eq_true rfl⟩) ⟨fb_E, fw_recv hE hr_12 hS, fun U hU hW => ⟨rfl, fw_use hE hS hU hW⟩⟩ rfl rfl hl.1 rfl (lv_room (Nat.le_of_ble_eq_true rfl)) md_N_compare_65 ⟨Nat.zero_le _, Nat.zero_le _⟩) (fun r_17 e_18 => ?_)
          obtain rfl : r_17 = jb (cf_nan r_12 (u p0.toNatClampNeg p2.toNatClampNeg)) := e_18
          refine lv_if_eq (tgt := 75) hx hb md_N_compare_68 (by decide) (fun c_19 => ?_) (fun c_19 => ?_)
          · refine lv_aload hx hb md_N_compare_75 (lv_at hl 0 rfl) ?_
            refine lv_lload hx hb md_N_compare_77 (lv_at hl 2 rfl) ?_
            refine vp_callSl (W.runV (C := "NumberProbe$Format") (As := [.long (u p0.toNatClampNeg p1.toNatClampNeg)]) (rest := []) ⟨hx, hb, hml, hown, hts⟩ (mt_F_rankByValue l ad r_12 hr_12 (u p0.toNatClampNeg p1.toNatClampNeg)) (cwV 1 hts (gd_V tm_268 tm_269 tm_270 tm_27 tm_271) rfl rfl rfl (by decide +kernel) ⟨Nat.le_of_ble_eq_true rfl, Nat.le_of_ble_eq_true rfl⟩) ⟨fb_E, fw_recv hE hr_12 hS, fun U hU hW => ⟨rfl, fw_use hE hS hU hW⟩⟩ rfl rfl hl.1 rfl (lv_room (Nat.le_of_ble_eq_true rfl)) md_N_compare_79 ⟨Nat.zero_le _, Nat.zero_le _⟩) (fun r_20 e_21 => ?_)
            obtain rfl : r_20 = cf_rbv r_12 (u p0.toNatClampNeg p1.toNatClampNeg) := e_21
            refine lv_lstore (lv' := [(4, .long (cf_rbv r_12 (u p0.toNatClampNeg p1.toNatClampNeg))), (8, .ref (ad r_12)), (6, .long (u p0.toNatClampNeg p2.toNatClampNeg)), (0, .ref h0), (1, .int p0), (2, .int p1), (3, .int p2)]) hx hb md_N_compare_82 hl (by decide) rfl (fun ls hl => ?_)
            refine lv_aload hx hb md_N_compare_84 (lv_at hl 1 rfl) ?_
            refine lv_lload hx hb md_N_compare_86 (lv_at hl 2 rfl) ?_
            refine vp_callSl (W.runV (C := "NumberProbe$Format") (As := [.long (u p0.toNatClampNeg p2.toNatClampNeg)]) (rest := []) ⟨hx, hb, hml, hown, hts⟩ (mt_F_rankByValue l ad r_12 hr_12 (u p0.toNatClampNeg p2.toNatClampNeg)) (cwV 1 hts (gd_V tm_268 tm_269 tm_270 tm_27 tm_271) rfl rfl rfl (by decide +kernel) ⟨Nat.le_of_ble_eq_true rfl, Nat.le_of_ble_eq_true rfl⟩) ⟨fb_E, fw_recv hE hr_12 hS, fun U hU hW => ⟨rfl, fw_use hE hS hU hW⟩⟩ rfl rfl hl.1 rfl (lv_room (Nat.le_of_ble_eq_true rfl)) md_N_compare_88 ⟨Nat.zero_le _, Nat.zero_le _⟩) (fun r_22 e_23 => ?_)
            obtain rfl : r_22 = cf_rbv r_12 (u p0.toNatClampNeg p2.toNatClampNeg) := e_23
            refine lv_lstore (lv' := [(6, .long (cf_rbv r_12 (u p0.toNatClampNeg p2.toNatClampNeg))), (4, .long (cf_rbv r_12 (u p0.toNatClampNeg p1.toNatClampNeg))), (8, .ref (ad r_12)), (0, .ref h0), (1, .int p0), (2, .int p1), (3, .int p2)]) hx hb md_N_compare_91 hl (by decide) rfl (fun ls hl => ?_)
            refine lv_lload hx hb md_N_compare_93 (lv_at hl 1 rfl) ?_
            refine lv_lload hx hb md_N_compare_95 (lv_at hl 0 rfl) ?_
            refine W.lcmp hx hb md_N_compare_97 ?_
            refine lv_if_ne (tgt := 104) hx hb md_N_compare_98 (by decide) (fun c_24 => ?_) (fun c_24 => ?_)
            · refine lv_lload hx hb md_N_compare_104 (lv_at hl 1 rfl) ?_
              refine lv_lload hx hb md_N_compare_106 (lv_at hl 0 rfl) ?_
              refine W.lcmp hx hb md_N_compare_108 ?_
              refine lv_if_ge (tgt := 118) hx hb md_N_compare_109 (by decide) (fun c_25 => ?_) (fun c_25 => ?_)
              · refine lv_bipush (v := 108) hx hb md_N_compare_118 (by decide) ?_
                exact W.iret (v := 108) hx hb hr (fun t ht2 _ => ⟨⟨108, u, rfl, (by first | (simp [nz_cmp, (jb_n0.mp c_3), (jb_n0.mp c_6), (jb_n0.mp c_9), (jb_0.mp c_16), (jb_0.mp c_19), (mt (lg_cmp_eq _ _).mpr c_24), ((lg_cmp_ge _ _).mp c_25)]; done) | (simp [nz_cmp, hz, z_nan hr_12, z_rbv hr_12, z_ris hr_12, (jb_n0.mp c_3), (jb_n0.mp c_6), (jb_n0.mp c_9), (jb_0.mp c_16), (jb_0.mp c_19), (mt (lg_cmp_eq _ _).mpr c_24), ((lg_cmp_ge _ _).mp c_25)]; done) | (have f9 := (jb_n0.mp c_3); simp [hz, z_nan hr_12, z_rbv hr_12, z_ris hr_12] at f9; done) | (have f9 := (jb_n0.mp c_6); simp [hz, z_nan hr_12, z_rbv hr_12, z_ris hr_12] at f9; done) | (have f9 := (jb_n0.mp c_9); simp [hz, z_nan hr_12, z_rbv hr_12, z_ris hr_12] at f9; done) | (have f9 := (jb_0.mp c_16); simp [hz, z_nan hr_12, z_rbv hr_12, z_ris hr_12] at f9; done) | (have f9 := (jb_0.mp c_19); simp [hz, z_nan hr_12, z_rbv hr_12, z_ris hr_12] at f9; done) | (have f9 := (mt (lg_cmp_eq _ _).mpr c_24); simp [hz, z_nan hr_12, z_rbv hr_12, z_ris hr_12] at f9; done) | (have f9 := ((lg_cmp_ge _ _).mp c_25); simp [hz, z_nan hr_12, z_rbv hr_12, z_ris hr_12] at f9; done)), by show NWd D cL cO h0 q0 g A _ t.heap; rw [ht2]; exact hM⟩, hS.F ht2⟩) hS.2.2 md_N_compare_120
              · refine lv_sipush (v := 163) hx hb md_N_compare_112 (by decide) ?_
                refine lv_goto (tgt := 120) hx hb md_N_compare_115 (by decide) ?_
                exact W.iret (v := 163) hx hb hr (fun t ht2 _ => ⟨⟨163, u, rfl, (by first | (simp [nz_cmp, (jb_n0.mp c_3), (jb_n0.mp c_6), (jb_n0.mp c_9), (jb_0.mp c_16), (jb_0.mp c_19), (mt (lg_cmp_eq _ _).mpr c_24), (mt (lg_cmp_ge _ _).mpr c_25)]; done) | (simp [nz_cmp, hz, z_nan hr_12, z_rbv hr_12, z_ris hr_12, (jb_n0.mp c_3), (jb_n0.mp c_6), (jb_n0.mp c_9), (jb_0.mp c_16), (jb_0.mp c_19), (mt (lg_cmp_eq _ _).mpr c_24), (mt (lg_cmp_ge _ _).mpr c_25)]; done) | (have f9 := (jb_n0.mp c_3); simp [hz, z_nan hr_12, z_rbv hr_12, z_ris hr_12] at f9; done) | (have f9 := (jb_n0.mp c_6); simp [hz, z_nan hr_12, z_rbv hr_12, z_ris hr_12] at f9; done) | (have f9 := (jb_n0.mp c_9); simp [hz, z_nan hr_12, z_rbv hr_12, z_ris hr_12] at f9; done) | (have f9 := (jb_0.mp c_16); simp [hz, z_nan hr_12, z_rbv hr_12, z_ris hr_12] at f9; done) | (have f9 := (jb_0.mp c_19); simp [hz, z_nan hr_12, z_rbv hr_12, z_ris hr_12] at f9; done) | (have f9 := (mt (lg_cmp_eq _ _).mpr c_24); simp [hz, z_nan hr_12, z_rbv hr_12, z_ris hr_12] at f9; done) | (have f9 := (mt (lg_cmp_ge _ _).mpr c_25); simp [hz, z_nan hr_12, z_rbv hr_12, z_ris hr_12] at f9; done)), by show NWd D cL cO h0 q0 g A _ t.heap; rw [ht2]; exact hM⟩, hS.F ht2⟩) hS.2.2 md_N_compare_120
            · refine lv_bipush (v := 90) hx hb md_N_compare_101 (by decide) ?_
              exact W.iret (v := 90) hx hb hr (fun t ht2 _ => ⟨⟨90, u, rfl, (by first | (simp [nz_cmp, (jb_n0.mp c_3), (jb_n0.mp c_6), (jb_n0.mp c_9), (jb_0.mp c_16), (jb_0.mp c_19), ((lg_cmp_eq _ _).mp c_24)]; done) | (simp [nz_cmp, hz, z_nan hr_12, z_rbv hr_12, z_ris hr_12, (jb_n0.mp c_3), (jb_n0.mp c_6), (jb_n0.mp c_9), (jb_0.mp c_16), (jb_0.mp c_19), ((lg_cmp_eq _ _).mp c_24)]; done) | (have f9 := (jb_n0.mp c_3); simp [hz, z_nan hr_12, z_rbv hr_12, z_ris hr_12] at f9; done) | (have f9 := (jb_n0.mp c_6); simp [hz, z_nan hr_12, z_rbv hr_12, z_ris hr_12] at f9; done) | (have f9 := (jb_n0.mp c_9); simp [hz, z_nan hr_12, z_rbv hr_12, z_ris hr_12] at f9; done) | (have f9 := (jb_0.mp c_16); simp [hz, z_nan hr_12, z_rbv hr_12, z_ris hr_12] at f9; done) | (have f9 := (jb_0.mp c_19); simp [hz, z_nan hr_12, z_rbv hr_12, z_ris hr_12] at f9; done) | (have f9 := ((lg_cmp_eq _ _).mp c_24); simp [hz, z_nan hr_12, z_rbv hr_12, z_ris hr_12] at f9; done)), by show NWd D cL cO h0 q0 g A _ t.heap; rw [ht2]; exact hM⟩, hS.F ht2⟩) hS.2.2 md_N_compare_103
          · refine lv_sipush (v := 224) hx hb md_N_compare_71 (by decide) ?_
            exact W.iret (v := 224) hx hb hr (fun t ht2 _ => ⟨⟨224, u, rfl, (by first | (simp [nz_cmp, (jb_n0.mp c_3), (jb_n0.mp c_6), (jb_n0.mp c_9), (jb_0.mp c_16), (jb_n0.mp c_19)]; done) | (simp [nz_cmp, hz, z_nan hr_12, z_rbv hr_12, z_ris hr_12, (jb_n0.mp c_3), (jb_n0.mp c_6), (jb_n0.mp c_9), (jb_0.mp c_16), (jb_n0.mp c_19)]; done) | (have f9 := (jb_n0.mp c_3); simp [hz, z_nan hr_12, z_rbv hr_12, z_ris hr_12] at f9; done) | (have f9 := (jb_n0.mp c_6); simp [hz, z_nan hr_12, z_rbv hr_12, z_ris hr_12] at f9; done) | (have f9 := (jb_n0.mp c_9); simp [hz, z_nan hr_12, z_rbv hr_12, z_ris hr_12] at f9; done) | (have f9 := (jb_0.mp c_16); simp [hz, z_nan hr_12, z_rbv hr_12, z_ris hr_12] at f9; done) | (have f9 := (jb_n0.mp c_19); simp [hz, z_nan hr_12, z_rbv hr_12, z_ris hr_12] at f9; done)), by show NWd D cL cO h0 q0 g A _ t.heap; rw [ht2]; exact hM⟩, hS.F ht2⟩) hS.2.2 md_N_compare_74
    · refine lv_iconst (v := (-1)) hx hb md_N_compare_16 (by decide) ?_
      exact W.iret (v := (-1)) hx hb hr (fun t ht2 _ => ⟨⟨(-1), u, rfl, (by first | (simp [nz_cmp, (jb_n0.mp c_3), (jb_0.mp c_6)]; done) | (simp [nz_cmp, hz, (jb_n0.mp c_3), (jb_0.mp c_6)]; done) | (have f9 := (jb_n0.mp c_3); simp [hz] at f9; done) | (have f9 := (jb_0.mp c_6); simp [hz] at f9; done)), by show NWd D cL cO h0 q0 g A _ t.heap; rw [ht2]; exact hM⟩, hS.F ht2⟩) hS.2.2 md_N_compare_17
set_option maxHeartbeats 4000000 in
set_option maxRecDepth 100000 in
theorem mz_N_order (l : Launch) (D : va_G) (cL cO : ClassId) (h0 q0 : Nat) (g ad tb : Nat → Nat) (sz : Nat) (u : Nat → Nat → Int64) (p0 : Int32) (p1 : Int32) (p2 : Int32) (hz : ∀ a b, u a b = 0) : Met l my_N_order mw_N_order ({ frames := 1, cells := 0, slots := 0, locals := 23 } : Room) (NPc D cL cO h0 q0 g ad tb sz u [.int p0, .int p1, .int p2]) (NQi D cL cO h0 q0 g (NA h0 q0 g cL cO u sz) (fun (r : Int32) (v : Nat → Nat → Int64) => r = nz_ord p0 p1 p2)) 0 0 (NA h0 q0 g cL cO u sz) := by
  refine Met.ofW (cc := mc_N_order) (maxL := 9) (ret := (some .int)) (by decide) rfl ?_
  intro p e s m args below meth c s₁ B hml hv
  obtain ⟨rfl, hsz, hP, hK, hD0, hE, hT⟩ := hv
  have hx := B.exec
  have hb := B.bytes
  have hr := B.returns
  have hts := atoms_spec (ws := mw_N_order) B.pre
  have ht : ∀ w ∈ gw_tbl, w.before _ s = true := fun w h => hts w (List.mem_cons_of_mem _ h)
  have hown : s.vm.findClass "NumberProbe" = some m.cls := findClass_of_methodNamed B.named
  have hlocks := B.notSynchronized
  subst hsz
  have hD : va_D (NA h0 q0 g cL cO u s.heap.size) (nWs h0 q0 g cL cO u) := hD0.self (sz := s.heap.size)
  generalize hAe : NA h0 q0 g cL cO u s.heap.size = A at hD hE hT ⊢
  have hA : ∀ q : Nat, s.heap.size ≤ q → A q := fun q h => by rw [← hAe]; exact Or.inr h
  have hS : va_S A s.heap s.heap [] := va_S.rf
  have hM : NWd D cL cO h0 q0 g A u s.heap := ⟨hP, hD⟩
  have hl := lv_entry ([.ref h0, .int p0, .int p1, .int p2]) (n := 9) (Nat.le_of_ble_eq_true rfl)
  rw [lg_entry_eq]
  generalize (lg_sl ([.ref h0, .int p0, .int p1, .int p2]) ++ List.replicate (9 - (lg_sl ([.ref h0, .int p0, .int p1, .int p2])).length) Slot.unset).toArray = ls at hl ⊢
  have hl : lv_has ls 9 [(0, .ref h0), (1, .int p0), (2, .int p1), (3, .int p2)] := hl
  refine lv_iload_n hx hb md_N_order_0 rfl (lv_at hl 1 rfl) ?_
  refine lv_iload_n hx hb md_N_order_1 rfl (lv_at hl 2 rfl) ?_
  refine vp_callSi (W.runS (As := [.int p0, .int p1]) (rest := []) ⟨hx, hb, hml, hown, hts⟩ (mt_N_isNumber l p0 p1) (va_cwS 2 hts (gd_S tm_50 tm_51 tm_24 tm_52) rfl rfl rfl (by decide +kernel) ⟨Nat.le_of_ble_eq_true rfl, Nat.le_of_ble_eq_true rfl⟩) ⟨fb_0, fun U hU hW => ⟨rfl, trivial⟩⟩ rfl rfl hl.1 rfl (lv_room (Nat.le_of_ble_eq_true rfl)) md_N_order_2 ⟨Nat.zero_le _, Nat.zero_le _⟩) (fun r_1 e_2 => ?_)
  obtain rfl : r_1 = jb (cn_num p0 p1) := e_2
  refine lv_if_eq (tgt := 16) hx hb md_N_order_5 (by decide) (fun c_3 => ?_) (fun c_3 => ?_)
  · refine lv_iconst (v := (-1)) hx hb md_N_order_16 (by decide) ?_
    exact W.iret (v := (-1)) hx hb hr (fun t ht2 _ => ⟨⟨(-1), u, rfl, (by simp [nz_ord, jd_cmp, hz, (jb_0.mp c_3)]), by show NWd D cL cO h0 q0 g A _ t.heap; rw [ht2]; exact hM⟩, hS.F ht2⟩) hS.2.2 md_N_order_17
  · refine lv_iload_n hx hb md_N_order_8 rfl (lv_at hl 1 rfl) ?_
    refine lv_iload_n hx hb md_N_order_9 rfl (lv_at hl 3 rfl) ?_
    refine vp_callSi (W.runS (As := [.int p0, .int p2]) (rest := []) ⟨hx, hb, hml, hown, hts⟩ (mt_N_isNumber l p0 p2) (va_cwS 2 hts (gd_S tm_50 tm_51 tm_24 tm_52) rfl rfl rfl (by decide +kernel) ⟨Nat.le_of_ble_eq_true rfl, Nat.le_of_ble_eq_true rfl⟩) ⟨fb_0, fun U hU hW => ⟨rfl, trivial⟩⟩ rfl rfl hl.1 rfl (lv_room (Nat.le_of_ble_eq_true rfl)) md_N_order_10 ⟨Nat.zero_le _, Nat.zero_le _⟩) (fun r_4 e_5 => ?_)
    obtain rfl : r_4 = jb (cn_num p0 p2) := e_5
    refine lv_if_ne (tgt := 18) hx hb md_N_order_13 (by decide) (fun c_6 => ?_) (fun c_6 => ?_)
    · refine lv_aload_n hx hb md_N_order_18 rfl (lv_at hl 0 rfl) ?_
      refine va_get (D := D) (ci := 0) (v := .ref q0) (C := "NumberProbe") (T := TN) (N := 1) hx hb ht inN hown hK hM.1 0 rfl rfl 0 (by decide) (ht _ tm_41) (fun _ h9 => h9) rfl md_N_order_19 ?_
      refine lv_iload_n hx hb md_N_order_22 rfl (lv_at hl 1 rfl) ?_
      refine n_ald hx hb hK hM (cn_i4 (jb_n0.mp c_6)) md_N_order_23 ?_
      refine lv_iload_n hx hb md_N_order_24 rfl (lv_at hl 2 rfl) ?_
      refine n_lald hx hb hK hM (vp_lt (cn_i4 (jb_n0.mp c_6))) (cn_i6 (jb_n0.mp c_3)) md_N_order_25 ?_
      refine lv_lstore (lv' := [(4, .long (u p0.toNatClampNeg p1.toNatClampNeg)), (0, .ref h0), (1, .int p0), (2, .int p1), (3, .int p2)]) hx hb md_N_order_26 hl (by decide) rfl (fun ls hl => ?_)
      refine lv_aload_n hx hb md_N_order_28 rfl (lv_at hl 1 rfl) ?_
      refine va_get (D := D) (ci := 0) (v := .ref q0) (C := "NumberProbe") (T := TN) (N := 1) hx hb ht inN hown hK hM.1 0 rfl rfl 0 (by decide) (ht _ tm_41) (fun _ h9 => h9) rfl md_N_order_29 ?_
      refine lv_iload_n hx hb md_N_order_32 rfl (lv_at hl 2 rfl) ?_
      refine n_ald hx hb hK hM (cn_i4 (jb_n0.mp c_6)) md_N_order_33 ?_
      refine lv_iload_n hx hb md_N_order_34 rfl (lv_at hl 4 rfl) ?_
      refine n_lald hx hb hK hM (vp_lt (cn_i4 (jb_n0.mp c_6))) (cn_i6 (jb_n0.mp c_6)) md_N_order_35 ?_
      refine lv_lstore (lv' := [(6, .long (u p0.toNatClampNeg p2.toNatClampNeg)), (4, .long (u p0.toNatClampNeg p1.toNatClampNeg)), (0, .ref h0), (1, .int p0), (2, .int p1), (3, .int p2)]) hx hb md_N_order_36 hl (by decide) rfl (fun ls hl => ?_)
      refine lv_iload_n hx hb md_N_order_38 rfl (lv_at hl 3 rfl) ?_
      refine vp_callSi (W.runS (As := [.int p0]) (rest := []) ⟨hx, hb, hml, hown, hts⟩ (mt_N_isFloating l p0) (va_cwS 1 hts (gd_S tm_53 tm_54 tm_24 tm_55) rfl rfl rfl (by decide +kernel) ⟨Nat.le_of_ble_eq_true rfl, Nat.le_of_ble_eq_true rfl⟩) ⟨fb_0, fun U hU hW => ⟨rfl, trivial⟩⟩ rfl rfl hl.1 rfl (lv_room (Nat.le_of_ble_eq_true rfl)) md_N_order_39 ⟨Nat.zero_le _, Nat.zero_le _⟩) (fun r_7 e_8 => ?_)
      obtain rfl : r_7 = jb (cn_flt p0) := e_8
      refine lv_if_eq (tgt := 69) hx hb md_N_order_42 (by decide) (fun c_9 => ?_) (fun c_9 => ?_)
      · refine lv_lload hx hb md_N_order_69 (lv_at hl 1 rfl) ?_
        refine lv_lload hx hb md_N_order_71 (lv_at hl 0 rfl) ?_
        refine vp_callSi (W.runS (As := [.long (u p0.toNatClampNeg p1.toNatClampNeg), .long (u p0.toNatClampNeg p2.toNatClampNeg)]) (rest := []) ⟨hx, hb, hml, hown, hts⟩ (mz_JL_compare l (u p0.toNatClampNeg p1.toNatClampNeg) (u p0.toNatClampNeg p2.toNatClampNeg)) (va_cwS 2 hts (gd_S tm_277 tm_278 tm_29 tm_279) rfl rfl rfl (by decide +kernel) ⟨Nat.le_of_ble_eq_true rfl, Nat.le_of_ble_eq_true rfl⟩) ⟨fb_0, fun U hU hW => ⟨rfl, trivial⟩⟩ rfl rfl hl.1 rfl (lv_room (Nat.le_of_ble_eq_true rfl)) md_N_order_73 ⟨Nat.zero_le _, Nat.zero_le _⟩) (fun r_10 e_11 => ?_)
        obtain rfl : r_10 = jd_cmp (u p0.toNatClampNeg p1.toNatClampNeg) (u p0.toNatClampNeg p2.toNatClampNeg) := e_11
        exact W.iret (v := jd_cmp (u p0.toNatClampNeg p1.toNatClampNeg) (u p0.toNatClampNeg p2.toNatClampNeg)) hx hb hr (fun t ht2 _ => ⟨⟨jd_cmp (u p0.toNatClampNeg p1.toNatClampNeg) (u p0.toNatClampNeg p2.toNatClampNeg), u, rfl, (by simp [nz_ord, jd_cmp, hz, (jb_n0.mp c_3), (jb_n0.mp c_6), (jb_0.mp c_9)]), by show NWd D cL cO h0 q0 g A _ t.heap; rw [ht2]; exact hM⟩, hS.F ht2⟩) hS.2.2 md_N_order_76
      · refine lv_iload_n hx hb md_N_order_45 rfl (lv_at hl 3 rfl) ?_
        refine va_csr (W.runS (As := [.int p0]) (rest := []) ⟨hx, hb, hml, hown, hts⟩ (mt_N_formatOf l ad p0) (va_cwS 1 hts (gd_S tm_56 tm_57 tm_24 tm_58) rfl rfl rfl (by decide +kernel) ⟨Nat.le_of_ble_eq_true rfl, Nat.le_of_ble_eq_true rfl⟩) ⟨fb_E, fun U hU hW => ⟨rfl, fw_use hE hS hU hW⟩⟩ rfl rfl hl.1 rfl (lv_room (Nat.le_of_ble_eq_true rfl)) md_N_order_46 ⟨Nat.zero_le _, Nat.zero_le _⟩) (fun r_12 e_13 => ?_)
        have hr_12 : r_12 < 2 := e_13.1
        refine lv_astore (lv' := [(8, .ref (ad r_12)), (6, .long (u p0.toNatClampNeg p2.toNatClampNeg)), (4, .long (u p0.toNatClampNeg p1.toNatClampNeg)), (0, .ref h0), (1, .int p0), (2, .int p1), (3, .int p2)]) hx hb md_N_order_49 hl (by decide) rfl (fun ls hl => ?_)
        refine lv_aload hx hb md_N_order_51 (lv_at hl 0 rfl) ?_
        refine lv_lload hx hb md_N_order_53 (lv_at hl 2 rfl) ?_
        refine vp_callSl (W.runV (C := "NumberProbe$Format") (As := [.long (u p0.toNatClampNeg p1.toNatClampNeg)]) (rest := []) ⟨hx, hb, hml, hown, hts⟩ (mt_F_rankInSorting l ad r_12 hr_12 (u p0.toNatClampNeg p1.toNatClampNeg)) (cwV 1 hts (gd_V tm_276 tm_209 tm_210 tm_27 tm_211) rfl rfl rfl (by decide +kernel) ⟨Nat.le_of_ble_eq_true rfl, Nat.le_of_ble_eq_true rfl⟩) ⟨fb_E, fw_recv hE hr_12 hS, fun U hU hW => ⟨rfl, fw_use hE hS hU hW⟩⟩ rfl rfl hl.1 rfl (lv_room (Nat.le_of_ble_eq_true rfl)) md_N_order_55 ⟨Nat.zero_le _, Nat.zero_le _⟩) (fun r_14 e_15 => ?_)
        obtain rfl : r_14 = cf_ris r_12 (u p0.toNatClampNeg p1.toNatClampNeg) := e_15
        refine lv_lstore (lv' := [(4, .long (cf_ris r_12 (u p0.toNatClampNeg p1.toNatClampNeg))), (8, .ref (ad r_12)), (6, .long (u p0.toNatClampNeg p2.toNatClampNeg)), (0, .ref h0), (1, .int p0), (2, .int p1), (3, .int p2)]) hx hb md_N_order_58 hl (by decide) rfl (fun ls hl => ?_)
        refine lv_aload hx hb md_N_order_60 (lv_at hl 1 rfl) ?_
        refine lv_lload hx hb md_N_order_62 (lv_at hl 2 rfl) ?_
        refine vp_callSl (W.runV (C := "NumberProbe$Format") (As := [.long (u p0.toNatClampNeg p2.toNatClampNeg)]) (rest := []) ⟨hx, hb, hml, hown, hts⟩ (mt_F_rankInSorting l ad r_12 hr_12 (u p0.toNatClampNeg p2.toNatClampNeg)) (cwV 1 hts (gd_V tm_276 tm_209 tm_210 tm_27 tm_211) rfl rfl rfl (by decide +kernel) ⟨Nat.le_of_ble_eq_true rfl, Nat.le_of_ble_eq_true rfl⟩) ⟨fb_E, fw_recv hE hr_12 hS, fun U hU hW => ⟨rfl, fw_use hE hS hU hW⟩⟩ rfl rfl hl.1 rfl (lv_room (Nat.le_of_ble_eq_true rfl)) md_N_order_64 ⟨Nat.zero_le _, Nat.zero_le _⟩) (fun r_16 e_17 => ?_)
        obtain rfl : r_16 = cf_ris r_12 (u p0.toNatClampNeg p2.toNatClampNeg) := e_17
        refine lv_lstore (lv' := [(6, .long (cf_ris r_12 (u p0.toNatClampNeg p2.toNatClampNeg))), (4, .long (cf_ris r_12 (u p0.toNatClampNeg p1.toNatClampNeg))), (8, .ref (ad r_12)), (0, .ref h0), (1, .int p0), (2, .int p1), (3, .int p2)]) hx hb md_N_order_67 hl (by decide) rfl (fun ls hl => ?_)
        refine lv_lload hx hb md_N_order_69 (lv_at hl 1 rfl) ?_
        refine lv_lload hx hb md_N_order_71 (lv_at hl 0 rfl) ?_
        refine vp_callSi (W.runS (As := [.long (cf_ris r_12 (u p0.toNatClampNeg p1.toNatClampNeg)), .long (cf_ris r_12 (u p0.toNatClampNeg p2.toNatClampNeg))]) (rest := []) ⟨hx, hb, hml, hown, hts⟩ (mz_JL_compare l (cf_ris r_12 (u p0.toNatClampNeg p1.toNatClampNeg)) (cf_ris r_12 (u p0.toNatClampNeg p2.toNatClampNeg))) (va_cwS 2 hts (gd_S tm_277 tm_278 tm_29 tm_279) rfl rfl rfl (by decide +kernel) ⟨Nat.le_of_ble_eq_true rfl, Nat.le_of_ble_eq_true rfl⟩) ⟨fb_0, fun U hU hW => ⟨rfl, trivial⟩⟩ rfl rfl hl.1 rfl (lv_room (Nat.le_of_ble_eq_true rfl)) md_N_order_73 ⟨Nat.zero_le _, Nat.zero_le _⟩) (fun r_18 e_19 => ?_)
        obtain rfl : r_18 = jd_cmp (cf_ris r_12 (u p0.toNatClampNeg p1.toNatClampNeg)) (cf_ris r_12 (u p0.toNatClampNeg p2.toNatClampNeg)) := e_19
        exact W.iret (v := jd_cmp (cf_ris r_12 (u p0.toNatClampNeg p1.toNatClampNeg)) (cf_ris r_12 (u p0.toNatClampNeg p2.toNatClampNeg))) hx hb hr (fun t ht2 _ => ⟨⟨jd_cmp (cf_ris r_12 (u p0.toNatClampNeg p1.toNatClampNeg)) (cf_ris r_12 (u p0.toNatClampNeg p2.toNatClampNeg)), u, rfl, (by simp [nz_ord, jd_cmp, hz, (jb_n0.mp c_3), (jb_n0.mp c_6), (jb_n0.mp c_9), z_ris hr_12]), by show NWd D cL cO h0 q0 g A _ t.heap; rw [ht2]; exact hM⟩, hS.F ht2⟩) hS.2.2 md_N_order_76
    · refine lv_iconst (v := (-1)) hx hb md_N_order_16 (by decide) ?_
      exact W.iret (v := (-1)) hx hb hr (fun t ht2 _ => ⟨⟨(-1), u, rfl, (by simp [nz_ord, jd_cmp, hz, (jb_n0.mp c_3), (jb_0.mp c_6)]), by show NWd D cL cO h0 q0 g A _ t.heap; rw [ht2]; exact hM⟩, hS.F ht2⟩) hS.2.2 md_N_order_17
set_option maxHeartbeats 4000000 in
set_option maxRecDepth 100000 in
theorem mz_N_sort (l : Launch) (D : va_G) (cL cO : ClassId) (h0 q0 : Nat) (g ad tb : Nat → Nat) (sz : Nat) (u : Nat → Nat → Int64) (p0 : Int32) (p1 : Int32) (hz : ∀ a b, u a b = 0) : Met l my_N_sort mw_N_sort ({ frames := 4, cells := 0, slots := 0, locals := 91 } : Room) (NPc D cL cO h0 q0 g ad tb sz u [.int p0, .int p1]) (NQi D cL cO h0 q0 g (NA h0 q0 g cL cO u sz) (fun (r : Int32) (v : Nat → Nat → Int64) => r = nz_srt p0 p1)) 0 0 (NA h0 q0 g cL cO u sz) := by
  refine Met.ofW (cc := mc_N_sort) (maxL := 3) (ret := (some .int)) (by decide) rfl ?_
  intro p e s m args below meth c s₁ B hml hv
  obtain ⟨rfl, hsz, hP, hK, hD0, hE, hT⟩ := hv
  have hx := B.exec
  have hb := B.bytes
  have hr := B.returns
  have hts := atoms_spec (ws := mw_N_sort) B.pre
  have ht : ∀ w ∈ gw_tbl, w.before _ s = true := fun w h => hts w (List.mem_cons_of_mem _ h)
  have hown : s.vm.findClass "NumberProbe" = some m.cls := findClass_of_methodNamed B.named
  have hlocks := B.notSynchronized
  subst hsz
  have hD : va_D (NA h0 q0 g cL cO u s.heap.size) (nWs h0 q0 g cL cO u) := hD0.self (sz := s.heap.size)
  generalize hAe : NA h0 q0 g cL cO u s.heap.size = A at hD hE hT ⊢
  have hA : ∀ q : Nat, s.heap.size ≤ q → A q := fun q h => by rw [← hAe]; exact Or.inr h
  have hS : va_S A s.heap s.heap [] := va_S.rf
  have hM : NWd D cL cO h0 q0 g A u s.heap := ⟨hP, hD⟩
  have hl := lv_entry ([.ref h0, .int p0, .int p1]) (n := 3) (Nat.le_of_ble_eq_true rfl)
  rw [lg_entry_eq]
  generalize (lg_sl ([.ref h0, .int p0, .int p1]) ++ List.replicate (3 - (lg_sl ([.ref h0, .int p0, .int p1])).length) Slot.unset).toArray = ls at hl ⊢
  have hl : lv_has ls 3 [(0, .ref h0), (1, .int p0), (2, .int p1)] := hl
  refine lv_iload_n hx hb md_N_sort_0 rfl (lv_at hl 1 rfl) ?_
  refine lv_iload_n hx hb md_N_sort_1 rfl (lv_at hl 2 rfl) ?_
  refine vp_callSi (W.runS (As := [.int p0, .int p1]) (rest := []) ⟨hx, hb, hml, hown, hts⟩ (mt_N_isNumber l p0 p1) (va_cwS 2 hts (gd_S tm_50 tm_51 tm_24 tm_52) rfl rfl rfl (by decide +kernel) ⟨Nat.le_of_ble_eq_true rfl, Nat.le_of_ble_eq_true rfl⟩) ⟨fb_0, fun U hU hW => ⟨rfl, trivial⟩⟩ rfl rfl hl.1 rfl (lv_room (Nat.le_of_ble_eq_true rfl)) md_N_sort_2 ⟨Nat.zero_le _, Nat.zero_le _⟩) (fun r_1 e_2 => ?_)
  obtain rfl : r_1 = jb (cn_num p0 p1) := e_2
  refine lv_if_ne (tgt := 10) hx hb md_N_sort_5 (by decide) (fun c_3 => ?_) (fun c_3 => ?_)
  · refine lv_iload_n hx hb md_N_sort_10 rfl (lv_at hl 1 rfl) ?_
    refine vp_callSi (W.runS (As := [.int p0]) (rest := []) ⟨hx, hb, hml, hown, hts⟩ (mt_N_isFloating l p0) (va_cwS 1 hts (gd_S tm_53 tm_54 tm_24 tm_55) rfl rfl rfl (by decide +kernel) ⟨Nat.le_of_ble_eq_true rfl, Nat.le_of_ble_eq_true rfl⟩) ⟨fb_0, fun U hU hW => ⟨rfl, trivial⟩⟩ rfl rfl hl.1 rfl (lv_room (Nat.le_of_ble_eq_true rfl)) md_N_sort_11 ⟨Nat.zero_le _, Nat.zero_le _⟩) (fun r_4 e_5 => ?_)
    obtain rfl : r_4 = jb (cn_flt p0) := e_5
    refine lv_if_eq (tgt := 35) hx hb md_N_sort_14 (by decide) (fun c_6 => ?_) (fun c_6 => ?_)
    · refine lv_iconst (v := 0) hx hb md_N_sort_35 (by decide) ?_
      exact W.iret (v := 0) hx hb hr (fun t ht2 _ => ⟨⟨0, u, rfl, (by simp [nz_srt, (jb_n0.mp c_3), (jb_0.mp c_6)]), by show NWd D cL cO h0 q0 g A _ t.heap; rw [ht2]; exact hM⟩, hS.F ht2⟩) hS.2.2 md_N_sort_36
    · refine lv_iload_n hx hb md_N_sort_17 rfl (lv_at hl 1 rfl) ?_
      refine va_csr (W.runS (As := [.int p0]) (rest := []) ⟨hx, hb, hml, hown, hts⟩ (mt_N_formatOf l ad p0) (va_cwS 1 hts (gd_S tm_56 tm_57 tm_24 tm_58) rfl rfl rfl (by decide +kernel) ⟨Nat.le_of_ble_eq_true rfl, Nat.le_of_ble_eq_true rfl⟩) ⟨fb_E, fun U hU hW => ⟨rfl, fw_use hE hS hU hW⟩⟩ rfl rfl hl.1 rfl (lv_room (Nat.le_of_ble_eq_true rfl)) md_N_sort_18 ⟨Nat.zero_le _, Nat.zero_le _⟩) (fun r_7 e_8 => ?_)
      have hr_7 : r_7 < 2 := e_8.1
      refine lv_aload_n hx hb md_N_sort_21 rfl (lv_at hl 0 rfl) ?_
      refine va_get (D := D) (ci := 0) (v := .ref q0) (C := "NumberProbe") (T := TN) (N := 1) hx hb ht inN hown hK hM.1 0 rfl rfl 0 (by decide) (ht _ tm_41) (fun _ h9 => h9) rfl md_N_sort_22 ?_
      refine lv_iload_n hx hb md_N_sort_25 rfl (lv_at hl 1 rfl) ?_
      refine n_ald hx hb hK hM (cn_i4 (jb_n0.mp c_3)) md_N_sort_26 ?_
      refine lv_iload_n hx hb md_N_sort_27 rfl (lv_at hl 2 rfl) ?_
      refine n_lald hx hb hK hM (vp_lt (cn_i4 (jb_n0.mp c_3))) (cn_i6 (jb_n0.mp c_3)) md_N_sort_28 ?_
      refine vp_callSi (W.runV (C := "NumberProbe$Format") (As := [.long (u p0.toNatClampNeg p1.toNatClampNeg)]) (rest := []) ⟨hx, hb, hml, hown, hts⟩ (mz_F_traits l ad r_7 hr_7 (u p0.toNatClampNeg p1.toNatClampNeg)) (cwV 1 hts (gd_V tm_284 tm_285 tm_286 tm_27 tm_287) rfl rfl rfl (by decide +kernel) ⟨Nat.le_of_ble_eq_true rfl, Nat.le_of_ble_eq_true rfl⟩) ⟨fb_E, fw_recv hE hr_7 hS, fun U hU hW => ⟨rfl, fw_use hE hS hU hW⟩⟩ rfl rfl hl.1 rfl (lv_room (Nat.le_of_ble_eq_true rfl)) md_N_sort_29 ⟨Nat.zero_le _, Nat.zero_le _⟩) (fun r_9 e_10 => ?_)
      refine lv_goto (tgt := 36) hx hb md_N_sort_32 (by decide) ?_
      exact W.iret (v := r_9) hx hb hr (fun t ht2 _ => ⟨⟨r_9, u, rfl, (by simp [nz_srt, (jb_n0.mp c_3), (jb_n0.mp c_6), e_10 (hz _ _)]), by show NWd D cL cO h0 q0 g A _ t.heap; rw [ht2]; exact hM⟩, hS.F ht2⟩) hS.2.2 md_N_sort_36
  · refine lv_iconst (v := (-1)) hx hb md_N_sort_8 (by decide) ?_
    exact W.iret (v := (-1)) hx hb hr (fun t ht2 _ => ⟨⟨(-1), u, rfl, (by simp [nz_srt, (jb_0.mp c_3)]), by show NWd D cL cO h0 q0 g A _ t.heap; rw [ht2]; exact hM⟩, hS.F ht2⟩) hS.2.2 md_N_sort_9
