set_option maxHeartbeats 4000000 in
set_option maxRecDepth 100000 in
theorem mt_M_put (l : Launch) (D : va_G) (cL : ClassId) (h0 q0 sz : Nat) (u : MT) (p0 : Int32) (p1 : Int32) (p2 : Int64) : Met l my_M_put mw_M_put ({ frames := 4, cells := 0, slots := 0, locals := 88 } : Room) (MPc D cL h0 q0 sz u [.int p0, .int p1, .long p2]) (MQi D cL h0 q0 (MA h0 q0 cL u sz) (fun (r : Int32) (v : MT) => r = mq_put p0 p1)) 0 0 (MA h0 q0 cL u sz) := by
  refine Met.ofW (cc := mc_M_put) (maxL := 5) (ret := (some .int)) (by decide) rfl ?_
  intro p e s m args below meth c s₁ B hml hv
  obtain ⟨rfl, hsz, hP, hK, hD0⟩ := hv
  have hx := B.exec
  have hb := B.bytes
  have hr := B.returns
  have hts := atoms_spec (ws := mw_M_put) B.pre
  have ht : ∀ w ∈ gw_tbl, w.before _ s = true := fun w h => hts w (List.mem_cons_of_mem _ h)
  have hown : s.vm.findClass "NumberProbeModel" = some m.cls := findClass_of_methodNamed B.named
  have hlocks := B.notSynchronized
  subst hsz
  have hD : va_D (MA h0 q0 cL u s.heap.size) (mWs h0 q0 cL u) := hD0.self (sz := s.heap.size)
  generalize hAe : MA h0 q0 cL u s.heap.size = A at hD ⊢
  have hA : ∀ q : Nat, s.heap.size ≤ q → A q := fun q h => by rw [← hAe]; exact Or.inr h
  have hS : va_S A s.heap s.heap [] := va_S.rf
  have hM : MWd D cL h0 q0 A u s.heap := ⟨hP, hD⟩
  have hl := lv_entry ([.ref h0, .int p0, .int p1, .long p2]) (n := 5) (Nat.le_of_ble_eq_true rfl)
  rw [lg_entry_eq]
  generalize (lg_sl ([.ref h0, .int p0, .int p1, .long p2]) ++ List.replicate (5 - (lg_sl ([.ref h0, .int p0, .int p1, .long p2])).length) Slot.unset).toArray = ls at hl ⊢
  have hl : lv_has ls 5 [(0, .ref h0), (1, .int p0), (2, .int p1), (3, .long p2)] := hl
  refine lv_iload_n hx hb md_M_put_0 rfl (lv_at hl 1 rfl) ?_
  refine lv_iconst (v := 4) hx hb md_M_put_1 (by decide) ?_
  refine vp_callSi (W.runS (As := [.int p0, .int 4]) (rest := []) ⟨hx, hb, hml, hown, hts⟩ (mt_M_in l p0 4) (va_cwS 2 hts (gd_S tm_359 tm_360 tm_25 tm_361) rfl rfl rfl (by decide +kernel) ⟨Nat.le_of_ble_eq_true rfl, Nat.le_of_ble_eq_true rfl⟩) ⟨fb_0, fun U hU hW => ⟨rfl, trivial⟩⟩ rfl rfl hl.1 rfl (lv_room (Nat.le_of_ble_eq_true rfl)) md_M_put_2 ⟨Nat.zero_le _, Nat.zero_le _⟩) (fun r_1 e_2 => ?_)
  obtain rfl : r_1 = jb (rn_in p0 4) := e_2
  refine lv_if_eq (tgt := 17) hx hb md_M_put_5 (by decide) (fun c_3 => ?_) (fun c_3 => ?_)
  · refine lv_iconst (v := (-1)) hx hb md_M_put_17 (by decide) ?_
    exact W.iret (v := (-1)) hx hb hr (fun t ht2 _ => ⟨⟨(-1), u, rfl, (by simp [mq_put, (jb_0.mp c_3)] <;> decide), by show MWd D cL h0 q0 A _ t.heap; rw [ht2]; exact hM⟩, hS.F ht2⟩) hS.2.2 md_M_put_18
  · refine lv_iload_n hx hb md_M_put_8 rfl (lv_at hl 2 rfl) ?_
    refine lv_bipush (v := 6) hx hb md_M_put_9 (by decide) ?_
    refine vp_callSi (W.runS (As := [.int p1, .int 6]) (rest := []) ⟨hx, hb, hml, hown, hts⟩ (mt_M_in l p1 6) (va_cwS 2 hts (gd_S tm_359 tm_360 tm_25 tm_361) rfl rfl rfl (by decide +kernel) ⟨Nat.le_of_ble_eq_true rfl, Nat.le_of_ble_eq_true rfl⟩) ⟨fb_0, fun U hU hW => ⟨rfl, trivial⟩⟩ rfl rfl hl.1 rfl (lv_room (Nat.le_of_ble_eq_true rfl)) md_M_put_11 ⟨Nat.zero_le _, Nat.zero_le _⟩) (fun r_4 e_5 => ?_)
    obtain rfl : r_4 = jb (rn_in p1 6) := e_5
    refine lv_if_ne (tgt := 19) hx hb md_M_put_14 (by decide) (fun c_6 => ?_) (fun c_6 => ?_)
    · refine lv_aload_n hx hb md_M_put_19 rfl (lv_at hl 0 rfl) ?_
      refine va_get (D := D) (ci := 1) (v := .ref q0) (C := "NumberProbeModel") (T := TM) (N := 12) hx hb ht inM hown hK hM.1 0 rfl rfl 0 (by decide) (ht _ tm_318) (fun _ h9 => h9) rfl md_M_put_20 ?_
      refine lv_iload_n hx hb md_M_put_23 rfl (lv_at hl 1 rfl) ?_
      refine lv_bipush (v := 6) hx hb md_M_put_24 (by decide) ?_
      refine lv_imul hx hb md_M_put_26 ?_
      refine lv_iload_n hx hb md_M_put_27 rfl (lv_at hl 2 rfl) ?_
      refine lv_iadd hx hb md_M_put_28 ?_
      refine lv_iload_n hx hb md_M_put_29 rfl (lv_at hl 1 rfl) ?_
      refine lv_lload_n hx hb md_M_put_30 rfl (lv_at hl 3 rfl) ?_
      refine vp_callSl (W.runS (As := [.int p0, .long p2]) (rest := [.int ((p0 * 6) + p1), .ref q0]) ⟨hx, hb, hml, hown, hts⟩ (mt_M_normal l p0 p2) (va_cwS 2 hts (gd_S tm_362 tm_363 tm_25 tm_364) rfl rfl rfl (by decide +kernel) ⟨Nat.le_of_ble_eq_true rfl, Nat.le_of_ble_eq_true rfl⟩) ⟨fb_0, fun U hU hW => ⟨rfl, trivial⟩⟩ rfl rfl hl.1 rfl (lv_room (Nat.le_of_ble_eq_true rfl)) md_M_put_31 ⟨Nat.zero_le _, Nat.zero_le _⟩) (fun r_7 e_8 => ?_)
      refine m_ast hx hb hK hM hS (rn_idx (jb_n0.mp c_3) (jb_n0.mp c_6)) md_M_put_34 (fun u_9 H_10 L_11 hM hS => ?_)
      refine lv_iconst (v := 0) hx hb md_M_put_35 (by decide) ?_
      exact W.iret (v := 0) hx hb hr (fun t ht2 _ => ⟨⟨0, u_9, rfl, (by simp [mq_put, (jb_n0.mp c_3), (jb_n0.mp c_6)] <;> decide), by show MWd D cL h0 q0 A _ t.heap; rw [ht2]; exact hM⟩, hS.F ht2⟩) hS.2.2 md_M_put_36
    · refine lv_iconst (v := (-1)) hx hb md_M_put_17 (by decide) ?_
      exact W.iret (v := (-1)) hx hb hr (fun t ht2 _ => ⟨⟨(-1), u, rfl, (by simp [mq_put, (jb_n0.mp c_3), (jb_0.mp c_6)] <;> decide), by show MWd D cL h0 q0 A _ t.heap; rw [ht2]; exact hM⟩, hS.F ht2⟩) hS.2.2 md_M_put_18
set_option maxHeartbeats 4000000 in
set_option maxRecDepth 100000 in
theorem mt_M_boundary (l : Launch) (D : va_G) (cL : ClassId) (h0 q0 sz : Nat) (u : MT) (p0 : Int32) (p1 : Int32) (p2 : Int32) : Met l my_M_boundary mw_M_boundary ({ frames := 5, cells := 0, slots := 0, locals := 120 } : Room) (MPc D cL h0 q0 sz u [.int p0, .int p1, .int p2]) (MQi D cL h0 q0 (MA h0 q0 cL u sz) (fun (r : Int32) (v : MT) => r = mq_bou p0 p1 p2)) 0 0 (MA h0 q0 cL u sz) := by
  refine Met.ofW (cc := mc_M_boundary) (maxL := 4) (ret := (some .int)) (by decide) rfl ?_
  intro p e s m args below meth c s₁ B hml hv
  obtain ⟨rfl, hsz, hP, hK, hD0⟩ := hv
  have hx := B.exec
  have hb := B.bytes
  have hr := B.returns
  have hts := atoms_spec (ws := mw_M_boundary) B.pre
  have ht : ∀ w ∈ gw_tbl, w.before _ s = true := fun w h => hts w (List.mem_cons_of_mem _ h)
  have hown : s.vm.findClass "NumberProbeModel" = some m.cls := findClass_of_methodNamed B.named
  have hlocks := B.notSynchronized
  subst hsz
  have hD : va_D (MA h0 q0 cL u s.heap.size) (mWs h0 q0 cL u) := hD0.self (sz := s.heap.size)
  generalize hAe : MA h0 q0 cL u s.heap.size = A at hD ⊢
  have hA : ∀ q : Nat, s.heap.size ≤ q → A q := fun q h => by rw [← hAe]; exact Or.inr h
  have hS : va_S A s.heap s.heap [] := va_S.rf
  have hM : MWd D cL h0 q0 A u s.heap := ⟨hP, hD⟩
  have hl := lv_entry ([.ref h0, .int p0, .int p1, .int p2]) (n := 4) (Nat.le_of_ble_eq_true rfl)
  rw [lg_entry_eq]
  generalize (lg_sl ([.ref h0, .int p0, .int p1, .int p2]) ++ List.replicate (4 - (lg_sl ([.ref h0, .int p0, .int p1, .int p2])).length) Slot.unset).toArray = ls at hl ⊢
  have hl : lv_has ls 4 [(0, .ref h0), (1, .int p0), (2, .int p1), (3, .int p2)] := hl
  refine lv_iload_n hx hb md_M_boundary_0 rfl (lv_at hl 1 rfl) ?_
  refine lv_iconst (v := 4) hx hb md_M_boundary_1 (by decide) ?_
  refine vp_callSi (W.runS (As := [.int p0, .int 4]) (rest := []) ⟨hx, hb, hml, hown, hts⟩ (mt_M_in l p0 4) (va_cwS 2 hts (gd_S tm_359 tm_360 tm_25 tm_361) rfl rfl rfl (by decide +kernel) ⟨Nat.le_of_ble_eq_true rfl, Nat.le_of_ble_eq_true rfl⟩) ⟨fb_0, fun U hU hW => ⟨rfl, trivial⟩⟩ rfl rfl hl.1 rfl (lv_room (Nat.le_of_ble_eq_true rfl)) md_M_boundary_2 ⟨Nat.zero_le _, Nat.zero_le _⟩) (fun r_1 e_2 => ?_)
  obtain rfl : r_1 = jb (rn_in p0 4) := e_2
  refine lv_if_eq (tgt := 36) hx hb md_M_boundary_5 (by decide) (fun c_3 => ?_) (fun c_3 => ?_)
  · refine lv_iconst (v := (-1)) hx hb md_M_boundary_36 (by decide) ?_
    exact W.iret (v := (-1)) hx hb hr (fun t ht2 _ => ⟨⟨(-1), u, rfl, (by simp [mq_bou, (jb_0.mp c_3)] <;> decide), by show MWd D cL h0 q0 A _ t.heap; rw [ht2]; exact hM⟩, hS.F ht2⟩) hS.2.2 md_M_boundary_37
  · refine lv_iload_n hx hb md_M_boundary_8 rfl (lv_at hl 2 rfl) ?_
    refine lv_bipush (v := 6) hx hb md_M_boundary_9 (by decide) ?_
    refine vp_callSi (W.runS (As := [.int p1, .int 6]) (rest := []) ⟨hx, hb, hml, hown, hts⟩ (mt_M_in l p1 6) (va_cwS 2 hts (gd_S tm_359 tm_360 tm_25 tm_361) rfl rfl rfl (by decide +kernel) ⟨Nat.le_of_ble_eq_true rfl, Nat.le_of_ble_eq_true rfl⟩) ⟨fb_0, fun U hU hW => ⟨rfl, trivial⟩⟩ rfl rfl hl.1 rfl (lv_room (Nat.le_of_ble_eq_true rfl)) md_M_boundary_11 ⟨Nat.zero_le _, Nat.zero_le _⟩) (fun r_4 e_5 => ?_)
    obtain rfl : r_4 = jb (rn_in p1 6) := e_5
    refine lv_if_eq (tgt := 36) hx hb md_M_boundary_14 (by decide) (fun c_6 => ?_) (fun c_6 => ?_)
    · refine lv_iconst (v := (-1)) hx hb md_M_boundary_36 (by decide) ?_
      exact W.iret (v := (-1)) hx hb hr (fun t ht2 _ => ⟨⟨(-1), u, rfl, (by simp [mq_bou, (jb_n0.mp c_3), (jb_0.mp c_6)] <;> decide), by show MWd D cL h0 q0 A _ t.heap; rw [ht2]; exact hM⟩, hS.F ht2⟩) hS.2.2 md_M_boundary_37
    · refine lv_iload_n hx hb md_M_boundary_17 rfl (lv_at hl 3 rfl) ?_
      refine lv_iload_n hx hb md_M_boundary_18 rfl (lv_at hl 1 rfl) ?_
      refine lv_iconst (v := 2) hx hb md_M_boundary_19 (by decide) ?_
      refine lv_icmp_ne (tgt := 28) hx hb md_M_boundary_20 (by decide) (fun c_7 => ?_) (fun c_7 => ?_)
      · refine lv_bipush (v := 21) hx hb md_M_boundary_28 (by decide) ?_
        refine vp_callSi (W.runS (As := [.int p2, .int 21]) (rest := []) ⟨hx, hb, hml, hown, hts⟩ (mt_M_in l p2 21) (va_cwS 2 hts (gd_S tm_359 tm_360 tm_25 tm_361) rfl rfl rfl (by decide +kernel) ⟨Nat.le_of_ble_eq_true rfl, Nat.le_of_ble_eq_true rfl⟩) ⟨fb_0, fun U hU hW => ⟨rfl, trivial⟩⟩ rfl rfl hl.1 rfl (lv_room (Nat.le_of_ble_eq_true rfl)) md_M_boundary_30 ⟨Nat.zero_le _, Nat.zero_le _⟩) (fun r_8 e_9 => ?_)
        obtain rfl : r_8 = jb (rn_in p2 21) := e_9
        refine lv_if_ne (tgt := 38) hx hb md_M_boundary_33 (by decide) (fun c_10 => ?_) (fun c_10 => ?_)
        · refine lv_aload_n hx hb md_M_boundary_38 rfl (lv_at hl 0 rfl) ?_
          refine va_get (D := D) (ci := 1) (v := .ref q0) (C := "NumberProbeModel") (T := TM) (N := 12) hx hb ht inM hown hK hM.1 0 rfl rfl 0 (by decide) (ht _ tm_318) (fun _ h9 => h9) rfl md_M_boundary_39 ?_
          refine lv_iload_n hx hb md_M_boundary_42 rfl (lv_at hl 1 rfl) ?_
          refine lv_bipush (v := 6) hx hb md_M_boundary_43 (by decide) ?_
          refine lv_imul hx hb md_M_boundary_45 ?_
          refine lv_iload_n hx hb md_M_boundary_46 rfl (lv_at hl 2 rfl) ?_
          refine lv_iadd hx hb md_M_boundary_47 ?_
          refine lv_iload_n hx hb md_M_boundary_48 rfl (lv_at hl 1 rfl) ?_
          refine lv_iconst (v := 2) hx hb md_M_boundary_49 (by decide) ?_
          refine lv_icmp_ge (tgt := 61) hx hb md_M_boundary_50 (by decide) (fun c_11 => ?_) (fun c_11 => ?_)
          · refine lv_iload_n hx hb md_M_boundary_61 rfl (lv_at hl 1 rfl) ?_
            refine lv_iload_n hx hb md_M_boundary_62 rfl (lv_at hl 3 rfl) ?_
            refine vp_callSl (W.runS (As := [.int p0, .int p2]) (rest := [.int ((p0 * 6) + p1), .ref q0]) ⟨hx, hb, hml, hown, hts⟩ (mt_M_wholeBoundary l p0 p2) (va_cwS 2 hts (gd_S tm_418 tm_419 tm_25 tm_420) rfl rfl rfl (by decide +kernel) ⟨Nat.le_of_ble_eq_true rfl, Nat.le_of_ble_eq_true rfl⟩) ⟨fb_0, fun U hU hW => ⟨rfl, trivial⟩⟩ rfl rfl hl.1 rfl (lv_room (Nat.le_of_ble_eq_true rfl)) md_M_boundary_63 ⟨Nat.zero_le _, Nat.zero_le _⟩) (fun r_12 e_13 => ?_)
            refine m_ast hx hb hK hM hS (rn_idx (jb_n0.mp c_3) (jb_n0.mp c_6)) md_M_boundary_66 (fun u_14 H_15 L_16 hM hS => ?_)
            refine lv_iconst (v := 0) hx hb md_M_boundary_67 (by decide) ?_
            exact W.iret (v := 0) hx hb hr (fun t ht2 _ => ⟨⟨0, u_14, rfl, (by simp [mq_bou, (jb_n0.mp c_3), (jb_n0.mp c_6), c_7, (jb_n0.mp c_10), c_11] <;> decide), by show MWd D cL h0 q0 A _ t.heap; rw [ht2]; exact hM⟩, hS.F ht2⟩) hS.2.2 md_M_boundary_68
          · refine lv_iload_n hx hb md_M_boundary_53 rfl (lv_at hl 1 rfl) ?_
            refine lv_iload_n hx hb md_M_boundary_54 rfl (lv_at hl 3 rfl) ?_
            refine vp_callSl (W.runS (As := [.int p0, .int p2]) (rest := [.int ((p0 * 6) + p1), .ref q0]) ⟨hx, hb, hml, hown, hts⟩ (mt_M_realBoundary l p0 p2) (va_cwS 2 hts (gd_S tm_391 tm_392 tm_25 tm_393) rfl rfl rfl (by decide +kernel) ⟨Nat.le_of_ble_eq_true rfl, Nat.le_of_ble_eq_true rfl⟩) ⟨fb_0, fun U hU hW => ⟨rfl, trivial⟩⟩ rfl rfl hl.1 rfl (lv_room (Nat.le_of_ble_eq_true rfl)) md_M_boundary_55 ⟨Nat.zero_le _, Nat.zero_le _⟩) (fun r_17 e_18 => ?_)
            refine lv_goto (tgt := 66) hx hb md_M_boundary_58 (by decide) ?_
            refine m_ast hx hb hK hM hS (rn_idx (jb_n0.mp c_3) (jb_n0.mp c_6)) md_M_boundary_66 (fun u_19 H_20 L_21 hM hS => ?_)
            refine lv_iconst (v := 0) hx hb md_M_boundary_67 (by decide) ?_
            exact W.iret (v := 0) hx hb hr (fun t ht2 _ => ⟨⟨0, u_19, rfl, (by simp [mq_bou, (jb_n0.mp c_3), (jb_n0.mp c_6), c_7, (jb_n0.mp c_10), (c_11)] <;> decide), by show MWd D cL h0 q0 A _ t.heap; rw [ht2]; exact hM⟩, hS.F ht2⟩) hS.2.2 md_M_boundary_68
        · refine lv_iconst (v := (-1)) hx hb md_M_boundary_36 (by decide) ?_
          exact W.iret (v := (-1)) hx hb hr (fun t ht2 _ => ⟨⟨(-1), u, rfl, (by simp [mq_bou, (jb_n0.mp c_3), (jb_n0.mp c_6), c_7, (jb_0.mp c_10)] <;> decide), by show MWd D cL h0 q0 A _ t.heap; rw [ht2]; exact hM⟩, hS.F ht2⟩) hS.2.2 md_M_boundary_37
      · refine lv_bipush (v := 15) hx hb md_M_boundary_23 (by decide) ?_
        refine lv_goto (tgt := 30) hx hb md_M_boundary_25 (by decide) ?_
        refine vp_callSi (W.runS (As := [.int p2, .int 15]) (rest := []) ⟨hx, hb, hml, hown, hts⟩ (mt_M_in l p2 15) (va_cwS 2 hts (gd_S tm_359 tm_360 tm_25 tm_361) rfl rfl rfl (by decide +kernel) ⟨Nat.le_of_ble_eq_true rfl, Nat.le_of_ble_eq_true rfl⟩) ⟨fb_0, fun U hU hW => ⟨rfl, trivial⟩⟩ rfl rfl hl.1 rfl (lv_room (Nat.le_of_ble_eq_true rfl)) md_M_boundary_30 ⟨Nat.zero_le _, Nat.zero_le _⟩) (fun r_22 e_23 => ?_)
        obtain rfl : r_22 = jb (rn_in p2 15) := e_23
        refine lv_if_ne (tgt := 38) hx hb md_M_boundary_33 (by decide) (fun c_24 => ?_) (fun c_24 => ?_)
        · refine lv_aload_n hx hb md_M_boundary_38 rfl (lv_at hl 0 rfl) ?_
          refine va_get (D := D) (ci := 1) (v := .ref q0) (C := "NumberProbeModel") (T := TM) (N := 12) hx hb ht inM hown hK hM.1 0 rfl rfl 0 (by decide) (ht _ tm_318) (fun _ h9 => h9) rfl md_M_boundary_39 ?_
          refine lv_iload_n hx hb md_M_boundary_42 rfl (lv_at hl 1 rfl) ?_
          refine lv_bipush (v := 6) hx hb md_M_boundary_43 (by decide) ?_
          refine lv_imul hx hb md_M_boundary_45 ?_
          refine lv_iload_n hx hb md_M_boundary_46 rfl (lv_at hl 2 rfl) ?_
          refine lv_iadd hx hb md_M_boundary_47 ?_
          refine lv_iload_n hx hb md_M_boundary_48 rfl (lv_at hl 1 rfl) ?_
          refine lv_iconst (v := 2) hx hb md_M_boundary_49 (by decide) ?_
          refine lv_icmp_ge (tgt := 61) hx hb md_M_boundary_50 (by decide) (fun c_25 => ?_) (fun c_25 => ?_)
          · refine lv_iload_n hx hb md_M_boundary_61 rfl (lv_at hl 1 rfl) ?_
            refine lv_iload_n hx hb md_M_boundary_62 rfl (lv_at hl 3 rfl) ?_
            refine vp_callSl (W.runS (As := [.int p0, .int p2]) (rest := [.int ((p0 * 6) + p1), .ref q0]) ⟨hx, hb, hml, hown, hts⟩ (mt_M_wholeBoundary l p0 p2) (va_cwS 2 hts (gd_S tm_418 tm_419 tm_25 tm_420) rfl rfl rfl (by decide +kernel) ⟨Nat.le_of_ble_eq_true rfl, Nat.le_of_ble_eq_true rfl⟩) ⟨fb_0, fun U hU hW => ⟨rfl, trivial⟩⟩ rfl rfl hl.1 rfl (lv_room (Nat.le_of_ble_eq_true rfl)) md_M_boundary_63 ⟨Nat.zero_le _, Nat.zero_le _⟩) (fun r_26 e_27 => ?_)
            refine m_ast hx hb hK hM hS (rn_idx (jb_n0.mp c_3) (jb_n0.mp c_6)) md_M_boundary_66 (fun u_28 H_29 L_30 hM hS => ?_)
            refine lv_iconst (v := 0) hx hb md_M_boundary_67 (by decide) ?_
            exact W.iret (v := 0) hx hb hr (fun t ht2 _ => ⟨⟨0, u_28, rfl, (by simp [mq_bou, (jb_n0.mp c_3), (jb_n0.mp c_6), (c_7), (jb_n0.mp c_24), c_25] <;> decide), by show MWd D cL h0 q0 A _ t.heap; rw [ht2]; exact hM⟩, hS.F ht2⟩) hS.2.2 md_M_boundary_68
          · refine lv_iload_n hx hb md_M_boundary_53 rfl (lv_at hl 1 rfl) ?_
            refine lv_iload_n hx hb md_M_boundary_54 rfl (lv_at hl 3 rfl) ?_
            refine vp_callSl (W.runS (As := [.int p0, .int p2]) (rest := [.int ((p0 * 6) + p1), .ref q0]) ⟨hx, hb, hml, hown, hts⟩ (mt_M_realBoundary l p0 p2) (va_cwS 2 hts (gd_S tm_391 tm_392 tm_25 tm_393) rfl rfl rfl (by decide +kernel) ⟨Nat.le_of_ble_eq_true rfl, Nat.le_of_ble_eq_true rfl⟩) ⟨fb_0, fun U hU hW => ⟨rfl, trivial⟩⟩ rfl rfl hl.1 rfl (lv_room (Nat.le_of_ble_eq_true rfl)) md_M_boundary_55 ⟨Nat.zero_le _, Nat.zero_le _⟩) (fun r_31 e_32 => ?_)
            refine lv_goto (tgt := 66) hx hb md_M_boundary_58 (by decide) ?_
            refine m_ast hx hb hK hM hS (rn_idx (jb_n0.mp c_3) (jb_n0.mp c_6)) md_M_boundary_66 (fun u_33 H_34 L_35 hM hS => ?_)
            refine lv_iconst (v := 0) hx hb md_M_boundary_67 (by decide) ?_
            exact W.iret (v := 0) hx hb hr (fun t ht2 _ => ⟨⟨0, u_33, rfl, (by simp [mq_bou, (jb_n0.mp c_3), (jb_n0.mp c_6), (c_7), (jb_n0.mp c_24), (c_25)] <;> decide), by show MWd D cL h0 q0 A _ t.heap; rw [ht2]; exact hM⟩, hS.F ht2⟩) hS.2.2 md_M_boundary_68
        · refine lv_iconst (v := (-1)) hx hb md_M_boundary_36 (by decide) ?_
          exact W.iret (v := (-1)) hx hb hr (fun t ht2 _ => ⟨⟨(-1), u, rfl, (by simp [mq_bou, (jb_n0.mp c_3), (jb_n0.mp c_6), (c_7), (jb_0.mp c_24)] <;> decide), by show MWd D cL h0 q0 A _ t.heap; rw [ht2]; exact hM⟩, hS.F ht2⟩) hS.2.2 md_M_boundary_37
set_option maxHeartbeats 4000000 in
set_option maxRecDepth 100000 in
theorem mt_M_convert (l : Launch) (D : va_G) (cL : ClassId) (h0 q0 sz : Nat) (u : MT) (p0 : Int32) (p1 : Int32) (p2 : Int32) (p3 : Int32) : Met l my_M_convert mw_M_convert ({ frames := 6, cells := 0, slots := 0, locals := 140 } : Room) (MPc D cL h0 q0 sz u [.int p0, .int p1, .int p2, .int p3]) (MQi D cL h0 q0 (MA h0 q0 cL u sz) (fun (r : Int32) (v : MT) => r = mq_cnv p0 p1 p2 p3)) 0 0 (MA h0 q0 cL u sz) := by
  refine Met.ofW (cc := mc_M_convert) (maxL := 5) (ret := (some .int)) (by decide) rfl ?_
  intro p e s m args below meth c s₁ B hml hv
  obtain ⟨rfl, hsz, hP, hK, hD0⟩ := hv
  have hx := B.exec
  have hb := B.bytes
  have hr := B.returns
  have hts := atoms_spec (ws := mw_M_convert) B.pre
  have ht : ∀ w ∈ gw_tbl, w.before _ s = true := fun w h => hts w (List.mem_cons_of_mem _ h)
  have hown : s.vm.findClass "NumberProbeModel" = some m.cls := findClass_of_methodNamed B.named
  have hlocks := B.notSynchronized
  subst hsz
  have hD : va_D (MA h0 q0 cL u s.heap.size) (mWs h0 q0 cL u) := hD0.self (sz := s.heap.size)
  generalize hAe : MA h0 q0 cL u s.heap.size = A at hD ⊢
  have hA : ∀ q : Nat, s.heap.size ≤ q → A q := fun q h => by rw [← hAe]; exact Or.inr h
  have hS : va_S A s.heap s.heap [] := va_S.rf
  have hM : MWd D cL h0 q0 A u s.heap := ⟨hP, hD⟩
  have hl := lv_entry ([.ref h0, .int p0, .int p1, .int p2, .int p3]) (n := 5) (Nat.le_of_ble_eq_true rfl)
  rw [lg_entry_eq]
  generalize (lg_sl ([.ref h0, .int p0, .int p1, .int p2, .int p3]) ++ List.replicate (5 - (lg_sl ([.ref h0, .int p0, .int p1, .int p2, .int p3])).length) Slot.unset).toArray = ls at hl ⊢
  have hl : lv_has ls 5 [(0, .ref h0), (1, .int p0), (2, .int p1), (3, .int p2), (4, .int p3)] := hl
  refine lv_iload_n hx hb md_M_convert_0 rfl (lv_at hl 1 rfl) ?_
  refine lv_iconst (v := 4) hx hb md_M_convert_1 (by decide) ?_
  refine vp_callSi (W.runS (As := [.int p0, .int 4]) (rest := []) ⟨hx, hb, hml, hown, hts⟩ (mt_M_in l p0 4) (va_cwS 2 hts (gd_S tm_359 tm_360 tm_25 tm_361) rfl rfl rfl (by decide +kernel) ⟨Nat.le_of_ble_eq_true rfl, Nat.le_of_ble_eq_true rfl⟩) ⟨fb_0, fun U hU hW => ⟨rfl, trivial⟩⟩ rfl rfl hl.1 rfl (lv_room (Nat.le_of_ble_eq_true rfl)) md_M_convert_2 ⟨Nat.zero_le _, Nat.zero_le _⟩) (fun r_1 e_2 => ?_)
  obtain rfl : r_1 = jb (rn_in p0 4) := e_2
  refine lv_if_eq (tgt := 35) hx hb md_M_convert_5 (by decide) (fun c_3 => ?_) (fun c_3 => ?_)
  · refine lv_iconst (v := (-1)) hx hb md_M_convert_35 (by decide) ?_
    exact W.iret (v := (-1)) hx hb hr (fun t ht2 _ => ⟨⟨(-1), u, rfl, (by simp [mq_cnv, (jb_0.mp c_3)] <;> decide), by show MWd D cL h0 q0 A _ t.heap; rw [ht2]; exact hM⟩, hS.F ht2⟩) hS.2.2 md_M_convert_36
  · refine lv_iload_n hx hb md_M_convert_8 rfl (lv_at hl 2 rfl) ?_
    refine lv_bipush (v := 6) hx hb md_M_convert_9 (by decide) ?_
    refine vp_callSi (W.runS (As := [.int p1, .int 6]) (rest := []) ⟨hx, hb, hml, hown, hts⟩ (mt_M_in l p1 6) (va_cwS 2 hts (gd_S tm_359 tm_360 tm_25 tm_361) rfl rfl rfl (by decide +kernel) ⟨Nat.le_of_ble_eq_true rfl, Nat.le_of_ble_eq_true rfl⟩) ⟨fb_0, fun U hU hW => ⟨rfl, trivial⟩⟩ rfl rfl hl.1 rfl (lv_room (Nat.le_of_ble_eq_true rfl)) md_M_convert_11 ⟨Nat.zero_le _, Nat.zero_le _⟩) (fun r_4 e_5 => ?_)
    obtain rfl : r_4 = jb (rn_in p1 6) := e_5
    refine lv_if_eq (tgt := 35) hx hb md_M_convert_14 (by decide) (fun c_6 => ?_) (fun c_6 => ?_)
    · refine lv_iconst (v := (-1)) hx hb md_M_convert_35 (by decide) ?_
      exact W.iret (v := (-1)) hx hb hr (fun t ht2 _ => ⟨⟨(-1), u, rfl, (by simp [mq_cnv, (jb_n0.mp c_3), (jb_0.mp c_6)] <;> decide), by show MWd D cL h0 q0 A _ t.heap; rw [ht2]; exact hM⟩, hS.F ht2⟩) hS.2.2 md_M_convert_36
    · refine lv_iload_n hx hb md_M_convert_17 rfl (lv_at hl 3 rfl) ?_
      refine lv_iconst (v := 4) hx hb md_M_convert_18 (by decide) ?_
      refine vp_callSi (W.runS (As := [.int p2, .int 4]) (rest := []) ⟨hx, hb, hml, hown, hts⟩ (mt_M_in l p2 4) (va_cwS 2 hts (gd_S tm_359 tm_360 tm_25 tm_361) rfl rfl rfl (by decide +kernel) ⟨Nat.le_of_ble_eq_true rfl, Nat.le_of_ble_eq_true rfl⟩) ⟨fb_0, fun U hU hW => ⟨rfl, trivial⟩⟩ rfl rfl hl.1 rfl (lv_room (Nat.le_of_ble_eq_true rfl)) md_M_convert_19 ⟨Nat.zero_le _, Nat.zero_le _⟩) (fun r_7 e_8 => ?_)
      obtain rfl : r_7 = jb (rn_in p2 4) := e_8
      refine lv_if_eq (tgt := 35) hx hb md_M_convert_22 (by decide) (fun c_9 => ?_) (fun c_9 => ?_)
      · refine lv_iconst (v := (-1)) hx hb md_M_convert_35 (by decide) ?_
        exact W.iret (v := (-1)) hx hb hr (fun t ht2 _ => ⟨⟨(-1), u, rfl, (by simp [mq_cnv, (jb_n0.mp c_3), (jb_n0.mp c_6), (jb_0.mp c_9)] <;> decide), by show MWd D cL h0 q0 A _ t.heap; rw [ht2]; exact hM⟩, hS.F ht2⟩) hS.2.2 md_M_convert_36
      · refine lv_iload hx hb md_M_convert_25 (lv_at hl 4 rfl) ?_
        refine lv_bipush (v := 6) hx hb md_M_convert_27 (by decide) ?_
        refine vp_callSi (W.runS (As := [.int p3, .int 6]) (rest := []) ⟨hx, hb, hml, hown, hts⟩ (mt_M_in l p3 6) (va_cwS 2 hts (gd_S tm_359 tm_360 tm_25 tm_361) rfl rfl rfl (by decide +kernel) ⟨Nat.le_of_ble_eq_true rfl, Nat.le_of_ble_eq_true rfl⟩) ⟨fb_0, fun U hU hW => ⟨rfl, trivial⟩⟩ rfl rfl hl.1 rfl (lv_room (Nat.le_of_ble_eq_true rfl)) md_M_convert_29 ⟨Nat.zero_le _, Nat.zero_le _⟩) (fun r_10 e_11 => ?_)
        obtain rfl : r_10 = jb (rn_in p3 6) := e_11
        refine lv_if_ne (tgt := 37) hx hb md_M_convert_32 (by decide) (fun c_12 => ?_) (fun c_12 => ?_)
        · refine lv_aload_n hx hb md_M_convert_37 rfl (lv_at hl 0 rfl) ?_
          refine va_get (D := D) (ci := 1) (v := .ref q0) (C := "NumberProbeModel") (T := TM) (N := 12) hx hb ht inM hown hK hM.1 0 rfl rfl 0 (by decide) (ht _ tm_318) (fun _ h9 => h9) rfl md_M_convert_38 ?_
          refine lv_iload_n hx hb md_M_convert_41 rfl (lv_at hl 3 rfl) ?_
          refine lv_bipush (v := 6) hx hb md_M_convert_42 (by decide) ?_
          refine lv_imul hx hb md_M_convert_44 ?_
          refine lv_iload hx hb md_M_convert_45 (lv_at hl 4 rfl) ?_
          refine lv_iadd hx hb md_M_convert_47 ?_
          refine lv_aload_n hx hb md_M_convert_48 rfl (lv_at hl 0 rfl) ?_
          refine lv_iload_n hx hb md_M_convert_49 rfl (lv_at hl 1 rfl) ?_
          refine lv_aload_n hx hb md_M_convert_50 rfl (lv_at hl 0 rfl) ?_
          refine va_get (D := D) (ci := 1) (v := .ref q0) (C := "NumberProbeModel") (T := TM) (N := 12) hx hb ht inM hown hK hM.1 0 rfl rfl 0 (by decide) (ht _ tm_318) (fun _ h9 => h9) rfl md_M_convert_51 ?_
          refine lv_iload_n hx hb md_M_convert_54 rfl (lv_at hl 1 rfl) ?_
          refine lv_bipush (v := 6) hx hb md_M_convert_55 (by decide) ?_
          refine lv_imul hx hb md_M_convert_57 ?_
          refine lv_iload_n hx hb md_M_convert_58 rfl (lv_at hl 2 rfl) ?_
          refine lv_iadd hx hb md_M_convert_59 ?_
          refine va_lald (D := D) hx hb hK hM.1 1 0 rfl rfl (rn_idx (jb_n0.mp c_3) (jb_n0.mp c_6)) md_M_convert_60 ?_
          refine lv_iload_n hx hb md_M_convert_61 rfl (lv_at hl 3 rfl) ?_
          refine m_calll (va_runV (C := "NumberProbeModel") (As := [.int p0, .long (u.2 ((p0 * 6) + p1).toNatClampNeg), .int p2]) (rest := [.int ((p2 * 6) + p3), .ref q0]) ⟨hx, hb, hml, hown, hts⟩ (mt_M_converted l D cL h0 q0 _ u p0 (u.2 ((p0 * 6) + p1).toNatClampNeg) p2) (cwV 3 hts (gd_V tm_504 tm_506 tm_20 tm_25 tm_507) rfl rfl rfl (by decide +kernel) ⟨Nat.le_of_ble_eq_true rfl, Nat.le_of_ble_eq_true rfl⟩) (m_in (locs := []) hK hM) rfl rfl hl.1 rfl (lv_room (Nat.le_of_ble_eq_true rfl)) md_M_convert_62 ⟨Nat.zero_le _, Nat.zero_le _⟩) hM hS hA (fun r_13 u_15 H_16 L_17 e_14 hM hS => ?_)
          refine m_ast hx hb hK hM hS (rn_idx (jb_n0.mp c_9) (jb_n0.mp c_12)) md_M_convert_65 (fun u_18 H_19 L_20 hM hS => ?_)
          refine lv_iconst (v := 0) hx hb md_M_convert_66 (by decide) ?_
          exact W.iret (v := 0) hx hb hr (fun t ht2 _ => ⟨⟨0, u_18, rfl, (by simp [mq_cnv, (jb_n0.mp c_3), (jb_n0.mp c_6), (jb_n0.mp c_9), (jb_n0.mp c_12)] <;> decide), by show MWd D cL h0 q0 A _ t.heap; rw [ht2]; exact hM⟩, hS.F ht2⟩) hS.2.2 md_M_convert_67
        · refine lv_iconst (v := (-1)) hx hb md_M_convert_35 (by decide) ?_
          exact W.iret (v := (-1)) hx hb hr (fun t ht2 _ => ⟨⟨(-1), u, rfl, (by simp [mq_cnv, (jb_n0.mp c_3), (jb_n0.mp c_6), (jb_n0.mp c_9), (jb_0.mp c_12)] <;> decide), by show MWd D cL h0 q0 A _ t.heap; rw [ht2]; exact hM⟩, hS.F ht2⟩) hS.2.2 md_M_convert_36
set_option maxHeartbeats 4000000 in
set_option maxRecDepth 100000 in
theorem mt_M_bits (l : Launch) (D : va_G) (cL : ClassId) (h0 q0 sz : Nat) (u : MT) (p0 : Int32) (p1 : Int32) : Met l my_M_bits mw_M_bits ({ frames := 1, cells := 0, slots := 0, locals := 21 } : Room) (MPc D cL h0 q0 sz u [.int p0, .int p1]) (MQl D cL h0 q0 (MA h0 q0 cL u sz) (fun (r : Int64) (v : MT) => True)) 0 0 (MA h0 q0 cL u sz) := by
  refine Met.ofW (cc := mc_M_bits) (maxL := 3) (ret := (some .long)) (by decide) rfl ?_
  intro p e s m args below meth c s₁ B hml hv
  obtain ⟨rfl, hsz, hP, hK, hD0⟩ := hv
  have hx := B.exec
  have hb := B.bytes
  have hr := B.returns
  have hts := atoms_spec (ws := mw_M_bits) B.pre
  have ht : ∀ w ∈ gw_tbl, w.before _ s = true := fun w h => hts w (List.mem_cons_of_mem _ h)
  have hown : s.vm.findClass "NumberProbeModel" = some m.cls := findClass_of_methodNamed B.named
  have hlocks := B.notSynchronized
  subst hsz
  have hD : va_D (MA h0 q0 cL u s.heap.size) (mWs h0 q0 cL u) := hD0.self (sz := s.heap.size)
  generalize hAe : MA h0 q0 cL u s.heap.size = A at hD ⊢
  have hA : ∀ q : Nat, s.heap.size ≤ q → A q := fun q h => by rw [← hAe]; exact Or.inr h
  have hS : va_S A s.heap s.heap [] := va_S.rf
  have hM : MWd D cL h0 q0 A u s.heap := ⟨hP, hD⟩
  have hl := lv_entry ([.ref h0, .int p0, .int p1]) (n := 3) (Nat.le_of_ble_eq_true rfl)
  rw [lg_entry_eq]
  generalize (lg_sl ([.ref h0, .int p0, .int p1]) ++ List.replicate (3 - (lg_sl ([.ref h0, .int p0, .int p1])).length) Slot.unset).toArray = ls at hl ⊢
  have hl : lv_has ls 3 [(0, .ref h0), (1, .int p0), (2, .int p1)] := hl
  refine lv_iload_n hx hb md_M_bits_0 rfl (lv_at hl 1 rfl) ?_
  refine lv_iconst (v := 4) hx hb md_M_bits_1 (by decide) ?_
  refine vp_callSi (W.runS (As := [.int p0, .int 4]) (rest := []) ⟨hx, hb, hml, hown, hts⟩ (mt_M_in l p0 4) (va_cwS 2 hts (gd_S tm_359 tm_360 tm_25 tm_361) rfl rfl rfl (by decide +kernel) ⟨Nat.le_of_ble_eq_true rfl, Nat.le_of_ble_eq_true rfl⟩) ⟨fb_0, fun U hU hW => ⟨rfl, trivial⟩⟩ rfl rfl hl.1 rfl (lv_room (Nat.le_of_ble_eq_true rfl)) md_M_bits_2 ⟨Nat.zero_le _, Nat.zero_le _⟩) (fun r_1 e_2 => ?_)
  obtain rfl : r_1 = jb (rn_in p0 4) := e_2
  refine lv_if_eq (tgt := 17) hx hb md_M_bits_5 (by decide) (fun c_3 => ?_) (fun c_3 => ?_)
  · refine lv_lconst (v := 0) hx hb md_M_bits_17 (by decide) ?_
    exact W.lret (v := 0) hx hb hr (fun t ht2 _ => ⟨⟨0, u, rfl, trivial, by show MWd D cL h0 q0 A _ t.heap; rw [ht2]; exact hM⟩, hS.F ht2⟩) hS.2.2 md_M_bits_18
  · refine lv_iload_n hx hb md_M_bits_8 rfl (lv_at hl 2 rfl) ?_
    refine lv_bipush (v := 6) hx hb md_M_bits_9 (by decide) ?_
    refine vp_callSi (W.runS (As := [.int p1, .int 6]) (rest := []) ⟨hx, hb, hml, hown, hts⟩ (mt_M_in l p1 6) (va_cwS 2 hts (gd_S tm_359 tm_360 tm_25 tm_361) rfl rfl rfl (by decide +kernel) ⟨Nat.le_of_ble_eq_true rfl, Nat.le_of_ble_eq_true rfl⟩) ⟨fb_0, fun U hU hW => ⟨rfl, trivial⟩⟩ rfl rfl hl.1 rfl (lv_room (Nat.le_of_ble_eq_true rfl)) md_M_bits_11 ⟨Nat.zero_le _, Nat.zero_le _⟩) (fun r_4 e_5 => ?_)
    obtain rfl : r_4 = jb (rn_in p1 6) := e_5
    refine lv_if_ne (tgt := 19) hx hb md_M_bits_14 (by decide) (fun c_6 => ?_) (fun c_6 => ?_)
    · refine lv_iload_n hx hb md_M_bits_19 rfl (lv_at hl 1 rfl) ?_
      have J_8 : ∀ (z_9 : Int64) (ls : Array Slot), lv_has ls 3 [(0, .ref h0), (1, .int p0), (2, .int p1)] → W p l e (headSpec mw_M_bits ({ frames := 1, cells := 0, slots := 0, locals := 21 } : Room)).room s m ([.ref h0, .int p0, .int p1] : List Value).toArray below meth c s.heap [] 0 0 (MQ below (MQl D cL h0 q0 A (fun (r : Int64) (v : MT) => True)) ([.ref h0, .int p0, .int p1] : List Value).toArray s 0 0 A) (F0 m 45 ls [.long z_9]) := by
        intro z_9 ls hl
        exact W.lret (v := z_9) hx hb hr (fun t ht2 _ => ⟨⟨z_9, u, rfl, trivial, by show MWd D cL h0 q0 A _ t.heap; rw [ht2]; exact hM⟩, hS.F ht2⟩) hS.2.2 md_M_bits_45
      refine lv_if_ne (tgt := 34) hx hb md_M_bits_20 (by decide) (fun c_7 => ?_) (fun c_7 => ?_)
      · refine lv_aload_n hx hb md_M_bits_34 rfl (lv_at hl 0 rfl) ?_
        refine va_get (D := D) (ci := 1) (v := .ref q0) (C := "NumberProbeModel") (T := TM) (N := 12) hx hb ht inM hown hK hM.1 0 rfl rfl 0 (by decide) (ht _ tm_318) (fun _ h9 => h9) rfl md_M_bits_35 ?_
        refine lv_iload_n hx hb md_M_bits_38 rfl (lv_at hl 1 rfl) ?_
        refine lv_bipush (v := 6) hx hb md_M_bits_39 (by decide) ?_
        refine lv_imul hx hb md_M_bits_41 ?_
        refine lv_iload_n hx hb md_M_bits_42 rfl (lv_at hl 2 rfl) ?_
        refine lv_iadd hx hb md_M_bits_43 ?_
        refine va_lald (D := D) hx hb hK hM.1 1 0 rfl rfl (rn_idx (jb_n0.mp c_3) (jb_n0.mp c_6)) md_M_bits_44 ?_
        exact J_8 (u.2 ((p0 * 6) + p1).toNatClampNeg) ls (lv_sub hl [0, 1, 2] rfl)
      · refine lv_aload_n hx hb md_M_bits_23 rfl (lv_at hl 0 rfl) ?_
        refine va_get (D := D) (ci := 1) (v := .ref q0) (C := "NumberProbeModel") (T := TM) (N := 12) hx hb ht inM hown hK hM.1 0 rfl rfl 0 (by decide) (ht _ tm_318) (fun _ h9 => h9) rfl md_M_bits_24 ?_
        refine lv_iload_n hx hb md_M_bits_27 rfl (lv_at hl 2 rfl) ?_
        refine va_lald (D := D) hx hb hK hM.1 1 0 rfl rfl (rn_i6 (jb_n0.mp c_6)).1 md_M_bits_28 ?_
        refine lv_l2i (v := (u.2 p1.toNatClampNeg).toInt32) hx hb md_M_bits_29 rfl ?_
        refine lv_i2l (v := ((u.2 p1.toNatClampNeg).toInt32).toInt64) hx hb md_M_bits_30 rfl ?_
        refine lv_goto (tgt := 45) hx hb md_M_bits_31 (by decide) ?_
        exact J_8 (((u.2 p1.toNatClampNeg).toInt32).toInt64) ls (lv_sub hl [0, 1, 2] rfl)
    · refine lv_lconst (v := 0) hx hb md_M_bits_17 (by decide) ?_
      exact W.lret (v := 0) hx hb hr (fun t ht2 _ => ⟨⟨0, u, rfl, trivial, by show MWd D cL h0 q0 A _ t.heap; rw [ht2]; exact hM⟩, hS.F ht2⟩) hS.2.2 md_M_bits_18
set_option maxHeartbeats 4000000 in
set_option maxRecDepth 100000 in
theorem mt_M_operate (l : Launch) (D : va_G) (cL : ClassId) (h0 q0 sz : Nat) (u : MT) (p0 : Int32) (p1 : Int32) (p2 : Int32) (p3 : Int32) (p4 : Int32) : Met l my_M_operate mw_M_operate ({ frames := 6, cells := 0, slots := 0, locals := 154 } : Room) (MPc D cL h0 q0 sz u [.int p0, .int p1, .int p2, .int p3, .int p4]) (MQi D cL h0 q0 (MA h0 q0 cL u sz) (fun (r : Int32) (v : MT) => True)) 0 0 (MA h0 q0 cL u sz) := by
  refine Met.ofW (cc := mc_M_operate) (maxL := 10) (ret := (some .int)) (by decide) rfl ?_
  intro p e s m args below meth c s₁ B hml hv
  obtain ⟨rfl, hsz, hP, hK, hD0⟩ := hv
  have hx := B.exec
  have hb := B.bytes
  have hr := B.returns
  have hts := atoms_spec (ws := mw_M_operate) B.pre
  have ht : ∀ w ∈ gw_tbl, w.before _ s = true := fun w h => hts w (List.mem_cons_of_mem _ h)
  have hown : s.vm.findClass "NumberProbeModel" = some m.cls := findClass_of_methodNamed B.named
  have hlocks := B.notSynchronized
  subst hsz
  have hD : va_D (MA h0 q0 cL u s.heap.size) (mWs h0 q0 cL u) := hD0.self (sz := s.heap.size)
  generalize hAe : MA h0 q0 cL u s.heap.size = A at hD ⊢
  have hA : ∀ q : Nat, s.heap.size ≤ q → A q := fun q h => by rw [← hAe]; exact Or.inr h
  have hS : va_S A s.heap s.heap [] := va_S.rf
  have hM : MWd D cL h0 q0 A u s.heap := ⟨hP, hD⟩
  have hl := lv_entry ([.ref h0, .int p0, .int p1, .int p2, .int p3, .int p4]) (n := 10) (Nat.le_of_ble_eq_true rfl)
  rw [lg_entry_eq]
  generalize (lg_sl ([.ref h0, .int p0, .int p1, .int p2, .int p3, .int p4]) ++ List.replicate (10 - (lg_sl ([.ref h0, .int p0, .int p1, .int p2, .int p3, .int p4])).length) Slot.unset).toArray = ls at hl ⊢
  have hl : lv_has ls 10 [(0, .ref h0), (1, .int p0), (2, .int p1), (3, .int p2), (4, .int p3), (5, .int p4)] := hl
  refine lv_iload_n hx hb md_M_operate_0 rfl (lv_at hl 1 rfl) ?_
  refine lv_iconst (v := 4) hx hb md_M_operate_1 (by decide) ?_
  refine vp_callSi (W.runS (As := [.int p0, .int 4]) (rest := []) ⟨hx, hb, hml, hown, hts⟩ (mt_M_in l p0 4) (va_cwS 2 hts (gd_S tm_359 tm_360 tm_25 tm_361) rfl rfl rfl (by decide +kernel) ⟨Nat.le_of_ble_eq_true rfl, Nat.le_of_ble_eq_true rfl⟩) ⟨fb_0, fun U hU hW => ⟨rfl, trivial⟩⟩ rfl rfl hl.1 rfl (lv_room (Nat.le_of_ble_eq_true rfl)) md_M_operate_2 ⟨Nat.zero_le _, Nat.zero_le _⟩) (fun r_1 e_2 => ?_)
  obtain rfl : r_1 = jb (rn_in p0 4) := e_2
  refine lv_if_eq (tgt := 56) hx hb md_M_operate_5 (by decide) (fun c_3 => ?_) (fun c_3 => ?_)
  · refine lv_iconst (v := (-1)) hx hb md_M_operate_56 (by decide) ?_
    exact W.iret (v := (-1)) hx hb hr (fun t ht2 _ => ⟨⟨(-1), u, rfl, trivial, by show MWd D cL h0 q0 A _ t.heap; rw [ht2]; exact hM⟩, hS.F ht2⟩) hS.2.2 md_M_operate_57
  · refine lv_iload_n hx hb md_M_operate_8 rfl (lv_at hl 2 rfl) ?_
    refine lv_iload_n hx hb md_M_operate_9 rfl (lv_at hl 1 rfl) ?_
    refine lv_iconst (v := 2) hx hb md_M_operate_10 (by decide) ?_
    have J_5 : ∀ (z_6 : Int32) (ls : Array Slot), lv_has ls 10 [(0, .ref h0), (1, .int p0), (2, .int p1), (3, .int p2), (4, .int p3), (5, .int p4)] → W p l e (headSpec mw_M_operate ({ frames := 6, cells := 0, slots := 0, locals := 154 } : Room)).room s m ([.ref h0, .int p0, .int p1, .int p2, .int p3, .int p4] : List Value).toArray below meth c s.heap [] 0 0 (MQ below (MQi D cL h0 q0 A (fun (r : Int32) (v : MT) => True)) ([.ref h0, .int p0, .int p1, .int p2, .int p3, .int p4] : List Value).toArray s 0 0 A) (F0 m 21 ls [.int z_6, .int p1]) := by
      intro z_6 ls hl
      refine vp_callSi (W.runS (As := [.int p1, .int z_6]) (rest := []) ⟨hx, hb, hml, hown, hts⟩ (mt_M_in l p1 z_6) (va_cwS 2 hts (gd_S tm_359 tm_360 tm_25 tm_361) rfl rfl rfl (by decide +kernel) ⟨Nat.le_of_ble_eq_true rfl, Nat.le_of_ble_eq_true rfl⟩) ⟨fb_0, fun U hU hW => ⟨rfl, trivial⟩⟩ rfl rfl hl.1 rfl (lv_room (Nat.le_of_ble_eq_true rfl)) md_M_operate_21 ⟨Nat.zero_le _, Nat.zero_le _⟩) (fun r_7 e_8 => ?_)
      obtain rfl : r_7 = jb (rn_in p1 z_6) := e_8
      refine lv_if_eq (tgt := 56) hx hb md_M_operate_24 (by decide) (fun c_9 => ?_) (fun c_9 => ?_)
      · refine lv_iconst (v := (-1)) hx hb md_M_operate_56 (by decide) ?_
        exact W.iret (v := (-1)) hx hb hr (fun t ht2 _ => ⟨⟨(-1), u, rfl, trivial, by show MWd D cL h0 q0 A _ t.heap; rw [ht2]; exact hM⟩, hS.F ht2⟩) hS.2.2 md_M_operate_57
      · refine lv_iload_n hx hb md_M_operate_27 rfl (lv_at hl 3 rfl) ?_
        refine lv_bipush (v := 6) hx hb md_M_operate_28 (by decide) ?_
        refine vp_callSi (W.runS (As := [.int p2, .int 6]) (rest := []) ⟨hx, hb, hml, hown, hts⟩ (mt_M_in l p2 6) (va_cwS 2 hts (gd_S tm_359 tm_360 tm_25 tm_361) rfl rfl rfl (by decide +kernel) ⟨Nat.le_of_ble_eq_true rfl, Nat.le_of_ble_eq_true rfl⟩) ⟨fb_0, fun U hU hW => ⟨rfl, trivial⟩⟩ rfl rfl hl.1 rfl (lv_room (Nat.le_of_ble_eq_true rfl)) md_M_operate_30 ⟨Nat.zero_le _, Nat.zero_le _⟩) (fun r_10 e_11 => ?_)
        obtain rfl : r_10 = jb (rn_in p2 6) := e_11
        refine lv_if_eq (tgt := 56) hx hb md_M_operate_33 (by decide) (fun c_12 => ?_) (fun c_12 => ?_)
        · refine lv_iconst (v := (-1)) hx hb md_M_operate_56 (by decide) ?_
          exact W.iret (v := (-1)) hx hb hr (fun t ht2 _ => ⟨⟨(-1), u, rfl, trivial, by show MWd D cL h0 q0 A _ t.heap; rw [ht2]; exact hM⟩, hS.F ht2⟩) hS.2.2 md_M_operate_57
        · refine lv_iload hx hb md_M_operate_36 (lv_at hl 4 rfl) ?_
          refine lv_bipush (v := 6) hx hb md_M_operate_38 (by decide) ?_
          refine vp_callSi (W.runS (As := [.int p3, .int 6]) (rest := []) ⟨hx, hb, hml, hown, hts⟩ (mt_M_in l p3 6) (va_cwS 2 hts (gd_S tm_359 tm_360 tm_25 tm_361) rfl rfl rfl (by decide +kernel) ⟨Nat.le_of_ble_eq_true rfl, Nat.le_of_ble_eq_true rfl⟩) ⟨fb_0, fun U hU hW => ⟨rfl, trivial⟩⟩ rfl rfl hl.1 rfl (lv_room (Nat.le_of_ble_eq_true rfl)) md_M_operate_40 ⟨Nat.zero_le _, Nat.zero_le _⟩) (fun r_13 e_14 => ?_)
          obtain rfl : r_13 = jb (rn_in p3 6) := e_14
          refine lv_if_eq (tgt := 56) hx hb md_M_operate_43 (by decide) (fun c_15 => ?_) (fun c_15 => ?_)
          · refine lv_iconst (v := (-1)) hx hb md_M_operate_56 (by decide) ?_
            exact W.iret (v := (-1)) hx hb hr (fun t ht2 _ => ⟨⟨(-1), u, rfl, trivial, by show MWd D cL h0 q0 A _ t.heap; rw [ht2]; exact hM⟩, hS.F ht2⟩) hS.2.2 md_M_operate_57
          · refine lv_iload hx hb md_M_operate_46 (lv_at hl 5 rfl) ?_
            refine lv_bipush (v := 6) hx hb md_M_operate_48 (by decide) ?_
            refine vp_callSi (W.runS (As := [.int p4, .int 6]) (rest := []) ⟨hx, hb, hml, hown, hts⟩ (mt_M_in l p4 6) (va_cwS 2 hts (gd_S tm_359 tm_360 tm_25 tm_361) rfl rfl rfl (by decide +kernel) ⟨Nat.le_of_ble_eq_true rfl, Nat.le_of_ble_eq_true rfl⟩) ⟨fb_0, fun U hU hW => ⟨rfl, trivial⟩⟩ rfl rfl hl.1 rfl (lv_room (Nat.le_of_ble_eq_true rfl)) md_M_operate_50 ⟨Nat.zero_le _, Nat.zero_le _⟩) (fun r_16 e_17 => ?_)
            obtain rfl : r_16 = jb (rn_in p4 6) := e_17
            refine lv_if_ne (tgt := 58) hx hb md_M_operate_53 (by decide) (fun c_18 => ?_) (fun c_18 => ?_)
            · refine lv_aload_n hx hb md_M_operate_58 rfl (lv_at hl 0 rfl) ?_
              refine va_get (D := D) (ci := 1) (v := .ref q0) (C := "NumberProbeModel") (T := TM) (N := 12) hx hb ht inM hown hK hM.1 0 rfl rfl 0 (by decide) (ht _ tm_318) (fun _ h9 => h9) rfl md_M_operate_59 ?_
              refine lv_iload_n hx hb md_M_operate_62 rfl (lv_at hl 1 rfl) ?_
              refine lv_bipush (v := 6) hx hb md_M_operate_63 (by decide) ?_
              refine lv_imul hx hb md_M_operate_65 ?_
              refine lv_iload_n hx hb md_M_operate_66 rfl (lv_at hl 3 rfl) ?_
              refine lv_iadd hx hb md_M_operate_67 ?_
              refine va_lald (D := D) hx hb hK hM.1 1 0 rfl rfl (rn_idx (jb_n0.mp c_3) (jb_n0.mp c_12)) md_M_operate_68 ?_
              refine lv_lstore (lv' := [(6, .long (u.2 ((p0 * 6) + p2).toNatClampNeg)), (0, .ref h0), (1, .int p0), (2, .int p1), (3, .int p2), (4, .int p3), (5, .int p4)]) hx hb md_M_operate_69 hl (by decide) rfl (fun ls hl => ?_)
              refine lv_aload_n hx hb md_M_operate_71 rfl (lv_at hl 1 rfl) ?_
              refine va_get (D := D) (ci := 1) (v := .ref q0) (C := "NumberProbeModel") (T := TM) (N := 12) hx hb ht inM hown hK hM.1 0 rfl rfl 0 (by decide) (ht _ tm_318) (fun _ h9 => h9) rfl md_M_operate_72 ?_
              refine lv_iload_n hx hb md_M_operate_75 rfl (lv_at hl 2 rfl) ?_
              refine lv_bipush (v := 6) hx hb md_M_operate_76 (by decide) ?_
              refine lv_imul hx hb md_M_operate_78 ?_
              refine lv_iload hx hb md_M_operate_79 (lv_at hl 5 rfl) ?_
              refine lv_iadd hx hb md_M_operate_81 ?_
              refine va_lald (D := D) hx hb hK hM.1 1 0 rfl rfl (rn_idx (jb_n0.mp c_3) (jb_n0.mp c_15)) md_M_operate_82 ?_
              refine lv_lstore (lv' := [(8, .long (u.2 ((p0 * 6) + p3).toNatClampNeg)), (6, .long (u.2 ((p0 * 6) + p2).toNatClampNeg)), (0, .ref h0), (1, .int p0), (2, .int p1), (3, .int p2), (4, .int p3), (5, .int p4)]) hx hb md_M_operate_83 hl (by decide) rfl (fun ls hl => ?_)
              refine lv_iload_n hx hb md_M_operate_85 rfl (lv_at hl 3 rfl) ?_
              refine lv_iconst (v := 1) hx hb md_M_operate_86 (by decide) ?_
              refine lv_icmp_le (tgt := 110) hx hb md_M_operate_87 (by decide) (fun c_19 => ?_) (fun c_19 => ?_)
              · refine lv_aload_n hx hb md_M_operate_110 rfl (lv_at hl 2 rfl) ?_
                refine va_get (D := D) (ci := 1) (v := .ref q0) (C := "NumberProbeModel") (T := TM) (N := 12) hx hb ht inM hown hK hM.1 0 rfl rfl 0 (by decide) (ht _ tm_318) (fun _ h9 => h9) rfl md_M_operate_111 ?_
                refine lv_iload_n hx hb md_M_operate_114 rfl (lv_at hl 3 rfl) ?_
                refine lv_bipush (v := 6) hx hb md_M_operate_115 (by decide) ?_
                refine lv_imul hx hb md_M_operate_117 ?_
                refine lv_iload hx hb md_M_operate_118 (lv_at hl 7 rfl) ?_
                refine lv_iadd hx hb md_M_operate_120 ?_
                refine lv_iload_n hx hb md_M_operate_121 rfl (lv_at hl 3 rfl) ?_
                refine lv_iconst (v := 2) hx hb md_M_operate_122 (by decide) ?_
                have J_30 : ∀ (z_31 : Int64) (u_32 : MT) (H_33 : Heap) (L_34 : List Loc) (ls : Array Slot), MWd D cL h0 q0 A u_32 H_33 → va_S A s.heap H_33 L_34 → lv_has ls 10 [(8, .long (u.2 ((p0 * 6) + p3).toNatClampNeg)), (6, .long (u.2 ((p0 * 6) + p2).toNatClampNeg)), (0, .ref h0), (1, .int p0), (2, .int p1), (3, .int p2), (4, .int p3), (5, .int p4)] → W p l e (headSpec mw_M_operate ({ frames := 6, cells := 0, slots := 0, locals := 154 } : Room)).room s m ([.ref h0, .int p0, .int p1, .int p2, .int p3, .int p4] : List Value).toArray below meth c H_33 L_34 0 0 (MQ below (MQi D cL h0 q0 A (fun (r : Int32) (v : MT) => True)) ([.ref h0, .int p0, .int p1, .int p2, .int p3, .int p4] : List Value).toArray s 0 0 A) (F0 m 152 ls [.long z_31, .int ((p0 * 6) + p4), .ref q0]) := by
                  intro z_31 u_32 H_33 L_34 ls hM hS hl
                  refine m_ast hx hb hK hM hS (rn_idx (jb_n0.mp c_3) (jb_n0.mp c_18)) md_M_operate_152 (fun u_35 H_36 L_37 hM hS => ?_)
                  refine lv_iconst (v := 0) hx hb md_M_operate_153 (by decide) ?_
                  exact W.iret (v := 0) hx hb hr (fun t ht2 _ => ⟨⟨0, u_35, rfl, trivial, by show MWd D cL h0 q0 A _ t.heap; rw [ht2]; exact hM⟩, hS.F ht2⟩) hS.2.2 md_M_operate_154
                refine lv_icmp_ge (tgt := 139) hx hb md_M_operate_123 (by decide) (fun c_20 => ?_) (fun c_20 => ?_)
                · refine lv_iload_n hx hb md_M_operate_139 rfl (lv_at hl 3 rfl) ?_
                  refine lv_iload_n hx hb md_M_operate_140 rfl (lv_at hl 3 rfl) ?_
                  refine lv_iload_n hx hb md_M_operate_141 rfl (lv_at hl 4 rfl) ?_
                  refine lv_lload hx hb md_M_operate_142 (lv_at hl 1 rfl) ?_
                  refine lv_lload hx hb md_M_operate_144 (lv_at hl 0 rfl) ?_
                  refine vp_callSl (W.runS (As := [.int p0, .int p1, .long (u.2 ((p0 * 6) + p2).toNatClampNeg), .long (u.2 ((p0 * 6) + p3).toNatClampNeg)]) (rest := [.int p0, .int ((p0 * 6) + p4), .ref q0]) ⟨hx, hb, hml, hown, hts⟩ (mt_M_operateWhole l p0 p1 (u.2 ((p0 * 6) + p2).toNatClampNeg) (u.2 ((p0 * 6) + p3).toNatClampNeg) (fun _ => (m_kd c_19 c_20).elim)) (va_cwS 4 hts (gd_S tm_494 tm_495 tm_25 tm_496) rfl rfl rfl (by decide +kernel) ⟨Nat.le_of_ble_eq_true rfl, Nat.le_of_ble_eq_true rfl⟩) ⟨fb_0, fun U hU hW => ⟨rfl, trivial⟩⟩ rfl rfl hl.1 rfl (lv_room (Nat.le_of_ble_eq_true rfl)) md_M_operate_146 ⟨Nat.zero_le _, Nat.zero_le _⟩) (fun r_38 e_39 => ?_)
                  refine vp_callSl (W.runS (As := [.int p0, .long r_38]) (rest := [.int ((p0 * 6) + p4), .ref q0]) ⟨hx, hb, hml, hown, hts⟩ (mt_M_normal l p0 r_38) (va_cwS 2 hts (gd_S tm_362 tm_363 tm_25 tm_364) rfl rfl rfl (by decide +kernel) ⟨Nat.le_of_ble_eq_true rfl, Nat.le_of_ble_eq_true rfl⟩) ⟨fb_0, fun U hU hW => ⟨rfl, trivial⟩⟩ rfl rfl hl.1 rfl (lv_room (Nat.le_of_ble_eq_true rfl)) md_M_operate_149 ⟨Nat.zero_le _, Nat.zero_le _⟩) (fun r_40 e_41 => ?_)
                  exact J_30 r_40 _ _ _ ls hM hS (lv_sub hl [0, 1, 2, 3, 4, 5, 6, 7] rfl)
                · refine lv_aload_n hx hb md_M_operate_126 rfl (lv_at hl 2 rfl) ?_
                  refine lv_iload_n hx hb md_M_operate_127 rfl (lv_at hl 3 rfl) ?_
                  refine lv_iload_n hx hb md_M_operate_128 rfl (lv_at hl 4 rfl) ?_
                  refine lv_lload hx hb md_M_operate_129 (lv_at hl 1 rfl) ?_
                  refine lv_lload hx hb md_M_operate_131 (lv_at hl 0 rfl) ?_
                  refine m_calll (va_runV (C := "NumberProbeModel") (As := [.int p0, .int p1, .long (u.2 ((p0 * 6) + p2).toNatClampNeg), .long (u.2 ((p0 * 6) + p3).toNatClampNeg)]) (rest := [.int ((p0 * 6) + p4), .ref q0]) ⟨hx, hb, hml, hown, hts⟩ (mt_M_operateReal l D cL h0 q0 _ u p0 p1 (u.2 ((p0 * 6) + p2).toNatClampNeg) (u.2 ((p0 * 6) + p3).toNatClampNeg)) (cwV 4 hts (gd_V tm_443 tm_445 tm_11 tm_25 tm_446) rfl rfl rfl (by decide +kernel) ⟨Nat.le_of_ble_eq_true rfl, Nat.le_of_ble_eq_true rfl⟩) (m_in (locs := []) hK hM) rfl rfl hl.1 rfl (lv_room (Nat.le_of_ble_eq_true rfl)) md_M_operate_133 ⟨Nat.zero_le _, Nat.zero_le _⟩) hM hS hA (fun r_42 u_44 H_45 L_46 e_43 hM hS => ?_)
                  refine lv_goto (tgt := 152) hx hb md_M_operate_136 (by decide) ?_
                  exact J_30 r_42 _ _ _ ls hM hS (lv_sub hl [0, 1, 2, 3, 4, 5, 6, 7] rfl)
              · refine lv_iload_n hx hb md_M_operate_90 rfl (lv_at hl 4 rfl) ?_
                refine lv_iconst (v := 3) hx hb md_M_operate_91 (by decide) ?_
                refine lv_icmp_eq (tgt := 100) hx hb md_M_operate_92 (by decide) (fun c_47 => ?_) (fun c_47 => ?_)
                · refine lv_lload hx hb md_M_operate_100 (lv_at hl 0 rfl) ?_
                  refine lv_lconst (v := 0) hx hb md_M_operate_102 (by decide) ?_
                  refine W.lcmp hx hb md_M_operate_103 ?_
                  refine lv_if_ne (tgt := 110) hx hb md_M_operate_104 (by decide) (fun c_48 => ?_) (fun c_48 => ?_)
                  · refine lv_aload_n hx hb md_M_operate_110 rfl (lv_at hl 2 rfl) ?_
                    refine va_get (D := D) (ci := 1) (v := .ref q0) (C := "NumberProbeModel") (T := TM) (N := 12) hx hb ht inM hown hK hM.1 0 rfl rfl 0 (by decide) (ht _ tm_318) (fun _ h9 => h9) rfl md_M_operate_111 ?_
                    refine lv_iload_n hx hb md_M_operate_114 rfl (lv_at hl 3 rfl) ?_
                    refine lv_bipush (v := 6) hx hb md_M_operate_115 (by decide) ?_
                    refine lv_imul hx hb md_M_operate_117 ?_
                    refine lv_iload hx hb md_M_operate_118 (lv_at hl 7 rfl) ?_
                    refine lv_iadd hx hb md_M_operate_120 ?_
                    refine lv_iload_n hx hb md_M_operate_121 rfl (lv_at hl 3 rfl) ?_
                    refine lv_iconst (v := 2) hx hb md_M_operate_122 (by decide) ?_
                    have J_59 : ∀ (z_60 : Int64) (u_61 : MT) (H_62 : Heap) (L_63 : List Loc) (ls : Array Slot), MWd D cL h0 q0 A u_61 H_62 → va_S A s.heap H_62 L_63 → lv_has ls 10 [(8, .long (u.2 ((p0 * 6) + p3).toNatClampNeg)), (6, .long (u.2 ((p0 * 6) + p2).toNatClampNeg)), (0, .ref h0), (1, .int p0), (2, .int p1), (3, .int p2), (4, .int p3), (5, .int p4)] → W p l e (headSpec mw_M_operate ({ frames := 6, cells := 0, slots := 0, locals := 154 } : Room)).room s m ([.ref h0, .int p0, .int p1, .int p2, .int p3, .int p4] : List Value).toArray below meth c H_62 L_63 0 0 (MQ below (MQi D cL h0 q0 A (fun (r : Int32) (v : MT) => True)) ([.ref h0, .int p0, .int p1, .int p2, .int p3, .int p4] : List Value).toArray s 0 0 A) (F0 m 152 ls [.long z_60, .int ((p0 * 6) + p4), .ref q0]) := by
                      intro z_60 u_61 H_62 L_63 ls hM hS hl
                      refine m_ast hx hb hK hM hS (rn_idx (jb_n0.mp c_3) (jb_n0.mp c_18)) md_M_operate_152 (fun u_64 H_65 L_66 hM hS => ?_)
                      refine lv_iconst (v := 0) hx hb md_M_operate_153 (by decide) ?_
                      exact W.iret (v := 0) hx hb hr (fun t ht2 _ => ⟨⟨0, u_64, rfl, trivial, by show MWd D cL h0 q0 A _ t.heap; rw [ht2]; exact hM⟩, hS.F ht2⟩) hS.2.2 md_M_operate_154
                    refine lv_icmp_ge (tgt := 139) hx hb md_M_operate_123 (by decide) (fun c_49 => ?_) (fun c_49 => ?_)
                    · refine lv_iload_n hx hb md_M_operate_139 rfl (lv_at hl 3 rfl) ?_
                      refine lv_iload_n hx hb md_M_operate_140 rfl (lv_at hl 3 rfl) ?_
                      refine lv_iload_n hx hb md_M_operate_141 rfl (lv_at hl 4 rfl) ?_
                      refine lv_lload hx hb md_M_operate_142 (lv_at hl 1 rfl) ?_
                      refine lv_lload hx hb md_M_operate_144 (lv_at hl 0 rfl) ?_
                      refine vp_callSl (W.runS (As := [.int p0, .int p1, .long (u.2 ((p0 * 6) + p2).toNatClampNeg), .long (u.2 ((p0 * 6) + p3).toNatClampNeg)]) (rest := [.int p0, .int ((p0 * 6) + p4), .ref q0]) ⟨hx, hb, hml, hown, hts⟩ (mt_M_operateWhole l p0 p1 (u.2 ((p0 * 6) + p2).toNatClampNeg) (u.2 ((p0 * 6) + p3).toNatClampNeg) (fun _ => (mt (lg_cmp_eq _ _).mpr c_48))) (va_cwS 4 hts (gd_S tm_494 tm_495 tm_25 tm_496) rfl rfl rfl (by decide +kernel) ⟨Nat.le_of_ble_eq_true rfl, Nat.le_of_ble_eq_true rfl⟩) ⟨fb_0, fun U hU hW => ⟨rfl, trivial⟩⟩ rfl rfl hl.1 rfl (lv_room (Nat.le_of_ble_eq_true rfl)) md_M_operate_146 ⟨Nat.zero_le _, Nat.zero_le _⟩) (fun r_67 e_68 => ?_)
                      refine vp_callSl (W.runS (As := [.int p0, .long r_67]) (rest := [.int ((p0 * 6) + p4), .ref q0]) ⟨hx, hb, hml, hown, hts⟩ (mt_M_normal l p0 r_67) (va_cwS 2 hts (gd_S tm_362 tm_363 tm_25 tm_364) rfl rfl rfl (by decide +kernel) ⟨Nat.le_of_ble_eq_true rfl, Nat.le_of_ble_eq_true rfl⟩) ⟨fb_0, fun U hU hW => ⟨rfl, trivial⟩⟩ rfl rfl hl.1 rfl (lv_room (Nat.le_of_ble_eq_true rfl)) md_M_operate_149 ⟨Nat.zero_le _, Nat.zero_le _⟩) (fun r_69 e_70 => ?_)
                      exact J_59 r_69 _ _ _ ls hM hS (lv_sub hl [0, 1, 2, 3, 4, 5, 6, 7] rfl)
                    · refine lv_aload_n hx hb md_M_operate_126 rfl (lv_at hl 2 rfl) ?_
                      refine lv_iload_n hx hb md_M_operate_127 rfl (lv_at hl 3 rfl) ?_
                      refine lv_iload_n hx hb md_M_operate_128 rfl (lv_at hl 4 rfl) ?_
                      refine lv_lload hx hb md_M_operate_129 (lv_at hl 1 rfl) ?_
                      refine lv_lload hx hb md_M_operate_131 (lv_at hl 0 rfl) ?_
                      refine m_calll (va_runV (C := "NumberProbeModel") (As := [.int p0, .int p1, .long (u.2 ((p0 * 6) + p2).toNatClampNeg), .long (u.2 ((p0 * 6) + p3).toNatClampNeg)]) (rest := [.int ((p0 * 6) + p4), .ref q0]) ⟨hx, hb, hml, hown, hts⟩ (mt_M_operateReal l D cL h0 q0 _ u p0 p1 (u.2 ((p0 * 6) + p2).toNatClampNeg) (u.2 ((p0 * 6) + p3).toNatClampNeg)) (cwV 4 hts (gd_V tm_443 tm_445 tm_11 tm_25 tm_446) rfl rfl rfl (by decide +kernel) ⟨Nat.le_of_ble_eq_true rfl, Nat.le_of_ble_eq_true rfl⟩) (m_in (locs := []) hK hM) rfl rfl hl.1 rfl (lv_room (Nat.le_of_ble_eq_true rfl)) md_M_operate_133 ⟨Nat.zero_le _, Nat.zero_le _⟩) hM hS hA (fun r_71 u_73 H_74 L_75 e_72 hM hS => ?_)
                      refine lv_goto (tgt := 152) hx hb md_M_operate_136 (by decide) ?_
                      exact J_59 r_71 _ _ _ ls hM hS (lv_sub hl [0, 1, 2, 3, 4, 5, 6, 7] rfl)
                  · refine lv_bipush (v := (-2)) hx hb md_M_operate_107 (by decide) ?_
                    exact W.iret (v := (-2)) hx hb hr (fun t ht2 _ => ⟨⟨(-2), u, rfl, trivial, by show MWd D cL h0 q0 A _ t.heap; rw [ht2]; exact hM⟩, hS.F ht2⟩) hS.2.2 md_M_operate_109
                · refine lv_iload_n hx hb md_M_operate_95 rfl (lv_at hl 4 rfl) ?_
                  refine lv_iconst (v := 4) hx hb md_M_operate_96 (by decide) ?_
                  refine lv_icmp_ne (tgt := 110) hx hb md_M_operate_97 (by decide) (fun c_76 => ?_) (fun c_76 => ?_)
                  · refine lv_aload_n hx hb md_M_operate_110 rfl (lv_at hl 2 rfl) ?_
                    refine va_get (D := D) (ci := 1) (v := .ref q0) (C := "NumberProbeModel") (T := TM) (N := 12) hx hb ht inM hown hK hM.1 0 rfl rfl 0 (by decide) (ht _ tm_318) (fun _ h9 => h9) rfl md_M_operate_111 ?_
                    refine lv_iload_n hx hb md_M_operate_114 rfl (lv_at hl 3 rfl) ?_
                    refine lv_bipush (v := 6) hx hb md_M_operate_115 (by decide) ?_
                    refine lv_imul hx hb md_M_operate_117 ?_
                    refine lv_iload hx hb md_M_operate_118 (lv_at hl 7 rfl) ?_
                    refine lv_iadd hx hb md_M_operate_120 ?_
                    refine lv_iload_n hx hb md_M_operate_121 rfl (lv_at hl 3 rfl) ?_
                    refine lv_iconst (v := 2) hx hb md_M_operate_122 (by decide) ?_
                    have J_87 : ∀ (z_88 : Int64) (u_89 : MT) (H_90 : Heap) (L_91 : List Loc) (ls : Array Slot), MWd D cL h0 q0 A u_89 H_90 → va_S A s.heap H_90 L_91 → lv_has ls 10 [(8, .long (u.2 ((p0 * 6) + p3).toNatClampNeg)), (6, .long (u.2 ((p0 * 6) + p2).toNatClampNeg)), (0, .ref h0), (1, .int p0), (2, .int p1), (3, .int p2), (4, .int p3), (5, .int p4)] → W p l e (headSpec mw_M_operate ({ frames := 6, cells := 0, slots := 0, locals := 154 } : Room)).room s m ([.ref h0, .int p0, .int p1, .int p2, .int p3, .int p4] : List Value).toArray below meth c H_90 L_91 0 0 (MQ below (MQi D cL h0 q0 A (fun (r : Int32) (v : MT) => True)) ([.ref h0, .int p0, .int p1, .int p2, .int p3, .int p4] : List Value).toArray s 0 0 A) (F0 m 152 ls [.long z_88, .int ((p0 * 6) + p4), .ref q0]) := by
                      intro z_88 u_89 H_90 L_91 ls hM hS hl
                      refine m_ast hx hb hK hM hS (rn_idx (jb_n0.mp c_3) (jb_n0.mp c_18)) md_M_operate_152 (fun u_92 H_93 L_94 hM hS => ?_)
                      refine lv_iconst (v := 0) hx hb md_M_operate_153 (by decide) ?_
                      exact W.iret (v := 0) hx hb hr (fun t ht2 _ => ⟨⟨0, u_92, rfl, trivial, by show MWd D cL h0 q0 A _ t.heap; rw [ht2]; exact hM⟩, hS.F ht2⟩) hS.2.2 md_M_operate_154
                    refine lv_icmp_ge (tgt := 139) hx hb md_M_operate_123 (by decide) (fun c_77 => ?_) (fun c_77 => ?_)
                    · refine lv_iload_n hx hb md_M_operate_139 rfl (lv_at hl 3 rfl) ?_
                      refine lv_iload_n hx hb md_M_operate_140 rfl (lv_at hl 3 rfl) ?_
                      refine lv_iload_n hx hb md_M_operate_141 rfl (lv_at hl 4 rfl) ?_
                      refine lv_lload hx hb md_M_operate_142 (lv_at hl 1 rfl) ?_
                      refine lv_lload hx hb md_M_operate_144 (lv_at hl 0 rfl) ?_
                      refine vp_callSl (W.runS (As := [.int p0, .int p1, .long (u.2 ((p0 * 6) + p2).toNatClampNeg), .long (u.2 ((p0 * 6) + p3).toNatClampNeg)]) (rest := [.int p0, .int ((p0 * 6) + p4), .ref q0]) ⟨hx, hb, hml, hown, hts⟩ (mt_M_operateWhole l p0 p1 (u.2 ((p0 * 6) + p2).toNatClampNeg) (u.2 ((p0 * 6) + p3).toNatClampNeg) (fun q => q.elim (fun a => absurd a (c_47)) (fun a => absurd a c_76))) (va_cwS 4 hts (gd_S tm_494 tm_495 tm_25 tm_496) rfl rfl rfl (by decide +kernel) ⟨Nat.le_of_ble_eq_true rfl, Nat.le_of_ble_eq_true rfl⟩) ⟨fb_0, fun U hU hW => ⟨rfl, trivial⟩⟩ rfl rfl hl.1 rfl (lv_room (Nat.le_of_ble_eq_true rfl)) md_M_operate_146 ⟨Nat.zero_le _, Nat.zero_le _⟩) (fun r_95 e_96 => ?_)
                      refine vp_callSl (W.runS (As := [.int p0, .long r_95]) (rest := [.int ((p0 * 6) + p4), .ref q0]) ⟨hx, hb, hml, hown, hts⟩ (mt_M_normal l p0 r_95) (va_cwS 2 hts (gd_S tm_362 tm_363 tm_25 tm_364) rfl rfl rfl (by decide +kernel) ⟨Nat.le_of_ble_eq_true rfl, Nat.le_of_ble_eq_true rfl⟩) ⟨fb_0, fun U hU hW => ⟨rfl, trivial⟩⟩ rfl rfl hl.1 rfl (lv_room (Nat.le_of_ble_eq_true rfl)) md_M_operate_149 ⟨Nat.zero_le _, Nat.zero_le _⟩) (fun r_97 e_98 => ?_)
                      exact J_87 r_97 _ _ _ ls hM hS (lv_sub hl [0, 1, 2, 3, 4, 5, 6, 7] rfl)
                    · refine lv_aload_n hx hb md_M_operate_126 rfl (lv_at hl 2 rfl) ?_
                      refine lv_iload_n hx hb md_M_operate_127 rfl (lv_at hl 3 rfl) ?_
                      refine lv_iload_n hx hb md_M_operate_128 rfl (lv_at hl 4 rfl) ?_
                      refine lv_lload hx hb md_M_operate_129 (lv_at hl 1 rfl) ?_
                      refine lv_lload hx hb md_M_operate_131 (lv_at hl 0 rfl) ?_
                      refine m_calll (va_runV (C := "NumberProbeModel") (As := [.int p0, .int p1, .long (u.2 ((p0 * 6) + p2).toNatClampNeg), .long (u.2 ((p0 * 6) + p3).toNatClampNeg)]) (rest := [.int ((p0 * 6) + p4), .ref q0]) ⟨hx, hb, hml, hown, hts⟩ (mt_M_operateReal l D cL h0 q0 _ u p0 p1 (u.2 ((p0 * 6) + p2).toNatClampNeg) (u.2 ((p0 * 6) + p3).toNatClampNeg)) (cwV 4 hts (gd_V tm_443 tm_445 tm_11 tm_25 tm_446) rfl rfl rfl (by decide +kernel) ⟨Nat.le_of_ble_eq_true rfl, Nat.le_of_ble_eq_true rfl⟩) (m_in (locs := []) hK hM) rfl rfl hl.1 rfl (lv_room (Nat.le_of_ble_eq_true rfl)) md_M_operate_133 ⟨Nat.zero_le _, Nat.zero_le _⟩) hM hS hA (fun r_99 u_101 H_102 L_103 e_100 hM hS => ?_)
                      refine lv_goto (tgt := 152) hx hb md_M_operate_136 (by decide) ?_
                      exact J_87 r_99 _ _ _ ls hM hS (lv_sub hl [0, 1, 2, 3, 4, 5, 6, 7] rfl)
                  · refine lv_lload hx hb md_M_operate_100 (lv_at hl 0 rfl) ?_
                    refine lv_lconst (v := 0) hx hb md_M_operate_102 (by decide) ?_
                    refine W.lcmp hx hb md_M_operate_103 ?_
                    refine lv_if_ne (tgt := 110) hx hb md_M_operate_104 (by decide) (fun c_104 => ?_) (fun c_104 => ?_)
                    · refine lv_aload_n hx hb md_M_operate_110 rfl (lv_at hl 2 rfl) ?_
                      refine va_get (D := D) (ci := 1) (v := .ref q0) (C := "NumberProbeModel") (T := TM) (N := 12) hx hb ht inM hown hK hM.1 0 rfl rfl 0 (by decide) (ht _ tm_318) (fun _ h9 => h9) rfl md_M_operate_111 ?_
                      refine lv_iload_n hx hb md_M_operate_114 rfl (lv_at hl 3 rfl) ?_
                      refine lv_bipush (v := 6) hx hb md_M_operate_115 (by decide) ?_
                      refine lv_imul hx hb md_M_operate_117 ?_
                      refine lv_iload hx hb md_M_operate_118 (lv_at hl 7 rfl) ?_
                      refine lv_iadd hx hb md_M_operate_120 ?_
                      refine lv_iload_n hx hb md_M_operate_121 rfl (lv_at hl 3 rfl) ?_
                      refine lv_iconst (v := 2) hx hb md_M_operate_122 (by decide) ?_
                      have J_115 : ∀ (z_116 : Int64) (u_117 : MT) (H_118 : Heap) (L_119 : List Loc) (ls : Array Slot), MWd D cL h0 q0 A u_117 H_118 → va_S A s.heap H_118 L_119 → lv_has ls 10 [(8, .long (u.2 ((p0 * 6) + p3).toNatClampNeg)), (6, .long (u.2 ((p0 * 6) + p2).toNatClampNeg)), (0, .ref h0), (1, .int p0), (2, .int p1), (3, .int p2), (4, .int p3), (5, .int p4)] → W p l e (headSpec mw_M_operate ({ frames := 6, cells := 0, slots := 0, locals := 154 } : Room)).room s m ([.ref h0, .int p0, .int p1, .int p2, .int p3, .int p4] : List Value).toArray below meth c H_118 L_119 0 0 (MQ below (MQi D cL h0 q0 A (fun (r : Int32) (v : MT) => True)) ([.ref h0, .int p0, .int p1, .int p2, .int p3, .int p4] : List Value).toArray s 0 0 A) (F0 m 152 ls [.long z_116, .int ((p0 * 6) + p4), .ref q0]) := by
                        intro z_116 u_117 H_118 L_119 ls hM hS hl
                        refine m_ast hx hb hK hM hS (rn_idx (jb_n0.mp c_3) (jb_n0.mp c_18)) md_M_operate_152 (fun u_120 H_121 L_122 hM hS => ?_)
                        refine lv_iconst (v := 0) hx hb md_M_operate_153 (by decide) ?_
                        exact W.iret (v := 0) hx hb hr (fun t ht2 _ => ⟨⟨0, u_120, rfl, trivial, by show MWd D cL h0 q0 A _ t.heap; rw [ht2]; exact hM⟩, hS.F ht2⟩) hS.2.2 md_M_operate_154
                      refine lv_icmp_ge (tgt := 139) hx hb md_M_operate_123 (by decide) (fun c_105 => ?_) (fun c_105 => ?_)
                      · refine lv_iload_n hx hb md_M_operate_139 rfl (lv_at hl 3 rfl) ?_
                        refine lv_iload_n hx hb md_M_operate_140 rfl (lv_at hl 3 rfl) ?_
                        refine lv_iload_n hx hb md_M_operate_141 rfl (lv_at hl 4 rfl) ?_
                        refine lv_lload hx hb md_M_operate_142 (lv_at hl 1 rfl) ?_
                        refine lv_lload hx hb md_M_operate_144 (lv_at hl 0 rfl) ?_
                        refine vp_callSl (W.runS (As := [.int p0, .int p1, .long (u.2 ((p0 * 6) + p2).toNatClampNeg), .long (u.2 ((p0 * 6) + p3).toNatClampNeg)]) (rest := [.int p0, .int ((p0 * 6) + p4), .ref q0]) ⟨hx, hb, hml, hown, hts⟩ (mt_M_operateWhole l p0 p1 (u.2 ((p0 * 6) + p2).toNatClampNeg) (u.2 ((p0 * 6) + p3).toNatClampNeg) (fun _ => (mt (lg_cmp_eq _ _).mpr c_104))) (va_cwS 4 hts (gd_S tm_494 tm_495 tm_25 tm_496) rfl rfl rfl (by decide +kernel) ⟨Nat.le_of_ble_eq_true rfl, Nat.le_of_ble_eq_true rfl⟩) ⟨fb_0, fun U hU hW => ⟨rfl, trivial⟩⟩ rfl rfl hl.1 rfl (lv_room (Nat.le_of_ble_eq_true rfl)) md_M_operate_146 ⟨Nat.zero_le _, Nat.zero_le _⟩) (fun r_123 e_124 => ?_)
                        refine vp_callSl (W.runS (As := [.int p0, .long r_123]) (rest := [.int ((p0 * 6) + p4), .ref q0]) ⟨hx, hb, hml, hown, hts⟩ (mt_M_normal l p0 r_123) (va_cwS 2 hts (gd_S tm_362 tm_363 tm_25 tm_364) rfl rfl rfl (by decide +kernel) ⟨Nat.le_of_ble_eq_true rfl, Nat.le_of_ble_eq_true rfl⟩) ⟨fb_0, fun U hU hW => ⟨rfl, trivial⟩⟩ rfl rfl hl.1 rfl (lv_room (Nat.le_of_ble_eq_true rfl)) md_M_operate_149 ⟨Nat.zero_le _, Nat.zero_le _⟩) (fun r_125 e_126 => ?_)
                        exact J_115 r_125 _ _ _ ls hM hS (lv_sub hl [0, 1, 2, 3, 4, 5, 6, 7] rfl)
                      · refine lv_aload_n hx hb md_M_operate_126 rfl (lv_at hl 2 rfl) ?_
                        refine lv_iload_n hx hb md_M_operate_127 rfl (lv_at hl 3 rfl) ?_
                        refine lv_iload_n hx hb md_M_operate_128 rfl (lv_at hl 4 rfl) ?_
                        refine lv_lload hx hb md_M_operate_129 (lv_at hl 1 rfl) ?_
                        refine lv_lload hx hb md_M_operate_131 (lv_at hl 0 rfl) ?_
                        refine m_calll (va_runV (C := "NumberProbeModel") (As := [.int p0, .int p1, .long (u.2 ((p0 * 6) + p2).toNatClampNeg), .long (u.2 ((p0 * 6) + p3).toNatClampNeg)]) (rest := [.int ((p0 * 6) + p4), .ref q0]) ⟨hx, hb, hml, hown, hts⟩ (mt_M_operateReal l D cL h0 q0 _ u p0 p1 (u.2 ((p0 * 6) + p2).toNatClampNeg) (u.2 ((p0 * 6) + p3).toNatClampNeg)) (cwV 4 hts (gd_V tm_443 tm_445 tm_11 tm_25 tm_446) rfl rfl rfl (by decide +kernel) ⟨Nat.le_of_ble_eq_true rfl, Nat.le_of_ble_eq_true rfl⟩) (m_in (locs := []) hK hM) rfl rfl hl.1 rfl (lv_room (Nat.le_of_ble_eq_true rfl)) md_M_operate_133 ⟨Nat.zero_le _, Nat.zero_le _⟩) hM hS hA (fun r_127 u_129 H_130 L_131 e_128 hM hS => ?_)
                        refine lv_goto (tgt := 152) hx hb md_M_operate_136 (by decide) ?_
                        exact J_115 r_127 _ _ _ ls hM hS (lv_sub hl [0, 1, 2, 3, 4, 5, 6, 7] rfl)
                    · refine lv_bipush (v := (-2)) hx hb md_M_operate_107 (by decide) ?_
                      exact W.iret (v := (-2)) hx hb hr (fun t ht2 _ => ⟨⟨(-2), u, rfl, trivial, by show MWd D cL h0 q0 A _ t.heap; rw [ht2]; exact hM⟩, hS.F ht2⟩) hS.2.2 md_M_operate_109
            · refine lv_iconst (v := (-1)) hx hb md_M_operate_56 (by decide) ?_
              exact W.iret (v := (-1)) hx hb hr (fun t ht2 _ => ⟨⟨(-1), u, rfl, trivial, by show MWd D cL h0 q0 A _ t.heap; rw [ht2]; exact hM⟩, hS.F ht2⟩) hS.2.2 md_M_operate_57
    refine lv_icmp_ge (tgt := 19) hx hb md_M_operate_11 (by decide) (fun c_4 => ?_) (fun c_4 => ?_)
    · refine lv_bipush (v := 15) hx hb md_M_operate_19 (by decide) ?_
      exact J_5 15 ls (lv_sub hl [0, 1, 2, 3, 4, 5] rfl)
    · refine lv_bipush (v := 9) hx hb md_M_operate_14 (by decide) ?_
      refine lv_goto (tgt := 21) hx hb md_M_operate_16 (by decide) ?_
      exact J_5 9 ls (lv_sub hl [0, 1, 2, 3, 4, 5] rfl)
set_option maxHeartbeats 4000000 in
set_option maxRecDepth 100000 in
theorem mt_M_assign (l : Launch) (D : va_G) (cL : ClassId) (h0 q0 sz : Nat) (u : MT) (p0 : Int32) (p1 : Int32) (p2 : Int32) (p3 : Int32) (p4 : Int32) : Met l my_M_assign mw_M_assign ({ frames := 6, cells := 0, slots := 0, locals := 154 } : Room) (MPc D cL h0 q0 sz u [.int p0, .int p1, .int p2, .int p3, .int p4]) (MQi D cL h0 q0 (MA h0 q0 cL u sz) (fun (r : Int32) (v : MT) => True)) 0 0 (MA h0 q0 cL u sz) := by
  refine Met.ofW (cc := mc_M_assign) (maxL := 13) (ret := (some .int)) (by decide) rfl ?_
  intro p e s m args below meth c s₁ B hml hv
  obtain ⟨rfl, hsz, hP, hK, hD0⟩ := hv
  have hx := B.exec
  have hb := B.bytes
  have hr := B.returns
  have hts := atoms_spec (ws := mw_M_assign) B.pre
  have ht : ∀ w ∈ gw_tbl, w.before _ s = true := fun w h => hts w (List.mem_cons_of_mem _ h)
  have hown : s.vm.findClass "NumberProbeModel" = some m.cls := findClass_of_methodNamed B.named
  have hlocks := B.notSynchronized
  subst hsz
  have hD : va_D (MA h0 q0 cL u s.heap.size) (mWs h0 q0 cL u) := hD0.self (sz := s.heap.size)
  generalize hAe : MA h0 q0 cL u s.heap.size = A at hD ⊢
  have hA : ∀ q : Nat, s.heap.size ≤ q → A q := fun q h => by rw [← hAe]; exact Or.inr h
  have hS : va_S A s.heap s.heap [] := va_S.rf
  have hM : MWd D cL h0 q0 A u s.heap := ⟨hP, hD⟩
  have hl := lv_entry ([.ref h0, .int p0, .int p1, .int p2, .int p3, .int p4]) (n := 13) (Nat.le_of_ble_eq_true rfl)
  rw [lg_entry_eq]
  generalize (lg_sl ([.ref h0, .int p0, .int p1, .int p2, .int p3, .int p4]) ++ List.replicate (13 - (lg_sl ([.ref h0, .int p0, .int p1, .int p2, .int p3, .int p4])).length) Slot.unset).toArray = ls at hl ⊢
  have hl : lv_has ls 13 [(0, .ref h0), (1, .int p0), (2, .int p1), (3, .int p2), (4, .int p3), (5, .int p4)] := hl
  refine lv_iload_n hx hb md_M_assign_0 rfl (lv_at hl 1 rfl) ?_
  refine lv_iconst (v := 4) hx hb md_M_assign_1 (by decide) ?_
  refine vp_callSi (W.runS (As := [.int p0, .int 4]) (rest := []) ⟨hx, hb, hml, hown, hts⟩ (mt_M_in l p0 4) (va_cwS 2 hts (gd_S tm_359 tm_360 tm_25 tm_361) rfl rfl rfl (by decide +kernel) ⟨Nat.le_of_ble_eq_true rfl, Nat.le_of_ble_eq_true rfl⟩) ⟨fb_0, fun U hU hW => ⟨rfl, trivial⟩⟩ rfl rfl hl.1 rfl (lv_room (Nat.le_of_ble_eq_true rfl)) md_M_assign_2 ⟨Nat.zero_le _, Nat.zero_le _⟩) (fun r_1 e_2 => ?_)
  obtain rfl : r_1 = jb (rn_in p0 4) := e_2
  refine lv_if_eq (tgt := 44) hx hb md_M_assign_5 (by decide) (fun c_3 => ?_) (fun c_3 => ?_)
  · refine lv_iconst (v := (-1)) hx hb md_M_assign_44 (by decide) ?_
    exact W.iret (v := (-1)) hx hb hr (fun t ht2 _ => ⟨⟨(-1), u, rfl, trivial, by show MWd D cL h0 q0 A _ t.heap; rw [ht2]; exact hM⟩, hS.F ht2⟩) hS.2.2 md_M_assign_45
  · refine lv_iload_n hx hb md_M_assign_8 rfl (lv_at hl 2 rfl) ?_
    refine lv_bipush (v := 6) hx hb md_M_assign_9 (by decide) ?_
    refine vp_callSi (W.runS (As := [.int p1, .int 6]) (rest := []) ⟨hx, hb, hml, hown, hts⟩ (mt_M_in l p1 6) (va_cwS 2 hts (gd_S tm_359 tm_360 tm_25 tm_361) rfl rfl rfl (by decide +kernel) ⟨Nat.le_of_ble_eq_true rfl, Nat.le_of_ble_eq_true rfl⟩) ⟨fb_0, fun U hU hW => ⟨rfl, trivial⟩⟩ rfl rfl hl.1 rfl (lv_room (Nat.le_of_ble_eq_true rfl)) md_M_assign_11 ⟨Nat.zero_le _, Nat.zero_le _⟩) (fun r_4 e_5 => ?_)
    obtain rfl : r_4 = jb (rn_in p1 6) := e_5
    refine lv_if_eq (tgt := 44) hx hb md_M_assign_14 (by decide) (fun c_6 => ?_) (fun c_6 => ?_)
    · refine lv_iconst (v := (-1)) hx hb md_M_assign_44 (by decide) ?_
      exact W.iret (v := (-1)) hx hb hr (fun t ht2 _ => ⟨⟨(-1), u, rfl, trivial, by show MWd D cL h0 q0 A _ t.heap; rw [ht2]; exact hM⟩, hS.F ht2⟩) hS.2.2 md_M_assign_45
    · refine lv_iload_n hx hb md_M_assign_17 rfl (lv_at hl 3 rfl) ?_
      refine lv_iconst (v := 4) hx hb md_M_assign_18 (by decide) ?_
      refine vp_callSi (W.runS (As := [.int p2, .int 4]) (rest := []) ⟨hx, hb, hml, hown, hts⟩ (mt_M_in l p2 4) (va_cwS 2 hts (gd_S tm_359 tm_360 tm_25 tm_361) rfl rfl rfl (by decide +kernel) ⟨Nat.le_of_ble_eq_true rfl, Nat.le_of_ble_eq_true rfl⟩) ⟨fb_0, fun U hU hW => ⟨rfl, trivial⟩⟩ rfl rfl hl.1 rfl (lv_room (Nat.le_of_ble_eq_true rfl)) md_M_assign_19 ⟨Nat.zero_le _, Nat.zero_le _⟩) (fun r_7 e_8 => ?_)
      obtain rfl : r_7 = jb (rn_in p2 4) := e_8
      refine lv_if_eq (tgt := 44) hx hb md_M_assign_22 (by decide) (fun c_9 => ?_) (fun c_9 => ?_)
      · refine lv_iconst (v := (-1)) hx hb md_M_assign_44 (by decide) ?_
        exact W.iret (v := (-1)) hx hb hr (fun t ht2 _ => ⟨⟨(-1), u, rfl, trivial, by show MWd D cL h0 q0 A _ t.heap; rw [ht2]; exact hM⟩, hS.F ht2⟩) hS.2.2 md_M_assign_45
      · refine lv_iload hx hb md_M_assign_25 (lv_at hl 4 rfl) ?_
        refine lv_iconst (v := 4) hx hb md_M_assign_27 (by decide) ?_
        refine vp_callSi (W.runS (As := [.int p3, .int 4]) (rest := []) ⟨hx, hb, hml, hown, hts⟩ (mt_M_in l p3 4) (va_cwS 2 hts (gd_S tm_359 tm_360 tm_25 tm_361) rfl rfl rfl (by decide +kernel) ⟨Nat.le_of_ble_eq_true rfl, Nat.le_of_ble_eq_true rfl⟩) ⟨fb_0, fun U hU hW => ⟨rfl, trivial⟩⟩ rfl rfl hl.1 rfl (lv_room (Nat.le_of_ble_eq_true rfl)) md_M_assign_28 ⟨Nat.zero_le _, Nat.zero_le _⟩) (fun r_10 e_11 => ?_)
        obtain rfl : r_10 = jb (rn_in p3 4) := e_11
        refine lv_if_eq (tgt := 44) hx hb md_M_assign_31 (by decide) (fun c_12 => ?_) (fun c_12 => ?_)
        · refine lv_iconst (v := (-1)) hx hb md_M_assign_44 (by decide) ?_
          exact W.iret (v := (-1)) hx hb hr (fun t ht2 _ => ⟨⟨(-1), u, rfl, trivial, by show MWd D cL h0 q0 A _ t.heap; rw [ht2]; exact hM⟩, hS.F ht2⟩) hS.2.2 md_M_assign_45
        · refine lv_iload hx hb md_M_assign_34 (lv_at hl 5 rfl) ?_
          refine lv_bipush (v := 6) hx hb md_M_assign_36 (by decide) ?_
          refine vp_callSi (W.runS (As := [.int p4, .int 6]) (rest := []) ⟨hx, hb, hml, hown, hts⟩ (mt_M_in l p4 6) (va_cwS 2 hts (gd_S tm_359 tm_360 tm_25 tm_361) rfl rfl rfl (by decide +kernel) ⟨Nat.le_of_ble_eq_true rfl, Nat.le_of_ble_eq_true rfl⟩) ⟨fb_0, fun U hU hW => ⟨rfl, trivial⟩⟩ rfl rfl hl.1 rfl (lv_room (Nat.le_of_ble_eq_true rfl)) md_M_assign_38 ⟨Nat.zero_le _, Nat.zero_le _⟩) (fun r_13 e_14 => ?_)
          obtain rfl : r_13 = jb (rn_in p4 6) := e_14
          refine lv_if_ne (tgt := 46) hx hb md_M_assign_41 (by decide) (fun c_15 => ?_) (fun c_15 => ?_)
          · refine lv_iload_n hx hb md_M_assign_46 rfl (lv_at hl 1 rfl) ?_
            refine vp_callSi (W.runS (As := [.int p0]) (rest := []) ⟨hx, hb, hml, hown, hts⟩ (mt_M_rank l p0) (va_cwS 1 hts (gd_S tm_501 tm_502 tm_25 tm_503) rfl rfl rfl (by decide +kernel) ⟨Nat.le_of_ble_eq_true rfl, Nat.le_of_ble_eq_true rfl⟩) ⟨fb_0, fun U hU hW => ⟨rfl, trivial⟩⟩ rfl rfl hl.1 rfl (lv_room (Nat.le_of_ble_eq_true rfl)) md_M_assign_47 ⟨Nat.zero_le _, Nat.zero_le _⟩) (fun r_16 e_17 => ?_)
            refine lv_iload hx hb md_M_assign_50 (lv_at hl 4 rfl) ?_
            refine vp_callSi (W.runS (As := [.int p3]) (rest := [.int r_16]) ⟨hx, hb, hml, hown, hts⟩ (mt_M_rank l p3) (va_cwS 1 hts (gd_S tm_501 tm_502 tm_25 tm_503) rfl rfl rfl (by decide +kernel) ⟨Nat.le_of_ble_eq_true rfl, Nat.le_of_ble_eq_true rfl⟩) ⟨fb_0, fun U hU hW => ⟨rfl, trivial⟩⟩ rfl rfl hl.1 rfl (lv_room (Nat.le_of_ble_eq_true rfl)) md_M_assign_52 ⟨Nat.zero_le _, Nat.zero_le _⟩) (fun r_18 e_19 => ?_)
            have J_21 : ∀ (z_22 : Int32) (ls : Array Slot), lv_has ls 13 [(0, .ref h0), (1, .int p0), (2, .int p1), (3, .int p2), (4, .int p3), (5, .int p4)] → W p l e (headSpec mw_M_assign ({ frames := 6, cells := 0, slots := 0, locals := 154 } : Room)).room s m ([.ref h0, .int p0, .int p1, .int p2, .int p3, .int p4] : List Value).toArray below meth c s.heap [] 0 0 (MQ below (MQi D cL h0 q0 A (fun (r : Int32) (v : MT) => True)) ([.ref h0, .int p0, .int p1, .int p2, .int p3, .int p4] : List Value).toArray s 0 0 A) (F0 m 64 ls [.int z_22]) := by
              intro z_22 ls hl
              refine lv_istore (lv' := [(6, .int z_22), (0, .ref h0), (1, .int p0), (2, .int p1), (3, .int p2), (4, .int p3), (5, .int p4)]) hx hb md_M_assign_64 hl (by decide) rfl (fun ls hl => ?_)
              refine lv_aload_n hx hb md_M_assign_66 rfl (lv_at hl 1 rfl) ?_
              refine lv_iload_n hx hb md_M_assign_67 rfl (lv_at hl 2 rfl) ?_
              refine lv_aload_n hx hb md_M_assign_68 rfl (lv_at hl 1 rfl) ?_
              refine va_get (D := D) (ci := 1) (v := .ref q0) (C := "NumberProbeModel") (T := TM) (N := 12) hx hb ht inM hown hK hM.1 0 rfl rfl 0 (by decide) (ht _ tm_318) (fun _ h9 => h9) rfl md_M_assign_69 ?_
              refine lv_iload_n hx hb md_M_assign_72 rfl (lv_at hl 2 rfl) ?_
              refine lv_bipush (v := 6) hx hb md_M_assign_73 (by decide) ?_
              refine lv_imul hx hb md_M_assign_75 ?_
              refine lv_iload_n hx hb md_M_assign_76 rfl (lv_at hl 3 rfl) ?_
              refine lv_iadd hx hb md_M_assign_77 ?_
              refine va_lald (D := D) hx hb hK hM.1 1 0 rfl rfl (rn_idx (jb_n0.mp c_3) (jb_n0.mp c_6)) md_M_assign_78 ?_
              refine lv_iload hx hb md_M_assign_79 (lv_at hl 0 rfl) ?_
              refine m_calll (va_runV (C := "NumberProbeModel") (As := [.int p0, .long (u.2 ((p0 * 6) + p1).toNatClampNeg), .int z_22]) (rest := []) ⟨hx, hb, hml, hown, hts⟩ (mt_M_converted l D cL h0 q0 _ u p0 (u.2 ((p0 * 6) + p1).toNatClampNeg) z_22) (cwV 3 hts (gd_V tm_504 tm_506 tm_20 tm_25 tm_507) rfl rfl rfl (by decide +kernel) ⟨Nat.le_of_ble_eq_true rfl, Nat.le_of_ble_eq_true rfl⟩) (m_in (locs := []) hK hM) rfl rfl hl.1 rfl (lv_room (Nat.le_of_ble_eq_true rfl)) md_M_assign_81 ⟨Nat.zero_le _, Nat.zero_le _⟩) hM hS hA (fun r_23 u_25 H_26 L_27 e_24 hM hS => ?_)
              refine lv_lstore (lv' := [(7, .long r_23), (6, .int z_22), (0, .ref h0), (1, .int p0), (2, .int p1), (3, .int p2), (4, .int p3), (5, .int p4)]) hx hb md_M_assign_84 hl (by decide) rfl (fun ls hl => ?_)
              refine lv_aload_n hx hb md_M_assign_86 rfl (lv_at hl 2 rfl) ?_
              refine lv_iload hx hb md_M_assign_87 (lv_at hl 6 rfl) ?_
              refine lv_aload_n hx hb md_M_assign_89 rfl (lv_at hl 2 rfl) ?_
              refine va_get (D := D) (ci := 1) (v := .ref q0) (C := "NumberProbeModel") (T := TM) (N := 12) hx hb ht inM hown hK hM.1 0 rfl rfl 0 (by decide) (ht _ tm_318) (fun _ h9 => h9) rfl md_M_assign_90 ?_
              refine lv_iload hx hb md_M_assign_93 (lv_at hl 6 rfl) ?_
              refine lv_bipush (v := 6) hx hb md_M_assign_95 (by decide) ?_
              refine lv_imul hx hb md_M_assign_97 ?_
              refine lv_iload hx hb md_M_assign_98 (lv_at hl 7 rfl) ?_
              refine lv_iadd hx hb md_M_assign_100 ?_
              refine va_lald (D := D) hx hb hK hM.1 1 0 rfl rfl (rn_idx (jb_n0.mp c_12) (jb_n0.mp c_15)) md_M_assign_101 ?_
              refine lv_iload hx hb md_M_assign_102 (lv_at hl 1 rfl) ?_
              refine m_calll (va_runV (C := "NumberProbeModel") (As := [.int p3, .long (u_25.2 ((p3 * 6) + p4).toNatClampNeg), .int z_22]) (rest := []) ⟨hx, hb, hml, hown, hts⟩ (mt_M_converted l D cL h0 q0 _ u_25 p3 (u_25.2 ((p3 * 6) + p4).toNatClampNeg) z_22) (cwV 3 hts (gd_V tm_504 tm_506 tm_20 tm_25 tm_507) rfl rfl rfl (by decide +kernel) ⟨Nat.le_of_ble_eq_true rfl, Nat.le_of_ble_eq_true rfl⟩) (m_in (locs := L_27) hK hM) rfl rfl hl.1 rfl (lv_room (Nat.le_of_ble_eq_true rfl)) md_M_assign_104 ⟨Nat.zero_le _, Nat.zero_le _⟩) hM hS hA (fun r_28 u_30 H_31 L_32 e_29 hM hS => ?_)
              refine lv_lstore (lv' := [(9, .long r_28), (7, .long r_23), (6, .int z_22), (0, .ref h0), (1, .int p0), (2, .int p1), (3, .int p2), (4, .int p3), (5, .int p4)]) hx hb md_M_assign_107 hl (by decide) rfl (fun ls hl => ?_)
              refine lv_iload hx hb md_M_assign_109 (lv_at hl 2 rfl) ?_
              refine lv_iconst (v := 1) hx hb md_M_assign_111 (by decide) ?_
              refine lv_icmp_le (tgt := 130) hx hb md_M_assign_112 (by decide) (fun c_33 => ?_) (fun c_33 => ?_)
              · refine lv_iload hx hb md_M_assign_130 (lv_at hl 2 rfl) ?_
                refine lv_iconst (v := 2) hx hb md_M_assign_132 (by decide) ?_
                have J_44 : ∀ (z_45 : Int64) (u_46 : MT) (H_47 : Heap) (L_48 : List Loc) (ls : Array Slot), MWd D cL h0 q0 A u_46 H_47 → va_S A s.heap H_47 L_48 → lv_has ls 13 [(9, .long r_28), (7, .long r_23), (6, .int z_22), (0, .ref h0), (1, .int p0), (2, .int p1), (3, .int p2), (4, .int p3), (5, .int p4)] → W p l e (headSpec mw_M_assign ({ frames := 6, cells := 0, slots := 0, locals := 154 } : Room)).room s m ([.ref h0, .int p0, .int p1, .int p2, .int p3, .int p4] : List Value).toArray below meth c H_47 L_48 0 0 (MQ below (MQi D cL h0 q0 A (fun (r : Int32) (v : MT) => True)) ([.ref h0, .int p0, .int p1, .int p2, .int p3, .int p4] : List Value).toArray s 0 0 A) (F0 m 165 ls [.long z_45]) := by
                  intro z_45 u_46 H_47 L_48 ls hM hS hl
                  refine lv_lstore (lv' := [(11, .long z_45), (9, .long r_28), (7, .long r_23), (6, .int z_22), (0, .ref h0), (1, .int p0), (2, .int p1), (3, .int p2), (4, .int p3), (5, .int p4)]) hx hb md_M_assign_165 hl (by decide) rfl (fun ls hl => ?_)
                  refine lv_aload_n hx hb md_M_assign_167 rfl (lv_at hl 4 rfl) ?_
                  refine va_get (D := D) (ci := 1) (v := .ref q0) (C := "NumberProbeModel") (T := TM) (N := 12) hx hb ht inM hown hK hM.1 0 rfl rfl 0 (by decide) (ht _ tm_318) (fun _ h9 => h9) rfl md_M_assign_168 ?_
                  refine lv_iload_n hx hb md_M_assign_171 rfl (lv_at hl 5 rfl) ?_
                  refine lv_bipush (v := 6) hx hb md_M_assign_172 (by decide) ?_
                  refine lv_imul hx hb md_M_assign_174 ?_
                  refine lv_iload_n hx hb md_M_assign_175 rfl (lv_at hl 6 rfl) ?_
                  refine lv_iadd hx hb md_M_assign_176 ?_
                  refine lv_aload_n hx hb md_M_assign_177 rfl (lv_at hl 4 rfl) ?_
                  refine lv_iload hx hb md_M_assign_178 (lv_at hl 3 rfl) ?_
                  refine lv_lload hx hb md_M_assign_180 (lv_at hl 0 rfl) ?_
                  refine lv_iload_n hx hb md_M_assign_182 rfl (lv_at hl 5 rfl) ?_
                  refine m_calll (va_runV (C := "NumberProbeModel") (As := [.int z_22, .long z_45, .int p0]) (rest := [.int ((p0 * 6) + p1), .ref q0]) ⟨hx, hb, hml, hown, hts⟩ (mt_M_converted l D cL h0 q0 _ u_46 z_22 z_45 p0) (cwV 3 hts (gd_V tm_504 tm_506 tm_20 tm_25 tm_507) rfl rfl rfl (by decide +kernel) ⟨Nat.le_of_ble_eq_true rfl, Nat.le_of_ble_eq_true rfl⟩) (m_in (locs := L_48) hK hM) rfl rfl hl.1 rfl (lv_room (Nat.le_of_ble_eq_true rfl)) md_M_assign_183 ⟨Nat.zero_le _, Nat.zero_le _⟩) hM hS hA (fun r_49 u_51 H_52 L_53 e_50 hM hS => ?_)
                  refine m_ast hx hb hK hM hS (rn_idx (jb_n0.mp c_3) (jb_n0.mp c_6)) md_M_assign_186 (fun u_54 H_55 L_56 hM hS => ?_)
                  refine lv_iconst (v := 0) hx hb md_M_assign_187 (by decide) ?_
                  exact W.iret (v := 0) hx hb hr (fun t ht2 _ => ⟨⟨0, u_54, rfl, trivial, by show MWd D cL h0 q0 A _ t.heap; rw [ht2]; exact hM⟩, hS.F ht2⟩) hS.2.2 md_M_assign_188
                refine lv_icmp_ge (tgt := 150) hx hb md_M_assign_133 (by decide) (fun c_34 => ?_) (fun c_34 => ?_)
                · refine lv_iload hx hb md_M_assign_150 (lv_at hl 2 rfl) ?_
                  refine lv_iload hx hb md_M_assign_152 (lv_at hl 2 rfl) ?_
                  refine lv_iload_n hx hb md_M_assign_154 rfl (lv_at hl 6 rfl) ?_
                  refine lv_lload hx hb md_M_assign_155 (lv_at hl 1 rfl) ?_
                  refine lv_lload hx hb md_M_assign_157 (lv_at hl 0 rfl) ?_
                  refine vp_callSl (W.runS (As := [.int z_22, .int p2, .long r_23, .long r_28]) (rest := [.int z_22]) ⟨hx, hb, hml, hown, hts⟩ (mt_M_operateWhole l z_22 p2 r_23 r_28 (fun _ => (m_kd c_33 c_34).elim)) (va_cwS 4 hts (gd_S tm_494 tm_495 tm_25 tm_496) rfl rfl rfl (by decide +kernel) ⟨Nat.le_of_ble_eq_true rfl, Nat.le_of_ble_eq_true rfl⟩) ⟨fb_0, fun U hU hW => ⟨rfl, trivial⟩⟩ rfl rfl hl.1 rfl (lv_room (Nat.le_of_ble_eq_true rfl)) md_M_assign_159 ⟨Nat.zero_le _, Nat.zero_le _⟩) (fun r_57 e_58 => ?_)
                  refine vp_callSl (W.runS (As := [.int z_22, .long r_57]) (rest := []) ⟨hx, hb, hml, hown, hts⟩ (mt_M_normal l z_22 r_57) (va_cwS 2 hts (gd_S tm_362 tm_363 tm_25 tm_364) rfl rfl rfl (by decide +kernel) ⟨Nat.le_of_ble_eq_true rfl, Nat.le_of_ble_eq_true rfl⟩) ⟨fb_0, fun U hU hW => ⟨rfl, trivial⟩⟩ rfl rfl hl.1 rfl (lv_room (Nat.le_of_ble_eq_true rfl)) md_M_assign_162 ⟨Nat.zero_le _, Nat.zero_le _⟩) (fun r_59 e_60 => ?_)
                  exact J_44 r_59 _ _ _ ls hM hS (lv_sub hl [0, 1, 2, 3, 4, 5, 6, 7, 8] rfl)
                · refine lv_aload_n hx hb md_M_assign_136 rfl (lv_at hl 3 rfl) ?_
                  refine lv_iload hx hb md_M_assign_137 (lv_at hl 2 rfl) ?_
                  refine lv_iload_n hx hb md_M_assign_139 rfl (lv_at hl 6 rfl) ?_
                  refine lv_lload hx hb md_M_assign_140 (lv_at hl 1 rfl) ?_
                  refine lv_lload hx hb md_M_assign_142 (lv_at hl 0 rfl) ?_
                  refine m_calll (va_runV (C := "NumberProbeModel") (As := [.int z_22, .int p2, .long r_23, .long r_28]) (rest := []) ⟨hx, hb, hml, hown, hts⟩ (mt_M_operateReal l D cL h0 q0 _ u_30 z_22 p2 r_23 r_28) (cwV 4 hts (gd_V tm_443 tm_445 tm_11 tm_25 tm_446) rfl rfl rfl (by decide +kernel) ⟨Nat.le_of_ble_eq_true rfl, Nat.le_of_ble_eq_true rfl⟩) (m_in (locs := L_32) hK hM) rfl rfl hl.1 rfl (lv_room (Nat.le_of_ble_eq_true rfl)) md_M_assign_144 ⟨Nat.zero_le _, Nat.zero_le _⟩) hM hS hA (fun r_61 u_63 H_64 L_65 e_62 hM hS => ?_)
                  refine lv_goto (tgt := 165) hx hb md_M_assign_147 (by decide) ?_
                  exact J_44 r_61 _ _ _ ls hM hS (lv_sub hl [0, 1, 2, 3, 4, 5, 6, 7, 8] rfl)
              · refine lv_iload_n hx hb md_M_assign_115 rfl (lv_at hl 6 rfl) ?_
                refine lv_iconst (v := 3) hx hb md_M_assign_116 (by decide) ?_
                refine lv_icmp_ne (tgt := 130) hx hb md_M_assign_117 (by decide) (fun c_66 => ?_) (fun c_66 => ?_)
                · refine lv_iload hx hb md_M_assign_130 (lv_at hl 2 rfl) ?_
                  refine lv_iconst (v := 2) hx hb md_M_assign_132 (by decide) ?_
                  have J_77 : ∀ (z_78 : Int64) (u_79 : MT) (H_80 : Heap) (L_81 : List Loc) (ls : Array Slot), MWd D cL h0 q0 A u_79 H_80 → va_S A s.heap H_80 L_81 → lv_has ls 13 [(9, .long r_28), (7, .long r_23), (6, .int z_22), (0, .ref h0), (1, .int p0), (2, .int p1), (3, .int p2), (4, .int p3), (5, .int p4)] → W p l e (headSpec mw_M_assign ({ frames := 6, cells := 0, slots := 0, locals := 154 } : Room)).room s m ([.ref h0, .int p0, .int p1, .int p2, .int p3, .int p4] : List Value).toArray below meth c H_80 L_81 0 0 (MQ below (MQi D cL h0 q0 A (fun (r : Int32) (v : MT) => True)) ([.ref h0, .int p0, .int p1, .int p2, .int p3, .int p4] : List Value).toArray s 0 0 A) (F0 m 165 ls [.long z_78]) := by
                    intro z_78 u_79 H_80 L_81 ls hM hS hl
                    refine lv_lstore (lv' := [(11, .long z_78), (9, .long r_28), (7, .long r_23), (6, .int z_22), (0, .ref h0), (1, .int p0), (2, .int p1), (3, .int p2), (4, .int p3), (5, .int p4)]) hx hb md_M_assign_165 hl (by decide) rfl (fun ls hl => ?_)
                    refine lv_aload_n hx hb md_M_assign_167 rfl (lv_at hl 4 rfl) ?_
                    refine va_get (D := D) (ci := 1) (v := .ref q0) (C := "NumberProbeModel") (T := TM) (N := 12) hx hb ht inM hown hK hM.1 0 rfl rfl 0 (by decide) (ht _ tm_318) (fun _ h9 => h9) rfl md_M_assign_168 ?_
                    refine lv_iload_n hx hb md_M_assign_171 rfl (lv_at hl 5 rfl) ?_
                    refine lv_bipush (v := 6) hx hb md_M_assign_172 (by decide) ?_
                    refine lv_imul hx hb md_M_assign_174 ?_
                    refine lv_iload_n hx hb md_M_assign_175 rfl (lv_at hl 6 rfl) ?_
                    refine lv_iadd hx hb md_M_assign_176 ?_
                    refine lv_aload_n hx hb md_M_assign_177 rfl (lv_at hl 4 rfl) ?_
                    refine lv_iload hx hb md_M_assign_178 (lv_at hl 3 rfl) ?_
                    refine lv_lload hx hb md_M_assign_180 (lv_at hl 0 rfl) ?_
                    refine lv_iload_n hx hb md_M_assign_182 rfl (lv_at hl 5 rfl) ?_
                    refine m_calll (va_runV (C := "NumberProbeModel") (As := [.int z_22, .long z_78, .int p0]) (rest := [.int ((p0 * 6) + p1), .ref q0]) ⟨hx, hb, hml, hown, hts⟩ (mt_M_converted l D cL h0 q0 _ u_79 z_22 z_78 p0) (cwV 3 hts (gd_V tm_504 tm_506 tm_20 tm_25 tm_507) rfl rfl rfl (by decide +kernel) ⟨Nat.le_of_ble_eq_true rfl, Nat.le_of_ble_eq_true rfl⟩) (m_in (locs := L_81) hK hM) rfl rfl hl.1 rfl (lv_room (Nat.le_of_ble_eq_true rfl)) md_M_assign_183 ⟨Nat.zero_le _, Nat.zero_le _⟩) hM hS hA (fun r_82 u_84 H_85 L_86 e_83 hM hS => ?_)
                    refine m_ast hx hb hK hM hS (rn_idx (jb_n0.mp c_3) (jb_n0.mp c_6)) md_M_assign_186 (fun u_87 H_88 L_89 hM hS => ?_)
                    refine lv_iconst (v := 0) hx hb md_M_assign_187 (by decide) ?_
                    exact W.iret (v := 0) hx hb hr (fun t ht2 _ => ⟨⟨0, u_87, rfl, trivial, by show MWd D cL h0 q0 A _ t.heap; rw [ht2]; exact hM⟩, hS.F ht2⟩) hS.2.2 md_M_assign_188
                  refine lv_icmp_ge (tgt := 150) hx hb md_M_assign_133 (by decide) (fun c_67 => ?_) (fun c_67 => ?_)
                  · refine lv_iload hx hb md_M_assign_150 (lv_at hl 2 rfl) ?_
                    refine lv_iload hx hb md_M_assign_152 (lv_at hl 2 rfl) ?_
                    refine lv_iload_n hx hb md_M_assign_154 rfl (lv_at hl 6 rfl) ?_
                    refine lv_lload hx hb md_M_assign_155 (lv_at hl 1 rfl) ?_
                    refine lv_lload hx hb md_M_assign_157 (lv_at hl 0 rfl) ?_
                    refine vp_callSl (W.runS (As := [.int z_22, .int p2, .long r_23, .long r_28]) (rest := [.int z_22]) ⟨hx, hb, hml, hown, hts⟩ (mt_M_operateWhole l z_22 p2 r_23 r_28 (fun q => q.elim (fun a => absurd a c_66) (fun a => absurd a (rn_n4 (jb_n0.mp c_9))))) (va_cwS 4 hts (gd_S tm_494 tm_495 tm_25 tm_496) rfl rfl rfl (by decide +kernel) ⟨Nat.le_of_ble_eq_true rfl, Nat.le_of_ble_eq_true rfl⟩) ⟨fb_0, fun U hU hW => ⟨rfl, trivial⟩⟩ rfl rfl hl.1 rfl (lv_room (Nat.le_of_ble_eq_true rfl)) md_M_assign_159 ⟨Nat.zero_le _, Nat.zero_le _⟩) (fun r_90 e_91 => ?_)
                    refine vp_callSl (W.runS (As := [.int z_22, .long r_90]) (rest := []) ⟨hx, hb, hml, hown, hts⟩ (mt_M_normal l z_22 r_90) (va_cwS 2 hts (gd_S tm_362 tm_363 tm_25 tm_364) rfl rfl rfl (by decide +kernel) ⟨Nat.le_of_ble_eq_true rfl, Nat.le_of_ble_eq_true rfl⟩) ⟨fb_0, fun U hU hW => ⟨rfl, trivial⟩⟩ rfl rfl hl.1 rfl (lv_room (Nat.le_of_ble_eq_true rfl)) md_M_assign_162 ⟨Nat.zero_le _, Nat.zero_le _⟩) (fun r_92 e_93 => ?_)
                    exact J_77 r_92 _ _ _ ls hM hS (lv_sub hl [0, 1, 2, 3, 4, 5, 6, 7, 8] rfl)
                  · refine lv_aload_n hx hb md_M_assign_136 rfl (lv_at hl 3 rfl) ?_
                    refine lv_iload hx hb md_M_assign_137 (lv_at hl 2 rfl) ?_
                    refine lv_iload_n hx hb md_M_assign_139 rfl (lv_at hl 6 rfl) ?_
                    refine lv_lload hx hb md_M_assign_140 (lv_at hl 1 rfl) ?_
                    refine lv_lload hx hb md_M_assign_142 (lv_at hl 0 rfl) ?_
                    refine m_calll (va_runV (C := "NumberProbeModel") (As := [.int z_22, .int p2, .long r_23, .long r_28]) (rest := []) ⟨hx, hb, hml, hown, hts⟩ (mt_M_operateReal l D cL h0 q0 _ u_30 z_22 p2 r_23 r_28) (cwV 4 hts (gd_V tm_443 tm_445 tm_11 tm_25 tm_446) rfl rfl rfl (by decide +kernel) ⟨Nat.le_of_ble_eq_true rfl, Nat.le_of_ble_eq_true rfl⟩) (m_in (locs := L_32) hK hM) rfl rfl hl.1 rfl (lv_room (Nat.le_of_ble_eq_true rfl)) md_M_assign_144 ⟨Nat.zero_le _, Nat.zero_le _⟩) hM hS hA (fun r_94 u_96 H_97 L_98 e_95 hM hS => ?_)
                    refine lv_goto (tgt := 165) hx hb md_M_assign_147 (by decide) ?_
                    exact J_77 r_94 _ _ _ ls hM hS (lv_sub hl [0, 1, 2, 3, 4, 5, 6, 7, 8] rfl)
                · refine lv_lload hx hb md_M_assign_120 (lv_at hl 0 rfl) ?_
                  refine lv_lconst (v := 0) hx hb md_M_assign_122 (by decide) ?_
                  refine W.lcmp hx hb md_M_assign_123 ?_
                  refine lv_if_ne (tgt := 130) hx hb md_M_assign_124 (by decide) (fun c_99 => ?_) (fun c_99 => ?_)
                  · refine lv_iload hx hb md_M_assign_130 (lv_at hl 2 rfl) ?_
                    refine lv_iconst (v := 2) hx hb md_M_assign_132 (by decide) ?_
                    have J_110 : ∀ (z_111 : Int64) (u_112 : MT) (H_113 : Heap) (L_114 : List Loc) (ls : Array Slot), MWd D cL h0 q0 A u_112 H_113 → va_S A s.heap H_113 L_114 → lv_has ls 13 [(9, .long r_28), (7, .long r_23), (6, .int z_22), (0, .ref h0), (1, .int p0), (2, .int p1), (3, .int p2), (4, .int p3), (5, .int p4)] → W p l e (headSpec mw_M_assign ({ frames := 6, cells := 0, slots := 0, locals := 154 } : Room)).room s m ([.ref h0, .int p0, .int p1, .int p2, .int p3, .int p4] : List Value).toArray below meth c H_113 L_114 0 0 (MQ below (MQi D cL h0 q0 A (fun (r : Int32) (v : MT) => True)) ([.ref h0, .int p0, .int p1, .int p2, .int p3, .int p4] : List Value).toArray s 0 0 A) (F0 m 165 ls [.long z_111]) := by
                      intro z_111 u_112 H_113 L_114 ls hM hS hl
                      refine lv_lstore (lv' := [(11, .long z_111), (9, .long r_28), (7, .long r_23), (6, .int z_22), (0, .ref h0), (1, .int p0), (2, .int p1), (3, .int p2), (4, .int p3), (5, .int p4)]) hx hb md_M_assign_165 hl (by decide) rfl (fun ls hl => ?_)
                      refine lv_aload_n hx hb md_M_assign_167 rfl (lv_at hl 4 rfl) ?_
                      refine va_get (D := D) (ci := 1) (v := .ref q0) (C := "NumberProbeModel") (T := TM) (N := 12) hx hb ht inM hown hK hM.1 0 rfl rfl 0 (by decide) (ht _ tm_318) (fun _ h9 => h9) rfl md_M_assign_168 ?_
                      refine lv_iload_n hx hb md_M_assign_171 rfl (lv_at hl 5 rfl) ?_
                      refine lv_bipush (v := 6) hx hb md_M_assign_172 (by decide) ?_
                      refine lv_imul hx hb md_M_assign_174 ?_
                      refine lv_iload_n hx hb md_M_assign_175 rfl (lv_at hl 6 rfl) ?_
                      refine lv_iadd hx hb md_M_assign_176 ?_
                      refine lv_aload_n hx hb md_M_assign_177 rfl (lv_at hl 4 rfl) ?_
                      refine lv_iload hx hb md_M_assign_178 (lv_at hl 3 rfl) ?_
                      refine lv_lload hx hb md_M_assign_180 (lv_at hl 0 rfl) ?_
                      refine lv_iload_n hx hb md_M_assign_182 rfl (lv_at hl 5 rfl) ?_
                      refine m_calll (va_runV (C := "NumberProbeModel") (As := [.int z_22, .long z_111, .int p0]) (rest := [.int ((p0 * 6) + p1), .ref q0]) ⟨hx, hb, hml, hown, hts⟩ (mt_M_converted l D cL h0 q0 _ u_112 z_22 z_111 p0) (cwV 3 hts (gd_V tm_504 tm_506 tm_20 tm_25 tm_507) rfl rfl rfl (by decide +kernel) ⟨Nat.le_of_ble_eq_true rfl, Nat.le_of_ble_eq_true rfl⟩) (m_in (locs := L_114) hK hM) rfl rfl hl.1 rfl (lv_room (Nat.le_of_ble_eq_true rfl)) md_M_assign_183 ⟨Nat.zero_le _, Nat.zero_le _⟩) hM hS hA (fun r_115 u_117 H_118 L_119 e_116 hM hS => ?_)
                      refine m_ast hx hb hK hM hS (rn_idx (jb_n0.mp c_3) (jb_n0.mp c_6)) md_M_assign_186 (fun u_120 H_121 L_122 hM hS => ?_)
                      refine lv_iconst (v := 0) hx hb md_M_assign_187 (by decide) ?_
                      exact W.iret (v := 0) hx hb hr (fun t ht2 _ => ⟨⟨0, u_120, rfl, trivial, by show MWd D cL h0 q0 A _ t.heap; rw [ht2]; exact hM⟩, hS.F ht2⟩) hS.2.2 md_M_assign_188
                    refine lv_icmp_ge (tgt := 150) hx hb md_M_assign_133 (by decide) (fun c_100 => ?_) (fun c_100 => ?_)
                    · refine lv_iload hx hb md_M_assign_150 (lv_at hl 2 rfl) ?_
                      refine lv_iload hx hb md_M_assign_152 (lv_at hl 2 rfl) ?_
                      refine lv_iload_n hx hb md_M_assign_154 rfl (lv_at hl 6 rfl) ?_
                      refine lv_lload hx hb md_M_assign_155 (lv_at hl 1 rfl) ?_
                      refine lv_lload hx hb md_M_assign_157 (lv_at hl 0 rfl) ?_
                      refine vp_callSl (W.runS (As := [.int z_22, .int p2, .long r_23, .long r_28]) (rest := [.int z_22]) ⟨hx, hb, hml, hown, hts⟩ (mt_M_operateWhole l z_22 p2 r_23 r_28 (fun _ => (mt (lg_cmp_eq _ _).mpr c_99))) (va_cwS 4 hts (gd_S tm_494 tm_495 tm_25 tm_496) rfl rfl rfl (by decide +kernel) ⟨Nat.le_of_ble_eq_true rfl, Nat.le_of_ble_eq_true rfl⟩) ⟨fb_0, fun U hU hW => ⟨rfl, trivial⟩⟩ rfl rfl hl.1 rfl (lv_room (Nat.le_of_ble_eq_true rfl)) md_M_assign_159 ⟨Nat.zero_le _, Nat.zero_le _⟩) (fun r_123 e_124 => ?_)
                      refine vp_callSl (W.runS (As := [.int z_22, .long r_123]) (rest := []) ⟨hx, hb, hml, hown, hts⟩ (mt_M_normal l z_22 r_123) (va_cwS 2 hts (gd_S tm_362 tm_363 tm_25 tm_364) rfl rfl rfl (by decide +kernel) ⟨Nat.le_of_ble_eq_true rfl, Nat.le_of_ble_eq_true rfl⟩) ⟨fb_0, fun U hU hW => ⟨rfl, trivial⟩⟩ rfl rfl hl.1 rfl (lv_room (Nat.le_of_ble_eq_true rfl)) md_M_assign_162 ⟨Nat.zero_le _, Nat.zero_le _⟩) (fun r_125 e_126 => ?_)
                      exact J_110 r_125 _ _ _ ls hM hS (lv_sub hl [0, 1, 2, 3, 4, 5, 6, 7, 8] rfl)
                    · refine lv_aload_n hx hb md_M_assign_136 rfl (lv_at hl 3 rfl) ?_
                      refine lv_iload hx hb md_M_assign_137 (lv_at hl 2 rfl) ?_
                      refine lv_iload_n hx hb md_M_assign_139 rfl (lv_at hl 6 rfl) ?_
                      refine lv_lload hx hb md_M_assign_140 (lv_at hl 1 rfl) ?_
                      refine lv_lload hx hb md_M_assign_142 (lv_at hl 0 rfl) ?_
                      refine m_calll (va_runV (C := "NumberProbeModel") (As := [.int z_22, .int p2, .long r_23, .long r_28]) (rest := []) ⟨hx, hb, hml, hown, hts⟩ (mt_M_operateReal l D cL h0 q0 _ u_30 z_22 p2 r_23 r_28) (cwV 4 hts (gd_V tm_443 tm_445 tm_11 tm_25 tm_446) rfl rfl rfl (by decide +kernel) ⟨Nat.le_of_ble_eq_true rfl, Nat.le_of_ble_eq_true rfl⟩) (m_in (locs := L_32) hK hM) rfl rfl hl.1 rfl (lv_room (Nat.le_of_ble_eq_true rfl)) md_M_assign_144 ⟨Nat.zero_le _, Nat.zero_le _⟩) hM hS hA (fun r_127 u_129 H_130 L_131 e_128 hM hS => ?_)
                      refine lv_goto (tgt := 165) hx hb md_M_assign_147 (by decide) ?_
                      exact J_110 r_127 _ _ _ ls hM hS (lv_sub hl [0, 1, 2, 3, 4, 5, 6, 7, 8] rfl)
                  · refine lv_bipush (v := (-2)) hx hb md_M_assign_127 (by decide) ?_
                    exact W.iret (v := (-2)) hx hb hr (fun t ht2 _ => ⟨⟨(-2), u_30, rfl, trivial, by show MWd D cL h0 q0 A _ t.heap; rw [ht2]; exact hM⟩, hS.F ht2⟩) hS.2.2 md_M_assign_129
            refine lv_icmp_le (tgt := 62) hx hb md_M_assign_55 (by decide) (fun c_20 => ?_) (fun c_20 => ?_)
            · refine lv_iload hx hb md_M_assign_62 (lv_at hl 4 rfl) ?_
              exact J_21 p3 ls (lv_sub hl [0, 1, 2, 3, 4, 5] rfl)
            · refine lv_iload_n hx hb md_M_assign_58 rfl (lv_at hl 1 rfl) ?_
              refine lv_goto (tgt := 64) hx hb md_M_assign_59 (by decide) ?_
              exact J_21 p0 ls (lv_sub hl [0, 1, 2, 3, 4, 5] rfl)
          · refine lv_iconst (v := (-1)) hx hb md_M_assign_44 (by decide) ?_
            exact W.iret (v := (-1)) hx hb hr (fun t ht2 _ => ⟨⟨(-1), u, rfl, trivial, by show MWd D cL h0 q0 A _ t.heap; rw [ht2]; exact hM⟩, hS.F ht2⟩) hS.2.2 md_M_assign_45
set_option maxHeartbeats 4000000 in
set_option maxRecDepth 100000 in
theorem mt_M_narrow (l : Launch) (D : va_G) (cL : ClassId) (h0 q0 sz : Nat) (u : MT) (p0 : Int32) (p1 : Int32) (p2 : Int32) : Met l my_M_narrow mw_M_narrow ({ frames := 6, cells := 0, slots := 0, locals := 140 } : Room) (MPc D cL h0 q0 sz u [.int p0, .int p1, .int p2]) (MQi D cL h0 q0 (MA h0 q0 cL u sz) (fun (r : Int32) (v : MT) => True)) 0 0 (MA h0 q0 cL u sz) := by
  refine Met.ofW (cc := mc_M_narrow) (maxL := 5) (ret := (some .int)) (by decide) rfl ?_
  intro p e s m args below meth c s₁ B hml hv
  obtain ⟨rfl, hsz, hP, hK, hD0⟩ := hv
  have hx := B.exec
  have hb := B.bytes
  have hr := B.returns
  have hts := atoms_spec (ws := mw_M_narrow) B.pre
  have ht : ∀ w ∈ gw_tbl, w.before _ s = true := fun w h => hts w (List.mem_cons_of_mem _ h)
  have hown : s.vm.findClass "NumberProbeModel" = some m.cls := findClass_of_methodNamed B.named
  have hlocks := B.notSynchronized
  subst hsz
  have hD : va_D (MA h0 q0 cL u s.heap.size) (mWs h0 q0 cL u) := hD0.self (sz := s.heap.size)
  generalize hAe : MA h0 q0 cL u s.heap.size = A at hD ⊢
  have hA : ∀ q : Nat, s.heap.size ≤ q → A q := fun q h => by rw [← hAe]; exact Or.inr h
  have hS : va_S A s.heap s.heap [] := va_S.rf
  have hM : MWd D cL h0 q0 A u s.heap := ⟨hP, hD⟩
  have hl := lv_entry ([.ref h0, .int p0, .int p1, .int p2]) (n := 5) (Nat.le_of_ble_eq_true rfl)
  rw [lg_entry_eq]
  generalize (lg_sl ([.ref h0, .int p0, .int p1, .int p2]) ++ List.replicate (5 - (lg_sl ([.ref h0, .int p0, .int p1, .int p2])).length) Slot.unset).toArray = ls at hl ⊢
  have hl : lv_has ls 5 [(0, .ref h0), (1, .int p0), (2, .int p1), (3, .int p2)] := hl
  refine lv_iload_n hx hb md_M_narrow_0 rfl (lv_at hl 1 rfl) ?_
  refine lv_iconst (v := 4) hx hb md_M_narrow_1 (by decide) ?_
  refine vp_callSi (W.runS (As := [.int p0, .int 4]) (rest := []) ⟨hx, hb, hml, hown, hts⟩ (mt_M_in l p0 4) (va_cwS 2 hts (gd_S tm_359 tm_360 tm_25 tm_361) rfl rfl rfl (by decide +kernel) ⟨Nat.le_of_ble_eq_true rfl, Nat.le_of_ble_eq_true rfl⟩) ⟨fb_0, fun U hU hW => ⟨rfl, trivial⟩⟩ rfl rfl hl.1 rfl (lv_room (Nat.le_of_ble_eq_true rfl)) md_M_narrow_2 ⟨Nat.zero_le _, Nat.zero_le _⟩) (fun r_1 e_2 => ?_)
  obtain rfl : r_1 = jb (rn_in p0 4) := e_2
  refine lv_if_eq (tgt := 25) hx hb md_M_narrow_5 (by decide) (fun c_3 => ?_) (fun c_3 => ?_)
  · refine lv_iconst (v := 0) hx hb md_M_narrow_25 (by decide) ?_
    exact W.iret (v := 0) hx hb hr (fun t ht2 _ => ⟨⟨0, u, rfl, trivial, by show MWd D cL h0 q0 A _ t.heap; rw [ht2]; exact hM⟩, hS.F ht2⟩) hS.2.2 md_M_narrow_26
  · refine lv_iload_n hx hb md_M_narrow_8 rfl (lv_at hl 2 rfl) ?_
    refine lv_bipush (v := 6) hx hb md_M_narrow_9 (by decide) ?_
    refine vp_callSi (W.runS (As := [.int p1, .int 6]) (rest := []) ⟨hx, hb, hml, hown, hts⟩ (mt_M_in l p1 6) (va_cwS 2 hts (gd_S tm_359 tm_360 tm_25 tm_361) rfl rfl rfl (by decide +kernel) ⟨Nat.le_of_ble_eq_true rfl, Nat.le_of_ble_eq_true rfl⟩) ⟨fb_0, fun U hU hW => ⟨rfl, trivial⟩⟩ rfl rfl hl.1 rfl (lv_room (Nat.le_of_ble_eq_true rfl)) md_M_narrow_11 ⟨Nat.zero_le _, Nat.zero_le _⟩) (fun r_4 e_5 => ?_)
    obtain rfl : r_4 = jb (rn_in p1 6) := e_5
    refine lv_if_eq (tgt := 25) hx hb md_M_narrow_14 (by decide) (fun c_6 => ?_) (fun c_6 => ?_)
    · refine lv_iconst (v := 0) hx hb md_M_narrow_25 (by decide) ?_
      exact W.iret (v := 0) hx hb hr (fun t ht2 _ => ⟨⟨0, u, rfl, trivial, by show MWd D cL h0 q0 A _ t.heap; rw [ht2]; exact hM⟩, hS.F ht2⟩) hS.2.2 md_M_narrow_26
    · refine lv_iload_n hx hb md_M_narrow_17 rfl (lv_at hl 3 rfl) ?_
      refine lv_iconst (v := 4) hx hb md_M_narrow_18 (by decide) ?_
      refine vp_callSi (W.runS (As := [.int p2, .int 4]) (rest := []) ⟨hx, hb, hml, hown, hts⟩ (mt_M_in l p2 4) (va_cwS 2 hts (gd_S tm_359 tm_360 tm_25 tm_361) rfl rfl rfl (by decide +kernel) ⟨Nat.le_of_ble_eq_true rfl, Nat.le_of_ble_eq_true rfl⟩) ⟨fb_0, fun U hU hW => ⟨rfl, trivial⟩⟩ rfl rfl hl.1 rfl (lv_room (Nat.le_of_ble_eq_true rfl)) md_M_narrow_19 ⟨Nat.zero_le _, Nat.zero_le _⟩) (fun r_7 e_8 => ?_)
      obtain rfl : r_7 = jb (rn_in p2 4) := e_8
      refine lv_if_ne (tgt := 27) hx hb md_M_narrow_22 (by decide) (fun c_9 => ?_) (fun c_9 => ?_)
      · refine lv_aload_n hx hb md_M_narrow_27 rfl (lv_at hl 0 rfl) ?_
        refine lv_iload_n hx hb md_M_narrow_28 rfl (lv_at hl 1 rfl) ?_
        refine lv_aload_n hx hb md_M_narrow_29 rfl (lv_at hl 0 rfl) ?_
        refine va_get (D := D) (ci := 1) (v := .ref q0) (C := "NumberProbeModel") (T := TM) (N := 12) hx hb ht inM hown hK hM.1 0 rfl rfl 0 (by decide) (ht _ tm_318) (fun _ h9 => h9) rfl md_M_narrow_30 ?_
        refine lv_iload_n hx hb md_M_narrow_33 rfl (lv_at hl 1 rfl) ?_
        refine lv_bipush (v := 6) hx hb md_M_narrow_34 (by decide) ?_
        refine lv_imul hx hb md_M_narrow_36 ?_
        refine lv_iload_n hx hb md_M_narrow_37 rfl (lv_at hl 2 rfl) ?_
        refine lv_iadd hx hb md_M_narrow_38 ?_
        refine va_lald (D := D) hx hb hK hM.1 1 0 rfl rfl (rn_idx (jb_n0.mp c_3) (jb_n0.mp c_6)) md_M_narrow_39 ?_
        refine lv_iconst (v := 2) hx hb md_M_narrow_40 (by decide) ?_
        refine m_calll (va_runV (C := "NumberProbeModel") (As := [.int p0, .long (u.2 ((p0 * 6) + p1).toNatClampNeg), .int 2]) (rest := []) ⟨hx, hb, hml, hown, hts⟩ (mt_M_converted l D cL h0 q0 _ u p0 (u.2 ((p0 * 6) + p1).toNatClampNeg) 2) (cwV 3 hts (gd_V tm_504 tm_506 tm_20 tm_25 tm_507) rfl rfl rfl (by decide +kernel) ⟨Nat.le_of_ble_eq_true rfl, Nat.le_of_ble_eq_true rfl⟩) (m_in (locs := []) hK hM) rfl rfl hl.1 rfl (lv_room (Nat.le_of_ble_eq_true rfl)) md_M_narrow_41 ⟨Nat.zero_le _, Nat.zero_le _⟩) hM hS hA (fun r_10 u_12 H_13 L_14 e_11 hM hS => ?_)
        refine lv_l2i (v := r_10.toInt32) hx hb md_M_narrow_44 rfl ?_
        refine lv_istore (lv' := [(4, .int r_10.toInt32), (0, .ref h0), (1, .int p0), (2, .int p1), (3, .int p2)]) hx hb md_M_narrow_45 hl (by decide) rfl (fun ls hl => ?_)
        refine lv_iload_n hx hb md_M_narrow_47 rfl (lv_at hl 4 rfl) ?_
        have J_25 : ∀ (z_26 : Int32) (ls : Array Slot), lv_has ls 5 [(4, .int r_10.toInt32), (0, .ref h0), (1, .int p0), (2, .int p1), (3, .int p2)] → W p l e (headSpec mw_M_narrow ({ frames := 6, cells := 0, slots := 0, locals := 140 } : Room)).room s m ([.ref h0, .int p0, .int p1, .int p2] : List Value).toArray below meth c H_13 L_14 0 0 (MQ below (MQi D cL h0 q0 A (fun (r : Int32) (v : MT) => True)) ([.ref h0, .int p0, .int p1, .int p2] : List Value).toArray s 0 0 A) (F0 m 81 ls [.int z_26]) := by
          intro z_26 ls hl
          exact W.iret (v := z_26) hx hb hr (fun t ht2 _ => ⟨⟨z_26, u_12, rfl, trivial, by show MWd D cL h0 q0 A _ t.heap; rw [ht2]; exact hM⟩, hS.F ht2⟩) hS.2.2 md_M_narrow_81
        refine lv_if_ne (tgt := 57) hx hb md_M_narrow_48 (by decide) (fun c_15 => ?_) (fun c_15 => ?_)
        · refine lv_iload_n hx hb md_M_narrow_57 rfl (lv_at hl 4 rfl) ?_
          refine lv_iconst (v := 1) hx hb md_M_narrow_58 (by decide) ?_
          have J_31 : ∀ (z_32 : Int32) (ls : Array Slot), lv_has ls 5 [(4, .int r_10.toInt32), (0, .ref h0), (1, .int p0), (2, .int p1), (3, .int p2)] → W p l e (headSpec mw_M_narrow ({ frames := 6, cells := 0, slots := 0, locals := 140 } : Room)).room s m ([.ref h0, .int p0, .int p1, .int p2] : List Value).toArray below meth c H_13 L_14 0 0 (MQ below (MQi D cL h0 q0 A (fun (r : Int32) (v : MT) => True)) ([.ref h0, .int p0, .int p1, .int p2] : List Value).toArray s 0 0 A) (F0 m 81 ls [.int z_32]) := by
            intro z_32 ls hl
            exact J_25 z_32 ls (lv_sub hl [0, 1, 2, 3, 4] rfl)
          refine lv_icmp_ne (tgt := 68) hx hb md_M_narrow_59 (by decide) (fun c_27 => ?_) (fun c_27 => ?_)
          · refine lv_iload_n hx hb md_M_narrow_68 rfl (lv_at hl 4 rfl) ?_
            refine lv_iconst (v := 2) hx hb md_M_narrow_69 (by decide) ?_
            have J_34 : ∀ (z_35 : Int32) (ls : Array Slot), lv_has ls 5 [(4, .int r_10.toInt32), (0, .ref h0), (1, .int p0), (2, .int p1), (3, .int p2)] → W p l e (headSpec mw_M_narrow ({ frames := 6, cells := 0, slots := 0, locals := 140 } : Room)).room s m ([.ref h0, .int p0, .int p1, .int p2] : List Value).toArray below meth c H_13 L_14 0 0 (MQ below (MQi D cL h0 q0 A (fun (r : Int32) (v : MT) => True)) ([.ref h0, .int p0, .int p1, .int p2] : List Value).toArray s 0 0 A) (F0 m 81 ls [.int z_35]) := by
              intro z_35 ls hl
              exact J_31 z_35 ls (lv_sub hl [0, 1, 2, 3, 4] rfl)
            refine lv_icmp_ne (tgt := 79) hx hb md_M_narrow_70 (by decide) (fun c_33 => ?_) (fun c_33 => ?_)
            · refine lv_iload hx hb md_M_narrow_79 (lv_at hl 0 rfl) ?_
              exact J_34 r_10.toInt32 ls (lv_sub hl [0, 1, 2, 3, 4] rfl)
            · refine lv_iload hx hb md_M_narrow_73 (lv_at hl 0 rfl) ?_
              refine lv_i2s (v := r_10.toInt32.toInt16.toInt32) hx hb md_M_narrow_75 rfl ?_
              refine lv_goto (tgt := 81) hx hb md_M_narrow_76 (by decide) ?_
              exact J_34 r_10.toInt32.toInt16.toInt32 ls (lv_sub hl [0, 1, 2, 3, 4] rfl)
          · refine lv_iload hx hb md_M_narrow_62 (lv_at hl 0 rfl) ?_
            refine lv_i2c (v := (r_10.toInt32.toUInt32 % 65536).toInt32) hx hb md_M_narrow_64 rfl ?_
            refine lv_goto (tgt := 81) hx hb md_M_narrow_65 (by decide) ?_
            exact J_31 ((r_10.toInt32.toUInt32 % 65536).toInt32) ls (lv_sub hl [0, 1, 2, 3, 4] rfl)
        · refine lv_iload hx hb md_M_narrow_51 (lv_at hl 0 rfl) ?_
          refine lv_i2b (v := r_10.toInt32.toInt8.toInt32) hx hb md_M_narrow_53 rfl ?_
          refine lv_goto (tgt := 81) hx hb md_M_narrow_54 (by decide) ?_
          exact J_25 r_10.toInt32.toInt8.toInt32 ls (lv_sub hl [0, 1, 2, 3, 4] rfl)
      · refine lv_iconst (v := 0) hx hb md_M_narrow_25 (by decide) ?_
        exact W.iret (v := 0) hx hb hr (fun t ht2 _ => ⟨⟨0, u, rfl, trivial, by show MWd D cL h0 q0 A _ t.heap; rw [ht2]; exact hM⟩, hS.F ht2⟩) hS.2.2 md_M_narrow_26
set_option maxHeartbeats 4000000 in
set_option maxRecDepth 100000 in
theorem mt_M_compare (l : Launch) (D : va_G) (cL : ClassId) (h0 q0 sz : Nat) (u : MT) (p0 : Int32) (p1 : Int32) (p2 : Int32) : Met l my_M_compare mw_M_compare ({ frames := 5, cells := 0, slots := 0, locals := 108 } : Room) (MPc D cL h0 q0 sz u [.int p0, .int p1, .int p2]) (MQi D cL h0 q0 (MA h0 q0 cL u sz) (fun (r : Int32) (v : MT) => True)) 0 0 (MA h0 q0 cL u sz) := by
  refine Met.ofW (cc := mc_M_compare) (maxL := 8) (ret := (some .int)) (by decide) rfl ?_
  intro p e s m args below meth c s₁ B hml hv
  obtain ⟨rfl, hsz, hP, hK, hD0⟩ := hv
  have hx := B.exec
  have hb := B.bytes
  have hr := B.returns
  have hts := atoms_spec (ws := mw_M_compare) B.pre
  have ht : ∀ w ∈ gw_tbl, w.before _ s = true := fun w h => hts w (List.mem_cons_of_mem _ h)
  have hown : s.vm.findClass "NumberProbeModel" = some m.cls := findClass_of_methodNamed B.named
  have hlocks := B.notSynchronized
  subst hsz
  have hD : va_D (MA h0 q0 cL u s.heap.size) (mWs h0 q0 cL u) := hD0.self (sz := s.heap.size)
  generalize hAe : MA h0 q0 cL u s.heap.size = A at hD ⊢
  have hA : ∀ q : Nat, s.heap.size ≤ q → A q := fun q h => by rw [← hAe]; exact Or.inr h
  have hS : va_S A s.heap s.heap [] := va_S.rf
  have hM : MWd D cL h0 q0 A u s.heap := ⟨hP, hD⟩
  have hl := lv_entry ([.ref h0, .int p0, .int p1, .int p2]) (n := 8) (Nat.le_of_ble_eq_true rfl)
  rw [lg_entry_eq]
  generalize (lg_sl ([.ref h0, .int p0, .int p1, .int p2]) ++ List.replicate (8 - (lg_sl ([.ref h0, .int p0, .int p1, .int p2])).length) Slot.unset).toArray = ls at hl ⊢
  have hl : lv_has ls 8 [(0, .ref h0), (1, .int p0), (2, .int p1), (3, .int p2)] := hl
  refine lv_iload_n hx hb md_M_compare_0 rfl (lv_at hl 1 rfl) ?_
  refine lv_iconst (v := 4) hx hb md_M_compare_1 (by decide) ?_
  refine vp_callSi (W.runS (As := [.int p0, .int 4]) (rest := []) ⟨hx, hb, hml, hown, hts⟩ (mt_M_in l p0 4) (va_cwS 2 hts (gd_S tm_359 tm_360 tm_25 tm_361) rfl rfl rfl (by decide +kernel) ⟨Nat.le_of_ble_eq_true rfl, Nat.le_of_ble_eq_true rfl⟩) ⟨fb_0, fun U hU hW => ⟨rfl, trivial⟩⟩ rfl rfl hl.1 rfl (lv_room (Nat.le_of_ble_eq_true rfl)) md_M_compare_2 ⟨Nat.zero_le _, Nat.zero_le _⟩) (fun r_1 e_2 => ?_)
  obtain rfl : r_1 = jb (rn_in p0 4) := e_2
  refine lv_if_eq (tgt := 26) hx hb md_M_compare_5 (by decide) (fun c_3 => ?_) (fun c_3 => ?_)
  · refine lv_iconst (v := (-1)) hx hb md_M_compare_26 (by decide) ?_
    exact W.iret (v := (-1)) hx hb hr (fun t ht2 _ => ⟨⟨(-1), u, rfl, trivial, by show MWd D cL h0 q0 A _ t.heap; rw [ht2]; exact hM⟩, hS.F ht2⟩) hS.2.2 md_M_compare_27
  · refine lv_iload_n hx hb md_M_compare_8 rfl (lv_at hl 2 rfl) ?_
    refine lv_bipush (v := 6) hx hb md_M_compare_9 (by decide) ?_
    refine vp_callSi (W.runS (As := [.int p1, .int 6]) (rest := []) ⟨hx, hb, hml, hown, hts⟩ (mt_M_in l p1 6) (va_cwS 2 hts (gd_S tm_359 tm_360 tm_25 tm_361) rfl rfl rfl (by decide +kernel) ⟨Nat.le_of_ble_eq_true rfl, Nat.le_of_ble_eq_true rfl⟩) ⟨fb_0, fun U hU hW => ⟨rfl, trivial⟩⟩ rfl rfl hl.1 rfl (lv_room (Nat.le_of_ble_eq_true rfl)) md_M_compare_11 ⟨Nat.zero_le _, Nat.zero_le _⟩) (fun r_4 e_5 => ?_)
    obtain rfl : r_4 = jb (rn_in p1 6) := e_5
    refine lv_if_eq (tgt := 26) hx hb md_M_compare_14 (by decide) (fun c_6 => ?_) (fun c_6 => ?_)
    · refine lv_iconst (v := (-1)) hx hb md_M_compare_26 (by decide) ?_
      exact W.iret (v := (-1)) hx hb hr (fun t ht2 _ => ⟨⟨(-1), u, rfl, trivial, by show MWd D cL h0 q0 A _ t.heap; rw [ht2]; exact hM⟩, hS.F ht2⟩) hS.2.2 md_M_compare_27
    · refine lv_iload_n hx hb md_M_compare_17 rfl (lv_at hl 3 rfl) ?_
      refine lv_bipush (v := 6) hx hb md_M_compare_18 (by decide) ?_
      refine vp_callSi (W.runS (As := [.int p2, .int 6]) (rest := []) ⟨hx, hb, hml, hown, hts⟩ (mt_M_in l p2 6) (va_cwS 2 hts (gd_S tm_359 tm_360 tm_25 tm_361) rfl rfl rfl (by decide +kernel) ⟨Nat.le_of_ble_eq_true rfl, Nat.le_of_ble_eq_true rfl⟩) ⟨fb_0, fun U hU hW => ⟨rfl, trivial⟩⟩ rfl rfl hl.1 rfl (lv_room (Nat.le_of_ble_eq_true rfl)) md_M_compare_20 ⟨Nat.zero_le _, Nat.zero_le _⟩) (fun r_7 e_8 => ?_)
      obtain rfl : r_7 = jb (rn_in p2 6) := e_8
      refine lv_if_ne (tgt := 28) hx hb md_M_compare_23 (by decide) (fun c_9 => ?_) (fun c_9 => ?_)
      · refine lv_aload_n hx hb md_M_compare_28 rfl (lv_at hl 0 rfl) ?_
        refine lv_iload_n hx hb md_M_compare_29 rfl (lv_at hl 1 rfl) ?_
        refine lv_iload_n hx hb md_M_compare_30 rfl (lv_at hl 2 rfl) ?_
        refine m_calll (va_runV (C := "NumberProbeModel") (As := [.int p0, .int p1]) (rest := []) ⟨hx, hb, hml, hown, hts⟩ (mt_M_placeOf l D cL h0 q0 _ u p0 p1 (jb_n0.mp c_3) (jb_n0.mp c_6)) (cwV 2 hts (gd_V tm_527 tm_529 tm_22 tm_25 tm_530) rfl rfl rfl (by decide +kernel) ⟨Nat.le_of_ble_eq_true rfl, Nat.le_of_ble_eq_true rfl⟩) (m_in (locs := []) hK hM) rfl rfl hl.1 rfl (lv_room (Nat.le_of_ble_eq_true rfl)) md_M_compare_31 ⟨Nat.zero_le _, Nat.zero_le _⟩) hM hS hA (fun r_10 u_12 H_13 L_14 e_11 hM hS => ?_)
        refine lv_lstore (lv' := [(4, .long r_10), (0, .ref h0), (1, .int p0), (2, .int p1), (3, .int p2)]) hx hb md_M_compare_34 hl (by decide) rfl (fun ls hl => ?_)
        refine lv_aload_n hx hb md_M_compare_36 rfl (lv_at hl 1 rfl) ?_
        refine lv_iload_n hx hb md_M_compare_37 rfl (lv_at hl 2 rfl) ?_
        refine lv_iload_n hx hb md_M_compare_38 rfl (lv_at hl 4 rfl) ?_
        refine m_calll (va_runV (C := "NumberProbeModel") (As := [.int p0, .int p2]) (rest := []) ⟨hx, hb, hml, hown, hts⟩ (mt_M_placeOf l D cL h0 q0 _ u_12 p0 p2 (jb_n0.mp c_3) (jb_n0.mp c_9)) (cwV 2 hts (gd_V tm_527 tm_529 tm_22 tm_25 tm_530) rfl rfl rfl (by decide +kernel) ⟨Nat.le_of_ble_eq_true rfl, Nat.le_of_ble_eq_true rfl⟩) (m_in (locs := L_14) hK hM) rfl rfl hl.1 rfl (lv_room (Nat.le_of_ble_eq_true rfl)) md_M_compare_39 ⟨Nat.zero_le _, Nat.zero_le _⟩) hM hS hA (fun r_15 u_17 H_18 L_19 e_16 hM hS => ?_)
        refine lv_lstore (lv' := [(6, .long r_15), (4, .long r_10), (0, .ref h0), (1, .int p0), (2, .int p1), (3, .int p2)]) hx hb md_M_compare_42 hl (by decide) rfl (fun ls hl => ?_)
        refine lv_iload_n hx hb md_M_compare_44 rfl (lv_at hl 3 rfl) ?_
        refine lv_iconst (v := 2) hx hb md_M_compare_45 (by decide) ?_
        refine lv_icmp_ge (tgt := 89) hx hb md_M_compare_46 (by decide) (fun c_20 => ?_) (fun c_20 => ?_)
        · refine lv_iload_n hx hb md_M_compare_89 rfl (lv_at hl 3 rfl) ?_
          refine lv_iconst (v := 2) hx hb md_M_compare_90 (by decide) ?_
          have J_25 : ∀ (z_26 : Int64) (ls : Array Slot), lv_has ls 8 [(6, .long r_15), (4, .long z_26), (0, .ref h0), (1, .int p0), (2, .int p1), (3, .int p2)] → W p l e (headSpec mw_M_compare ({ frames := 5, cells := 0, slots := 0, locals := 108 } : Room)).room s m ([.ref h0, .int p0, .int p1, .int p2] : List Value).toArray below meth c H_18 L_19 0 0 (MQ below (MQi D cL h0 q0 A (fun (r : Int32) (v : MT) => True)) ([.ref h0, .int p0, .int p1, .int p2] : List Value).toArray s 0 0 A) (F0 m 106 ls []) := by
            intro z_26 ls hl
            refine lv_iload_n hx hb md_M_compare_106 rfl (lv_at hl 3 rfl) ?_
            refine lv_iconst (v := 2) hx hb md_M_compare_107 (by decide) ?_
            have J_31 : ∀ (z_32 : Int64) (ls : Array Slot), lv_has ls 8 [(6, .long z_32), (4, .long z_26), (0, .ref h0), (1, .int p0), (2, .int p1), (3, .int p2)] → W p l e (headSpec mw_M_compare ({ frames := 5, cells := 0, slots := 0, locals := 108 } : Room)).room s m ([.ref h0, .int p0, .int p1, .int p2] : List Value).toArray below meth c H_18 L_19 0 0 (MQ below (MQi D cL h0 q0 A (fun (r : Int32) (v : MT) => True)) ([.ref h0, .int p0, .int p1, .int p2] : List Value).toArray s 0 0 A) (F0 m 123 ls []) := by
              intro z_32 ls hl
              refine lv_lload hx hb md_M_compare_123 (lv_at hl 1 rfl) ?_
              refine lv_lload hx hb md_M_compare_125 (lv_at hl 0 rfl) ?_
              refine W.lcmp hx hb md_M_compare_127 ?_
              have J_37 : ∀ (z_38 : Int32) (ls : Array Slot), lv_has ls 8 [(6, .long z_32), (4, .long z_26), (0, .ref h0), (1, .int p0), (2, .int p1), (3, .int p2)] → W p l e (headSpec mw_M_compare ({ frames := 5, cells := 0, slots := 0, locals := 108 } : Room)).room s m ([.ref h0, .int p0, .int p1, .int p2] : List Value).toArray below meth c H_18 L_19 0 0 (MQ below (MQi D cL h0 q0 A (fun (r : Int32) (v : MT) => True)) ([.ref h0, .int p0, .int p1, .int p2] : List Value).toArray s 0 0 A) (F0 m 152 ls [.int z_38]) := by
                intro z_38 ls hl
                exact W.iret (v := z_38) hx hb hr (fun t ht2 _ => ⟨⟨z_38, u_17, rfl, trivial, by show MWd D cL h0 q0 A _ t.heap; rw [ht2]; exact hM⟩, hS.F ht2⟩) hS.2.2 md_M_compare_152
              refine lv_if_ge (tgt := 137) hx hb md_M_compare_128 (by decide) (fun c_33 => ?_) (fun c_33 => ?_)
              · refine lv_lload hx hb md_M_compare_137 (lv_at hl 1 rfl) ?_
                refine lv_lload hx hb md_M_compare_139 (lv_at hl 0 rfl) ?_
                refine W.lcmp hx hb md_M_compare_141 ?_
                have J_40 : ∀ (z_41 : Int32) (ls : Array Slot), lv_has ls 8 [(6, .long z_32), (4, .long z_26), (0, .ref h0), (1, .int p0), (2, .int p1), (3, .int p2)] → W p l e (headSpec mw_M_compare ({ frames := 5, cells := 0, slots := 0, locals := 108 } : Room)).room s m ([.ref h0, .int p0, .int p1, .int p2] : List Value).toArray below meth c H_18 L_19 0 0 (MQ below (MQi D cL h0 q0 A (fun (r : Int32) (v : MT) => True)) ([.ref h0, .int p0, .int p1, .int p2] : List Value).toArray s 0 0 A) (F0 m 152 ls [.int z_41]) := by
                  intro z_41 ls hl
                  exact J_37 z_41 ls (lv_sub hl [0, 1, 2, 3, 4, 5] rfl)
                refine lv_if_le (tgt := 150) hx hb md_M_compare_142 (by decide) (fun c_39 => ?_) (fun c_39 => ?_)
                · refine lv_bipush (v := 90) hx hb md_M_compare_150 (by decide) ?_
                  exact J_40 90 ls (lv_sub hl [0, 1, 2, 3, 4, 5] rfl)
                · refine lv_bipush (v := 108) hx hb md_M_compare_145 (by decide) ?_
                  refine lv_goto (tgt := 152) hx hb md_M_compare_147 (by decide) ?_
                  exact J_40 108 ls (lv_sub hl [0, 1, 2, 3, 4, 5] rfl)
              · refine lv_sipush (v := 163) hx hb md_M_compare_131 (by decide) ?_
                refine lv_goto (tgt := 152) hx hb md_M_compare_134 (by decide) ?_
                exact J_37 163 ls (lv_sub hl [0, 1, 2, 3, 4, 5] rfl)
            refine lv_icmp_ge (tgt := 123) hx hb md_M_compare_108 (by decide) (fun c_27 => ?_) (fun c_27 => ?_)
            · exact J_31 r_15 ls (lv_sub hl [0, 1, 2, 3, 4, 5] rfl)
            · refine lv_lload hx hb md_M_compare_111 (lv_at hl 0 rfl) ?_
              refine lv_ldc2 (v := (-1)) hx hb hown (ht _ tm_421) md_M_compare_113 ?_
              refine W.lcmp hx hb md_M_compare_116 ?_
              have J_43 : ∀ (z_44 : Int64) (ls : Array Slot), lv_has ls 8 [(6, .long z_44), (4, .long z_26), (0, .ref h0), (1, .int p0), (2, .int p1), (3, .int p2)] → W p l e (headSpec mw_M_compare ({ frames := 5, cells := 0, slots := 0, locals := 108 } : Room)).room s m ([.ref h0, .int p0, .int p1, .int p2] : List Value).toArray below meth c H_18 L_19 0 0 (MQ below (MQi D cL h0 q0 A (fun (r : Int32) (v : MT) => True)) ([.ref h0, .int p0, .int p1, .int p2] : List Value).toArray s 0 0 A) (F0 m 123 ls []) := by
                intro z_44 ls hl
                exact J_31 z_44 ls (lv_sub hl [0, 1, 2, 3, 4, 5] rfl)
              refine lv_if_ne (tgt := 123) hx hb md_M_compare_117 (by decide) (fun c_42 => ?_) (fun c_42 => ?_)
              · exact J_43 r_15 ls (lv_sub hl [0, 1, 2, 3, 4, 5] rfl)
              · refine lv_lconst (v := 0) hx hb md_M_compare_120 (by decide) ?_
                refine lv_lstore (lv' := [(6, .long 0), (4, .long z_26), (0, .ref h0), (1, .int p0), (2, .int p1), (3, .int p2)]) hx hb md_M_compare_121 hl (by decide) rfl (fun ls hl => ?_)
                exact J_43 0 ls (lv_sub hl [0, 1, 2, 3, 4, 5] rfl)
          refine lv_icmp_ge (tgt := 106) hx hb md_M_compare_91 (by decide) (fun c_21 => ?_) (fun c_21 => ?_)
          · exact J_25 r_10 ls (lv_sub hl [0, 1, 2, 3, 4, 5] rfl)
          · refine lv_lload hx hb md_M_compare_94 (lv_at hl 1 rfl) ?_
            refine lv_ldc2 (v := (-1)) hx hb hown (ht _ tm_421) md_M_compare_96 ?_
            refine W.lcmp hx hb md_M_compare_99 ?_
            have J_46 : ∀ (z_47 : Int64) (ls : Array Slot), lv_has ls 8 [(6, .long r_15), (4, .long z_47), (0, .ref h0), (1, .int p0), (2, .int p1), (3, .int p2)] → W p l e (headSpec mw_M_compare ({ frames := 5, cells := 0, slots := 0, locals := 108 } : Room)).room s m ([.ref h0, .int p0, .int p1, .int p2] : List Value).toArray below meth c H_18 L_19 0 0 (MQ below (MQi D cL h0 q0 A (fun (r : Int32) (v : MT) => True)) ([.ref h0, .int p0, .int p1, .int p2] : List Value).toArray s 0 0 A) (F0 m 106 ls []) := by
              intro z_47 ls hl
              exact J_25 z_47 ls (lv_sub hl [0, 1, 2, 3, 4, 5] rfl)
            refine lv_if_ne (tgt := 106) hx hb md_M_compare_100 (by decide) (fun c_45 => ?_) (fun c_45 => ?_)
            · exact J_46 r_10 ls (lv_sub hl [0, 1, 2, 3, 4, 5] rfl)
            · refine lv_lconst (v := 0) hx hb md_M_compare_103 (by decide) ?_
              refine lv_lstore (lv' := [(4, .long 0), (6, .long r_15), (0, .ref h0), (1, .int p0), (2, .int p1), (3, .int p2)]) hx hb md_M_compare_104 hl (by decide) rfl (fun ls hl => ?_)
              exact J_46 0 ls (lv_sub hl [1, 0, 2, 3, 4, 5] rfl)
        · refine lv_iload_n hx hb md_M_compare_49 rfl (lv_at hl 3 rfl) ?_
          refine lv_aload_n hx hb md_M_compare_50 rfl (lv_at hl 2 rfl) ?_
          refine va_get (D := D) (ci := 1) (v := .ref q0) (C := "NumberProbeModel") (T := TM) (N := 12) hx hb ht inM hown hK hM.1 0 rfl rfl 0 (by decide) (ht _ tm_318) (fun _ h9 => h9) rfl md_M_compare_51 ?_
          refine lv_iload_n hx hb md_M_compare_54 rfl (lv_at hl 3 rfl) ?_
          refine lv_bipush (v := 6) hx hb md_M_compare_55 (by decide) ?_
          refine lv_imul hx hb md_M_compare_57 ?_
          refine lv_iload_n hx hb md_M_compare_58 rfl (lv_at hl 4 rfl) ?_
          refine lv_iadd hx hb md_M_compare_59 ?_
          refine va_lald (D := D) hx hb hK hM.1 1 0 rfl rfl (rn_idx (jb_n0.mp c_3) (jb_n0.mp c_6)) md_M_compare_60 ?_
          refine vp_callSi (W.runS (As := [.int p0, .long (u_17.2 ((p0 * 6) + p1).toNatClampNeg)]) (rest := []) ⟨hx, hb, hml, hown, hts⟩ (mt_M_isNan l p0 (u_17.2 ((p0 * 6) + p1).toNatClampNeg)) (va_cwS 2 hts (gd_S tm_366 tm_367 tm_25 tm_368) rfl rfl rfl (by decide +kernel) ⟨Nat.le_of_ble_eq_true rfl, Nat.le_of_ble_eq_true rfl⟩) ⟨fb_0, fun U hU hW => ⟨rfl, trivial⟩⟩ rfl rfl hl.1 rfl (lv_room (Nat.le_of_ble_eq_true rfl)) md_M_compare_61 ⟨Nat.zero_le _, Nat.zero_le _⟩) (fun r_48 e_49 => ?_)
          obtain rfl : r_48 = jb (rf_isN p0 (u_17.2 ((p0 * 6) + p1).toNatClampNeg)) := e_49
          refine lv_if_ne (tgt := 85) hx hb md_M_compare_64 (by decide) (fun c_50 => ?_) (fun c_50 => ?_)
          · refine lv_sipush (v := 224) hx hb md_M_compare_85 (by decide) ?_
            exact W.iret (v := 224) hx hb hr (fun t ht2 _ => ⟨⟨224, u_17, rfl, trivial, by show MWd D cL h0 q0 A _ t.heap; rw [ht2]; exact hM⟩, hS.F ht2⟩) hS.2.2 md_M_compare_88
          · refine lv_iload_n hx hb md_M_compare_67 rfl (lv_at hl 3 rfl) ?_
            refine lv_aload_n hx hb md_M_compare_68 rfl (lv_at hl 2 rfl) ?_
            refine va_get (D := D) (ci := 1) (v := .ref q0) (C := "NumberProbeModel") (T := TM) (N := 12) hx hb ht inM hown hK hM.1 0 rfl rfl 0 (by decide) (ht _ tm_318) (fun _ h9 => h9) rfl md_M_compare_69 ?_
            refine lv_iload_n hx hb md_M_compare_72 rfl (lv_at hl 3 rfl) ?_
            refine lv_bipush (v := 6) hx hb md_M_compare_73 (by decide) ?_
            refine lv_imul hx hb md_M_compare_75 ?_
            refine lv_iload_n hx hb md_M_compare_76 rfl (lv_at hl 5 rfl) ?_
            refine lv_iadd hx hb md_M_compare_77 ?_
            refine va_lald (D := D) hx hb hK hM.1 1 0 rfl rfl (rn_idx (jb_n0.mp c_3) (jb_n0.mp c_9)) md_M_compare_78 ?_
            refine vp_callSi (W.runS (As := [.int p0, .long (u_17.2 ((p0 * 6) + p2).toNatClampNeg)]) (rest := []) ⟨hx, hb, hml, hown, hts⟩ (mt_M_isNan l p0 (u_17.2 ((p0 * 6) + p2).toNatClampNeg)) (va_cwS 2 hts (gd_S tm_366 tm_367 tm_25 tm_368) rfl rfl rfl (by decide +kernel) ⟨Nat.le_of_ble_eq_true rfl, Nat.le_of_ble_eq_true rfl⟩) ⟨fb_0, fun U hU hW => ⟨rfl, trivial⟩⟩ rfl rfl hl.1 rfl (lv_room (Nat.le_of_ble_eq_true rfl)) md_M_compare_79 ⟨Nat.zero_le _, Nat.zero_le _⟩) (fun r_51 e_52 => ?_)
            obtain rfl : r_51 = jb (rf_isN p0 (u_17.2 ((p0 * 6) + p2).toNatClampNeg)) := e_52
            refine lv_if_eq (tgt := 89) hx hb md_M_compare_82 (by decide) (fun c_53 => ?_) (fun c_53 => ?_)
            · refine lv_iload_n hx hb md_M_compare_89 rfl (lv_at hl 3 rfl) ?_
              refine lv_iconst (v := 2) hx hb md_M_compare_90 (by decide) ?_
              have J_58 : ∀ (z_59 : Int64) (ls : Array Slot), lv_has ls 8 [(6, .long r_15), (4, .long z_59), (0, .ref h0), (1, .int p0), (2, .int p1), (3, .int p2)] → W p l e (headSpec mw_M_compare ({ frames := 5, cells := 0, slots := 0, locals := 108 } : Room)).room s m ([.ref h0, .int p0, .int p1, .int p2] : List Value).toArray below meth c H_18 L_19 0 0 (MQ below (MQi D cL h0 q0 A (fun (r : Int32) (v : MT) => True)) ([.ref h0, .int p0, .int p1, .int p2] : List Value).toArray s 0 0 A) (F0 m 106 ls []) := by
                intro z_59 ls hl
                refine lv_iload_n hx hb md_M_compare_106 rfl (lv_at hl 3 rfl) ?_
                refine lv_iconst (v := 2) hx hb md_M_compare_107 (by decide) ?_
                have J_64 : ∀ (z_65 : Int64) (ls : Array Slot), lv_has ls 8 [(6, .long z_65), (4, .long z_59), (0, .ref h0), (1, .int p0), (2, .int p1), (3, .int p2)] → W p l e (headSpec mw_M_compare ({ frames := 5, cells := 0, slots := 0, locals := 108 } : Room)).room s m ([.ref h0, .int p0, .int p1, .int p2] : List Value).toArray below meth c H_18 L_19 0 0 (MQ below (MQi D cL h0 q0 A (fun (r : Int32) (v : MT) => True)) ([.ref h0, .int p0, .int p1, .int p2] : List Value).toArray s 0 0 A) (F0 m 123 ls []) := by
                  intro z_65 ls hl
                  refine lv_lload hx hb md_M_compare_123 (lv_at hl 1 rfl) ?_
                  refine lv_lload hx hb md_M_compare_125 (lv_at hl 0 rfl) ?_
                  refine W.lcmp hx hb md_M_compare_127 ?_
                  have J_70 : ∀ (z_71 : Int32) (ls : Array Slot), lv_has ls 8 [(6, .long z_65), (4, .long z_59), (0, .ref h0), (1, .int p0), (2, .int p1), (3, .int p2)] → W p l e (headSpec mw_M_compare ({ frames := 5, cells := 0, slots := 0, locals := 108 } : Room)).room s m ([.ref h0, .int p0, .int p1, .int p2] : List Value).toArray below meth c H_18 L_19 0 0 (MQ below (MQi D cL h0 q0 A (fun (r : Int32) (v : MT) => True)) ([.ref h0, .int p0, .int p1, .int p2] : List Value).toArray s 0 0 A) (F0 m 152 ls [.int z_71]) := by
                    intro z_71 ls hl
                    exact W.iret (v := z_71) hx hb hr (fun t ht2 _ => ⟨⟨z_71, u_17, rfl, trivial, by show MWd D cL h0 q0 A _ t.heap; rw [ht2]; exact hM⟩, hS.F ht2⟩) hS.2.2 md_M_compare_152
                  refine lv_if_ge (tgt := 137) hx hb md_M_compare_128 (by decide) (fun c_66 => ?_) (fun c_66 => ?_)
                  · refine lv_lload hx hb md_M_compare_137 (lv_at hl 1 rfl) ?_
                    refine lv_lload hx hb md_M_compare_139 (lv_at hl 0 rfl) ?_
                    refine W.lcmp hx hb md_M_compare_141 ?_
                    have J_73 : ∀ (z_74 : Int32) (ls : Array Slot), lv_has ls 8 [(6, .long z_65), (4, .long z_59), (0, .ref h0), (1, .int p0), (2, .int p1), (3, .int p2)] → W p l e (headSpec mw_M_compare ({ frames := 5, cells := 0, slots := 0, locals := 108 } : Room)).room s m ([.ref h0, .int p0, .int p1, .int p2] : List Value).toArray below meth c H_18 L_19 0 0 (MQ below (MQi D cL h0 q0 A (fun (r : Int32) (v : MT) => True)) ([.ref h0, .int p0, .int p1, .int p2] : List Value).toArray s 0 0 A) (F0 m 152 ls [.int z_74]) := by
                      intro z_74 ls hl
                      exact J_70 z_74 ls (lv_sub hl [0, 1, 2, 3, 4, 5] rfl)
                    refine lv_if_le (tgt := 150) hx hb md_M_compare_142 (by decide) (fun c_72 => ?_) (fun c_72 => ?_)
                    · refine lv_bipush (v := 90) hx hb md_M_compare_150 (by decide) ?_
                      exact J_73 90 ls (lv_sub hl [0, 1, 2, 3, 4, 5] rfl)
                    · refine lv_bipush (v := 108) hx hb md_M_compare_145 (by decide) ?_
                      refine lv_goto (tgt := 152) hx hb md_M_compare_147 (by decide) ?_
                      exact J_73 108 ls (lv_sub hl [0, 1, 2, 3, 4, 5] rfl)
                  · refine lv_sipush (v := 163) hx hb md_M_compare_131 (by decide) ?_
                    refine lv_goto (tgt := 152) hx hb md_M_compare_134 (by decide) ?_
                    exact J_70 163 ls (lv_sub hl [0, 1, 2, 3, 4, 5] rfl)
                refine lv_icmp_ge (tgt := 123) hx hb md_M_compare_108 (by decide) (fun c_60 => ?_) (fun c_60 => ?_)
                · exact J_64 r_15 ls (lv_sub hl [0, 1, 2, 3, 4, 5] rfl)
                · refine lv_lload hx hb md_M_compare_111 (lv_at hl 0 rfl) ?_
                  refine lv_ldc2 (v := (-1)) hx hb hown (ht _ tm_421) md_M_compare_113 ?_
                  refine W.lcmp hx hb md_M_compare_116 ?_
                  have J_76 : ∀ (z_77 : Int64) (ls : Array Slot), lv_has ls 8 [(6, .long z_77), (4, .long z_59), (0, .ref h0), (1, .int p0), (2, .int p1), (3, .int p2)] → W p l e (headSpec mw_M_compare ({ frames := 5, cells := 0, slots := 0, locals := 108 } : Room)).room s m ([.ref h0, .int p0, .int p1, .int p2] : List Value).toArray below meth c H_18 L_19 0 0 (MQ below (MQi D cL h0 q0 A (fun (r : Int32) (v : MT) => True)) ([.ref h0, .int p0, .int p1, .int p2] : List Value).toArray s 0 0 A) (F0 m 123 ls []) := by
                    intro z_77 ls hl
                    exact J_64 z_77 ls (lv_sub hl [0, 1, 2, 3, 4, 5] rfl)
                  refine lv_if_ne (tgt := 123) hx hb md_M_compare_117 (by decide) (fun c_75 => ?_) (fun c_75 => ?_)
                  · exact J_76 r_15 ls (lv_sub hl [0, 1, 2, 3, 4, 5] rfl)
                  · refine lv_lconst (v := 0) hx hb md_M_compare_120 (by decide) ?_
                    refine lv_lstore (lv' := [(6, .long 0), (4, .long z_59), (0, .ref h0), (1, .int p0), (2, .int p1), (3, .int p2)]) hx hb md_M_compare_121 hl (by decide) rfl (fun ls hl => ?_)
                    exact J_76 0 ls (lv_sub hl [0, 1, 2, 3, 4, 5] rfl)
              refine lv_icmp_ge (tgt := 106) hx hb md_M_compare_91 (by decide) (fun c_54 => ?_) (fun c_54 => ?_)
              · exact J_58 r_10 ls (lv_sub hl [0, 1, 2, 3, 4, 5] rfl)
              · refine lv_lload hx hb md_M_compare_94 (lv_at hl 1 rfl) ?_
                refine lv_ldc2 (v := (-1)) hx hb hown (ht _ tm_421) md_M_compare_96 ?_
                refine W.lcmp hx hb md_M_compare_99 ?_
                have J_79 : ∀ (z_80 : Int64) (ls : Array Slot), lv_has ls 8 [(6, .long r_15), (4, .long z_80), (0, .ref h0), (1, .int p0), (2, .int p1), (3, .int p2)] → W p l e (headSpec mw_M_compare ({ frames := 5, cells := 0, slots := 0, locals := 108 } : Room)).room s m ([.ref h0, .int p0, .int p1, .int p2] : List Value).toArray below meth c H_18 L_19 0 0 (MQ below (MQi D cL h0 q0 A (fun (r : Int32) (v : MT) => True)) ([.ref h0, .int p0, .int p1, .int p2] : List Value).toArray s 0 0 A) (F0 m 106 ls []) := by
                  intro z_80 ls hl
                  exact J_58 z_80 ls (lv_sub hl [0, 1, 2, 3, 4, 5] rfl)
                refine lv_if_ne (tgt := 106) hx hb md_M_compare_100 (by decide) (fun c_78 => ?_) (fun c_78 => ?_)
                · exact J_79 r_10 ls (lv_sub hl [0, 1, 2, 3, 4, 5] rfl)
                · refine lv_lconst (v := 0) hx hb md_M_compare_103 (by decide) ?_
                  refine lv_lstore (lv' := [(4, .long 0), (6, .long r_15), (0, .ref h0), (1, .int p0), (2, .int p1), (3, .int p2)]) hx hb md_M_compare_104 hl (by decide) rfl (fun ls hl => ?_)
                  exact J_79 0 ls (lv_sub hl [1, 0, 2, 3, 4, 5] rfl)
            · refine lv_sipush (v := 224) hx hb md_M_compare_85 (by decide) ?_
              exact W.iret (v := 224) hx hb hr (fun t ht2 _ => ⟨⟨224, u_17, rfl, trivial, by show MWd D cL h0 q0 A _ t.heap; rw [ht2]; exact hM⟩, hS.F ht2⟩) hS.2.2 md_M_compare_88
      · refine lv_iconst (v := (-1)) hx hb md_M_compare_26 (by decide) ?_
        exact W.iret (v := (-1)) hx hb hr (fun t ht2 _ => ⟨⟨(-1), u, rfl, trivial, by show MWd D cL h0 q0 A _ t.heap; rw [ht2]; exact hM⟩, hS.F ht2⟩) hS.2.2 md_M_compare_27
set_option maxHeartbeats 4000000 in
set_option maxRecDepth 100000 in
theorem mt_M_order (l : Launch) (D : va_G) (cL : ClassId) (h0 q0 sz : Nat) (u : MT) (p0 : Int32) (p1 : Int32) (p2 : Int32) : Met l my_M_order mw_M_order ({ frames := 5, cells := 0, slots := 0, locals := 108 } : Room) (MPc D cL h0 q0 sz u [.int p0, .int p1, .int p2]) (MQi D cL h0 q0 (MA h0 q0 cL u sz) (fun (r : Int32) (v : MT) => True)) 0 0 (MA h0 q0 cL u sz) := by
  refine Met.ofW (cc := mc_M_order) (maxL := 8) (ret := (some .int)) (by decide) rfl ?_
  intro p e s m args below meth c s₁ B hml hv
  obtain ⟨rfl, hsz, hP, hK, hD0⟩ := hv
  have hx := B.exec
  have hb := B.bytes
  have hr := B.returns
  have hts := atoms_spec (ws := mw_M_order) B.pre
  have ht : ∀ w ∈ gw_tbl, w.before _ s = true := fun w h => hts w (List.mem_cons_of_mem _ h)
  have hown : s.vm.findClass "NumberProbeModel" = some m.cls := findClass_of_methodNamed B.named
  have hlocks := B.notSynchronized
  subst hsz
  have hD : va_D (MA h0 q0 cL u s.heap.size) (mWs h0 q0 cL u) := hD0.self (sz := s.heap.size)
  generalize hAe : MA h0 q0 cL u s.heap.size = A at hD ⊢
  have hA : ∀ q : Nat, s.heap.size ≤ q → A q := fun q h => by rw [← hAe]; exact Or.inr h
  have hS : va_S A s.heap s.heap [] := va_S.rf
  have hM : MWd D cL h0 q0 A u s.heap := ⟨hP, hD⟩
  have hl := lv_entry ([.ref h0, .int p0, .int p1, .int p2]) (n := 8) (Nat.le_of_ble_eq_true rfl)
  rw [lg_entry_eq]
  generalize (lg_sl ([.ref h0, .int p0, .int p1, .int p2]) ++ List.replicate (8 - (lg_sl ([.ref h0, .int p0, .int p1, .int p2])).length) Slot.unset).toArray = ls at hl ⊢
  have hl : lv_has ls 8 [(0, .ref h0), (1, .int p0), (2, .int p1), (3, .int p2)] := hl
  refine lv_iload_n hx hb md_M_order_0 rfl (lv_at hl 1 rfl) ?_
  refine lv_iconst (v := 4) hx hb md_M_order_1 (by decide) ?_
  refine vp_callSi (W.runS (As := [.int p0, .int 4]) (rest := []) ⟨hx, hb, hml, hown, hts⟩ (mt_M_in l p0 4) (va_cwS 2 hts (gd_S tm_359 tm_360 tm_25 tm_361) rfl rfl rfl (by decide +kernel) ⟨Nat.le_of_ble_eq_true rfl, Nat.le_of_ble_eq_true rfl⟩) ⟨fb_0, fun U hU hW => ⟨rfl, trivial⟩⟩ rfl rfl hl.1 rfl (lv_room (Nat.le_of_ble_eq_true rfl)) md_M_order_2 ⟨Nat.zero_le _, Nat.zero_le _⟩) (fun r_1 e_2 => ?_)
  obtain rfl : r_1 = jb (rn_in p0 4) := e_2
  refine lv_if_eq (tgt := 26) hx hb md_M_order_5 (by decide) (fun c_3 => ?_) (fun c_3 => ?_)
  · refine lv_iconst (v := (-1)) hx hb md_M_order_26 (by decide) ?_
    exact W.iret (v := (-1)) hx hb hr (fun t ht2 _ => ⟨⟨(-1), u, rfl, trivial, by show MWd D cL h0 q0 A _ t.heap; rw [ht2]; exact hM⟩, hS.F ht2⟩) hS.2.2 md_M_order_27
  · refine lv_iload_n hx hb md_M_order_8 rfl (lv_at hl 2 rfl) ?_
    refine lv_bipush (v := 6) hx hb md_M_order_9 (by decide) ?_
    refine vp_callSi (W.runS (As := [.int p1, .int 6]) (rest := []) ⟨hx, hb, hml, hown, hts⟩ (mt_M_in l p1 6) (va_cwS 2 hts (gd_S tm_359 tm_360 tm_25 tm_361) rfl rfl rfl (by decide +kernel) ⟨Nat.le_of_ble_eq_true rfl, Nat.le_of_ble_eq_true rfl⟩) ⟨fb_0, fun U hU hW => ⟨rfl, trivial⟩⟩ rfl rfl hl.1 rfl (lv_room (Nat.le_of_ble_eq_true rfl)) md_M_order_11 ⟨Nat.zero_le _, Nat.zero_le _⟩) (fun r_4 e_5 => ?_)
    obtain rfl : r_4 = jb (rn_in p1 6) := e_5
    refine lv_if_eq (tgt := 26) hx hb md_M_order_14 (by decide) (fun c_6 => ?_) (fun c_6 => ?_)
    · refine lv_iconst (v := (-1)) hx hb md_M_order_26 (by decide) ?_
      exact W.iret (v := (-1)) hx hb hr (fun t ht2 _ => ⟨⟨(-1), u, rfl, trivial, by show MWd D cL h0 q0 A _ t.heap; rw [ht2]; exact hM⟩, hS.F ht2⟩) hS.2.2 md_M_order_27
    · refine lv_iload_n hx hb md_M_order_17 rfl (lv_at hl 3 rfl) ?_
      refine lv_bipush (v := 6) hx hb md_M_order_18 (by decide) ?_
      refine vp_callSi (W.runS (As := [.int p2, .int 6]) (rest := []) ⟨hx, hb, hml, hown, hts⟩ (mt_M_in l p2 6) (va_cwS 2 hts (gd_S tm_359 tm_360 tm_25 tm_361) rfl rfl rfl (by decide +kernel) ⟨Nat.le_of_ble_eq_true rfl, Nat.le_of_ble_eq_true rfl⟩) ⟨fb_0, fun U hU hW => ⟨rfl, trivial⟩⟩ rfl rfl hl.1 rfl (lv_room (Nat.le_of_ble_eq_true rfl)) md_M_order_20 ⟨Nat.zero_le _, Nat.zero_le _⟩) (fun r_7 e_8 => ?_)
      obtain rfl : r_7 = jb (rn_in p2 6) := e_8
      refine lv_if_ne (tgt := 28) hx hb md_M_order_23 (by decide) (fun c_9 => ?_) (fun c_9 => ?_)
      · refine lv_aload_n hx hb md_M_order_28 rfl (lv_at hl 0 rfl) ?_
        refine lv_iload_n hx hb md_M_order_29 rfl (lv_at hl 1 rfl) ?_
        refine lv_iload_n hx hb md_M_order_30 rfl (lv_at hl 2 rfl) ?_
        refine m_calll (va_runV (C := "NumberProbeModel") (As := [.int p0, .int p1]) (rest := []) ⟨hx, hb, hml, hown, hts⟩ (mt_M_placeOf l D cL h0 q0 _ u p0 p1 (jb_n0.mp c_3) (jb_n0.mp c_6)) (cwV 2 hts (gd_V tm_527 tm_529 tm_22 tm_25 tm_530) rfl rfl rfl (by decide +kernel) ⟨Nat.le_of_ble_eq_true rfl, Nat.le_of_ble_eq_true rfl⟩) (m_in (locs := []) hK hM) rfl rfl hl.1 rfl (lv_room (Nat.le_of_ble_eq_true rfl)) md_M_order_31 ⟨Nat.zero_le _, Nat.zero_le _⟩) hM hS hA (fun r_10 u_12 H_13 L_14 e_11 hM hS => ?_)
        refine lv_lstore (lv' := [(4, .long r_10), (0, .ref h0), (1, .int p0), (2, .int p1), (3, .int p2)]) hx hb md_M_order_34 hl (by decide) rfl (fun ls hl => ?_)
        refine lv_aload_n hx hb md_M_order_36 rfl (lv_at hl 1 rfl) ?_
        refine lv_iload_n hx hb md_M_order_37 rfl (lv_at hl 2 rfl) ?_
        refine lv_iload_n hx hb md_M_order_38 rfl (lv_at hl 4 rfl) ?_
        refine m_calll (va_runV (C := "NumberProbeModel") (As := [.int p0, .int p2]) (rest := []) ⟨hx, hb, hml, hown, hts⟩ (mt_M_placeOf l D cL h0 q0 _ u_12 p0 p2 (jb_n0.mp c_3) (jb_n0.mp c_9)) (cwV 2 hts (gd_V tm_527 tm_529 tm_22 tm_25 tm_530) rfl rfl rfl (by decide +kernel) ⟨Nat.le_of_ble_eq_true rfl, Nat.le_of_ble_eq_true rfl⟩) (m_in (locs := L_14) hK hM) rfl rfl hl.1 rfl (lv_room (Nat.le_of_ble_eq_true rfl)) md_M_order_39 ⟨Nat.zero_le _, Nat.zero_le _⟩) hM hS hA (fun r_15 u_17 H_18 L_19 e_16 hM hS => ?_)
        refine lv_lstore (lv' := [(6, .long r_15), (4, .long r_10), (0, .ref h0), (1, .int p0), (2, .int p1), (3, .int p2)]) hx hb md_M_order_42 hl (by decide) rfl (fun ls hl => ?_)
        refine lv_lload hx hb md_M_order_44 (lv_at hl 1 rfl) ?_
        refine lv_lload hx hb md_M_order_46 (lv_at hl 0 rfl) ?_
        refine W.lcmp hx hb md_M_order_48 ?_
        have J_24 : ∀ (z_25 : Int32) (ls : Array Slot), lv_has ls 8 [(6, .long r_15), (4, .long r_10), (0, .ref h0), (1, .int p0), (2, .int p1), (3, .int p2)] → W p l e (headSpec mw_M_order ({ frames := 5, cells := 0, slots := 0, locals := 108 } : Room)).room s m ([.ref h0, .int p0, .int p1, .int p2] : List Value).toArray below meth c H_18 L_19 0 0 (MQ below (MQi D cL h0 q0 A (fun (r : Int32) (v : MT) => True)) ([.ref h0, .int p0, .int p1, .int p2] : List Value).toArray s 0 0 A) (F0 m 69 ls [.int z_25]) := by
          intro z_25 ls hl
          exact W.iret (v := z_25) hx hb hr (fun t ht2 _ => ⟨⟨z_25, u_17, rfl, trivial, by show MWd D cL h0 q0 A _ t.heap; rw [ht2]; exact hM⟩, hS.F ht2⟩) hS.2.2 md_M_order_69
        refine lv_if_ge (tgt := 56) hx hb md_M_order_49 (by decide) (fun c_20 => ?_) (fun c_20 => ?_)
        · refine lv_lload hx hb md_M_order_56 (lv_at hl 1 rfl) ?_
          refine lv_lload hx hb md_M_order_58 (lv_at hl 0 rfl) ?_
          refine W.lcmp hx hb md_M_order_60 ?_
          have J_27 : ∀ (z_28 : Bool) (ls : Array Slot), lv_has ls 8 [(6, .long r_15), (4, .long r_10), (0, .ref h0), (1, .int p0), (2, .int p1), (3, .int p2)] → W p l e (headSpec mw_M_order ({ frames := 5, cells := 0, slots := 0, locals := 108 } : Room)).room s m ([.ref h0, .int p0, .int p1, .int p2] : List Value).toArray below meth c H_18 L_19 0 0 (MQ below (MQi D cL h0 q0 A (fun (r : Int32) (v : MT) => True)) ([.ref h0, .int p0, .int p1, .int p2] : List Value).toArray s 0 0 A) (F0 m 69 ls [.int (jb z_28)]) := by
            intro z_28 ls hl
            exact J_24 (jb z_28) ls (lv_sub hl [0, 1, 2, 3, 4, 5] rfl)
          refine lv_if_le (tgt := 68) hx hb md_M_order_61 (by decide) (fun c_26 => ?_) (fun c_26 => ?_)
          · refine lv_iconst (v := 0) hx hb md_M_order_68 (by decide) ?_
            exact J_27 false ls (lv_sub hl [0, 1, 2, 3, 4, 5] rfl)
          · refine lv_iconst (v := 1) hx hb md_M_order_64 (by decide) ?_
            refine lv_goto (tgt := 69) hx hb md_M_order_65 (by decide) ?_
            exact J_27 true ls (lv_sub hl [0, 1, 2, 3, 4, 5] rfl)
        · refine lv_iconst (v := (-1)) hx hb md_M_order_52 (by decide) ?_
          refine lv_goto (tgt := 69) hx hb md_M_order_53 (by decide) ?_
          exact J_24 (-1) ls (lv_sub hl [0, 1, 2, 3, 4, 5] rfl)
      · refine lv_iconst (v := (-1)) hx hb md_M_order_26 (by decide) ?_
        exact W.iret (v := (-1)) hx hb hr (fun t ht2 _ => ⟨⟨(-1), u, rfl, trivial, by show MWd D cL h0 q0 A _ t.heap; rw [ht2]; exact hM⟩, hS.F ht2⟩) hS.2.2 md_M_order_27
