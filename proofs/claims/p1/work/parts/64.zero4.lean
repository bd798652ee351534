set_option maxHeartbeats 4000000 in
set_option maxRecDepth 100000 in
theorem mz_M_assign (l : Launch) (D : va_G) (cL : ClassId) (h0 q0 sz : Nat) (u : MT) (p0 : Int32) (p1 : Int32) (p2 : Int32) (p3 : Int32) (p4 : Int32) (hz : ∀ a, u.2 a = 0) : Met l my_M_assign mw_M_assign ({ frames := 6, cells := 0, slots := 0, locals := 154 } : Room) (MPc D cL h0 q0 sz u [.int p0, .int p1, .int p2, .int p3, .int p4]) (MQi D cL h0 q0 (MA h0 q0 cL u sz) (fun (r : Int32) (v : MT) => r = mz_asg p0 p1 p2 p3 p4)) 0 0 (MA h0 q0 cL u sz) := by
  refine Met.ofW (cc := mc_M_assign) (maxL := 13) (ret := (some .int)) (by decide) rfl ?_
  intro p e s m args below meth c s₁ B hml hv
  obtain ⟨rfl, hsz, hP, hK, hD0⟩ := hv
  have hx := B.exec
  have hb := B.bytes
  have hr := B.returns
  have hts := atoms_spec (ws := mw_M_assign) B.pre
  have ht : ∀ w ∈ gw_tbl, w.before _ s = true := fun w h => hts w (List.mem_cons_of_mem _ h)
  have hown : s.vm.findClass "NumberProbeModel" = some m.cls := findClass_of_methodNamed B.named
  have hlocks := B.notSynchronized
  subst hsz
  have hD : va_D (MA h0 q0 cL u s.heap.size) (mWs h0 q0 cL u) := hD0.self (sz := s.heap.size)
  generalize hAe : MA h0 q0 cL u s.heap.size = A at hD ⊢
  have hA : ∀ q : Nat, s.heap.size ≤ q → A q := fun q h => by rw [← hAe]; exact Or.inr h
  have hS : va_S A s.heap s.heap [] := va_S.rf
  have hM : MWd D cL h0 q0 A u s.heap := ⟨hP, hD⟩
  have hl := lv_entry ([.ref h0, .int p0, .int p1, .int p2, .int p3, .int p4]) (n := 13) (Nat.le_of_ble_eq_true rfl)
  rw [lg_entry_eq]
  generalize (lg_sl ([.ref h0, .int p0, .int p1, .int p2, .int p3, .int p4]) ++ List.replicate (13 - (lg_sl ([.ref h0, .int p0, .int p1, .int p2, .int p3, .int p4])).length) Slot.unset).toArray = ls at hl ⊢
  have hl : lv_has ls 13 [(0, .ref h0), (1, .int p0), (2, .int p1), (3, .int p2), (4, .int p3), (5, .int p4)] := hl
  refine lv_iload_n hx hb md_M_assign_0 rfl (lv_at hl 1 rfl) ?_
  refine lv_iconst (v := 4) hx hb md_M_assign_1 (by decide) ?_
  refine vp_callSi (W.runS (As := [.int p0, .int 4]) (rest := []) ⟨hx, hb, hml, hown, hts⟩ (mt_M_in l p0 4) (va_cwS 2 hts (gd_S tm_359 tm_360 tm_25 tm_361) rfl rfl rfl (by decide +kernel) ⟨Nat.le_of_ble_eq_true rfl, Nat.le_of_ble_eq_true rfl⟩) ⟨fb_0, fun U hU hW => ⟨rfl, trivial⟩⟩ rfl rfl hl.1 rfl (lv_room (Nat.le_of_ble_eq_true rfl)) md_M_assign_2 ⟨Nat.zero_le _, Nat.zero_le _⟩) (fun r_1 e_2 => ?_)
  obtain rfl : r_1 = jb (rn_in p0 4) := e_2
  refine lv_if_eq (tgt := 44) hx hb md_M_assign_5 (by decide) (fun c_3 => ?_) (fun c_3 => ?_)
  · refine lv_iconst (v := (-1)) hx hb md_M_assign_44 (by decide) ?_
    exact W.iret (v := (-1)) hx hb hr (fun t ht2 _ => ⟨⟨(-1), u, rfl, (by simp [mz_asg, mz_wid, (show rn_in 3 4 = true from by decide), (jb_0.mp c_3)]), by show MWd D cL h0 q0 A _ t.heap; rw [ht2]; exact hM⟩, hS.F ht2⟩) hS.2.2 md_M_assign_45
  · refine lv_iload_n hx hb md_M_assign_8 rfl (lv_at hl 2 rfl) ?_
    refine lv_bipush (v := 6) hx hb md_M_assign_9 (by decide) ?_
    refine vp_callSi (W.runS (As := [.int p1, .int 6]) (rest := []) ⟨hx, hb, hml, hown, hts⟩ (mt_M_in l p1 6) (va_cwS 2 hts (gd_S tm_359 tm_360 tm_25 tm_361) rfl rfl rfl (by decide +kernel) ⟨Nat.le_of_ble_eq_true rfl, Nat.le_of_ble_eq_true rfl⟩) ⟨fb_0, fun U hU hW => ⟨rfl, trivial⟩⟩ rfl rfl hl.1 rfl (lv_room (Nat.le_of_ble_eq_true rfl)) md_M_assign_11 ⟨Nat.zero_le _, Nat.zero_le _⟩) (fun r_4 e_5 => ?_)
    obtain rfl : r_4 = jb (rn_in p1 6) := e_5
    refine lv_if_eq (tgt := 44) hx hb md_M_assign_14 (by decide) (fun c_6 => ?_) (fun c_6 => ?_)
    · refine lv_iconst (v := (-1)) hx hb md_M_assign_44 (by decide) ?_
      exact W.iret (v := (-1)) hx hb hr (fun t ht2 _ => ⟨⟨(-1), u, rfl, (by simp [mz_asg, mz_wid, (show rn_in 3 4 = true from by decide), (jb_n0.mp c_3), (jb_0.mp c_6)]), by show MWd D cL h0 q0 A _ t.heap; rw [ht2]; exact hM⟩, hS.F ht2⟩) hS.2.2 md_M_assign_45
    · refine lv_iload_n hx hb md_M_assign_17 rfl (lv_at hl 3 rfl) ?_
      refine lv_iconst (v := 4) hx hb md_M_assign_18 (by decide) ?_
      refine vp_callSi (W.runS (As := [.int p2, .int 4]) (rest := []) ⟨hx, hb, hml, hown, hts⟩ (mt_M_in l p2 4) (va_cwS 2 hts (gd_S tm_359 tm_360 tm_25 tm_361) rfl rfl rfl (by decide +kernel) ⟨Nat.le_of_ble_eq_true rfl, Nat.le_of_ble_eq_true rfl⟩) ⟨fb_0, fun U hU hW => ⟨rfl, trivial⟩⟩ rfl rfl hl.1 rfl (lv_room (Nat.le_of_ble_eq_true rfl)) md_M_assign_19 ⟨Nat.zero_le _, Nat.zero_le _⟩) (fun r_7 e_8 => ?_)
      obtain rfl : r_7 = jb (rn_in p2 4) := e_8
      refine lv_if_eq (tgt := 44) hx hb md_M_assign_22 (by decide) (fun c_9 => ?_) (fun c_9 => ?_)
      · refine lv_iconst (v := (-1)) hx hb md_M_assign_44 (by decide) ?_
        exact W.iret (v := (-1)) hx hb hr (fun t ht2 _ => ⟨⟨(-1), u, rfl, (by simp [mz_asg, mz_wid, (show rn_in 3 4 = true from by decide), (jb_n0.mp c_3), (jb_n0.mp c_6), (jb_0.mp c_9)]), by show MWd D cL h0 q0 A _ t.heap; rw [ht2]; exact hM⟩, hS.F ht2⟩) hS.2.2 md_M_assign_45
      · refine lv_iload hx hb md_M_assign_25 (lv_at hl 4 rfl) ?_
        refine lv_iconst (v := 4) hx hb md_M_assign_27 (by decide) ?_
        refine vp_callSi (W.runS (As := [.int p3, .int 4]) (rest := []) ⟨hx, hb, hml, hown, hts⟩ (mt_M_in l p3 4) (va_cwS 2 hts (gd_S tm_359 tm_360 tm_25 tm_361) rfl rfl rfl (by decide +kernel) ⟨Nat.le_of_ble_eq_true rfl, Nat.le_of_ble_eq_true rfl⟩) ⟨fb_0, fun U hU hW => ⟨rfl, trivial⟩⟩ rfl rfl hl.1 rfl (lv_room (Nat.le_of_ble_eq_true rfl)) md_M_assign_28 ⟨Nat.zero_le _, Nat.zero_le _⟩) (fun r_10 e_11 => ?_)
        obtain rfl : r_10 = jb (rn_in p3 4) := e_11
        refine lv_if_eq (tgt := 44) hx hb md_M_assign_31 (by decide) (fun c_12 => ?_) (fun c_12 => ?_)
        · refine lv_iconst (v := (-1)) hx hb md_M_assign_44 (by decide) ?_
          exact W.iret (v := (-1)) hx hb hr (fun t ht2 _ => ⟨⟨(-1), u, rfl, (by simp [mz_asg, mz_wid, (show rn_in 3 4 = true from by decide), (jb_n0.mp c_3), (jb_n0.mp c_6), (jb_n0.mp c_9), (jb_0.mp c_12)]), by show MWd D cL h0 q0 A _ t.heap; rw [ht2]; exact hM⟩, hS.F ht2⟩) hS.2.2 md_M_assign_45
        · refine lv_iload hx hb md_M_assign_34 (lv_at hl 5 rfl) ?_
          refine lv_bipush (v := 6) hx hb md_M_assign_36 (by decide) ?_
          refine vp_callSi (W.runS (As := [.int p4, .int 6]) (rest := []) ⟨hx, hb, hml, hown, hts⟩ (mt_M_in l p4 6) (va_cwS 2 hts (gd_S tm_359 tm_360 tm_25 tm_361) rfl rfl rfl (by decide +kernel) ⟨Nat.le_of_ble_eq_true rfl, Nat.le_of_ble_eq_true rfl⟩) ⟨fb_0, fun U hU hW => ⟨rfl, trivial⟩⟩ rfl rfl hl.1 rfl (lv_room (Nat.le_of_ble_eq_true rfl)) md_M_assign_38 ⟨Nat.zero_le _, Nat.zero_le _⟩) (fun r_13 e_14 => ?_)
          obtain rfl : r_13 = jb (rn_in p4 6) := e_14
          refine lv_if_ne (tgt := 46) hx hb md_M_assign_41 (by decide) (fun c_15 => ?_) (fun c_15 => ?_)
          · refine lv_iload_n hx hb md_M_assign_46 rfl (lv_at hl 1 rfl) ?_
            refine vp_callSi (W.runS (As := [.int p0]) (rest := []) ⟨hx, hb, hml, hown, hts⟩ (mz_M_rank l p0) (va_cwS 1 hts (gd_S tm_501 tm_502 tm_25 tm_503) rfl rfl rfl (by decide +kernel) ⟨Nat.le_of_ble_eq_true rfl, Nat.le_of_ble_eq_true rfl⟩) ⟨fb_0, fun U hU hW => ⟨rfl, trivial⟩⟩ rfl rfl hl.1 rfl (lv_room (Nat.le_of_ble_eq_true rfl)) md_M_assign_47 ⟨Nat.zero_le _, Nat.zero_le _⟩) (fun r_16 e_17 => ?_)
            obtain rfl : r_16 = rf_rk p0 := e_17
            refine lv_iload hx hb md_M_assign_50 (lv_at hl 4 rfl) ?_
            refine vp_callSi (W.runS (As := [.int p3]) (rest := [.int (rf_rk p0)]) ⟨hx, hb, hml, hown, hts⟩ (mz_M_rank l p3) (va_cwS 1 hts (gd_S tm_501 tm_502 tm_25 tm_503) rfl rfl rfl (by decide +kernel) ⟨Nat.le_of_ble_eq_true rfl, Nat.le_of_ble_eq_true rfl⟩) ⟨fb_0, fun U hU hW => ⟨rfl, trivial⟩⟩ rfl rfl hl.1 rfl (lv_room (Nat.le_of_ble_eq_true rfl)) md_M_assign_52 ⟨Nat.zero_le _, Nat.zero_le _⟩) (fun r_18 e_19 => ?_)
            obtain rfl : r_18 = rf_rk p3 := e_19
            refine lv_icmp_le (tgt := 62) hx hb md_M_assign_55 (by decide) (fun c_20 => ?_) (fun c_20 => ?_)
            · refine lv_iload hx hb md_M_assign_62 (lv_at hl 4 rfl) ?_
              refine lv_istore (lv' := [(6, .int p3), (0, .ref h0), (1, .int p0), (2, .int p1), (3, .int p2), (4, .int p3), (5, .int p4)]) hx hb md_M_assign_64 hl (by decide) rfl (fun ls hl => ?_)
              refine lv_aload_n hx hb md_M_assign_66 rfl (lv_at hl 1 rfl) ?_
              refine lv_iload_n hx hb md_M_assign_67 rfl (lv_at hl 2 rfl) ?_
              refine lv_aload_n hx hb md_M_assign_68 rfl (lv_at hl 1 rfl) ?_
              refine va_get (D := D) (ci := 1) (v := .ref q0) (C := "NumberProbeModel") (T := TM) (N := 12) hx hb ht inM hown hK hM.1 0 rfl rfl 0 (by decide) (ht _ tm_318) (fun _ h9 => h9) rfl md_M_assign_69 ?_
              refine lv_iload_n hx hb md_M_assign_72 rfl (lv_at hl 2 rfl) ?_
              refine lv_bipush (v := 6) hx hb md_M_assign_73 (by decide) ?_
              refine lv_imul hx hb md_M_assign_75 ?_
              refine lv_iload_n hx hb md_M_assign_76 rfl (lv_at hl 3 rfl) ?_
              refine lv_iadd hx hb md_M_assign_77 ?_
              refine va_lald (D := D) hx hb hK hM.1 1 0 rfl rfl (rn_idx (jb_n0.mp c_3) (jb_n0.mp c_6)) md_M_assign_78 ?_
              refine lv_iload hx hb md_M_assign_79 (lv_at hl 0 rfl) ?_
              refine m_calll (va_runV (C := "NumberProbeModel") (As := [.int p0, .long (u.2 ((p0 * 6) + p1).toNatClampNeg), .int p3]) (rest := []) ⟨hx, hb, hml, hown, hts⟩ (mz_M_converted l D cL h0 q0 _ u p0 (u.2 ((p0 * 6) + p1).toNatClampNeg) p3) (cwV 3 hts (gd_V tm_504 tm_506 tm_20 tm_25 tm_507) rfl rfl rfl (by decide +kernel) ⟨Nat.le_of_ble_eq_true rfl, Nat.le_of_ble_eq_true rfl⟩) (m_in (locs := []) hK hM) rfl rfl hl.1 rfl (lv_room (Nat.le_of_ble_eq_true rfl)) md_M_assign_81 ⟨Nat.zero_le _, Nat.zero_le _⟩) hM hS hA (fun r_21 u_23 H_24 L_25 e_22 hM hS => ?_)
              refine lv_lstore (lv' := [(7, .long r_21), (6, .int p3), (0, .ref h0), (1, .int p0), (2, .int p1), (3, .int p2), (4, .int p3), (5, .int p4)]) hx hb md_M_assign_84 hl (by decide) rfl (fun ls hl => ?_)
              refine lv_aload_n hx hb md_M_assign_86 rfl (lv_at hl 2 rfl) ?_
              refine lv_iload hx hb md_M_assign_87 (lv_at hl 6 rfl) ?_
              refine lv_aload_n hx hb md_M_assign_89 rfl (lv_at hl 2 rfl) ?_
              refine va_get (D := D) (ci := 1) (v := .ref q0) (C := "NumberProbeModel") (T := TM) (N := 12) hx hb ht inM hown hK hM.1 0 rfl rfl 0 (by decide) (ht _ tm_318) (fun _ h9 => h9) rfl md_M_assign_90 ?_
              refine lv_iload hx hb md_M_assign_93 (lv_at hl 6 rfl) ?_
              refine lv_bipush (v := 6) hx hb md_M_assign_95 (by decide) ?_
              refine lv_imul hx hb md_M_assign_97 ?_
              refine lv_iload hx hb md_M_assign_98 (lv_at hl 7 rfl) ?_
              refine lv_iadd hx hb md_M_assign_100 ?_
              refine va_lald (D := D) hx hb hK hM.1 1 0 rfl rfl (rn_idx (jb_n0.mp c_12) (jb_n0.mp c_15)) md_M_assign_101 ?_
              refine lv_iload hx hb md_M_assign_102 (lv_at hl 1 rfl) ?_
              refine m_calll (va_runV (C := "NumberProbeModel") (As := [.int p3, .long (u_23.2 ((p3 * 6) + p4).toNatClampNeg), .int p3]) (rest := []) ⟨hx, hb, hml, hown, hts⟩ (mz_M_converted l D cL h0 q0 _ u_23 p3 (u_23.2 ((p3 * 6) + p4).toNatClampNeg) p3) (cwV 3 hts (gd_V tm_504 tm_506 tm_20 tm_25 tm_507) rfl rfl rfl (by decide +kernel) ⟨Nat.le_of_ble_eq_true rfl, Nat.le_of_ble_eq_true rfl⟩) (m_in (locs := L_25) hK hM) rfl rfl hl.1 rfl (lv_room (Nat.le_of_ble_eq_true rfl)) md_M_assign_104 ⟨Nat.zero_le _, Nat.zero_le _⟩) hM hS hA (fun r_26 u_28 H_29 L_30 e_27 hM hS => ?_)
              refine lv_lstore (lv' := [(9, .long r_26), (7, .long r_21), (6, .int p3), (0, .ref h0), (1, .int p0), (2, .int p1), (3, .int p2), (4, .int p3), (5, .int p4)]) hx hb md_M_assign_107 hl (by decide) rfl (fun ls hl => ?_)
              refine lv_iload hx hb md_M_assign_109 (lv_at hl 2 rfl) ?_
              refine lv_iconst (v := 1) hx hb md_M_assign_111 (by decide) ?_
              refine lv_icmp_le (tgt := 130) hx hb md_M_assign_112 (by decide) (fun c_31 => ?_) (fun c_31 => ?_)
              · refine lv_iload hx hb md_M_assign_130 (lv_at hl 2 rfl) ?_
                refine lv_iconst (v := 2) hx hb md_M_assign_132 (by decide) ?_
                refine lv_icmp_ge (tgt := 150) hx hb md_M_assign_133 (by decide) (fun c_32 => ?_) (fun c_32 => ?_)
                · refine lv_iload hx hb md_M_assign_150 (lv_at hl 2 rfl) ?_
                  refine lv_iload hx hb md_M_assign_152 (lv_at hl 2 rfl) ?_
                  refine lv_iload_n hx hb md_M_assign_154 rfl (lv_at hl 6 rfl) ?_
                  refine lv_lload hx hb md_M_assign_155 (lv_at hl 1 rfl) ?_
                  refine lv_lload hx hb md_M_assign_157 (lv_at hl 0 rfl) ?_
                  refine vp_callSl (W.runS (As := [.int p3, .int p2, .long r_21, .long r_26]) (rest := [.int p3]) ⟨hx, hb, hml, hown, hts⟩ (mt_M_operateWhole l p3 p2 r_21 r_26 (fun _ => (m_kd c_31 c_32).elim)) (va_cwS 4 hts (gd_S tm_494 tm_495 tm_25 tm_496) rfl rfl rfl (by decide +kernel) ⟨Nat.le_of_ble_eq_true rfl, Nat.le_of_ble_eq_true rfl⟩) ⟨fb_0, fun U hU hW => ⟨rfl, trivial⟩⟩ rfl rfl hl.1 rfl (lv_room (Nat.le_of_ble_eq_true rfl)) md_M_assign_159 ⟨Nat.zero_le _, Nat.zero_le _⟩) (fun r_33 e_34 => ?_)
                  refine vp_callSl (W.runS (As := [.int p3, .long r_33]) (rest := []) ⟨hx, hb, hml, hown, hts⟩ (mz_M_normal l p3 r_33) (va_cwS 2 hts (gd_S tm_362 tm_363 tm_25 tm_364) rfl rfl rfl (by decide +kernel) ⟨Nat.le_of_ble_eq_true rfl, Nat.le_of_ble_eq_true rfl⟩) ⟨fb_0, fun U hU hW => ⟨rfl, trivial⟩⟩ rfl rfl hl.1 rfl (lv_room (Nat.le_of_ble_eq_true rfl)) md_M_assign_162 ⟨Nat.zero_le _, Nat.zero_le _⟩) (fun r_35 e_36 => ?_)
                  refine lv_lstore (lv' := [(11, .long r_35), (9, .long r_26), (7, .long r_21), (6, .int p3), (0, .ref h0), (1, .int p0), (2, .int p1), (3, .int p2), (4, .int p3), (5, .int p4)]) hx hb md_M_assign_165 hl (by decide) rfl (fun ls hl => ?_)
                  refine lv_aload_n hx hb md_M_assign_167 rfl (lv_at hl 4 rfl) ?_
                  refine va_get (D := D) (ci := 1) (v := .ref q0) (C := "NumberProbeModel") (T := TM) (N := 12) hx hb ht inM hown hK hM.1 0 rfl rfl 0 (by decide) (ht _ tm_318) (fun _ h9 => h9) rfl md_M_assign_168 ?_
                  refine lv_iload_n hx hb md_M_assign_171 rfl (lv_at hl 5 rfl) ?_
                  refine lv_bipush (v := 6) hx hb md_M_assign_172 (by decide) ?_
                  refine lv_imul hx hb md_M_assign_174 ?_
                  refine lv_iload_n hx hb md_M_assign_175 rfl (lv_at hl 6 rfl) ?_
                  refine lv_iadd hx hb md_M_assign_176 ?_
                  refine lv_aload_n hx hb md_M_assign_177 rfl (lv_at hl 4 rfl) ?_
                  refine lv_iload hx hb md_M_assign_178 (lv_at hl 3 rfl) ?_
                  refine lv_lload hx hb md_M_assign_180 (lv_at hl 0 rfl) ?_
                  refine lv_iload_n hx hb md_M_assign_182 rfl (lv_at hl 5 rfl) ?_
                  refine m_calll (va_runV (C := "NumberProbeModel") (As := [.int p3, .long r_35, .int p0]) (rest := [.int ((p0 * 6) + p1), .ref q0]) ⟨hx, hb, hml, hown, hts⟩ (mz_M_converted l D cL h0 q0 _ u_28 p3 r_35 p0) (cwV 3 hts (gd_V tm_504 tm_506 tm_20 tm_25 tm_507) rfl rfl rfl (by decide +kernel) ⟨Nat.le_of_ble_eq_true rfl, Nat.le_of_ble_eq_true rfl⟩) (m_in (locs := L_30) hK hM) rfl rfl hl.1 rfl (lv_room (Nat.le_of_ble_eq_true rfl)) md_M_assign_183 ⟨Nat.zero_le _, Nat.zero_le _⟩) hM hS hA (fun r_37 u_39 H_40 L_41 e_38 hM hS => ?_)
                  refine m_ast hx hb hK hM hS (rn_idx (jb_n0.mp c_3) (jb_n0.mp c_6)) md_M_assign_186 (fun u_42 H_43 L_44 hM hS => ?_)
                  refine lv_iconst (v := 0) hx hb md_M_assign_187 (by decide) ?_
                  exact W.iret (v := 0) hx hb hr (fun t ht2 _ => ⟨⟨0, u_42, rfl, (by simp [mz_asg, mz_wid, (show rn_in 3 4 = true from by decide), (jb_n0.mp c_3), (jb_n0.mp c_6), (jb_n0.mp c_9), (jb_n0.mp c_12), (jb_n0.mp c_15), c_20, c_31, c_32]), by show MWd D cL h0 q0 A _ t.heap; rw [ht2]; exact hM⟩, hS.F ht2⟩) hS.2.2 md_M_assign_188
                · refine lv_aload_n hx hb md_M_assign_136 rfl (lv_at hl 3 rfl) ?_
                  refine lv_iload hx hb md_M_assign_137 (lv_at hl 2 rfl) ?_
                  refine lv_iload_n hx hb md_M_assign_139 rfl (lv_at hl 6 rfl) ?_
                  refine lv_lload hx hb md_M_assign_140 (lv_at hl 1 rfl) ?_
                  refine lv_lload hx hb md_M_assign_142 (lv_at hl 0 rfl) ?_
                  refine m_calll (va_runV (C := "NumberProbeModel") (As := [.int p3, .int p2, .long r_21, .long r_26]) (rest := []) ⟨hx, hb, hml, hown, hts⟩ (mt_M_operateReal l D cL h0 q0 _ u_28 p3 p2 r_21 r_26) (cwV 4 hts (gd_V tm_443 tm_445 tm_11 tm_25 tm_446) rfl rfl rfl (by decide +kernel) ⟨Nat.le_of_ble_eq_true rfl, Nat.le_of_ble_eq_true rfl⟩) (m_in (locs := L_30) hK hM) rfl rfl hl.1 rfl (lv_room (Nat.le_of_ble_eq_true rfl)) md_M_assign_144 ⟨Nat.zero_le _, Nat.zero_le _⟩) hM hS hA (fun r_45 u_47 H_48 L_49 e_46 hM hS => ?_)
                  refine lv_goto (tgt := 165) hx hb md_M_assign_147 (by decide) ?_
                  refine lv_lstore (lv' := [(11, .long r_45), (9, .long r_26), (7, .long r_21), (6, .int p3), (0, .ref h0), (1, .int p0), (2, .int p1), (3, .int p2), (4, .int p3), (5, .int p4)]) hx hb md_M_assign_165 hl (by decide) rfl (fun ls hl => ?_)
                  refine lv_aload_n hx hb md_M_assign_167 rfl (lv_at hl 4 rfl) ?_
                  refine va_get (D := D) (ci := 1) (v := .ref q0) (C := "NumberProbeModel") (T := TM) (N := 12) hx hb ht inM hown hK hM.1 0 rfl rfl 0 (by decide) (ht _ tm_318) (fun _ h9 => h9) rfl md_M_assign_168 ?_
                  refine lv_iload_n hx hb md_M_assign_171 rfl (lv_at hl 5 rfl) ?_
                  refine lv_bipush (v := 6) hx hb md_M_assign_172 (by decide) ?_
                  refine lv_imul hx hb md_M_assign_174 ?_
                  refine lv_iload_n hx hb md_M_assign_175 rfl (lv_at hl 6 rfl) ?_
                  refine lv_iadd hx hb md_M_assign_176 ?_
                  refine lv_aload_n hx hb md_M_assign_177 rfl (lv_at hl 4 rfl) ?_
                  refine lv_iload hx hb md_M_assign_178 (lv_at hl 3 rfl) ?_
                  refine lv_lload hx hb md_M_assign_180 (lv_at hl 0 rfl) ?_
                  refine lv_iload_n hx hb md_M_assign_182 rfl (lv_at hl 5 rfl) ?_
                  refine m_calll (va_runV (C := "NumberProbeModel") (As := [.int p3, .long r_45, .int p0]) (rest := [.int ((p0 * 6) + p1), .ref q0]) ⟨hx, hb, hml, hown, hts⟩ (mz_M_converted l D cL h0 q0 _ u_47 p3 r_45 p0) (cwV 3 hts (gd_V tm_504 tm_506 tm_20 tm_25 tm_507) rfl rfl rfl (by decide +kernel) ⟨Nat.le_of_ble_eq_true rfl, Nat.le_of_ble_eq_true rfl⟩) (m_in (locs := L_49) hK hM) rfl rfl hl.1 rfl (lv_room (Nat.le_of_ble_eq_true rfl)) md_M_assign_183 ⟨Nat.zero_le _, Nat.zero_le _⟩) hM hS hA (fun r_50 u_52 H_53 L_54 e_51 hM hS => ?_)
                  refine m_ast hx hb hK hM hS (rn_idx (jb_n0.mp c_3) (jb_n0.mp c_6)) md_M_assign_186 (fun u_55 H_56 L_57 hM hS => ?_)
                  refine lv_iconst (v := 0) hx hb md_M_assign_187 (by decide) ?_
                  exact W.iret (v := 0) hx hb hr (fun t ht2 _ => ⟨⟨0, u_55, rfl, (by simp [mz_asg, mz_wid, (show rn_in 3 4 = true from by decide), (jb_n0.mp c_3), (jb_n0.mp c_6), (jb_n0.mp c_9), (jb_n0.mp c_12), (jb_n0.mp c_15), c_20, c_31, (c_32)]), by show MWd D cL h0 q0 A _ t.heap; rw [ht2]; exact hM⟩, hS.F ht2⟩) hS.2.2 md_M_assign_188
              · refine lv_iload_n hx hb md_M_assign_115 rfl (lv_at hl 6 rfl) ?_
                refine lv_iconst (v := 3) hx hb md_M_assign_116 (by decide) ?_
                refine lv_icmp_ne (tgt := 130) hx hb md_M_assign_117 (by decide) (fun c_58 => ?_) (fun c_58 => ?_)
                · refine lv_iload hx hb md_M_assign_130 (lv_at hl 2 rfl) ?_
                  refine lv_iconst (v := 2) hx hb md_M_assign_132 (by decide) ?_
                  refine lv_icmp_ge (tgt := 150) hx hb md_M_assign_133 (by decide) (fun c_59 => ?_) (fun c_59 => ?_)
                  · refine lv_iload hx hb md_M_assign_150 (lv_at hl 2 rfl) ?_
                    refine lv_iload hx hb md_M_assign_152 (lv_at hl 2 rfl) ?_
                    refine lv_iload_n hx hb md_M_assign_154 rfl (lv_at hl 6 rfl) ?_
                    refine lv_lload hx hb md_M_assign_155 (lv_at hl 1 rfl) ?_
                    refine lv_lload hx hb md_M_assign_157 (lv_at hl 0 rfl) ?_
                    refine vp_callSl (W.runS (As := [.int p3, .int p2, .long r_21, .long r_26]) (rest := [.int p3]) ⟨hx, hb, hml, hown, hts⟩ (mt_M_operateWhole l p3 p2 r_21 r_26 (fun q => q.elim (fun a => absurd a c_58) (fun a => absurd a (rn_n4 (jb_n0.mp c_9))))) (va_cwS 4 hts (gd_S tm_494 tm_495 tm_25 tm_496) rfl rfl rfl (by decide +kernel) ⟨Nat.le_of_ble_eq_true rfl, Nat.le_of_ble_eq_true rfl⟩) ⟨fb_0, fun U hU hW => ⟨rfl, trivial⟩⟩ rfl rfl hl.1 rfl (lv_room (Nat.le_of_ble_eq_true rfl)) md_M_assign_159 ⟨Nat.zero_le _, Nat.zero_le _⟩) (fun r_60 e_61 => ?_)
                    refine vp_callSl (W.runS (As := [.int p3, .long r_60]) (rest := []) ⟨hx, hb, hml, hown, hts⟩ (mz_M_normal l p3 r_60) (va_cwS 2 hts (gd_S tm_362 tm_363 tm_25 tm_364) rfl rfl rfl (by decide +kernel) ⟨Nat.le_of_ble_eq_true rfl, Nat.le_of_ble_eq_true rfl⟩) ⟨fb_0, fun U hU hW => ⟨rfl, trivial⟩⟩ rfl rfl hl.1 rfl (lv_room (Nat.le_of_ble_eq_true rfl)) md_M_assign_162 ⟨Nat.zero_le _, Nat.zero_le _⟩) (fun r_62 e_63 => ?_)
                    refine lv_lstore (lv' := [(11, .long r_62), (9, .long r_26), (7, .long r_21), (6, .int p3), (0, .ref h0), (1, .int p0), (2, .int p1), (3, .int p2), (4, .int p3), (5, .int p4)]) hx hb md_M_assign_165 hl (by decide) rfl (fun ls hl => ?_)
                    refine lv_aload_n hx hb md_M_assign_167 rfl (lv_at hl 4 rfl) ?_
                    refine va_get (D := D) (ci := 1) (v := .ref q0) (C := "NumberProbeModel") (T := TM) (N := 12) hx hb ht inM hown hK hM.1 0 rfl rfl 0 (by decide) (ht _ tm_318) (fun _ h9 => h9) rfl md_M_assign_168 ?_
                    refine lv_iload_n hx hb md_M_assign_171 rfl (lv_at hl 5 rfl) ?_
                    refine lv_bipush (v := 6) hx hb md_M_assign_172 (by decide) ?_
                    refine lv_imul hx hb md_M_assign_174 ?_
                    refine lv_iload_n hx hb md_M_assign_175 rfl (lv_at hl 6 rfl) ?_
                    refine lv_iadd hx hb md_M_assign_176 ?_
                    refine lv_aload_n hx hb md_M_assign_177 rfl (lv_at hl 4 rfl) ?_
                    refine lv_iload hx hb md_M_assign_178 (lv_at hl 3 rfl) ?_
                    refine lv_lload hx hb md_M_assign_180 (lv_at hl 0 rfl) ?_
                    refine lv_iload_n hx hb md_M_assign_182 rfl (lv_at hl 5 rfl) ?_
                    refine m_calll (va_runV (C := "NumberProbeModel") (As := [.int p3, .long r_62, .int p0]) (rest := [.int ((p0 * 6) + p1), .ref q0]) ⟨hx, hb, hml, hown, hts⟩ (mz_M_converted l D cL h0 q0 _ u_28 p3 r_62 p0) (cwV 3 hts (gd_V tm_504 tm_506 tm_20 tm_25 tm_507) rfl rfl rfl (by decide +kernel) ⟨Nat.le_of_ble_eq_true rfl, Nat.le_of_ble_eq_true rfl⟩) (m_in (locs := L_30) hK hM) rfl rfl hl.1 rfl (lv_room (Nat.le_of_ble_eq_true rfl)) md_M_assign_183 ⟨Nat.zero_le _, Nat.zero_le _⟩) hM hS hA (fun r_64 u_66 H_67 L_68 e_65 hM hS => ?_)
                    refine m_ast hx hb hK hM hS (rn_idx (jb_n0.mp c_3) (jb_n0.mp c_6)) md_M_assign_186 (fun u_69 H_70 L_71 hM hS => ?_)
                    refine lv_iconst (v := 0) hx hb md_M_assign_187 (by decide) ?_
                    exact W.iret (v := 0) hx hb hr (fun t ht2 _ => ⟨⟨0, u_69, rfl, (by simp [mz_asg, mz_wid, (show rn_in 3 4 = true from by decide), (jb_n0.mp c_3), (jb_n0.mp c_6), (jb_n0.mp c_9), (jb_n0.mp c_12), (jb_n0.mp c_15), c_20, (c_31), c_58, c_59]), by show MWd D cL h0 q0 A _ t.heap; rw [ht2]; exact hM⟩, hS.F ht2⟩) hS.2.2 md_M_assign_188
                  · refine lv_aload_n hx hb md_M_assign_136 rfl (lv_at hl 3 rfl) ?_
                    refine lv_iload hx hb md_M_assign_137 (lv_at hl 2 rfl) ?_
                    refine lv_iload_n hx hb md_M_assign_139 rfl (lv_at hl 6 rfl) ?_
                    refine lv_lload hx hb md_M_assign_140 (lv_at hl 1 rfl) ?_
                    refine lv_lload hx hb md_M_assign_142 (lv_at hl 0 rfl) ?_
                    refine m_calll (va_runV (C := "NumberProbeModel") (As := [.int p3, .int p2, .long r_21, .long r_26]) (rest := []) ⟨hx, hb, hml, hown, hts⟩ (mt_M_operateReal l D cL h0 q0 _ u_28 p3 p2 r_21 r_26) (cwV 4 hts (gd_V tm_443 tm_445 tm_11 tm_25 tm_446) rfl rfl rfl (by decide +kernel) ⟨Nat.le_of_ble_eq_true rfl, Nat.le_of_ble_eq_true rfl⟩) (m_in (locs := L_30) hK hM) rfl rfl hl.1 rfl (lv_room (Nat.le_of_ble_eq_true rfl)) md_M_assign_144 ⟨Nat.zero_le _, Nat.zero_le _⟩) hM hS hA (fun r_72 u_74 H_75 L_76 e_73 hM hS => ?_)
                    refine lv_goto (tgt := 165) hx hb md_M_assign_147 (by decide) ?_
                    refine lv_lstore (lv' := [(11, .long r_72), (9, .long r_26), (7, .long r_21), (6, .int p3), (0, .ref h0), (1, .int p0), (2, .int p1), (3, .int p2), (4, .int p3), (5, .int p4)]) hx hb md_M_assign_165 hl (by decide) rfl (fun ls hl => ?_)
                    refine lv_aload_n hx hb md_M_assign_167 rfl (lv_at hl 4 rfl) ?_
                    refine va_get (D := D) (ci := 1) (v := .ref q0) (C := "NumberProbeModel") (T := TM) (N := 12) hx hb ht inM hown hK hM.1 0 rfl rfl 0 (by decide) (ht _ tm_318) (fun _ h9 => h9) rfl md_M_assign_168 ?_
                    refine lv_iload_n hx hb md_M_assign_171 rfl (lv_at hl 5 rfl) ?_
                    refine lv_bipush (v := 6) hx hb md_M_assign_172 (by decide) ?_
                    refine lv_imul hx hb md_M_assign_174 ?_
                    refine lv_iload_n hx hb md_M_assign_175 rfl (lv_at hl 6 rfl) ?_
                    refine lv_iadd hx hb md_M_assign_176 ?_
                    refine lv_aload_n hx hb md_M_assign_177 rfl (lv_at hl 4 rfl) ?_
                    refine lv_iload hx hb md_M_assign_178 (lv_at hl 3 rfl) ?_
                    refine lv_lload hx hb md_M_assign_180 (lv_at hl 0 rfl) ?_
                    refine lv_iload_n hx hb md_M_assign_182 rfl (lv_at hl 5 rfl) ?_
                    refine m_calll (va_runV (C := "NumberProbeModel") (As := [.int p3, .long r_72, .int p0]) (rest := [.int ((p0 * 6) + p1), .ref q0]) ⟨hx, hb, hml, hown, hts⟩ (mz_M_converted l D cL h0 q0 _ u_74 p3 r_72 p0) (cwV 3 hts (gd_V tm_504 tm_506 tm_20 tm_25 tm_507) rfl rfl rfl (by decide +kernel) ⟨Nat.le_of_ble_eq_true rfl, Nat.le_of_ble_eq_true rfl⟩) (m_in (locs := L_76) hK hM) rfl rfl hl.1 rfl (lv_room (Nat.le_of_ble_eq_true rfl)) md_M_assign_183 ⟨Nat.zero_le _, Nat.zero_le _⟩) hM hS hA (fun r_77 u_79 H_80 L_81 e_78 hM hS => ?_)
                    refine m_ast hx hb hK hM hS (rn_idx (jb_n0.mp c_3) (jb_n0.mp c_6)) md_M_assign_186 (fun u_82 H_83 L_84 hM hS => ?_)
                    refine lv_iconst (v := 0) hx hb md_M_assign_187 (by decide) ?_
                    exact W.iret (v := 0) hx hb hr (fun t ht2 _ => ⟨⟨0, u_82, rfl, (by simp [mz_asg, mz_wid, (show rn_in 3 4 = true from by decide), (jb_n0.mp c_3), (jb_n0.mp c_6), (jb_n0.mp c_9), (jb_n0.mp c_12), (jb_n0.mp c_15), c_20, (c_31), c_58, (c_59)]), by show MWd D cL h0 q0 A _ t.heap; rw [ht2]; exact hM⟩, hS.F ht2⟩) hS.2.2 md_M_assign_188
                · refine lv_lload hx hb md_M_assign_120 (lv_at hl 0 rfl) ?_
                  refine lv_lconst (v := 0) hx hb md_M_assign_122 (by decide) ?_
                  refine W.lcmp hx hb md_M_assign_123 ?_
                  refine lv_if_ne (tgt := 130) hx hb md_M_assign_124 (by decide) (fun c_85 => ?_) (fun c_85 => ?_)
                  · refine lv_iload hx hb md_M_assign_130 (lv_at hl 2 rfl) ?_
                    refine lv_iconst (v := 2) hx hb md_M_assign_132 (by decide) ?_
                    refine lv_icmp_ge (tgt := 150) hx hb md_M_assign_133 (by decide) (fun c_86 => ?_) (fun c_86 => ?_)
                    · refine lv_iload hx hb md_M_assign_150 (lv_at hl 2 rfl) ?_
                      refine lv_iload hx hb md_M_assign_152 (lv_at hl 2 rfl) ?_
                      refine lv_iload_n hx hb md_M_assign_154 rfl (lv_at hl 6 rfl) ?_
                      refine lv_lload hx hb md_M_assign_155 (lv_at hl 1 rfl) ?_
                      refine lv_lload hx hb md_M_assign_157 (lv_at hl 0 rfl) ?_
                      refine vp_callSl (W.runS (As := [.int p3, .int p2, .long r_21, .long r_26]) (rest := [.int p3]) ⟨hx, hb, hml, hown, hts⟩ (mt_M_operateWhole l p3 p2 r_21 r_26 (fun _ => (mt (lg_cmp_eq _ _).mpr c_85))) (va_cwS 4 hts (gd_S tm_494 tm_495 tm_25 tm_496) rfl rfl rfl (by decide +kernel) ⟨Nat.le_of_ble_eq_true rfl, Nat.le_of_ble_eq_true rfl⟩) ⟨fb_0, fun U hU hW => ⟨rfl, trivial⟩⟩ rfl rfl hl.1 rfl (lv_room (Nat.le_of_ble_eq_true rfl)) md_M_assign_159 ⟨Nat.zero_le _, Nat.zero_le _⟩) (fun r_87 e_88 => ?_)
                      refine vp_callSl (W.runS (As := [.int p3, .long r_87]) (rest := []) ⟨hx, hb, hml, hown, hts⟩ (mz_M_normal l p3 r_87) (va_cwS 2 hts (gd_S tm_362 tm_363 tm_25 tm_364) rfl rfl rfl (by decide +kernel) ⟨Nat.le_of_ble_eq_true rfl, Nat.le_of_ble_eq_true rfl⟩) ⟨fb_0, fun U hU hW => ⟨rfl, trivial⟩⟩ rfl rfl hl.1 rfl (lv_room (Nat.le_of_ble_eq_true rfl)) md_M_assign_162 ⟨Nat.zero_le _, Nat.zero_le _⟩) (fun r_89 e_90 => ?_)
                      refine lv_lstore (lv' := [(11, .long r_89), (9, .long r_26), (7, .long r_21), (6, .int p3), (0, .ref h0), (1, .int p0), (2, .int p1), (3, .int p2), (4, .int p3), (5, .int p4)]) hx hb md_M_assign_165 hl (by decide) rfl (fun ls hl => ?_)
                      refine lv_aload_n hx hb md_M_assign_167 rfl (lv_at hl 4 rfl) ?_
                      refine va_get (D := D) (ci := 1) (v := .ref q0) (C := "NumberProbeModel") (T := TM) (N := 12) hx hb ht inM hown hK hM.1 0 rfl rfl 0 (by decide) (ht _ tm_318) (fun _ h9 => h9) rfl md_M_assign_168 ?_
                      refine lv_iload_n hx hb md_M_assign_171 rfl (lv_at hl 5 rfl) ?_
                      refine lv_bipush (v := 6) hx hb md_M_assign_172 (by decide) ?_
                      refine lv_imul hx hb md_M_assign_174 ?_
                      refine lv_iload_n hx hb md_M_assign_175 rfl (lv_at hl 6 rfl) ?_
                      refine lv_iadd hx hb md_M_assign_176 ?_
                      refine lv_aload_n hx hb md_M_assign_177 rfl (lv_at hl 4 rfl) ?_
                      refine lv_iload hx hb md_M_assign_178 (lv_at hl 3 rfl) ?_
                      refine lv_lload hx hb md_M_assign_180 (lv_at hl 0 rfl) ?_
                      refine lv_iload_n hx hb md_M_assign_182 rfl (lv_at hl 5 rfl) ?_
                      refine m_calll (va_runV (C := "NumberProbeModel") (As := [.int p3, .long r_89, .int p0]) (rest := [.int ((p0 * 6) + p1), .ref q0]) ⟨hx, hb, hml, hown, hts⟩ (mz_M_converted l D cL h0 q0 _ u_28 p3 r_89 p0) (cwV 3 hts (gd_V tm_504 tm_506 tm_20 tm_25 tm_507) rfl rfl rfl (by decide +kernel) ⟨Nat.le_of_ble_eq_true rfl, Nat.le_of_ble_eq_true rfl⟩) (m_in (locs := L_30) hK hM) rfl rfl hl.1 rfl (lv_room (Nat.le_of_ble_eq_true rfl)) md_M_assign_183 ⟨Nat.zero_le _, Nat.zero_le _⟩) hM hS hA (fun r_91 u_93 H_94 L_95 e_92 hM hS => ?_)
                      refine m_ast hx hb hK hM hS (rn_idx (jb_n0.mp c_3) (jb_n0.mp c_6)) md_M_assign_186 (fun u_96 H_97 L_98 hM hS => ?_)
                      refine lv_iconst (v := 0) hx hb md_M_assign_187 (by decide) ?_
                      exact W.iret (v := 0) hx hb hr (fun t ht2 _ => ⟨⟨0, u_96, rfl, (absurd (e_27.1 ((fun a => (congrFun (e_22.2.trans rfl) a).trans (hz a)) _) (rn_23 (jb_n0.mp c_12) (c_31))) (mt (lg_cmp_eq _ _).mpr c_85)), by show MWd D cL h0 q0 A _ t.heap; rw [ht2]; exact hM⟩, hS.F ht2⟩) hS.2.2 md_M_assign_188
                    · refine lv_aload_n hx hb md_M_assign_136 rfl (lv_at hl 3 rfl) ?_
                      refine lv_iload hx hb md_M_assign_137 (lv_at hl 2 rfl) ?_
                      refine lv_iload_n hx hb md_M_assign_139 rfl (lv_at hl 6 rfl) ?_
                      refine lv_lload hx hb md_M_assign_140 (lv_at hl 1 rfl) ?_
                      refine lv_lload hx hb md_M_assign_142 (lv_at hl 0 rfl) ?_
                      refine m_calll (va_runV (C := "NumberProbeModel") (As := [.int p3, .int p2, .long r_21, .long r_26]) (rest := []) ⟨hx, hb, hml, hown, hts⟩ (mt_M_operateReal l D cL h0 q0 _ u_28 p3 p2 r_21 r_26) (cwV 4 hts (gd_V tm_443 tm_445 tm_11 tm_25 tm_446) rfl rfl rfl (by decide +kernel) ⟨Nat.le_of_ble_eq_true rfl, Nat.le_of_ble_eq_true rfl⟩) (m_in (locs := L_30) hK hM) rfl rfl hl.1 rfl (lv_room (Nat.le_of_ble_eq_true rfl)) md_M_assign_144 ⟨Nat.zero_le _, Nat.zero_le _⟩) hM hS hA (fun r_99 u_101 H_102 L_103 e_100 hM hS => ?_)
                      refine lv_goto (tgt := 165) hx hb md_M_assign_147 (by decide) ?_
                      refine lv_lstore (lv' := [(11, .long r_99), (9, .long r_26), (7, .long r_21), (6, .int p3), (0, .ref h0), (1, .int p0), (2, .int p1), (3, .int p2), (4, .int p3), (5, .int p4)]) hx hb md_M_assign_165 hl (by decide) rfl (fun ls hl => ?_)
                      refine lv_aload_n hx hb md_M_assign_167 rfl (lv_at hl 4 rfl) ?_
                      refine va_get (D := D) (ci := 1) (v := .ref q0) (C := "NumberProbeModel") (T := TM) (N := 12) hx hb ht inM hown hK hM.1 0 rfl rfl 0 (by decide) (ht _ tm_318) (fun _ h9 => h9) rfl md_M_assign_168 ?_
                      refine lv_iload_n hx hb md_M_assign_171 rfl (lv_at hl 5 rfl) ?_
                      refine lv_bipush (v := 6) hx hb md_M_assign_172 (by decide) ?_
                      refine lv_imul hx hb md_M_assign_174 ?_
                      refine lv_iload_n hx hb md_M_assign_175 rfl (lv_at hl 6 rfl) ?_
                      refine lv_iadd hx hb md_M_assign_176 ?_
                      refine lv_aload_n hx hb md_M_assign_177 rfl (lv_at hl 4 rfl) ?_
                      refine lv_iload hx hb md_M_assign_178 (lv_at hl 3 rfl) ?_
                      refine lv_lload hx hb md_M_assign_180 (lv_at hl 0 rfl) ?_
                      refine lv_iload_n hx hb md_M_assign_182 rfl (lv_at hl 5 rfl) ?_
                      refine m_calll (va_runV (C := "NumberProbeModel") (As := [.int p3, .long r_99, .int p0]) (rest := [.int ((p0 * 6) + p1), .ref q0]) ⟨hx, hb, hml, hown, hts⟩ (mz_M_converted l D cL h0 q0 _ u_101 p3 r_99 p0) (cwV 3 hts (gd_V tm_504 tm_506 tm_20 tm_25 tm_507) rfl rfl rfl (by decide +kernel) ⟨Nat.le_of_ble_eq_true rfl, Nat.le_of_ble_eq_true rfl⟩) (m_in (locs := L_103) hK hM) rfl rfl hl.1 rfl (lv_room (Nat.le_of_ble_eq_true rfl)) md_M_assign_183 ⟨Nat.zero_le _, Nat.zero_le _⟩) hM hS hA (fun r_104 u_106 H_107 L_108 e_105 hM hS => ?_)
                      refine m_ast hx hb hK hM hS (rn_idx (jb_n0.mp c_3) (jb_n0.mp c_6)) md_M_assign_186 (fun u_109 H_110 L_111 hM hS => ?_)
                      refine lv_iconst (v := 0) hx hb md_M_assign_187 (by decide) ?_
                      exact W.iret (v := 0) hx hb hr (fun t ht2 _ => ⟨⟨0, u_109, rfl, (absurd (e_27.1 ((fun a => (congrFun (e_22.2.trans rfl) a).trans (hz a)) _) (rn_23 (jb_n0.mp c_12) (c_31))) (mt (lg_cmp_eq _ _).mpr c_85)), by show MWd D cL h0 q0 A _ t.heap; rw [ht2]; exact hM⟩, hS.F ht2⟩) hS.2.2 md_M_assign_188
                  · refine lv_bipush (v := (-2)) hx hb md_M_assign_127 (by decide) ?_
                    exact W.iret (v := (-2)) hx hb hr (fun t ht2 _ => ⟨⟨(-2), u_28, rfl, (by simp [mz_asg, mz_wid, (show rn_in 3 4 = true from by decide), (jb_n0.mp c_3), (jb_n0.mp c_6), (jb_n0.mp c_9), (jb_n0.mp c_12), (jb_n0.mp c_15), c_20, (c_31), (c_58), ((lg_cmp_eq _ _).mp c_85)]), by show MWd D cL h0 q0 A _ t.heap; rw [ht2]; exact hM⟩, hS.F ht2⟩) hS.2.2 md_M_assign_129
            · refine lv_iload_n hx hb md_M_assign_58 rfl (lv_at hl 1 rfl) ?_
              refine lv_goto (tgt := 64) hx hb md_M_assign_59 (by decide) ?_
              refine lv_istore (lv' := [(6, .int p0), (0, .ref h0), (1, .int p0), (2, .int p1), (3, .int p2), (4, .int p3), (5, .int p4)]) hx hb md_M_assign_64 hl (by decide) rfl (fun ls hl => ?_)
              refine lv_aload_n hx hb md_M_assign_66 rfl (lv_at hl 1 rfl) ?_
              refine lv_iload_n hx hb md_M_assign_67 rfl (lv_at hl 2 rfl) ?_
              refine lv_aload_n hx hb md_M_assign_68 rfl (lv_at hl 1 rfl) ?_
              refine va_get (D := D) (ci := 1) (v := .ref q0) (C := "NumberProbeModel") (T := TM) (N := 12) hx hb ht inM hown hK hM.1 0 rfl rfl 0 (by decide) (ht _ tm_318) (fun _ h9 => h9) rfl md_M_assign_69 ?_
              refine lv_iload_n hx hb md_M_assign_72 rfl (lv_at hl 2 rfl) ?_
              refine lv_bipush (v := 6) hx hb md_M_assign_73 (by decide) ?_
              refine lv_imul hx hb md_M_assign_75 ?_
              refine lv_iload_n hx hb md_M_assign_76 rfl (lv_at hl 3 rfl) ?_
              refine lv_iadd hx hb md_M_assign_77 ?_
              refine va_lald (D := D) hx hb hK hM.1 1 0 rfl rfl (rn_idx (jb_n0.mp c_3) (jb_n0.mp c_6)) md_M_assign_78 ?_
              refine lv_iload hx hb md_M_assign_79 (lv_at hl 0 rfl) ?_
              refine m_calll (va_runV (C := "NumberProbeModel") (As := [.int p0, .long (u.2 ((p0 * 6) + p1).toNatClampNeg), .int p0]) (rest := []) ⟨hx, hb, hml, hown, hts⟩ (mz_M_converted l D cL h0 q0 _ u p0 (u.2 ((p0 * 6) + p1).toNatClampNeg) p0) (cwV 3 hts (gd_V tm_504 tm_506 tm_20 tm_25 tm_507) rfl rfl rfl (by decide +kernel) ⟨Nat.le_of_ble_eq_true rfl, Nat.le_of_ble_eq_true rfl⟩) (m_in (locs := []) hK hM) rfl rfl hl.1 rfl (lv_room (Nat.le_of_ble_eq_true rfl)) md_M_assign_81 ⟨Nat.zero_le _, Nat.zero_le _⟩) hM hS hA (fun r_112 u_114 H_115 L_116 e_113 hM hS => ?_)
              refine lv_lstore (lv' := [(7, .long r_112), (6, .int p0), (0, .ref h0), (1, .int p0), (2, .int p1), (3, .int p2), (4, .int p3), (5, .int p4)]) hx hb md_M_assign_84 hl (by decide) rfl (fun ls hl => ?_)
              refine lv_aload_n hx hb md_M_assign_86 rfl (lv_at hl 2 rfl) ?_
              refine lv_iload hx hb md_M_assign_87 (lv_at hl 6 rfl) ?_
              refine lv_aload_n hx hb md_M_assign_89 rfl (lv_at hl 2 rfl) ?_
              refine va_get (D := D) (ci := 1) (v := .ref q0) (C := "NumberProbeModel") (T := TM) (N := 12) hx hb ht inM hown hK hM.1 0 rfl rfl 0 (by decide) (ht _ tm_318) (fun _ h9 => h9) rfl md_M_assign_90 ?_
              refine lv_iload hx hb md_M_assign_93 (lv_at hl 6 rfl) ?_
              refine lv_bipush (v := 6) hx hb md_M_assign_95 (by decide) ?_
              refine lv_imul hx hb md_M_assign_97 ?_
              refine lv_iload hx hb md_M_assign_98 (lv_at hl 7 rfl) ?_
              refine lv_iadd hx hb md_M_assign_100 ?_
              refine va_lald (D := D) hx hb hK hM.1 1 0 rfl rfl (rn_idx (jb_n0.mp c_12) (jb_n0.mp c_15)) md_M_assign_101 ?_
              refine lv_iload hx hb md_M_assign_102 (lv_at hl 1 rfl) ?_
              refine m_calll (va_runV (C := "NumberProbeModel") (As := [.int p3, .long (u_114.2 ((p3 * 6) + p4).toNatClampNeg), .int p0]) (rest := []) ⟨hx, hb, hml, hown, hts⟩ (mz_M_converted l D cL h0 q0 _ u_114 p3 (u_114.2 ((p3 * 6) + p4).toNatClampNeg) p0) (cwV 3 hts (gd_V tm_504 tm_506 tm_20 tm_25 tm_507) rfl rfl rfl (by decide +kernel) ⟨Nat.le_of_ble_eq_true rfl, Nat.le_of_ble_eq_true rfl⟩) (m_in (locs := L_116) hK hM) rfl rfl hl.1 rfl (lv_room (Nat.le_of_ble_eq_true rfl)) md_M_assign_104 ⟨Nat.zero_le _, Nat.zero_le _⟩) hM hS hA (fun r_117 u_119 H_120 L_121 e_118 hM hS => ?_)
              refine lv_lstore (lv' := [(9, .long r_117), (7, .long r_112), (6, .int p0), (0, .ref h0), (1, .int p0), (2, .int p1), (3, .int p2), (4, .int p3), (5, .int p4)]) hx hb md_M_assign_107 hl (by decide) rfl (fun ls hl => ?_)
              refine lv_iload hx hb md_M_assign_109 (lv_at hl 2 rfl) ?_
              refine lv_iconst (v := 1) hx hb md_M_assign_111 (by decide) ?_
              refine lv_icmp_le (tgt := 130) hx hb md_M_assign_112 (by decide) (fun c_122 => ?_) (fun c_122 => ?_)
              · refine lv_iload hx hb md_M_assign_130 (lv_at hl 2 rfl) ?_
                refine lv_iconst (v := 2) hx hb md_M_assign_132 (by decide) ?_
                refine lv_icmp_ge (tgt := 150) hx hb md_M_assign_133 (by decide) (fun c_123 => ?_) (fun c_123 => ?_)
                · refine lv_iload hx hb md_M_assign_150 (lv_at hl 2 rfl) ?_
                  refine lv_iload hx hb md_M_assign_152 (lv_at hl 2 rfl) ?_
                  refine lv_iload_n hx hb md_M_assign_154 rfl (lv_at hl 6 rfl) ?_
                  refine lv_lload hx hb md_M_assign_155 (lv_at hl 1 rfl) ?_
                  refine lv_lload hx hb md_M_assign_157 (lv_at hl 0 rfl) ?_
                  refine vp_callSl (W.runS (As := [.int p0, .int p2, .long r_112, .long r_117]) (rest := [.int p0]) ⟨hx, hb, hml, hown, hts⟩ (mt_M_operateWhole l p0 p2 r_112 r_117 (fun _ => (m_kd c_122 c_123).elim)) (va_cwS 4 hts (gd_S tm_494 tm_495 tm_25 tm_496) rfl rfl rfl (by decide +kernel) ⟨Nat.le_of_ble_eq_true rfl, Nat.le_of_ble_eq_true rfl⟩) ⟨fb_0, fun U hU hW => ⟨rfl, trivial⟩⟩ rfl rfl hl.1 rfl (lv_room (Nat.le_of_ble_eq_true rfl)) md_M_assign_159 ⟨Nat.zero_le _, Nat.zero_le _⟩) (fun r_124 e_125 => ?_)
                  refine vp_callSl (W.runS (As := [.int p0, .long r_124]) (rest := []) ⟨hx, hb, hml, hown, hts⟩ (mz_M_normal l p0 r_124) (va_cwS 2 hts (gd_S tm_362 tm_363 tm_25 tm_364) rfl rfl rfl (by decide +kernel) ⟨Nat.le_of_ble_eq_true rfl, Nat.le_of_ble_eq_true rfl⟩) ⟨fb_0, fun U hU hW => ⟨rfl, trivial⟩⟩ rfl rfl hl.1 rfl (lv_room (Nat.le_of_ble_eq_true rfl)) md_M_assign_162 ⟨Nat.zero_le _, Nat.zero_le _⟩) (fun r_126 e_127 => ?_)
                  refine lv_lstore (lv' := [(11, .long r_126), (9, .long r_117), (7, .long r_112), (6, .int p0), (0, .ref h0), (1, .int p0), (2, .int p1), (3, .int p2), (4, .int p3), (5, .int p4)]) hx hb md_M_assign_165 hl (by decide) rfl (fun ls hl => ?_)
                  refine lv_aload_n hx hb md_M_assign_167 rfl (lv_at hl 4 rfl) ?_
                  refine va_get (D := D) (ci := 1) (v := .ref q0) (C := "NumberProbeModel") (T := TM) (N := 12) hx hb ht inM hown hK hM.1 0 rfl rfl 0 (by decide) (ht _ tm_318) (fun _ h9 => h9) rfl md_M_assign_168 ?_
                  refine lv_iload_n hx hb md_M_assign_171 rfl (lv_at hl 5 rfl) ?_
                  refine lv_bipush (v := 6) hx hb md_M_assign_172 (by decide) ?_
                  refine lv_imul hx hb md_M_assign_174 ?_
                  refine lv_iload_n hx hb md_M_assign_175 rfl (lv_at hl 6 rfl) ?_
                  refine lv_iadd hx hb md_M_assign_176 ?_
                  refine lv_aload_n hx hb md_M_assign_177 rfl (lv_at hl 4 rfl) ?_
                  refine lv_iload hx hb md_M_assign_178 (lv_at hl 3 rfl) ?_
                  refine lv_lload hx hb md_M_assign_180 (lv_at hl 0 rfl) ?_
                  refine lv_iload_n hx hb md_M_assign_182 rfl (lv_at hl 5 rfl) ?_
                  refine m_calll (va_runV (C := "NumberProbeModel") (As := [.int p0, .long r_126, .int p0]) (rest := [.int ((p0 * 6) + p1), .ref q0]) ⟨hx, hb, hml, hown, hts⟩ (mz_M_converted l D cL h0 q0 _ u_119 p0 r_126 p0) (cwV 3 hts (gd_V tm_504 tm_506 tm_20 tm_25 tm_507) rfl rfl rfl (by decide +kernel) ⟨Nat.le_of_ble_eq_true rfl, Nat.le_of_ble_eq_true rfl⟩) (m_in (locs := L_121) hK hM) rfl rfl hl.1 rfl (lv_room (Nat.le_of_ble_eq_true rfl)) md_M_assign_183 ⟨Nat.zero_le _, Nat.zero_le _⟩) hM hS hA (fun r_128 u_130 H_131 L_132 e_129 hM hS => ?_)
                  refine m_ast hx hb hK hM hS (rn_idx (jb_n0.mp c_3) (jb_n0.mp c_6)) md_M_assign_186 (fun u_133 H_134 L_135 hM hS => ?_)
                  refine lv_iconst (v := 0) hx hb md_M_assign_187 (by decide) ?_
                  exact W.iret (v := 0) hx hb hr (fun t ht2 _ => ⟨⟨0, u_133, rfl, (by simp [mz_asg, mz_wid, (show rn_in 3 4 = true from by decide), (jb_n0.mp c_3), (jb_n0.mp c_6), (jb_n0.mp c_9), (jb_n0.mp c_12), (jb_n0.mp c_15), (c_20), c_122, c_123]), by show MWd D cL h0 q0 A _ t.heap; rw [ht2]; exact hM⟩, hS.F ht2⟩) hS.2.2 md_M_assign_188
                · refine lv_aload_n hx hb md_M_assign_136 rfl (lv_at hl 3 rfl) ?_
                  refine lv_iload hx hb md_M_assign_137 (lv_at hl 2 rfl) ?_
                  refine lv_iload_n hx hb md_M_assign_139 rfl (lv_at hl 6 rfl) ?_
                  refine lv_lload hx hb md_M_assign_140 (lv_at hl 1 rfl) ?_
                  refine lv_lload hx hb md_M_assign_142 (lv_at hl 0 rfl) ?_
                  refine m_calll (va_runV (C := "NumberProbeModel") (As := [.int p0, .int p2, .long r_112, .long r_117]) (rest := []) ⟨hx, hb, hml, hown, hts⟩ (mt_M_operateReal l D cL h0 q0 _ u_119 p0 p2 r_112 r_117) (cwV 4 hts (gd_V tm_443 tm_445 tm_11 tm_25 tm_446) rfl rfl rfl (by decide +kernel) ⟨Nat.le_of_ble_eq_true rfl, Nat.le_of_ble_eq_true rfl⟩) (m_in (locs := L_121) hK hM) rfl rfl hl.1 rfl (lv_room (Nat.le_of_ble_eq_true rfl)) md_M_assign_144 ⟨Nat.zero_le _, Nat.zero_le _⟩) hM hS hA (fun r_136 u_138 H_139 L_140 e_137 hM hS => ?_)
                  refine lv_goto (tgt := 165) hx hb md_M_assign_147 (by decide) ?_
                  refine lv_lstore (lv' := [(11, .long r_136), (9, .long r_117), (7, .long r_112), (6, .int p0), (0, .ref h0), (1, .int p0), (2, .int p1), (3, .int p2), (4, .int p3), (5, .int p4)]) hx hb md_M_assign_165 hl (by decide) rfl (fun ls hl => ?_)
                  refine lv_aload_n hx hb md_M_assign_167 rfl (lv_at hl 4 rfl) ?_
                  refine va_get (D := D) (ci := 1) (v := .ref q0) (C := "NumberProbeModel") (T := TM) (N := 12) hx hb ht inM hown hK hM.1 0 rfl rfl 0 (by decide) (ht _ tm_318) (fun _ h9 => h9) rfl md_M_assign_168 ?_
                  refine lv_iload_n hx hb md_M_assign_171 rfl (lv_at hl 5 rfl) ?_
                  refine lv_bipush (v := 6) hx hb md_M_assign_172 (by decide) ?_
                  refine lv_imul hx hb md_M_assign_174 ?_
                  refine lv_iload_n hx hb md_M_assign_175 rfl (lv_at hl 6 rfl) ?_
                  refine lv_iadd hx hb md_M_assign_176 ?_
                  refine lv_aload_n hx hb md_M_assign_177 rfl (lv_at hl 4 rfl) ?_
                  refine lv_iload hx hb md_M_assign_178 (lv_at hl 3 rfl) ?_
                  refine lv_lload hx hb md_M_assign_180 (lv_at hl 0 rfl) ?_
                  refine lv_iload_n hx hb md_M_assign_182 rfl (lv_at hl 5 rfl) ?_
                  refine m_calll (va_runV (C := "NumberProbeModel") (As := [.int p0, .long r_136, .int p0]) (rest := [.int ((p0 * 6) + p1), .ref q0]) ⟨hx, hb, hml, hown, hts⟩ (mz_M_converted l D cL h0 q0 _ u_138 p0 r_136 p0) (cwV 3 hts (gd_V tm_504 tm_506 tm_20 tm_25 tm_507) rfl rfl rfl (by decide +kernel) ⟨Nat.le_of_ble_eq_true rfl, Nat.le_of_ble_eq_true rfl⟩) (m_in (locs := L_140) hK hM) rfl rfl hl.1 rfl (lv_room (Nat.le_of_ble_eq_true rfl)) md_M_assign_183 ⟨Nat.zero_le _, Nat.zero_le _⟩) hM hS hA (fun r_141 u_143 H_144 L_145 e_142 hM hS => ?_)
                  refine m_ast hx hb hK hM hS (rn_idx (jb_n0.mp c_3) (jb_n0.mp c_6)) md_M_assign_186 (fun u_146 H_147 L_148 hM hS => ?_)
                  refine lv_iconst (v := 0) hx hb md_M_assign_187 (by decide) ?_
                  exact W.iret (v := 0) hx hb hr (fun t ht2 _ => ⟨⟨0, u_146, rfl, (by simp [mz_asg, mz_wid, (show rn_in 3 4 = true from by decide), (jb_n0.mp c_3), (jb_n0.mp c_6), (jb_n0.mp c_9), (jb_n0.mp c_12), (jb_n0.mp c_15), (c_20), c_122, (c_123)]), by show MWd D cL h0 q0 A _ t.heap; rw [ht2]; exact hM⟩, hS.F ht2⟩) hS.2.2 md_M_assign_188
              · refine lv_iload_n hx hb md_M_assign_115 rfl (lv_at hl 6 rfl) ?_
                refine lv_iconst (v := 3) hx hb md_M_assign_116 (by decide) ?_
                refine lv_icmp_ne (tgt := 130) hx hb md_M_assign_117 (by decide) (fun c_149 => ?_) (fun c_149 => ?_)
                · refine lv_iload hx hb md_M_assign_130 (lv_at hl 2 rfl) ?_
                  refine lv_iconst (v := 2) hx hb md_M_assign_132 (by decide) ?_
                  refine lv_icmp_ge (tgt := 150) hx hb md_M_assign_133 (by decide) (fun c_150 => ?_) (fun c_150 => ?_)
                  · refine lv_iload hx hb md_M_assign_150 (lv_at hl 2 rfl) ?_
                    refine lv_iload hx hb md_M_assign_152 (lv_at hl 2 rfl) ?_
                    refine lv_iload_n hx hb md_M_assign_154 rfl (lv_at hl 6 rfl) ?_
                    refine lv_lload hx hb md_M_assign_155 (lv_at hl 1 rfl) ?_
                    refine lv_lload hx hb md_M_assign_157 (lv_at hl 0 rfl) ?_
                    refine vp_callSl (W.runS (As := [.int p0, .int p2, .long r_112, .long r_117]) (rest := [.int p0]) ⟨hx, hb, hml, hown, hts⟩ (mt_M_operateWhole l p0 p2 r_112 r_117 (fun q => q.elim (fun a => absurd a c_149) (fun a => absurd a (rn_n4 (jb_n0.mp c_9))))) (va_cwS 4 hts (gd_S tm_494 tm_495 tm_25 tm_496) rfl rfl rfl (by decide +kernel) ⟨Nat.le_of_ble_eq_true rfl, Nat.le_of_ble_eq_true rfl⟩) ⟨fb_0, fun U hU hW => ⟨rfl, trivial⟩⟩ rfl rfl hl.1 rfl (lv_room (Nat.le_of_ble_eq_true rfl)) md_M_assign_159 ⟨Nat.zero_le _, Nat.zero_le _⟩) (fun r_151 e_152 => ?_)
                    refine vp_callSl (W.runS (As := [.int p0, .long r_151]) (rest := []) ⟨hx, hb, hml, hown, hts⟩ (mz_M_normal l p0 r_151) (va_cwS 2 hts (gd_S tm_362 tm_363 tm_25 tm_364) rfl rfl rfl (by decide +kernel) ⟨Nat.le_of_ble_eq_true rfl, Nat.le_of_ble_eq_true rfl⟩) ⟨fb_0, fun U hU hW => ⟨rfl, trivial⟩⟩ rfl rfl hl.1 rfl (lv_room (Nat.le_of_ble_eq_true rfl)) md_M_assign_162 ⟨Nat.zero_le _, Nat.zero_le _⟩) (fun r_153 e_154 => ?_)
                    refine lv_lstore (lv' := [(11, .long r_153), (9, .long r_117), (7, .long r_112), (6, .int p0), (0, .ref h0), (1, .int p0), (2, .int p1), (3, .int p2), (4, .int p3), (5, .int p4)]) hx hb md_M_assign_165 hl (by decide) rfl (fun ls hl => ?_)
                    refine lv_aload_n hx hb md_M_assign_167 rfl (lv_at hl 4 rfl) ?_
                    refine va_get (D := D) (ci := 1) (v := .ref q0) (C := "NumberProbeModel") (T := TM) (N := 12) hx hb ht inM hown hK hM.1 0 rfl rfl 0 (by decide) (ht _ tm_318) (fun _ h9 => h9) rfl md_M_assign_168 ?_
                    refine lv_iload_n hx hb md_M_assign_171 rfl (lv_at hl 5 rfl) ?_
                    refine lv_bipush (v := 6) hx hb md_M_assign_172 (by decide) ?_
                    refine lv_imul hx hb md_M_assign_174 ?_
                    refine lv_iload_n hx hb md_M_assign_175 rfl (lv_at hl 6 rfl) ?_
                    refine lv_iadd hx hb md_M_assign_176 ?_
                    refine lv_aload_n hx hb md_M_assign_177 rfl (lv_at hl 4 rfl) ?_
                    refine lv_iload hx hb md_M_assign_178 (lv_at hl 3 rfl) ?_
                    refine lv_lload hx hb md_M_assign_180 (lv_at hl 0 rfl) ?_
                    refine lv_iload_n hx hb md_M_assign_182 rfl (lv_at hl 5 rfl) ?_
                    refine m_calll (va_runV (C := "NumberProbeModel") (As := [.int p0, .long r_153, .int p0]) (rest := [.int ((p0 * 6) + p1), .ref q0]) ⟨hx, hb, hml, hown, hts⟩ (mz_M_converted l D cL h0 q0 _ u_119 p0 r_153 p0) (cwV 3 hts (gd_V tm_504 tm_506 tm_20 tm_25 tm_507) rfl rfl rfl (by decide +kernel) ⟨Nat.le_of_ble_eq_true rfl, Nat.le_of_ble_eq_true rfl⟩) (m_in (locs := L_121) hK hM) rfl rfl hl.1 rfl (lv_room (Nat.le_of_ble_eq_true rfl)) md_M_assign_183 ⟨Nat.zero_le _, Nat.zero_le _⟩) hM hS hA (fun r_155 u_157 H_158 L_159 e_156 hM hS => ?_)
                    refine m_ast hx hb hK hM hS (rn_idx (jb_n0.mp c_3) (jb_n0.mp c_6)) md_M_assign_186 (fun u_160 H_161 L_162 hM hS => ?_)
                    refine lv_iconst (v := 0) hx hb md_M_assign_187 (by decide) ?_
                    exact W.iret (v := 0) hx hb hr (fun t ht2 _ => ⟨⟨0, u_160, rfl, (by simp [mz_asg, mz_wid, (show rn_in 3 4 = true from by decide), (jb_n0.mp c_3), (jb_n0.mp c_6), (jb_n0.mp c_9), (jb_n0.mp c_12), (jb_n0.mp c_15), (c_20), (c_122), c_149, c_150]), by show MWd D cL h0 q0 A _ t.heap; rw [ht2]; exact hM⟩, hS.F ht2⟩) hS.2.2 md_M_assign_188
                  · refine lv_aload_n hx hb md_M_assign_136 rfl (lv_at hl 3 rfl) ?_
                    refine lv_iload hx hb md_M_assign_137 (lv_at hl 2 rfl) ?_
                    refine lv_iload_n hx hb md_M_assign_139 rfl (lv_at hl 6 rfl) ?_
                    refine lv_lload hx hb md_M_assign_140 (lv_at hl 1 rfl) ?_
                    refine lv_lload hx hb md_M_assign_142 (lv_at hl 0 rfl) ?_
                    refine m_calll (va_runV (C := "NumberProbeModel") (As := [.int p0, .int p2, .long r_112, .long r_117]) (rest := []) ⟨hx, hb, hml, hown, hts⟩ (mt_M_operateReal l D cL h0 q0 _ u_119 p0 p2 r_112 r_117) (cwV 4 hts (gd_V tm_443 tm_445 tm_11 tm_25 tm_446) rfl rfl rfl (by decide +kernel) ⟨Nat.le_of_ble_eq_true rfl, Nat.le_of_ble_eq_true rfl⟩) (m_in (locs := L_121) hK hM) rfl rfl hl.1 rfl (lv_room (Nat.le_of_ble_eq_true rfl)) md_M_assign_144 ⟨Nat.zero_le _, Nat.zero_le _⟩) hM hS hA (fun r_163 u_165 H_166 L_167 e_164 hM hS => ?_)
                    refine lv_goto (tgt := 165) hx hb md_M_assign_147 (by decide) ?_
                    refine lv_lstore (lv' := [(11, .long r_163), (9, .long r_117), (7, .long r_112), (6, .int p0), (0, .ref h0), (1, .int p0), (2, .int p1), (3, .int p2), (4, .int p3), (5, .int p4)]) hx hb md_M_assign_165 hl (by decide) rfl (fun ls hl => ?_)
                    refine lv_aload_n hx hb md_M_assign_167 rfl (lv_at hl 4 rfl) ?_
                    refine va_get (D := D) (ci := 1) (v := .ref q0) (C := "NumberProbeModel") (T := TM) (N := 12) hx hb ht inM hown hK hM.1 0 rfl rfl 0 (by decide) (ht _ tm_318) (fun _ h9 => h9) rfl md_M_assign_168 ?_
                    refine lv_iload_n hx hb md_M_assign_171 rfl (lv_at hl 5 rfl) ?_
                    refine lv_bipush (v := 6) hx hb md_M_assign_172 (by decide) ?_
                    refine lv_imul hx hb md_M_assign_174 ?_
                    refine lv_iload_n hx hb md_M_assign_175 rfl (lv_at hl 6 rfl) ?_
                    refine lv_iadd hx hb md_M_assign_176 ?_
                    refine lv_aload_n hx hb md_M_assign_177 rfl (lv_at hl 4 rfl) ?_
                    refine lv_iload hx hb md_M_assign_178 (lv_at hl 3 rfl) ?_
                    refine lv_lload hx hb md_M_assign_180 (lv_at hl 0 rfl) ?_
                    refine lv_iload_n hx hb md_M_assign_182 rfl (lv_at hl 5 rfl) ?_
                    refine m_calll (va_runV (C := "NumberProbeModel") (As := [.int p0, .long r_163, .int p0]) (rest := [.int ((p0 * 6) + p1), .ref q0]) ⟨hx, hb, hml, hown, hts⟩ (mz_M_converted l D cL h0 q0 _ u_165 p0 r_163 p0) (cwV 3 hts (gd_V tm_504 tm_506 tm_20 tm_25 tm_507) rfl rfl rfl (by decide +kernel) ⟨Nat.le_of_ble_eq_true rfl, Nat.le_of_ble_eq_true rfl⟩) (m_in (locs := L_167) hK hM) rfl rfl hl.1 rfl (lv_room (Nat.le_of_ble_eq_true rfl)) md_M_assign_183 ⟨Nat.zero_le _, Nat.zero_le _⟩) hM hS hA (fun r_168 u_170 H_171 L_172 e_169 hM hS => ?_)
                    refine m_ast hx hb hK hM hS (rn_idx (jb_n0.mp c_3) (jb_n0.mp c_6)) md_M_assign_186 (fun u_173 H_174 L_175 hM hS => ?_)
                    refine lv_iconst (v := 0) hx hb md_M_assign_187 (by decide) ?_
                    exact W.iret (v := 0) hx hb hr (fun t ht2 _ => ⟨⟨0, u_173, rfl, (by simp [mz_asg, mz_wid, (show rn_in 3 4 = true from by decide), (jb_n0.mp c_3), (jb_n0.mp c_6), (jb_n0.mp c_9), (jb_n0.mp c_12), (jb_n0.mp c_15), (c_20), (c_122), c_149, (c_150)]), by show MWd D cL h0 q0 A _ t.heap; rw [ht2]; exact hM⟩, hS.F ht2⟩) hS.2.2 md_M_assign_188
                · refine lv_lload hx hb md_M_assign_120 (lv_at hl 0 rfl) ?_
                  refine lv_lconst (v := 0) hx hb md_M_assign_122 (by decide) ?_
                  refine W.lcmp hx hb md_M_assign_123 ?_
                  refine lv_if_ne (tgt := 130) hx hb md_M_assign_124 (by decide) (fun c_176 => ?_) (fun c_176 => ?_)
                  · refine lv_iload hx hb md_M_assign_130 (lv_at hl 2 rfl) ?_
                    refine lv_iconst (v := 2) hx hb md_M_assign_132 (by decide) ?_
                    refine lv_icmp_ge (tgt := 150) hx hb md_M_assign_133 (by decide) (fun c_177 => ?_) (fun c_177 => ?_)
                    · refine lv_iload hx hb md_M_assign_150 (lv_at hl 2 rfl) ?_
                      refine lv_iload hx hb md_M_assign_152 (lv_at hl 2 rfl) ?_
                      refine lv_iload_n hx hb md_M_assign_154 rfl (lv_at hl 6 rfl) ?_
                      refine lv_lload hx hb md_M_assign_155 (lv_at hl 1 rfl) ?_
                      refine lv_lload hx hb md_M_assign_157 (lv_at hl 0 rfl) ?_
                      refine vp_callSl (W.runS (As := [.int p0, .int p2, .long r_112, .long r_117]) (rest := [.int p0]) ⟨hx, hb, hml, hown, hts⟩ (mt_M_operateWhole l p0 p2 r_112 r_117 (fun _ => (mt (lg_cmp_eq _ _).mpr c_176))) (va_cwS 4 hts (gd_S tm_494 tm_495 tm_25 tm_496) rfl rfl rfl (by decide +kernel) ⟨Nat.le_of_ble_eq_true rfl, Nat.le_of_ble_eq_true rfl⟩) ⟨fb_0, fun U hU hW => ⟨rfl, trivial⟩⟩ rfl rfl hl.1 rfl (lv_room (Nat.le_of_ble_eq_true rfl)) md_M_assign_159 ⟨Nat.zero_le _, Nat.zero_le _⟩) (fun r_178 e_179 => ?_)
                      refine vp_callSl (W.runS (As := [.int p0, .long r_178]) (rest := []) ⟨hx, hb, hml, hown, hts⟩ (mz_M_normal l p0 r_178) (va_cwS 2 hts (gd_S tm_362 tm_363 tm_25 tm_364) rfl rfl rfl (by decide +kernel) ⟨Nat.le_of_ble_eq_true rfl, Nat.le_of_ble_eq_true rfl⟩) ⟨fb_0, fun U hU hW => ⟨rfl, trivial⟩⟩ rfl rfl hl.1 rfl (lv_room (Nat.le_of_ble_eq_true rfl)) md_M_assign_162 ⟨Nat.zero_le _, Nat.zero_le _⟩) (fun r_180 e_181 => ?_)
                      refine lv_lstore (lv' := [(11, .long r_180), (9, .long r_117), (7, .long r_112), (6, .int p0), (0, .ref h0), (1, .int p0), (2, .int p1), (3, .int p2), (4, .int p3), (5, .int p4)]) hx hb md_M_assign_165 hl (by decide) rfl (fun ls hl => ?_)
                      refine lv_aload_n hx hb md_M_assign_167 rfl (lv_at hl 4 rfl) ?_
                      refine va_get (D := D) (ci := 1) (v := .ref q0) (C := "NumberProbeModel") (T := TM) (N := 12) hx hb ht inM hown hK hM.1 0 rfl rfl 0 (by decide) (ht _ tm_318) (fun _ h9 => h9) rfl md_M_assign_168 ?_
                      refine lv_iload_n hx hb md_M_assign_171 rfl (lv_at hl 5 rfl) ?_
                      refine lv_bipush (v := 6) hx hb md_M_assign_172 (by decide) ?_
                      refine lv_imul hx hb md_M_assign_174 ?_
                      refine lv_iload_n hx hb md_M_assign_175 rfl (lv_at hl 6 rfl) ?_
                      refine lv_iadd hx hb md_M_assign_176 ?_
                      refine lv_aload_n hx hb md_M_assign_177 rfl (lv_at hl 4 rfl) ?_
                      refine lv_iload hx hb md_M_assign_178 (lv_at hl 3 rfl) ?_
                      refine lv_lload hx hb md_M_assign_180 (lv_at hl 0 rfl) ?_
                      refine lv_iload_n hx hb md_M_assign_182 rfl (lv_at hl 5 rfl) ?_
                      refine m_calll (va_runV (C := "NumberProbeModel") (As := [.int p0, .long r_180, .int p0]) (rest := [.int ((p0 * 6) + p1), .ref q0]) ⟨hx, hb, hml, hown, hts⟩ (mz_M_converted l D cL h0 q0 _ u_119 p0 r_180 p0) (cwV 3 hts (gd_V tm_504 tm_506 tm_20 tm_25 tm_507) rfl rfl rfl (by decide +kernel) ⟨Nat.le_of_ble_eq_true rfl, Nat.le_of_ble_eq_true rfl⟩) (m_in (locs := L_121) hK hM) rfl rfl hl.1 rfl (lv_room (Nat.le_of_ble_eq_true rfl)) md_M_assign_183 ⟨Nat.zero_le _, Nat.zero_le _⟩) hM hS hA (fun r_182 u_184 H_185 L_186 e_183 hM hS => ?_)
                      refine m_ast hx hb hK hM hS (rn_idx (jb_n0.mp c_3) (jb_n0.mp c_6)) md_M_assign_186 (fun u_187 H_188 L_189 hM hS => ?_)
                      refine lv_iconst (v := 0) hx hb md_M_assign_187 (by decide) ?_
                      exact W.iret (v := 0) hx hb hr (fun t ht2 _ => ⟨⟨0, u_187, rfl, (absurd (e_118.1 ((fun a => (congrFun (e_113.2.trans rfl) a).trans (hz a)) _) (rn_23 (jb_n0.mp c_3) (c_122))) (mt (lg_cmp_eq _ _).mpr c_176)), by show MWd D cL h0 q0 A _ t.heap; rw [ht2]; exact hM⟩, hS.F ht2⟩) hS.2.2 md_M_assign_188
                    · refine lv_aload_n hx hb md_M_assign_136 rfl (lv_at hl 3 rfl) ?_
                      refine lv_iload hx hb md_M_assign_137 (lv_at hl 2 rfl) ?_
                      refine lv_iload_n hx hb md_M_assign_139 rfl (lv_at hl 6 rfl) ?_
                      refine lv_lload hx hb md_M_assign_140 (lv_at hl 1 rfl) ?_
                      refine lv_lload hx hb md_M_assign_142 (lv_at hl 0 rfl) ?_
                      refine m_calll (va_runV (C := "NumberProbeModel") (As := [.int p0, .int p2, .long r_112, .long r_117]) (rest := []) ⟨hx, hb, hml, hown, hts⟩ (mt_M_operateReal l D cL h0 q0 _ u_119 p0 p2 r_112 r_117) (cwV 4 hts (gd_V tm_443 tm_445 tm_11 tm_25 tm_446) rfl rfl rfl (by decide +kernel) ⟨Nat.le_of_ble_eq_true rfl, Nat.le_of_ble_eq_true rfl⟩) (m_in (locs := L_121) hK hM) rfl rfl hl.1 rfl (lv_room (Nat.le_of_ble_eq_true rfl)) md_M_assign_144 ⟨Nat.zero_le _, Nat.zero_le _⟩) hM hS hA (fun r_190 u_192 H_193 L_194 e_191 hM hS => ?_)
                      refine lv_goto (tgt := 165) hx hb md_M_assign_147 (by decide) ?_
                      refine lv_lstore (lv' := [(11, .long r_190), (9, .long r_117), (7, .long r_112), (6, .int p0), (0, .ref h0), (1, .int p0), (2, .int p1), (3, .int p2), (4, .int p3), (5, .int p4)]) hx hb md_M_assign_165 hl (by decide) rfl (fun ls hl => ?_)
                      refine lv_aload_n hx hb md_M_assign_167 rfl (lv_at hl 4 rfl) ?_
                      refine va_get (D := D) (ci := 1) (v := .ref q0) (C := "NumberProbeModel") (T := TM) (N := 12) hx hb ht inM hown hK hM.1 0 rfl rfl 0 (by decide) (ht _ tm_318) (fun _ h9 => h9) rfl md_M_assign_168 ?_
                      refine lv_iload_n hx hb md_M_assign_171 rfl (lv_at hl 5 rfl) ?_
                      refine lv_bipush (v := 6) hx hb md_M_assign_172 (by decide) ?_
                      refine lv_imul hx hb md_M_assign_174 ?_
                      refine lv_iload_n hx hb md_M_assign_175 rfl (lv_at hl 6 rfl) ?_
                      refine lv_iadd hx hb md_M_assign_176 ?_
                      refine lv_aload_n hx hb md_M_assign_177 rfl (lv_at hl 4 rfl) ?_
                      refine lv_iload hx hb md_M_assign_178 (lv_at hl 3 rfl) ?_
                      refine lv_lload hx hb md_M_assign_180 (lv_at hl 0 rfl) ?_
                      refine lv_iload_n hx hb md_M_assign_182 rfl (lv_at hl 5 rfl) ?_
                      refine m_calll (va_runV (C := "NumberProbeModel") (As := [.int p0, .long r_190, .int p0]) (rest := [.int ((p0 * 6) + p1), .ref q0]) ⟨hx, hb, hml, hown, hts⟩ (mz_M_converted l D cL h0 q0 _ u_192 p0 r_190 p0) (cwV 3 hts (gd_V tm_504 tm_506 tm_20 tm_25 tm_507) rfl rfl rfl (by decide +kernel) ⟨Nat.le_of_ble_eq_true rfl, Nat.le_of_ble_eq_true rfl⟩) (m_in (locs := L_194) hK hM) rfl rfl hl.1 rfl (lv_room (Nat.le_of_ble_eq_true rfl)) md_M_assign_183 ⟨Nat.zero_le _, Nat.zero_le _⟩) hM hS hA (fun r_195 u_197 H_198 L_199 e_196 hM hS => ?_)
                      refine m_ast hx hb hK hM hS (rn_idx (jb_n0.mp c_3) (jb_n0.mp c_6)) md_M_assign_186 (fun u_200 H_201 L_202 hM hS => ?_)
                      refine lv_iconst (v := 0) hx hb md_M_assign_187 (by decide) ?_
                      exact W.iret (v := 0) hx hb hr (fun t ht2 _ => ⟨⟨0, u_200, rfl, (absurd (e_118.1 ((fun a => (congrFun (e_113.2.trans rfl) a).trans (hz a)) _) (rn_23 (jb_n0.mp c_3) (c_122))) (mt (lg_cmp_eq _ _).mpr c_176)), by show MWd D cL h0 q0 A _ t.heap; rw [ht2]; exact hM⟩, hS.F ht2⟩) hS.2.2 md_M_assign_188
                  · refine lv_bipush (v := (-2)) hx hb md_M_assign_127 (by decide) ?_
                    exact W.iret (v := (-2)) hx hb hr (fun t ht2 _ => ⟨⟨(-2), u_119, rfl, (by simp [mz_asg, mz_wid, (show rn_in 3 4 = true from by decide), (jb_n0.mp c_3), (jb_n0.mp c_6), (jb_n0.mp c_9), (jb_n0.mp c_12), (jb_n0.mp c_15), (c_20), (c_122), (c_149), ((lg_cmp_eq _ _).mp c_176)]), by show MWd D cL h0 q0 A _ t.heap; rw [ht2]; exact hM⟩, hS.F ht2⟩) hS.2.2 md_M_assign_129
          · refine lv_iconst (v := (-1)) hx hb md_M_assign_44 (by decide) ?_
            exact W.iret (v := (-1)) hx hb hr (fun t ht2 _ => ⟨⟨(-1), u, rfl, (by simp [mz_asg, mz_wid, (show rn_in 3 4 = true from by decide), (jb_n0.mp c_3), (jb_n0.mp c_6), (jb_n0.mp c_9), (jb_n0.mp c_12), (jb_0.mp c_15)]), by show MWd D cL h0 q0 A _ t.heap; rw [ht2]; exact hM⟩, hS.F ht2⟩) hS.2.2 md_M_assign_45
set_option maxHeartbeats 4000000 in
set_option maxRecDepth 100000 in
theorem mz_M_narrow (l : Launch) (D : va_G) (cL : ClassId) (h0 q0 sz : Nat) (u : MT) (p0 : Int32) (p1 : Int32) (p2 : Int32) (hz : ∀ a, u.2 a = 0) : Met l my_M_narrow mw_M_narrow ({ frames := 6, cells := 0, slots := 0, locals := 140 } : Room) (MPc D cL h0 q0 sz u [.int p0, .int p1, .int p2]) (MQi D cL h0 q0 (MA h0 q0 cL u sz) (fun (r : Int32) (v : MT) => r = 0)) 0 0 (MA h0 q0 cL u sz) := by
  refine Met.ofW (cc := mc_M_narrow) (maxL := 5) (ret := (some .int)) (by decide) rfl ?_
  intro p e s m args below meth c s₁ B hml hv
  obtain ⟨rfl, hsz, hP, hK, hD0⟩ := hv
  have hx := B.exec
  have hb := B.bytes
  have hr := B.returns
  have hts := atoms_spec (ws := mw_M_narrow) B.pre
  have ht : ∀ w ∈ gw_tbl, w.before _ s = true := fun w h => hts w (List.mem_cons_of_mem _ h)
  have hown : s.vm.findClass "NumberProbeModel" = some m.cls := findClass_of_methodNamed B.named
  have hlocks := B.notSynchronized
  subst hsz
  have hD : va_D (MA h0 q0 cL u s.heap.size) (mWs h0 q0 cL u) := hD0.self (sz := s.heap.size)
  generalize hAe : MA h0 q0 cL u s.heap.size = A at hD ⊢
  have hA : ∀ q : Nat, s.heap.size ≤ q → A q := fun q h => by rw [← hAe]; exact Or.inr h
  have hS : va_S A s.heap s.heap [] := va_S.rf
  have hM : MWd D cL h0 q0 A u s.heap := ⟨hP, hD⟩
  have hl := lv_entry ([.ref h0, .int p0, .int p1, .int p2]) (n := 5) (Nat.le_of_ble_eq_true rfl)
  rw [lg_entry_eq]
  generalize (lg_sl ([.ref h0, .int p0, .int p1, .int p2]) ++ List.replicate (5 - (lg_sl ([.ref h0, .int p0, .int p1, .int p2])).length) Slot.unset).toArray = ls at hl ⊢
  have hl : lv_has ls 5 [(0, .ref h0), (1, .int p0), (2, .int p1), (3, .int p2)] := hl
  refine lv_iload_n hx hb md_M_narrow_0 rfl (lv_at hl 1 rfl) ?_
  refine lv_iconst (v := 4) hx hb md_M_narrow_1 (by decide) ?_
  refine vp_callSi (W.runS (As := [.int p0, .int 4]) (rest := []) ⟨hx, hb, hml, hown, hts⟩ (mt_M_in l p0 4) (va_cwS 2 hts (gd_S tm_359 tm_360 tm_25 tm_361) rfl rfl rfl (by decide +kernel) ⟨Nat.le_of_ble_eq_true rfl, Nat.le_of_ble_eq_true rfl⟩) ⟨fb_0, fun U hU hW => ⟨rfl, trivial⟩⟩ rfl rfl hl.1 rfl (lv_room (Nat.le_of_ble_eq_true rfl)) md_M_narrow_2 ⟨Nat.zero_le _, Nat.zero_le _⟩) (fun r_1 e_2 => ?_)
  obtain rfl : r_1 = jb (rn_in p0 4) := e_2
  refine lv_if_eq (tgt := 25) hx hb md_M_narrow_5 (by decide) (fun c_3 => ?_) (fun c_3 => ?_)
  · refine lv_iconst (v := 0) hx hb md_M_narrow_25 (by decide) ?_
    exact W.iret (v := 0) hx hb hr (fun t ht2 _ => ⟨⟨0, u, rfl, (by rfl), by show MWd D cL h0 q0 A _ t.heap; rw [ht2]; exact hM⟩, hS.F ht2⟩) hS.2.2 md_M_narrow_26
  · refine lv_iload_n hx hb md_M_narrow_8 rfl (lv_at hl 2 rfl) ?_
    refine lv_bipush (v := 6) hx hb md_M_narrow_9 (by decide) ?_
    refine vp_callSi (W.runS (As := [.int p1, .int 6]) (rest := []) ⟨hx, hb, hml, hown, hts⟩ (mt_M_in l p1 6) (va_cwS 2 hts (gd_S tm_359 tm_360 tm_25 tm_361) rfl rfl rfl (by decide +kernel) ⟨Nat.le_of_ble_eq_true rfl, Nat.le_of_ble_eq_true rfl⟩) ⟨fb_0, fun U hU hW => ⟨rfl, trivial⟩⟩ rfl rfl hl.1 rfl (lv_room (Nat.le_of_ble_eq_true rfl)) md_M_narrow_11 ⟨Nat.zero_le _, Nat.zero_le _⟩) (fun r_4 e_5 => ?_)
    obtain rfl : r_4 = jb (rn_in p1 6) := e_5
    refine lv_if_eq (tgt := 25) hx hb md_M_narrow_14 (by decide) (fun c_6 => ?_) (fun c_6 => ?_)
    · refine lv_iconst (v := 0) hx hb md_M_narrow_25 (by decide) ?_
      exact W.iret (v := 0) hx hb hr (fun t ht2 _ => ⟨⟨0, u, rfl, (by rfl), by show MWd D cL h0 q0 A _ t.heap; rw [ht2]; exact hM⟩, hS.F ht2⟩) hS.2.2 md_M_narrow_26
    · refine lv_iload_n hx hb md_M_narrow_17 rfl (lv_at hl 3 rfl) ?_
      refine lv_iconst (v := 4) hx hb md_M_narrow_18 (by decide) ?_
      refine vp_callSi (W.runS (As := [.int p2, .int 4]) (rest := []) ⟨hx, hb, hml, hown, hts⟩ (mt_M_in l p2 4) (va_cwS 2 hts (gd_S tm_359 tm_360 tm_25 tm_361) rfl rfl rfl (by decide +kernel) ⟨Nat.le_of_ble_eq_true rfl, Nat.le_of_ble_eq_true rfl⟩) ⟨fb_0, fun U hU hW => ⟨rfl, trivial⟩⟩ rfl rfl hl.1 rfl (lv_room (Nat.le_of_ble_eq_true rfl)) md_M_narrow_19 ⟨Nat.zero_le _, Nat.zero_le _⟩) (fun r_7 e_8 => ?_)
      obtain rfl : r_7 = jb (rn_in p2 4) := e_8
      refine lv_if_ne (tgt := 27) hx hb md_M_narrow_22 (by decide) (fun c_9 => ?_) (fun c_9 => ?_)
      · refine lv_aload_n hx hb md_M_narrow_27 rfl (lv_at hl 0 rfl) ?_
        refine lv_iload_n hx hb md_M_narrow_28 rfl (lv_at hl 1 rfl) ?_
        refine lv_aload_n hx hb md_M_narrow_29 rfl (lv_at hl 0 rfl) ?_
        refine va_get (D := D) (ci := 1) (v := .ref q0) (C := "NumberProbeModel") (T := TM) (N := 12) hx hb ht inM hown hK hM.1 0 rfl rfl 0 (by decide) (ht _ tm_318) (fun _ h9 => h9) rfl md_M_narrow_30 ?_
        refine lv_iload_n hx hb md_M_narrow_33 rfl (lv_at hl 1 rfl) ?_
        refine lv_bipush (v := 6) hx hb md_M_narrow_34 (by decide) ?_
        refine lv_imul hx hb md_M_narrow_36 ?_
        refine lv_iload_n hx hb md_M_narrow_37 rfl (lv_at hl 2 rfl) ?_
        refine lv_iadd hx hb md_M_narrow_38 ?_
        refine va_lald (D := D) hx hb hK hM.1 1 0 rfl rfl (rn_idx (jb_n0.mp c_3) (jb_n0.mp c_6)) md_M_narrow_39 ?_
        refine lv_iconst (v := 2) hx hb md_M_narrow_40 (by decide) ?_
        refine m_calll (va_runV (C := "NumberProbeModel") (As := [.int p0, .long (u.2 ((p0 * 6) + p1).toNatClampNeg), .int 2]) (rest := []) ⟨hx, hb, hml, hown, hts⟩ (mz_M_converted l D cL h0 q0 _ u p0 (u.2 ((p0 * 6) + p1).toNatClampNeg) 2) (cwV 3 hts (gd_V tm_504 tm_506 tm_20 tm_25 tm_507) rfl rfl rfl (by decide +kernel) ⟨Nat.le_of_ble_eq_true rfl, Nat.le_of_ble_eq_true rfl⟩) (m_in (locs := []) hK hM) rfl rfl hl.1 rfl (lv_room (Nat.le_of_ble_eq_true rfl)) md_M_narrow_41 ⟨Nat.zero_le _, Nat.zero_le _⟩) hM hS hA (fun r_10 u_12 H_13 L_14 e_11 hM hS => ?_)
        refine lv_l2i (v := r_10.toInt32) hx hb md_M_narrow_44 rfl ?_
        refine lv_istore (lv' := [(4, .int r_10.toInt32), (0, .ref h0), (1, .int p0), (2, .int p1), (3, .int p2)]) hx hb md_M_narrow_45 hl (by decide) rfl (fun ls hl => ?_)
        refine lv_iload_n hx hb md_M_narrow_47 rfl (lv_at hl 4 rfl) ?_
        refine lv_if_ne (tgt := 57) hx hb md_M_narrow_48 (by decide) (fun c_15 => ?_) (fun c_15 => ?_)
        · refine lv_iload_n hx hb md_M_narrow_57 rfl (lv_at hl 4 rfl) ?_
          refine lv_iconst (v := 1) hx hb md_M_narrow_58 (by decide) ?_
          refine lv_icmp_ne (tgt := 68) hx hb md_M_narrow_59 (by decide) (fun c_16 => ?_) (fun c_16 => ?_)
          · refine lv_iload_n hx hb md_M_narrow_68 rfl (lv_at hl 4 rfl) ?_
            refine lv_iconst (v := 2) hx hb md_M_narrow_69 (by decide) ?_
            refine lv_icmp_ne (tgt := 79) hx hb md_M_narrow_70 (by decide) (fun c_17 => ?_) (fun c_17 => ?_)
            · refine lv_iload hx hb md_M_narrow_79 (lv_at hl 0 rfl) ?_
              exact W.iret (v := r_10.toInt32) hx hb hr (fun t ht2 _ => ⟨⟨r_10.toInt32, u_12, rfl, (by rw [e_11.1 (hz _) (Or.inl rfl)]; rfl), by show MWd D cL h0 q0 A _ t.heap; rw [ht2]; exact hM⟩, hS.F ht2⟩) hS.2.2 md_M_narrow_81
            · refine lv_iload hx hb md_M_narrow_73 (lv_at hl 0 rfl) ?_
              refine lv_i2s (v := r_10.toInt32.toInt16.toInt32) hx hb md_M_narrow_75 rfl ?_
              refine lv_goto (tgt := 81) hx hb md_M_narrow_76 (by decide) ?_
              exact W.iret (v := r_10.toInt32.toInt16.toInt32) hx hb hr (fun t ht2 _ => ⟨⟨r_10.toInt32.toInt16.toInt32, u_12, rfl, (by rw [e_11.1 (hz _) (Or.inl rfl)]; rfl), by show MWd D cL h0 q0 A _ t.heap; rw [ht2]; exact hM⟩, hS.F ht2⟩) hS.2.2 md_M_narrow_81
          · refine lv_iload hx hb md_M_narrow_62 (lv_at hl 0 rfl) ?_
            refine lv_i2c (v := (r_10.toInt32.toUInt32 % 65536).toInt32) hx hb md_M_narrow_64 rfl ?_
            refine lv_goto (tgt := 81) hx hb md_M_narrow_65 (by decide) ?_
            exact W.iret (v := (r_10.toInt32.toUInt32 % 65536).toInt32) hx hb hr (fun t ht2 _ => ⟨⟨(r_10.toInt32.toUInt32 % 65536).toInt32, u_12, rfl, (by rw [e_11.1 (hz _) (Or.inl rfl)]; rfl), by show MWd D cL h0 q0 A _ t.heap; rw [ht2]; exact hM⟩, hS.F ht2⟩) hS.2.2 md_M_narrow_81
        · refine lv_iload hx hb md_M_narrow_51 (lv_at hl 0 rfl) ?_
          refine lv_i2b (v := r_10.toInt32.toInt8.toInt32) hx hb md_M_narrow_53 rfl ?_
          refine lv_goto (tgt := 81) hx hb md_M_narrow_54 (by decide) ?_
          exact W.iret (v := r_10.toInt32.toInt8.toInt32) hx hb hr (fun t ht2 _ => ⟨⟨r_10.toInt32.toInt8.toInt32, u_12, rfl, (by rw [e_11.1 (hz _) (Or.inl rfl)]; rfl), by show MWd D cL h0 q0 A _ t.heap; rw [ht2]; exact hM⟩, hS.F ht2⟩) hS.2.2 md_M_narrow_81
      · refine lv_iconst (v := 0) hx hb md_M_narrow_25 (by decide) ?_
        exact W.iret (v := 0) hx hb hr (fun t ht2 _ => ⟨⟨0, u, rfl, (by rfl), by show MWd D cL h0 q0 A _ t.heap; rw [ht2]; exact hM⟩, hS.F ht2⟩) hS.2.2 md_M_narrow_26
set_option maxHeartbeats 4000000 in
set_option maxRecDepth 100000 in
theorem mz_M_compare (l : Launch) (D : va_G) (cL : ClassId) (h0 q0 sz : Nat) (u : MT) (p0 : Int32) (p1 : Int32) (p2 : Int32) (hz : ∀ a, u.2 a = 0) : Met l my_M_compare mw_M_compare ({ frames := 5, cells := 0, slots := 0, locals := 108 } : Room) (MPc D cL h0 q0 sz u [.int p0, .int p1, .int p2]) (MQi D cL h0 q0 (MA h0 q0 cL u sz) (fun (r : Int32) (v : MT) => r = mz_cmp p0 p1 p2)) 0 0 (MA h0 q0 cL u sz) := by
  refine Met.ofW (cc := mc_M_compare) (maxL := 8) (ret := (some .int)) (by decide) rfl ?_
  intro p e s m args below meth c s₁ B hml hv
  obtain ⟨rfl, hsz, hP, hK, hD0⟩ := hv
  have hx := B.exec
  have hb := B.bytes
  have hr := B.returns
  have hts := atoms_spec (ws := mw_M_compare) B.pre
  have ht : ∀ w ∈ gw_tbl, w.before _ s = true := fun w h => hts w (List.mem_cons_of_mem _ h)
  have hown : s.vm.findClass "NumberProbeModel" = some m.cls := findClass_of_methodNamed B.named
  have hlocks := B.notSynchronized
  subst hsz
  have hD : va_D (MA h0 q0 cL u s.heap.size) (mWs h0 q0 cL u) := hD0.self (sz := s.heap.size)
  generalize hAe : MA h0 q0 cL u s.heap.size = A at hD ⊢
  have hA : ∀ q : Nat, s.heap.size ≤ q → A q := fun q h => by rw [← hAe]; exact Or.inr h
  have hS : va_S A s.heap s.heap [] := va_S.rf
  have hM : MWd D cL h0 q0 A u s.heap := ⟨hP, hD⟩
  have hl := lv_entry ([.ref h0, .int p0, .int p1, .int p2]) (n := 8) (Nat.le_of_ble_eq_true rfl)
  rw [lg_entry_eq]
  generalize (lg_sl ([.ref h0, .int p0, .int p1, .int p2]) ++ List.replicate (8 - (lg_sl ([.ref h0, .int p0, .int p1, .int p2])).length) Slot.unset).toArray = ls at hl ⊢
  have hl : lv_has ls 8 [(0, .ref h0), (1, .int p0), (2, .int p1), (3, .int p2)] := hl
  refine lv_iload_n hx hb md_M_compare_0 rfl (lv_at hl 1 rfl) ?_
  refine lv_iconst (v := 4) hx hb md_M_compare_1 (by decide) ?_
  refine vp_callSi (W.runS (As := [.int p0, .int 4]) (rest := []) ⟨hx, hb, hml, hown, hts⟩ (mt_M_in l p0 4) (va_cwS 2 hts (gd_S tm_359 tm_360 tm_25 tm_361) rfl rfl rfl (by decide +kernel) ⟨Nat.le_of_ble_eq_true rfl, Nat.le_of_ble_eq_true rfl⟩) ⟨fb_0, fun U hU hW => ⟨rfl, trivial⟩⟩ rfl rfl hl.1 rfl (lv_room (Nat.le_of_ble_eq_true rfl)) md_M_compare_2 ⟨Nat.zero_le _, Nat.zero_le _⟩) (fun r_1 e_2 => ?_)
  obtain rfl : r_1 = jb (rn_in p0 4) := e_2
  refine lv_if_eq (tgt := 26) hx hb md_M_compare_5 (by decide) (fun c_3 => ?_) (fun c_3 => ?_)
  · refine lv_iconst (v := (-1)) hx hb md_M_compare_26 (by decide) ?_
    exact W.iret (v := (-1)) hx hb hr (fun t ht2 _ => ⟨⟨(-1), u, rfl, (by first | (simp [mz_cmp, (jb_0.mp c_3)]; done)), by show MWd D cL h0 q0 A _ t.heap; rw [ht2]; exact hM⟩, hS.F ht2⟩) hS.2.2 md_M_compare_27
  · refine lv_iload_n hx hb md_M_compare_8 rfl (lv_at hl 2 rfl) ?_
    refine lv_bipush (v := 6) hx hb md_M_compare_9 (by decide) ?_
    refine vp_callSi (W.runS (As := [.int p1, .int 6]) (rest := []) ⟨hx, hb, hml, hown, hts⟩ (mt_M_in l p1 6) (va_cwS 2 hts (gd_S tm_359 tm_360 tm_25 tm_361) rfl rfl rfl (by decide +kernel) ⟨Nat.le_of_ble_eq_true rfl, Nat.le_of_ble_eq_true rfl⟩) ⟨fb_0, fun U hU hW => ⟨rfl, trivial⟩⟩ rfl rfl hl.1 rfl (lv_room (Nat.le_of_ble_eq_true rfl)) md_M_compare_11 ⟨Nat.zero_le _, Nat.zero_le _⟩) (fun r_4 e_5 => ?_)
    obtain rfl : r_4 = jb (rn_in p1 6) := e_5
    refine lv_if_eq (tgt := 26) hx hb md_M_compare_14 (by decide) (fun c_6 => ?_) (fun c_6 => ?_)
    · refine lv_iconst (v := (-1)) hx hb md_M_compare_26 (by decide) ?_
      exact W.iret (v := (-1)) hx hb hr (fun t ht2 _ => ⟨⟨(-1), u, rfl, (by first | (simp [mz_cmp, (jb_n0.mp c_3), (jb_0.mp c_6)]; done)), by show MWd D cL h0 q0 A _ t.heap; rw [ht2]; exact hM⟩, hS.F ht2⟩) hS.2.2 md_M_compare_27
    · refine lv_iload_n hx hb md_M_compare_17 rfl (lv_at hl 3 rfl) ?_
      refine lv_bipush (v := 6) hx hb md_M_compare_18 (by decide) ?_
      refine vp_callSi (W.runS (As := [.int p2, .int 6]) (rest := []) ⟨hx, hb, hml, hown, hts⟩ (mt_M_in l p2 6) (va_cwS 2 hts (gd_S tm_359 tm_360 tm_25 tm_361) rfl rfl rfl (by decide +kernel) ⟨Nat.le_of_ble_eq_true rfl, Nat.le_of_ble_eq_true rfl⟩) ⟨fb_0, fun U hU hW => ⟨rfl, trivial⟩⟩ rfl rfl hl.1 rfl (lv_room (Nat.le_of_ble_eq_true rfl)) md_M_compare_20 ⟨Nat.zero_le _, Nat.zero_le _⟩) (fun r_7 e_8 => ?_)
      obtain rfl : r_7 = jb (rn_in p2 6) := e_8
      refine lv_if_ne (tgt := 28) hx hb md_M_compare_23 (by decide) (fun c_9 => ?_) (fun c_9 => ?_)
      · refine lv_aload_n hx hb md_M_compare_28 rfl (lv_at hl 0 rfl) ?_
        refine lv_iload_n hx hb md_M_compare_29 rfl (lv_at hl 1 rfl) ?_
        refine lv_iload_n hx hb md_M_compare_30 rfl (lv_at hl 2 rfl) ?_
        refine m_calll (va_runV (C := "NumberProbeModel") (As := [.int p0, .int p1]) (rest := []) ⟨hx, hb, hml, hown, hts⟩ (mz_M_placeOf l D cL h0 q0 _ u p0 p1 hz (jb_n0.mp c_3) (jb_n0.mp c_6)) (cwV 2 hts (gd_V tm_527 tm_529 tm_22 tm_25 tm_530) rfl rfl rfl (by decide +kernel) ⟨Nat.le_of_ble_eq_true rfl, Nat.le_of_ble_eq_true rfl⟩) (m_in (locs := []) hK hM) rfl rfl hl.1 rfl (lv_room (Nat.le_of_ble_eq_true rfl)) md_M_compare_31 ⟨Nat.zero_le _, Nat.zero_le _⟩) hM hS hA (fun r_10 u_12 H_13 L_14 e_11 hM hS => ?_)
        refine lv_lstore (lv' := [(4, .long r_10), (0, .ref h0), (1, .int p0), (2, .int p1), (3, .int p2)]) hx hb md_M_compare_34 hl (by decide) rfl (fun ls hl => ?_)
        refine lv_aload_n hx hb md_M_compare_36 rfl (lv_at hl 1 rfl) ?_
        refine lv_iload_n hx hb md_M_compare_37 rfl (lv_at hl 2 rfl) ?_
        refine lv_iload_n hx hb md_M_compare_38 rfl (lv_at hl 4 rfl) ?_
        refine m_calll (va_runV (C := "NumberProbeModel") (As := [.int p0, .int p2]) (rest := []) ⟨hx, hb, hml, hown, hts⟩ (mz_M_placeOf l D cL h0 q0 _ u_12 p0 p2 (fun a => (congrFun (e_11.2.trans rfl) a).trans (hz a)) (jb_n0.mp c_3) (jb_n0.mp c_9)) (cwV 2 hts (gd_V tm_527 tm_529 tm_22 tm_25 tm_530) rfl rfl rfl (by decide +kernel) ⟨Nat.le_of_ble_eq_true rfl, Nat.le_of_ble_eq_true rfl⟩) (m_in (locs := L_14) hK hM) rfl rfl hl.1 rfl (lv_room (Nat.le_of_ble_eq_true rfl)) md_M_compare_39 ⟨Nat.zero_le _, Nat.zero_le _⟩) hM hS hA (fun r_15 u_17 H_18 L_19 e_16 hM hS => ?_)
        refine lv_lstore (lv' := [(6, .long r_15), (4, .long r_10), (0, .ref h0), (1, .int p0), (2, .int p1), (3, .int p2)]) hx hb md_M_compare_42 hl (by decide) rfl (fun ls hl => ?_)
        refine lv_iload_n hx hb md_M_compare_44 rfl (lv_at hl 3 rfl) ?_
        refine lv_iconst (v := 2) hx hb md_M_compare_45 (by decide) ?_
        refine lv_icmp_ge (tgt := 89) hx hb md_M_compare_46 (by decide) (fun c_20 => ?_) (fun c_20 => ?_)
        · refine lv_iload_n hx hb md_M_compare_89 rfl (lv_at hl 3 rfl) ?_
          refine lv_iconst (v := 2) hx hb md_M_compare_90 (by decide) ?_
          refine lv_icmp_ge (tgt := 106) hx hb md_M_compare_91 (by decide) (fun c_21 => ?_) (fun c_21 => ?_)
          · refine lv_iload_n hx hb md_M_compare_106 rfl (lv_at hl 3 rfl) ?_
            refine lv_iconst (v := 2) hx hb md_M_compare_107 (by decide) ?_
            refine lv_icmp_ge (tgt := 123) hx hb md_M_compare_108 (by decide) (fun c_22 => ?_) (fun c_22 => ?_)
            · refine lv_lload hx hb md_M_compare_123 (lv_at hl 1 rfl) ?_
              refine lv_lload hx hb md_M_compare_125 (lv_at hl 0 rfl) ?_
              refine W.lcmp hx hb md_M_compare_127 ?_
              refine lv_if_ge (tgt := 137) hx hb md_M_compare_128 (by decide) (fun c_23 => ?_) (fun c_23 => ?_)
              · refine lv_lload hx hb md_M_compare_137 (lv_at hl 1 rfl) ?_
                refine lv_lload hx hb md_M_compare_139 (lv_at hl 0 rfl) ?_
                refine W.lcmp hx hb md_M_compare_141 ?_
                refine lv_if_le (tgt := 150) hx hb md_M_compare_142 (by decide) (fun c_24 => ?_) (fun c_24 => ?_)
                · refine lv_bipush (v := 90) hx hb md_M_compare_150 (by decide) ?_
                  exact W.iret (v := 90) hx hb hr (fun t ht2 _ => ⟨⟨90, u_17, rfl, (by first | (have f9 := ((lg_cmp_ge _ _).mp c_23); simp [hz, z_isN, e_11.1, e_16.1] at f9; done) | (have f9 := ((lg_cmp_le _ _).mp c_24); simp [hz, z_isN, e_11.1, e_16.1] at f9; done) | (simp [mz_cmp, (jb_n0.mp c_3), (jb_n0.mp c_6), (jb_n0.mp c_9), c_20, c_21, c_22, ((lg_cmp_ge _ _).mp c_23), ((lg_cmp_le _ _).mp c_24)]; done)), by show MWd D cL h0 q0 A _ t.heap; rw [ht2]; exact hM⟩, hS.F ht2⟩) hS.2.2 md_M_compare_152
                · refine lv_bipush (v := 108) hx hb md_M_compare_145 (by decide) ?_
                  refine lv_goto (tgt := 152) hx hb md_M_compare_147 (by decide) ?_
                  exact W.iret (v := 108) hx hb hr (fun t ht2 _ => ⟨⟨108, u_17, rfl, (by first | (have f9 := ((lg_cmp_ge _ _).mp c_23); simp [hz, z_isN, e_11.1, e_16.1] at f9; done) | (have f9 := (mt (lg_cmp_le _ _).mpr c_24); simp [hz, z_isN, e_11.1, e_16.1] at f9; done) | (simp [mz_cmp, (jb_n0.mp c_3), (jb_n0.mp c_6), (jb_n0.mp c_9), c_20, c_21, c_22, ((lg_cmp_ge _ _).mp c_23), (mt (lg_cmp_le _ _).mpr c_24)]; done)), by show MWd D cL h0 q0 A _ t.heap; rw [ht2]; exact hM⟩, hS.F ht2⟩) hS.2.2 md_M_compare_152
              · refine lv_sipush (v := 163) hx hb md_M_compare_131 (by decide) ?_
                refine lv_goto (tgt := 152) hx hb md_M_compare_134 (by decide) ?_
                exact W.iret (v := 163) hx hb hr (fun t ht2 _ => ⟨⟨163, u_17, rfl, (by first | (have f9 := (mt (lg_cmp_ge _ _).mpr c_23); simp [hz, z_isN, e_11.1, e_16.1] at f9; done) | (simp [mz_cmp, (jb_n0.mp c_3), (jb_n0.mp c_6), (jb_n0.mp c_9), c_20, c_21, c_22, (mt (lg_cmp_ge _ _).mpr c_23)]; done)), by show MWd D cL h0 q0 A _ t.heap; rw [ht2]; exact hM⟩, hS.F ht2⟩) hS.2.2 md_M_compare_152
            · refine lv_lload hx hb md_M_compare_111 (lv_at hl 0 rfl) ?_
              refine lv_ldc2 (v := (-1)) hx hb hown (ht _ tm_421) md_M_compare_113 ?_
              refine W.lcmp hx hb md_M_compare_116 ?_
              refine lv_if_ne (tgt := 123) hx hb md_M_compare_117 (by decide) (fun c_25 => ?_) (fun c_25 => ?_)
              · refine lv_lload hx hb md_M_compare_123 (lv_at hl 1 rfl) ?_
                refine lv_lload hx hb md_M_compare_125 (lv_at hl 0 rfl) ?_
                refine W.lcmp hx hb md_M_compare_127 ?_
                refine lv_if_ge (tgt := 137) hx hb md_M_compare_128 (by decide) (fun c_26 => ?_) (fun c_26 => ?_)
                · refine lv_lload hx hb md_M_compare_137 (lv_at hl 1 rfl) ?_
                  refine lv_lload hx hb md_M_compare_139 (lv_at hl 0 rfl) ?_
                  refine W.lcmp hx hb md_M_compare_141 ?_
                  refine lv_if_le (tgt := 150) hx hb md_M_compare_142 (by decide) (fun c_27 => ?_) (fun c_27 => ?_)
                  · refine lv_bipush (v := 90) hx hb md_M_compare_150 (by decide) ?_
                    exact W.iret (v := 90) hx hb hr (fun t ht2 _ => ⟨⟨90, u_17, rfl, (by first | (have f9 := (mt (lg_cmp_eq _ _).mpr c_25); simp [hz, z_isN, e_11.1, e_16.1] at f9; done) | (have f9 := ((lg_cmp_ge _ _).mp c_26); simp [hz, z_isN, e_11.1, e_16.1] at f9; done) | (have f9 := ((lg_cmp_le _ _).mp c_27); simp [hz, z_isN, e_11.1, e_16.1] at f9; done) | (simp [mz_cmp, (jb_n0.mp c_3), (jb_n0.mp c_6), (jb_n0.mp c_9), c_20, c_21, (c_22), (mt (lg_cmp_eq _ _).mpr c_25), ((lg_cmp_ge _ _).mp c_26), ((lg_cmp_le _ _).mp c_27)]; done)), by show MWd D cL h0 q0 A _ t.heap; rw [ht2]; exact hM⟩, hS.F ht2⟩) hS.2.2 md_M_compare_152
                  · refine lv_bipush (v := 108) hx hb md_M_compare_145 (by decide) ?_
                    refine lv_goto (tgt := 152) hx hb md_M_compare_147 (by decide) ?_
                    exact W.iret (v := 108) hx hb hr (fun t ht2 _ => ⟨⟨108, u_17, rfl, (by first | (have f9 := (mt (lg_cmp_eq _ _).mpr c_25); simp [hz, z_isN, e_11.1, e_16.1] at f9; done) | (have f9 := ((lg_cmp_ge _ _).mp c_26); simp [hz, z_isN, e_11.1, e_16.1] at f9; done) | (have f9 := (mt (lg_cmp_le _ _).mpr c_27); simp [hz, z_isN, e_11.1, e_16.1] at f9; done) | (simp [mz_cmp, (jb_n0.mp c_3), (jb_n0.mp c_6), (jb_n0.mp c_9), c_20, c_21, (c_22), (mt (lg_cmp_eq _ _).mpr c_25), ((lg_cmp_ge _ _).mp c_26), (mt (lg_cmp_le _ _).mpr c_27)]; done)), by show MWd D cL h0 q0 A _ t.heap; rw [ht2]; exact hM⟩, hS.F ht2⟩) hS.2.2 md_M_compare_152
                · refine lv_sipush (v := 163) hx hb md_M_compare_131 (by decide) ?_
                  refine lv_goto (tgt := 152) hx hb md_M_compare_134 (by decide) ?_
                  exact W.iret (v := 163) hx hb hr (fun t ht2 _ => ⟨⟨163, u_17, rfl, (by first | (have f9 := (mt (lg_cmp_eq _ _).mpr c_25); simp [hz, z_isN, e_11.1, e_16.1] at f9; done) | (have f9 := (mt (lg_cmp_ge _ _).mpr c_26); simp [hz, z_isN, e_11.1, e_16.1] at f9; done) | (simp [mz_cmp, (jb_n0.mp c_3), (jb_n0.mp c_6), (jb_n0.mp c_9), c_20, c_21, (c_22), (mt (lg_cmp_eq _ _).mpr c_25), (mt (lg_cmp_ge _ _).mpr c_26)]; done)), by show MWd D cL h0 q0 A _ t.heap; rw [ht2]; exact hM⟩, hS.F ht2⟩) hS.2.2 md_M_compare_152
              · refine lv_lconst (v := 0) hx hb md_M_compare_120 (by decide) ?_
                refine lv_lstore (lv' := [(6, .long 0), (4, .long r_10), (0, .ref h0), (1, .int p0), (2, .int p1), (3, .int p2)]) hx hb md_M_compare_121 hl (by decide) rfl (fun ls hl => ?_)
                refine lv_lload hx hb md_M_compare_123 (lv_at hl 1 rfl) ?_
                refine lv_lload hx hb md_M_compare_125 (lv_at hl 0 rfl) ?_
                refine W.lcmp hx hb md_M_compare_127 ?_
                refine lv_if_ge (tgt := 137) hx hb md_M_compare_128 (by decide) (fun c_28 => ?_) (fun c_28 => ?_)
                · refine lv_lload hx hb md_M_compare_137 (lv_at hl 1 rfl) ?_
                  refine lv_lload hx hb md_M_compare_139 (lv_at hl 0 rfl) ?_
                  refine W.lcmp hx hb md_M_compare_141 ?_
                  refine lv_if_le (tgt := 150) hx hb md_M_compare_142 (by decide) (fun c_29 => ?_) (fun c_29 => ?_)
                  · refine lv_bipush (v := 90) hx hb md_M_compare_150 (by decide) ?_
                    exact W.iret (v := 90) hx hb hr (fun t ht2 _ => ⟨⟨90, u_17, rfl, (by first | (have f9 := ((lg_cmp_eq _ _).mp c_25); simp [hz, z_isN, e_11.1, e_16.1] at f9; done) | (have f9 := ((lg_cmp_ge _ _).mp c_28); simp [hz, z_isN, e_11.1, e_16.1] at f9; done) | (have f9 := ((lg_cmp_le _ _).mp c_29); simp [hz, z_isN, e_11.1, e_16.1] at f9; done) | (simp [mz_cmp, (jb_n0.mp c_3), (jb_n0.mp c_6), (jb_n0.mp c_9), c_20, c_21, (c_22), ((lg_cmp_eq _ _).mp c_25), ((lg_cmp_ge _ _).mp c_28), ((lg_cmp_le _ _).mp c_29)]; done)), by show MWd D cL h0 q0 A _ t.heap; rw [ht2]; exact hM⟩, hS.F ht2⟩) hS.2.2 md_M_compare_152
                  · refine lv_bipush (v := 108) hx hb md_M_compare_145 (by decide) ?_
                    refine lv_goto (tgt := 152) hx hb md_M_compare_147 (by decide) ?_
                    exact W.iret (v := 108) hx hb hr (fun t ht2 _ => ⟨⟨108, u_17, rfl, (by first | (have f9 := ((lg_cmp_eq _ _).mp c_25); simp [hz, z_isN, e_11.1, e_16.1] at f9; done) | (have f9 := ((lg_cmp_ge _ _).mp c_28); simp [hz, z_isN, e_11.1, e_16.1] at f9; done) | (have f9 := (mt (lg_cmp_le _ _).mpr c_29); simp [hz, z_isN, e_11.1, e_16.1] at f9; done) | (simp [mz_cmp, (jb_n0.mp c_3), (jb_n0.mp c_6), (jb_n0.mp c_9), c_20, c_21, (c_22), ((lg_cmp_eq _ _).mp c_25), ((lg_cmp_ge _ _).mp c_28), (mt (lg_cmp_le _ _).mpr c_29)]; done)), by show MWd D cL h0 q0 A _ t.heap; rw [ht2]; exact hM⟩, hS.F ht2⟩) hS.2.2 md_M_compare_152
                · refine lv_sipush (v := 163) hx hb md_M_compare_131 (by decide) ?_
                  refine lv_goto (tgt := 152) hx hb md_M_compare_134 (by decide) ?_
                  exact W.iret (v := 163) hx hb hr (fun t ht2 _ => ⟨⟨163, u_17, rfl, (by first | (have f9 := ((lg_cmp_eq _ _).mp c_25); simp [hz, z_isN, e_11.1, e_16.1] at f9; done) | (have f9 := (mt (lg_cmp_ge _ _).mpr c_28); simp [hz, z_isN, e_11.1, e_16.1] at f9; done) | (simp [mz_cmp, (jb_n0.mp c_3), (jb_n0.mp c_6), (jb_n0.mp c_9), c_20, c_21, (c_22), ((lg_cmp_eq _ _).mp c_25), (mt (lg_cmp_ge _ _).mpr c_28)]; done)), by show MWd D cL h0 q0 A _ t.heap; rw [ht2]; exact hM⟩, hS.F ht2⟩) hS.2.2 md_M_compare_152
          · refine lv_lload hx hb md_M_compare_94 (lv_at hl 1 rfl) ?_
            refine lv_ldc2 (v := (-1)) hx hb hown (ht _ tm_421) md_M_compare_96 ?_
            refine W.lcmp hx hb md_M_compare_99 ?_
            refine lv_if_ne (tgt := 106) hx hb md_M_compare_100 (by decide) (fun c_30 => ?_) (fun c_30 => ?_)
            · refine lv_iload_n hx hb md_M_compare_106 rfl (lv_at hl 3 rfl) ?_
              refine lv_iconst (v := 2) hx hb md_M_compare_107 (by decide) ?_
              refine lv_icmp_ge (tgt := 123) hx hb md_M_compare_108 (by decide) (fun c_31 => ?_) (fun c_31 => ?_)
              · refine lv_lload hx hb md_M_compare_123 (lv_at hl 1 rfl) ?_
                refine lv_lload hx hb md_M_compare_125 (lv_at hl 0 rfl) ?_
                refine W.lcmp hx hb md_M_compare_127 ?_
                refine lv_if_ge (tgt := 137) hx hb md_M_compare_128 (by decide) (fun c_32 => ?_) (fun c_32 => ?_)
                · refine lv_lload hx hb md_M_compare_137 (lv_at hl 1 rfl) ?_
                  refine lv_lload hx hb md_M_compare_139 (lv_at hl 0 rfl) ?_
                  refine W.lcmp hx hb md_M_compare_141 ?_
                  refine lv_if_le (tgt := 150) hx hb md_M_compare_142 (by decide) (fun c_33 => ?_) (fun c_33 => ?_)
                  · refine lv_bipush (v := 90) hx hb md_M_compare_150 (by decide) ?_
                    exact W.iret (v := 90) hx hb hr (fun t ht2 _ => ⟨⟨90, u_17, rfl, (by first | (have f9 := (mt (lg_cmp_eq _ _).mpr c_30); simp [hz, z_isN, e_11.1, e_16.1] at f9; done) | (have f9 := ((lg_cmp_ge _ _).mp c_32); simp [hz, z_isN, e_11.1, e_16.1] at f9; done) | (have f9 := ((lg_cmp_le _ _).mp c_33); simp [hz, z_isN, e_11.1, e_16.1] at f9; done) | (simp [mz_cmp, (jb_n0.mp c_3), (jb_n0.mp c_6), (jb_n0.mp c_9), c_20, (c_21), (mt (lg_cmp_eq _ _).mpr c_30), c_31, ((lg_cmp_ge _ _).mp c_32), ((lg_cmp_le _ _).mp c_33)]; done)), by show MWd D cL h0 q0 A _ t.heap; rw [ht2]; exact hM⟩, hS.F ht2⟩) hS.2.2 md_M_compare_152
                  · refine lv_bipush (v := 108) hx hb md_M_compare_145 (by decide) ?_
                    refine lv_goto (tgt := 152) hx hb md_M_compare_147 (by decide) ?_
                    exact W.iret (v := 108) hx hb hr (fun t ht2 _ => ⟨⟨108, u_17, rfl, (by first | (have f9 := (mt (lg_cmp_eq _ _).mpr c_30); simp [hz, z_isN, e_11.1, e_16.1] at f9; done) | (have f9 := ((lg_cmp_ge _ _).mp c_32); simp [hz, z_isN, e_11.1, e_16.1] at f9; done) | (have f9 := (mt (lg_cmp_le _ _).mpr c_33); simp [hz, z_isN, e_11.1, e_16.1] at f9; done) | (simp [mz_cmp, (jb_n0.mp c_3), (jb_n0.mp c_6), (jb_n0.mp c_9), c_20, (c_21), (mt (lg_cmp_eq _ _).mpr c_30), c_31, ((lg_cmp_ge _ _).mp c_32), (mt (lg_cmp_le _ _).mpr c_33)]; done)), by show MWd D cL h0 q0 A _ t.heap; rw [ht2]; exact hM⟩, hS.F ht2⟩) hS.2.2 md_M_compare_152
                · refine lv_sipush (v := 163) hx hb md_M_compare_131 (by decide) ?_
                  refine lv_goto (tgt := 152) hx hb md_M_compare_134 (by decide) ?_
                  exact W.iret (v := 163) hx hb hr (fun t ht2 _ => ⟨⟨163, u_17, rfl, (by first | (have f9 := (mt (lg_cmp_eq _ _).mpr c_30); simp [hz, z_isN, e_11.1, e_16.1] at f9; done) | (have f9 := (mt (lg_cmp_ge _ _).mpr c_32); simp [hz, z_isN, e_11.1, e_16.1] at f9; done) | (simp [mz_cmp, (jb_n0.mp c_3), (jb_n0.mp c_6), (jb_n0.mp c_9), c_20, (c_21), (mt (lg_cmp_eq _ _).mpr c_30), c_31, (mt (lg_cmp_ge _ _).mpr c_32)]; done)), by show MWd D cL h0 q0 A _ t.heap; rw [ht2]; exact hM⟩, hS.F ht2⟩) hS.2.2 md_M_compare_152
              · refine lv_lload hx hb md_M_compare_111 (lv_at hl 0 rfl) ?_
                refine lv_ldc2 (v := (-1)) hx hb hown (ht _ tm_421) md_M_compare_113 ?_
                refine W.lcmp hx hb md_M_compare_116 ?_
                refine lv_if_ne (tgt := 123) hx hb md_M_compare_117 (by decide) (fun c_34 => ?_) (fun c_34 => ?_)
                · refine lv_lload hx hb md_M_compare_123 (lv_at hl 1 rfl) ?_
                  refine lv_lload hx hb md_M_compare_125 (lv_at hl 0 rfl) ?_
                  refine W.lcmp hx hb md_M_compare_127 ?_
                  refine lv_if_ge (tgt := 137) hx hb md_M_compare_128 (by decide) (fun c_35 => ?_) (fun c_35 => ?_)
                  · refine lv_lload hx hb md_M_compare_137 (lv_at hl 1 rfl) ?_
                    refine lv_lload hx hb md_M_compare_139 (lv_at hl 0 rfl) ?_
                    refine W.lcmp hx hb md_M_compare_141 ?_
                    refine lv_if_le (tgt := 150) hx hb md_M_compare_142 (by decide) (fun c_36 => ?_) (fun c_36 => ?_)
                    · refine lv_bipush (v := 90) hx hb md_M_compare_150 (by decide) ?_
                      exact W.iret (v := 90) hx hb hr (fun t ht2 _ => ⟨⟨90, u_17, rfl, (by first | (have f9 := (mt (lg_cmp_eq _ _).mpr c_30); simp [hz, z_isN, e_11.1, e_16.1] at f9; done) | (have f9 := (mt (lg_cmp_eq _ _).mpr c_34); simp [hz, z_isN, e_11.1, e_16.1] at f9; done) | (have f9 := ((lg_cmp_ge _ _).mp c_35); simp [hz, z_isN, e_11.1, e_16.1] at f9; done) | (have f9 := ((lg_cmp_le _ _).mp c_36); simp [hz, z_isN, e_11.1, e_16.1] at f9; done) | (simp [mz_cmp, (jb_n0.mp c_3), (jb_n0.mp c_6), (jb_n0.mp c_9), c_20, (c_21), (mt (lg_cmp_eq _ _).mpr c_30), (c_31), (mt (lg_cmp_eq _ _).mpr c_34), ((lg_cmp_ge _ _).mp c_35), ((lg_cmp_le _ _).mp c_36)]; done)), by show MWd D cL h0 q0 A _ t.heap; rw [ht2]; exact hM⟩, hS.F ht2⟩) hS.2.2 md_M_compare_152
                    · refine lv_bipush (v := 108) hx hb md_M_compare_145 (by decide) ?_
                      refine lv_goto (tgt := 152) hx hb md_M_compare_147 (by decide) ?_
                      exact W.iret (v := 108) hx hb hr (fun t ht2 _ => ⟨⟨108, u_17, rfl, (by first | (have f9 := (mt (lg_cmp_eq _ _).mpr c_30); simp [hz, z_isN, e_11.1, e_16.1] at f9; done) | (have f9 := (mt (lg_cmp_eq _ _).mpr c_34); simp [hz, z_isN, e_11.1, e_16.1] at f9; done) | (have f9 := ((lg_cmp_ge _ _).mp c_35); simp [hz, z_isN, e_11.1, e_16.1] at f9; done) | (have f9 := (mt (lg_cmp_le _ _).mpr c_36); simp [hz, z_isN, e_11.1, e_16.1] at f9; done) | (simp [mz_cmp, (jb_n0.mp c_3), (jb_n0.mp c_6), (jb_n0.mp c_9), c_20, (c_21), (mt (lg_cmp_eq _ _).mpr c_30), (c_31), (mt (lg_cmp_eq _ _).mpr c_34), ((lg_cmp_ge _ _).mp c_35), (mt (lg_cmp_le _ _).mpr c_36)]; done)), by show MWd D cL h0 q0 A _ t.heap; rw [ht2]; exact hM⟩, hS.F ht2⟩) hS.2.2 md_M_compare_152
                  · refine lv_sipush (v := 163) hx hb md_M_compare_131 (by decide) ?_
                    refine lv_goto (tgt := 152) hx hb md_M_compare_134 (by decide) ?_
                    exact W.iret (v := 163) hx hb hr (fun t ht2 _ => ⟨⟨163, u_17, rfl, (by first | (have f9 := (mt (lg_cmp_eq _ _).mpr c_30); simp [hz, z_isN, e_11.1, e_16.1] at f9; done) | (have f9 := (mt (lg_cmp_eq _ _).mpr c_34); simp [hz, z_isN, e_11.1, e_16.1] at f9; done) | (have f9 := (mt (lg_cmp_ge _ _).mpr c_35); simp [hz, z_isN, e_11.1, e_16.1] at f9; done) | (simp [mz_cmp, (jb_n0.mp c_3), (jb_n0.mp c_6), (jb_n0.mp c_9), c_20, (c_21), (mt (lg_cmp_eq _ _).mpr c_30), (c_31), (mt (lg_cmp_eq _ _).mpr c_34), (mt (lg_cmp_ge _ _).mpr c_35)]; done)), by show MWd D cL h0 q0 A _ t.heap; rw [ht2]; exact hM⟩, hS.F ht2⟩) hS.2.2 md_M_compare_152
                · refine lv_lconst (v := 0) hx hb md_M_compare_120 (by decide) ?_
                  refine lv_lstore (lv' := [(6, .long 0), (4, .long r_10), (0, .ref h0), (1, .int p0), (2, .int p1), (3, .int p2)]) hx hb md_M_compare_121 hl (by decide) rfl (fun ls hl => ?_)
                  refine lv_lload hx hb md_M_compare_123 (lv_at hl 1 rfl) ?_
                  refine lv_lload hx hb md_M_compare_125 (lv_at hl 0 rfl) ?_
                  refine W.lcmp hx hb md_M_compare_127 ?_
                  refine lv_if_ge (tgt := 137) hx hb md_M_compare_128 (by decide) (fun c_37 => ?_) (fun c_37 => ?_)
                  · refine lv_lload hx hb md_M_compare_137 (lv_at hl 1 rfl) ?_
                    refine lv_lload hx hb md_M_compare_139 (lv_at hl 0 rfl) ?_
                    refine W.lcmp hx hb md_M_compare_141 ?_
                    refine lv_if_le (tgt := 150) hx hb md_M_compare_142 (by decide) (fun c_38 => ?_) (fun c_38 => ?_)
                    · refine lv_bipush (v := 90) hx hb md_M_compare_150 (by decide) ?_
                      exact W.iret (v := 90) hx hb hr (fun t ht2 _ => ⟨⟨90, u_17, rfl, (by first | (have f9 := (mt (lg_cmp_eq _ _).mpr c_30); simp [hz, z_isN, e_11.1, e_16.1] at f9; done) | (have f9 := ((lg_cmp_eq _ _).mp c_34); simp [hz, z_isN, e_11.1, e_16.1] at f9; done) | (have f9 := ((lg_cmp_ge _ _).mp c_37); simp [hz, z_isN, e_11.1, e_16.1] at f9; done) | (have f9 := ((lg_cmp_le _ _).mp c_38); simp [hz, z_isN, e_11.1, e_16.1] at f9; done) | (simp [mz_cmp, (jb_n0.mp c_3), (jb_n0.mp c_6), (jb_n0.mp c_9), c_20, (c_21), (mt (lg_cmp_eq _ _).mpr c_30), (c_31), ((lg_cmp_eq _ _).mp c_34), ((lg_cmp_ge _ _).mp c_37), ((lg_cmp_le _ _).mp c_38)]; done)), by show MWd D cL h0 q0 A _ t.heap; rw [ht2]; exact hM⟩, hS.F ht2⟩) hS.2.2 md_M_compare_152
                    · refine lv_bipush (v := 108) hx hb md_M_compare_145 (by decide) ?_
                      refine lv_goto (tgt := 152) hx hb md_M_compare_147 (by decide) ?_
                      exact W.iret (v := 108) hx hb hr (fun t ht2 _ => ⟨⟨108, u_17, rfl, (by first | (have f9 := (mt (lg_cmp_eq _ _).mpr c_30); simp [hz, z_isN, e_11.1, e_16.1] at f9; done) | (have f9 := ((lg_cmp_eq _ _).mp c_34); simp [hz, z_isN, e_11.1, e_16.1] at f9; done) | (have f9 := ((lg_cmp_ge _ _).mp c_37); simp [hz, z_isN, e_11.1, e_16.1] at f9; done) | (have f9 := (mt (lg_cmp_le _ _).mpr c_38); simp [hz, z_isN, e_11.1, e_16.1] at f9; done) | (simp [mz_cmp, (jb_n0.mp c_3), (jb_n0.mp c_6), (jb_n0.mp c_9), c_20, (c_21), (mt (lg_cmp_eq _ _).mpr c_30), (c_31), ((lg_cmp_eq _ _).mp c_34), ((lg_cmp_ge _ _).mp c_37), (mt (lg_cmp_le _ _).mpr c_38)]; done)), by show MWd D cL h0 q0 A _ t.heap; rw [ht2]; exact hM⟩, hS.F ht2⟩) hS.2.2 md_M_compare_152
                  · refine lv_sipush (v := 163) hx hb md_M_compare_131 (by decide) ?_
                    refine lv_goto (tgt := 152) hx hb md_M_compare_134 (by decide) ?_
                    exact W.iret (v := 163) hx hb hr (fun t ht2 _ => ⟨⟨163, u_17, rfl, (by first | (have f9 := (mt (lg_cmp_eq _ _).mpr c_30); simp [hz, z_isN, e_11.1, e_16.1] at f9; done) | (have f9 := ((lg_cmp_eq _ _).mp c_34); simp [hz, z_isN, e_11.1, e_16.1] at f9; done) | (have f9 := (mt (lg_cmp_ge _ _).mpr c_37); simp [hz, z_isN, e_11.1, e_16.1] at f9; done) | (simp [mz_cmp, (jb_n0.mp c_3), (jb_n0.mp c_6), (jb_n0.mp c_9), c_20, (c_21), (mt (lg_cmp_eq _ _).mpr c_30), (c_31), ((lg_cmp_eq _ _).mp c_34), (mt (lg_cmp_ge _ _).mpr c_37)]; done)), by show MWd D cL h0 q0 A _ t.heap; rw [ht2]; exact hM⟩, hS.F ht2⟩) hS.2.2 md_M_compare_152
            · refine lv_lconst (v := 0) hx hb md_M_compare_103 (by decide) ?_
              refine lv_lstore (lv' := [(4, .long 0), (6, .long r_15), (0, .ref h0), (1, .int p0), (2, .int p1), (3, .int p2)]) hx hb md_M_compare_104 hl (by decide) rfl (fun ls hl => ?_)
              refine lv_iload_n hx hb md_M_compare_106 rfl (lv_at hl 3 rfl) ?_
              refine lv_iconst (v := 2) hx hb md_M_compare_107 (by decide) ?_
              refine lv_icmp_ge (tgt := 123) hx hb md_M_compare_108 (by decide) (fun c_39 => ?_) (fun c_39 => ?_)
              · refine lv_lload hx hb md_M_compare_123 (lv_at hl 0 rfl) ?_
                refine lv_lload hx hb md_M_compare_125 (lv_at hl 1 rfl) ?_
                refine W.lcmp hx hb md_M_compare_127 ?_
                refine lv_if_ge (tgt := 137) hx hb md_M_compare_128 (by decide) (fun c_40 => ?_) (fun c_40 => ?_)
                · refine lv_lload hx hb md_M_compare_137 (lv_at hl 0 rfl) ?_
                  refine lv_lload hx hb md_M_compare_139 (lv_at hl 1 rfl) ?_
                  refine W.lcmp hx hb md_M_compare_141 ?_
                  refine lv_if_le (tgt := 150) hx hb md_M_compare_142 (by decide) (fun c_41 => ?_) (fun c_41 => ?_)
                  · refine lv_bipush (v := 90) hx hb md_M_compare_150 (by decide) ?_
                    exact W.iret (v := 90) hx hb hr (fun t ht2 _ => ⟨⟨90, u_17, rfl, (by first | (have f9 := ((lg_cmp_eq _ _).mp c_30); simp [hz, z_isN, e_11.1, e_16.1] at f9; done) | (have f9 := ((lg_cmp_ge _ _).mp c_40); simp [hz, z_isN, e_11.1, e_16.1] at f9; done) | (have f9 := ((lg_cmp_le _ _).mp c_41); simp [hz, z_isN, e_11.1, e_16.1] at f9; done) | (simp [mz_cmp, (jb_n0.mp c_3), (jb_n0.mp c_6), (jb_n0.mp c_9), c_20, (c_21), ((lg_cmp_eq _ _).mp c_30), c_39, ((lg_cmp_ge _ _).mp c_40), ((lg_cmp_le _ _).mp c_41)]; done)), by show MWd D cL h0 q0 A _ t.heap; rw [ht2]; exact hM⟩, hS.F ht2⟩) hS.2.2 md_M_compare_152
                  · refine lv_bipush (v := 108) hx hb md_M_compare_145 (by decide) ?_
                    refine lv_goto (tgt := 152) hx hb md_M_compare_147 (by decide) ?_
                    exact W.iret (v := 108) hx hb hr (fun t ht2 _ => ⟨⟨108, u_17, rfl, (by first | (have f9 := ((lg_cmp_eq _ _).mp c_30); simp [hz, z_isN, e_11.1, e_16.1] at f9; done) | (have f9 := ((lg_cmp_ge _ _).mp c_40); simp [hz, z_isN, e_11.1, e_16.1] at f9; done) | (have f9 := (mt (lg_cmp_le _ _).mpr c_41); simp [hz, z_isN, e_11.1, e_16.1] at f9; done) | (simp [mz_cmp, (jb_n0.mp c_3), (jb_n0.mp c_6), (jb_n0.mp c_9), c_20, (c_21), ((lg_cmp_eq _ _).mp c_30), c_39, ((lg_cmp_ge _ _).mp c_40), (mt (lg_cmp_le _ _).mpr c_41)]; done)), by show MWd D cL h0 q0 A _ t.heap; rw [ht2]; exact hM⟩, hS.F ht2⟩) hS.2.2 md_M_compare_152
                · refine lv_sipush (v := 163) hx hb md_M_compare_131 (by decide) ?_
                  refine lv_goto (tgt := 152) hx hb md_M_compare_134 (by decide) ?_
                  exact W.iret (v := 163) hx hb hr (fun t ht2 _ => ⟨⟨163, u_17, rfl, (by first | (have f9 := ((lg_cmp_eq _ _).mp c_30); simp [hz, z_isN, e_11.1, e_16.1] at f9; done) | (have f9 := (mt (lg_cmp_ge _ _).mpr c_40); simp [hz, z_isN, e_11.1, e_16.1] at f9; done) | (simp [mz_cmp, (jb_n0.mp c_3), (jb_n0.mp c_6), (jb_n0.mp c_9), c_20, (c_21), ((lg_cmp_eq _ _).mp c_30), c_39, (mt (lg_cmp_ge _ _).mpr c_40)]; done)), by show MWd D cL h0 q0 A _ t.heap; rw [ht2]; exact hM⟩, hS.F ht2⟩) hS.2.2 md_M_compare_152
              · refine lv_lload hx hb md_M_compare_111 (lv_at hl 1 rfl) ?_
                refine lv_ldc2 (v := (-1)) hx hb hown (ht _ tm_421) md_M_compare_113 ?_
                refine W.lcmp hx hb md_M_compare_116 ?_
                refine lv_if_ne (tgt := 123) hx hb md_M_compare_117 (by decide) (fun c_42 => ?_) (fun c_42 => ?_)
                · refine lv_lload hx hb md_M_compare_123 (lv_at hl 0 rfl) ?_
                  refine lv_lload hx hb md_M_compare_125 (lv_at hl 1 rfl) ?_
                  refine W.lcmp hx hb md_M_compare_127 ?_
                  refine lv_if_ge (tgt := 137) hx hb md_M_compare_128 (by decide) (fun c_43 => ?_) (fun c_43 => ?_)
                  · refine lv_lload hx hb md_M_compare_137 (lv_at hl 0 rfl) ?_
                    refine lv_lload hx hb md_M_compare_139 (lv_at hl 1 rfl) ?_
                    refine W.lcmp hx hb md_M_compare_141 ?_
                    refine lv_if_le (tgt := 150) hx hb md_M_compare_142 (by decide) (fun c_44 => ?_) (fun c_44 => ?_)
                    · refine lv_bipush (v := 90) hx hb md_M_compare_150 (by decide) ?_
                      exact W.iret (v := 90) hx hb hr (fun t ht2 _ => ⟨⟨90, u_17, rfl, (by first | (have f9 := ((lg_cmp_eq _ _).mp c_30); simp [hz, z_isN, e_11.1, e_16.1] at f9; done) | (have f9 := (mt (lg_cmp_eq _ _).mpr c_42); simp [hz, z_isN, e_11.1, e_16.1] at f9; done) | (have f9 := ((lg_cmp_ge _ _).mp c_43); simp [hz, z_isN, e_11.1, e_16.1] at f9; done) | (have f9 := ((lg_cmp_le _ _).mp c_44); simp [hz, z_isN, e_11.1, e_16.1] at f9; done) | (simp [mz_cmp, (jb_n0.mp c_3), (jb_n0.mp c_6), (jb_n0.mp c_9), c_20, (c_21), ((lg_cmp_eq _ _).mp c_30), (c_39), (mt (lg_cmp_eq _ _).mpr c_42), ((lg_cmp_ge _ _).mp c_43), ((lg_cmp_le _ _).mp c_44)]; done)), by show MWd D cL h0 q0 A _ t.heap; rw [ht2]; exact hM⟩, hS.F ht2⟩) hS.2.2 md_M_compare_152
                    · refine lv_bipush (v := 108) hx hb md_M_compare_145 (by decide) ?_
                      refine lv_goto (tgt := 152) hx hb md_M_compare_147 (by decide) ?_
                      exact W.iret (v := 108) hx hb hr (fun t ht2 _ => ⟨⟨108, u_17, rfl, (by first | (have f9 := ((lg_cmp_eq _ _).mp c_30); simp [hz, z_isN, e_11.1, e_16.1] at f9; done) | (have f9 := (mt (lg_cmp_eq _ _).mpr c_42); simp [hz, z_isN, e_11.1, e_16.1] at f9; done) | (have f9 := ((lg_cmp_ge _ _).mp c_43); simp [hz, z_isN, e_11.1, e_16.1] at f9; done) | (have f9 := (mt (lg_cmp_le _ _).mpr c_44); simp [hz, z_isN, e_11.1, e_16.1] at f9; done) | (simp [mz_cmp, (jb_n0.mp c_3), (jb_n0.mp c_6), (jb_n0.mp c_9), c_20, (c_21), ((lg_cmp_eq _ _).mp c_30), (c_39), (mt (lg_cmp_eq _ _).mpr c_42), ((lg_cmp_ge _ _).mp c_43), (mt (lg_cmp_le _ _).mpr c_44)]; done)), by show MWd D cL h0 q0 A _ t.heap; rw [ht2]; exact hM⟩, hS.F ht2⟩) hS.2.2 md_M_compare_152
                  · refine lv_sipush (v := 163) hx hb md_M_compare_131 (by decide) ?_
                    refine lv_goto (tgt := 152) hx hb md_M_compare_134 (by decide) ?_
                    exact W.iret (v := 163) hx hb hr (fun t ht2 _ => ⟨⟨163, u_17, rfl, (by first | (have f9 := ((lg_cmp_eq _ _).mp c_30); simp [hz, z_isN, e_11.1, e_16.1] at f9; done) | (have f9 := (mt (lg_cmp_eq _ _).mpr c_42); simp [hz, z_isN, e_11.1, e_16.1] at f9; done) | (have f9 := (mt (lg_cmp_ge _ _).mpr c_43); simp [hz, z_isN, e_11.1, e_16.1] at f9; done) | (simp [mz_cmp, (jb_n0.mp c_3), (jb_n0.mp c_6), (jb_n0.mp c_9), c_20, (c_21), ((lg_cmp_eq _ _).mp c_30), (c_39), (mt (lg_cmp_eq _ _).mpr c_42), (mt (lg_cmp_ge _ _).mpr c_43)]; done)), by show MWd D cL h0 q0 A _ t.heap; rw [ht2]; exact hM⟩, hS.F ht2⟩) hS.2.2 md_M_compare_152
                · refine lv_lconst (v := 0) hx hb md_M_compare_120 (by decide) ?_
                  refine lv_lstore (lv' := [(6, .long 0), (4, .long 0), (0, .ref h0), (1, .int p0), (2, .int p1), (3, .int p2)]) hx hb md_M_compare_121 hl (by decide) rfl (fun ls hl => ?_)
                  refine lv_lload hx hb md_M_compare_123 (lv_at hl 1 rfl) ?_
                  refine lv_lload hx hb md_M_compare_125 (lv_at hl 0 rfl) ?_
                  refine W.lcmp hx hb md_M_compare_127 ?_
                  refine lv_if_ge (tgt := 137) hx hb md_M_compare_128 (by decide) (fun c_45 => ?_) (fun c_45 => ?_)
                  · refine lv_lload hx hb md_M_compare_137 (lv_at hl 1 rfl) ?_
                    refine lv_lload hx hb md_M_compare_139 (lv_at hl 0 rfl) ?_
                    refine W.lcmp hx hb md_M_compare_141 ?_
                    refine lv_if_le (tgt := 150) hx hb md_M_compare_142 (by decide) (fun c_46 => ?_) (fun c_46 => ?_)
                    · refine lv_bipush (v := 90) hx hb md_M_compare_150 (by decide) ?_
                      exact W.iret (v := 90) hx hb hr (fun t ht2 _ => ⟨⟨90, u_17, rfl, (by first | (have f9 := ((lg_cmp_eq _ _).mp c_30); simp [hz, z_isN, e_11.1, e_16.1] at f9; done) | (have f9 := ((lg_cmp_eq _ _).mp c_42); simp [hz, z_isN, e_11.1, e_16.1] at f9; done) | (simp [mz_cmp, (jb_n0.mp c_3), (jb_n0.mp c_6), (jb_n0.mp c_9), c_20, (c_21), ((lg_cmp_eq _ _).mp c_30), (c_39), ((lg_cmp_eq _ _).mp c_42), ((lg_cmp_ge _ _).mp c_45), ((lg_cmp_le _ _).mp c_46)]; done)), by show MWd D cL h0 q0 A _ t.heap; rw [ht2]; exact hM⟩, hS.F ht2⟩) hS.2.2 md_M_compare_152
                    · refine lv_bipush (v := 108) hx hb md_M_compare_145 (by decide) ?_
                      refine lv_goto (tgt := 152) hx hb md_M_compare_147 (by decide) ?_
                      exact W.iret (v := 108) hx hb hr (fun t ht2 _ => ⟨⟨108, u_17, rfl, (by first | (have f9 := ((lg_cmp_eq _ _).mp c_30); simp [hz, z_isN, e_11.1, e_16.1] at f9; done) | (have f9 := ((lg_cmp_eq _ _).mp c_42); simp [hz, z_isN, e_11.1, e_16.1] at f9; done) | (simp [mz_cmp, (jb_n0.mp c_3), (jb_n0.mp c_6), (jb_n0.mp c_9), c_20, (c_21), ((lg_cmp_eq _ _).mp c_30), (c_39), ((lg_cmp_eq _ _).mp c_42), ((lg_cmp_ge _ _).mp c_45), (mt (lg_cmp_le _ _).mpr c_46)]; done)), by show MWd D cL h0 q0 A _ t.heap; rw [ht2]; exact hM⟩, hS.F ht2⟩) hS.2.2 md_M_compare_152
                  · refine lv_sipush (v := 163) hx hb md_M_compare_131 (by decide) ?_
                    refine lv_goto (tgt := 152) hx hb md_M_compare_134 (by decide) ?_
                    exact W.iret (v := 163) hx hb hr (fun t ht2 _ => ⟨⟨163, u_17, rfl, (by first | (have f9 := ((lg_cmp_eq _ _).mp c_30); simp [hz, z_isN, e_11.1, e_16.1] at f9; done) | (have f9 := ((lg_cmp_eq _ _).mp c_42); simp [hz, z_isN, e_11.1, e_16.1] at f9; done) | (simp [mz_cmp, (jb_n0.mp c_3), (jb_n0.mp c_6), (jb_n0.mp c_9), c_20, (c_21), ((lg_cmp_eq _ _).mp c_30), (c_39), ((lg_cmp_eq _ _).mp c_42), (mt (lg_cmp_ge _ _).mpr c_45)]; done)), by show MWd D cL h0 q0 A _ t.heap; rw [ht2]; exact hM⟩, hS.F ht2⟩) hS.2.2 md_M_compare_152
        · refine lv_iload_n hx hb md_M_compare_49 rfl (lv_at hl 3 rfl) ?_
          refine lv_aload_n hx hb md_M_compare_50 rfl (lv_at hl 2 rfl) ?_
          refine va_get (D := D) (ci := 1) (v := .ref q0) (C := "NumberProbeModel") (T := TM) (N := 12) hx hb ht inM hown hK hM.1 0 rfl rfl 0 (by decide) (ht _ tm_318) (fun _ h9 => h9) rfl md_M_compare_51 ?_
          refine lv_iload_n hx hb md_M_compare_54 rfl (lv_at hl 3 rfl) ?_
          refine lv_bipush (v := 6) hx hb md_M_compare_55 (by decide) ?_
          refine lv_imul hx hb md_M_compare_57 ?_
          refine lv_iload_n hx hb md_M_compare_58 rfl (lv_at hl 4 rfl) ?_
          refine lv_iadd hx hb md_M_compare_59 ?_
          refine va_lald (D := D) hx hb hK hM.1 1 0 rfl rfl (rn_idx (jb_n0.mp c_3) (jb_n0.mp c_6)) md_M_compare_60 ?_
          refine vp_callSi (W.runS (As := [.int p0, .long (u_17.2 ((p0 * 6) + p1).toNatClampNeg)]) (rest := []) ⟨hx, hb, hml, hown, hts⟩ (mt_M_isNan l p0 (u_17.2 ((p0 * 6) + p1).toNatClampNeg)) (va_cwS 2 hts (gd_S tm_366 tm_367 tm_25 tm_368) rfl rfl rfl (by decide +kernel) ⟨Nat.le_of_ble_eq_true rfl, Nat.le_of_ble_eq_true rfl⟩) ⟨fb_0, fun U hU hW => ⟨rfl, trivial⟩⟩ rfl rfl hl.1 rfl (lv_room (Nat.le_of_ble_eq_true rfl)) md_M_compare_61 ⟨Nat.zero_le _, Nat.zero_le _⟩) (fun r_47 e_48 => ?_)
          obtain rfl : r_47 = jb (rf_isN p0 (u_17.2 ((p0 * 6) + p1).toNatClampNeg)) := e_48
          refine lv_if_ne (tgt := 85) hx hb md_M_compare_64 (by decide) (fun c_49 => ?_) (fun c_49 => ?_)
          · refine lv_sipush (v := 224) hx hb md_M_compare_85 (by decide) ?_
            exact W.iret (v := 224) hx hb hr (fun t ht2 _ => ⟨⟨224, u_17, rfl, (by have qu_17 : ∀ a, u_17.2 a = 0 := (fun a => (congrFun (e_16.2.trans (e_11.2.trans rfl)) a).trans (hz a)); first | (have f9 := (jb_n0.mp c_49); simp [hz, z_isN, qu_17, e_11.1, e_16.1] at f9; done) | (simp [mz_cmp, (jb_n0.mp c_3), (jb_n0.mp c_6), (jb_n0.mp c_9), (c_20), (jb_n0.mp c_49)]; done)), by show MWd D cL h0 q0 A _ t.heap; rw [ht2]; exact hM⟩, hS.F ht2⟩) hS.2.2 md_M_compare_88
          · refine lv_iload_n hx hb md_M_compare_67 rfl (lv_at hl 3 rfl) ?_
            refine lv_aload_n hx hb md_M_compare_68 rfl (lv_at hl 2 rfl) ?_
            refine va_get (D := D) (ci := 1) (v := .ref q0) (C := "NumberProbeModel") (T := TM) (N := 12) hx hb ht inM hown hK hM.1 0 rfl rfl 0 (by decide) (ht _ tm_318) (fun _ h9 => h9) rfl md_M_compare_69 ?_
            refine lv_iload_n hx hb md_M_compare_72 rfl (lv_at hl 3 rfl) ?_
            refine lv_bipush (v := 6) hx hb md_M_compare_73 (by decide) ?_
            refine lv_imul hx hb md_M_compare_75 ?_
            refine lv_iload_n hx hb md_M_compare_76 rfl (lv_at hl 5 rfl) ?_
            refine lv_iadd hx hb md_M_compare_77 ?_
            refine va_lald (D := D) hx hb hK hM.1 1 0 rfl rfl (rn_idx (jb_n0.mp c_3) (jb_n0.mp c_9)) md_M_compare_78 ?_
            refine vp_callSi (W.runS (As := [.int p0, .long (u_17.2 ((p0 * 6) + p2).toNatClampNeg)]) (rest := []) ⟨hx, hb, hml, hown, hts⟩ (mt_M_isNan l p0 (u_17.2 ((p0 * 6) + p2).toNatClampNeg)) (va_cwS 2 hts (gd_S tm_366 tm_367 tm_25 tm_368) rfl rfl rfl (by decide +kernel) ⟨Nat.le_of_ble_eq_true rfl, Nat.le_of_ble_eq_true rfl⟩) ⟨fb_0, fun U hU hW => ⟨rfl, trivial⟩⟩ rfl rfl hl.1 rfl (lv_room (Nat.le_of_ble_eq_true rfl)) md_M_compare_79 ⟨Nat.zero_le _, Nat.zero_le _⟩) (fun r_50 e_51 => ?_)
            obtain rfl : r_50 = jb (rf_isN p0 (u_17.2 ((p0 * 6) + p2).toNatClampNeg)) := e_51
            refine lv_if_eq (tgt := 89) hx hb md_M_compare_82 (by decide) (fun c_52 => ?_) (fun c_52 => ?_)
            · refine lv_iload_n hx hb md_M_compare_89 rfl (lv_at hl 3 rfl) ?_
              refine lv_iconst (v := 2) hx hb md_M_compare_90 (by decide) ?_
              refine lv_icmp_ge (tgt := 106) hx hb md_M_compare_91 (by decide) (fun c_53 => ?_) (fun c_53 => ?_)
              · refine lv_iload_n hx hb md_M_compare_106 rfl (lv_at hl 3 rfl) ?_
                refine lv_iconst (v := 2) hx hb md_M_compare_107 (by decide) ?_
                refine lv_icmp_ge (tgt := 123) hx hb md_M_compare_108 (by decide) (fun c_54 => ?_) (fun c_54 => ?_)
                · refine lv_lload hx hb md_M_compare_123 (lv_at hl 1 rfl) ?_
                  refine lv_lload hx hb md_M_compare_125 (lv_at hl 0 rfl) ?_
                  refine W.lcmp hx hb md_M_compare_127 ?_
                  refine lv_if_ge (tgt := 137) hx hb md_M_compare_128 (by decide) (fun c_55 => ?_) (fun c_55 => ?_)
                  · refine lv_lload hx hb md_M_compare_137 (lv_at hl 1 rfl) ?_
                    refine lv_lload hx hb md_M_compare_139 (lv_at hl 0 rfl) ?_
                    refine W.lcmp hx hb md_M_compare_141 ?_
                    refine lv_if_le (tgt := 150) hx hb md_M_compare_142 (by decide) (fun c_56 => ?_) (fun c_56 => ?_)
                    · refine lv_bipush (v := 90) hx hb md_M_compare_150 (by decide) ?_
                      exact W.iret (v := 90) hx hb hr (fun t ht2 _ => ⟨⟨90, u_17, rfl, (by have qu_17 : ∀ a, u_17.2 a = 0 := (fun a => (congrFun (e_16.2.trans (e_11.2.trans rfl)) a).trans (hz a)); first | (have f9 := (jb_0.mp c_49); simp [hz, z_isN, qu_17, e_11.1, e_16.1] at f9; done) | (have f9 := (jb_0.mp c_52); simp [hz, z_isN, qu_17, e_11.1, e_16.1] at f9; done) | (have f9 := ((lg_cmp_ge _ _).mp c_55); simp [hz, z_isN, qu_17, e_11.1, e_16.1] at f9; done) | (have f9 := ((lg_cmp_le _ _).mp c_56); simp [hz, z_isN, qu_17, e_11.1, e_16.1] at f9; done) | (simp [mz_cmp, (jb_n0.mp c_3), (jb_n0.mp c_6), (jb_n0.mp c_9), (c_20), (jb_0.mp c_49), (jb_0.mp c_52), c_53, c_54, ((lg_cmp_ge _ _).mp c_55), ((lg_cmp_le _ _).mp c_56)]; done)), by show MWd D cL h0 q0 A _ t.heap; rw [ht2]; exact hM⟩, hS.F ht2⟩) hS.2.2 md_M_compare_152
                    · refine lv_bipush (v := 108) hx hb md_M_compare_145 (by decide) ?_
                      refine lv_goto (tgt := 152) hx hb md_M_compare_147 (by decide) ?_
                      exact W.iret (v := 108) hx hb hr (fun t ht2 _ => ⟨⟨108, u_17, rfl, (by have qu_17 : ∀ a, u_17.2 a = 0 := (fun a => (congrFun (e_16.2.trans (e_11.2.trans rfl)) a).trans (hz a)); first | (have f9 := (jb_0.mp c_49); simp [hz, z_isN, qu_17, e_11.1, e_16.1] at f9; done) | (have f9 := (jb_0.mp c_52); simp [hz, z_isN, qu_17, e_11.1, e_16.1] at f9; done) | (have f9 := ((lg_cmp_ge _ _).mp c_55); simp [hz, z_isN, qu_17, e_11.1, e_16.1] at f9; done) | (have f9 := (mt (lg_cmp_le _ _).mpr c_56); simp [hz, z_isN, qu_17, e_11.1, e_16.1] at f9; done) | (simp [mz_cmp, (jb_n0.mp c_3), (jb_n0.mp c_6), (jb_n0.mp c_9), (c_20), (jb_0.mp c_49), (jb_0.mp c_52), c_53, c_54, ((lg_cmp_ge _ _).mp c_55), (mt (lg_cmp_le _ _).mpr c_56)]; done)), by show MWd D cL h0 q0 A _ t.heap; rw [ht2]; exact hM⟩, hS.F ht2⟩) hS.2.2 md_M_compare_152
                  · refine lv_sipush (v := 163) hx hb md_M_compare_131 (by decide) ?_
                    refine lv_goto (tgt := 152) hx hb md_M_compare_134 (by decide) ?_
                    exact W.iret (v := 163) hx hb hr (fun t ht2 _ => ⟨⟨163, u_17, rfl, (by have qu_17 : ∀ a, u_17.2 a = 0 := (fun a => (congrFun (e_16.2.trans (e_11.2.trans rfl)) a).trans (hz a)); first | (have f9 := (jb_0.mp c_49); simp [hz, z_isN, qu_17, e_11.1, e_16.1] at f9; done) | (have f9 := (jb_0.mp c_52); simp [hz, z_isN, qu_17, e_11.1, e_16.1] at f9; done) | (have f9 := (mt (lg_cmp_ge _ _).mpr c_55); simp [hz, z_isN, qu_17, e_11.1, e_16.1] at f9; done) | (simp [mz_cmp, (jb_n0.mp c_3), (jb_n0.mp c_6), (jb_n0.mp c_9), (c_20), (jb_0.mp c_49), (jb_0.mp c_52), c_53, c_54, (mt (lg_cmp_ge _ _).mpr c_55)]; done)), by show MWd D cL h0 q0 A _ t.heap; rw [ht2]; exact hM⟩, hS.F ht2⟩) hS.2.2 md_M_compare_152
                · refine lv_lload hx hb md_M_compare_111 (lv_at hl 0 rfl) ?_
                  refine lv_ldc2 (v := (-1)) hx hb hown (ht _ tm_421) md_M_compare_113 ?_
                  refine W.lcmp hx hb md_M_compare_116 ?_
                  refine lv_if_ne (tgt := 123) hx hb md_M_compare_117 (by decide) (fun c_57 => ?_) (fun c_57 => ?_)
                  · refine lv_lload hx hb md_M_compare_123 (lv_at hl 1 rfl) ?_
                    refine lv_lload hx hb md_M_compare_125 (lv_at hl 0 rfl) ?_
                    refine W.lcmp hx hb md_M_compare_127 ?_
                    refine lv_if_ge (tgt := 137) hx hb md_M_compare_128 (by decide) (fun c_58 => ?_) (fun c_58 => ?_)
                    · refine lv_lload hx hb md_M_compare_137 (lv_at hl 1 rfl) ?_
                      refine lv_lload hx hb md_M_compare_139 (lv_at hl 0 rfl) ?_
                      refine W.lcmp hx hb md_M_compare_141 ?_
                      refine lv_if_le (tgt := 150) hx hb md_M_compare_142 (by decide) (fun c_59 => ?_) (fun c_59 => ?_)
                      · refine lv_bipush (v := 90) hx hb md_M_compare_150 (by decide) ?_
                        exact W.iret (v := 90) hx hb hr (fun t ht2 _ => ⟨⟨90, u_17, rfl, (by have qu_17 : ∀ a, u_17.2 a = 0 := (fun a => (congrFun (e_16.2.trans (e_11.2.trans rfl)) a).trans (hz a)); first | (have f9 := (jb_0.mp c_49); simp [hz, z_isN, qu_17, e_11.1, e_16.1] at f9; done) | (have f9 := (jb_0.mp c_52); simp [hz, z_isN, qu_17, e_11.1, e_16.1] at f9; done) | (have f9 := (mt (lg_cmp_eq _ _).mpr c_57); simp [hz, z_isN, qu_17, e_11.1, e_16.1] at f9; done) | (have f9 := ((lg_cmp_ge _ _).mp c_58); simp [hz, z_isN, qu_17, e_11.1, e_16.1] at f9; done) | (have f9 := ((lg_cmp_le _ _).mp c_59); simp [hz, z_isN, qu_17, e_11.1, e_16.1] at f9; done) | (simp [mz_cmp, (jb_n0.mp c_3), (jb_n0.mp c_6), (jb_n0.mp c_9), (c_20), (jb_0.mp c_49), (jb_0.mp c_52), c_53, (c_54), (mt (lg_cmp_eq _ _).mpr c_57), ((lg_cmp_ge _ _).mp c_58), ((lg_cmp_le _ _).mp c_59)]; done)), by show MWd D cL h0 q0 A _ t.heap; rw [ht2]; exact hM⟩, hS.F ht2⟩) hS.2.2 md_M_compare_152
                      · refine lv_bipush (v := 108) hx hb md_M_compare_145 (by decide) ?_
                        refine lv_goto (tgt := 152) hx hb md_M_compare_147 (by decide) ?_
                        exact W.iret (v := 108) hx hb hr (fun t ht2 _ => ⟨⟨108, u_17, rfl, (by have qu_17 : ∀ a, u_17.2 a = 0 := (fun a => (congrFun (e_16.2.trans (e_11.2.trans rfl)) a).trans (hz a)); first | (have f9 := (jb_0.mp c_49); simp [hz, z_isN, qu_17, e_11.1, e_16.1] at f9; done) | (have f9 := (jb_0.mp c_52); simp [hz, z_isN, qu_17, e_11.1, e_16.1] at f9; done) | (have f9 := (mt (lg_cmp_eq _ _).mpr c_57); simp [hz, z_isN, qu_17, e_11.1, e_16.1] at f9; done) | (have f9 := ((lg_cmp_ge _ _).mp c_58); simp [hz, z_isN, qu_17, e_11.1, e_16.1] at f9; done) | (have f9 := (mt (lg_cmp_le _ _).mpr c_59); simp [hz, z_isN, qu_17, e_11.1, e_16.1] at f9; done) | (simp [mz_cmp, (jb_n0.mp c_3), (jb_n0.mp c_6), (jb_n0.mp c_9), (c_20), (jb_0.mp c_49), (jb_0.mp c_52), c_53, (c_54), (mt (lg_cmp_eq _ _).mpr c_57), ((lg_cmp_ge _ _).mp c_58), (mt (lg_cmp_le _ _).mpr c_59)]; done)), by show MWd D cL h0 q0 A _ t.heap; rw [ht2]; exact hM⟩, hS.F ht2⟩) hS.2.2 md_M_compare_152
                    · refine lv_sipush (v := 163) hx hb md_M_compare_131 (by decide) ?_
                      refine lv_goto (tgt := 152) hx hb md_M_compare_134 (by decide) ?_
                      exact W.iret (v := 163) hx hb hr (fun t ht2 _ => ⟨⟨163, u_17, rfl, (by have qu_17 : ∀ a, u_17.2 a = 0 := (fun a => (congrFun (e_16.2.trans (e_11.2.trans rfl)) a).trans (hz a)); first | (have f9 := (jb_0.mp c_49); simp [hz, z_isN, qu_17, e_11.1, e_16.1] at f9; done) | (have f9 := (jb_0.mp c_52); simp [hz, z_isN, qu_17, e_11.1, e_16.1] at f9; done) | (have f9 := (mt (lg_cmp_eq _ _).mpr c_57); simp [hz, z_isN, qu_17, e_11.1, e_16.1] at f9; done) | (have f9 := (mt (lg_cmp_ge _ _).mpr c_58); simp [hz, z_isN, qu_17, e_11.1, e_16.1] at f9; done) | (simp [mz_cmp, (jb_n0.mp c_3), (jb_n0.mp c_6), (jb_n0.mp c_9), (c_20), (jb_0.mp c_49), (jb_0.mp c_52), c_53, (c_54), (mt (lg_cmp_eq _ _).mpr c_57), (mt (lg_cmp_ge _ _).mpr c_58)]; done)), by show MWd D cL h0 q0 A _ t.heap; rw [ht2]; exact hM⟩, hS.F ht2⟩) hS.2.2 md_M_compare_152
                  · refine lv_lconst (v := 0) hx hb md_M_compare_120 (by decide) ?_
                    refine lv_lstore (lv' := [(6, .long 0), (4, .long r_10), (0, .ref h0), (1, .int p0), (2, .int p1), (3, .int p2)]) hx hb md_M_compare_121 hl (by decide) rfl (fun ls hl => ?_)
                    refine lv_lload hx hb md_M_compare_123 (lv_at hl 1 rfl) ?_
                    refine lv_lload hx hb md_M_compare_125 (lv_at hl 0 rfl) ?_
                    refine W.lcmp hx hb md_M_compare_127 ?_
                    refine lv_if_ge (tgt := 137) hx hb md_M_compare_128 (by decide) (fun c_60 => ?_) (fun c_60 => ?_)
                    · refine lv_lload hx hb md_M_compare_137 (lv_at hl 1 rfl) ?_
                      refine lv_lload hx hb md_M_compare_139 (lv_at hl 0 rfl) ?_
                      refine W.lcmp hx hb md_M_compare_141 ?_
                      refine lv_if_le (tgt := 150) hx hb md_M_compare_142 (by decide) (fun c_61 => ?_) (fun c_61 => ?_)
                      · refine lv_bipush (v := 90) hx hb md_M_compare_150 (by decide) ?_
                        exact W.iret (v := 90) hx hb hr (fun t ht2 _ => ⟨⟨90, u_17, rfl, (by have qu_17 : ∀ a, u_17.2 a = 0 := (fun a => (congrFun (e_16.2.trans (e_11.2.trans rfl)) a).trans (hz a)); first | (have f9 := (jb_0.mp c_49); simp [hz, z_isN, qu_17, e_11.1, e_16.1] at f9; done) | (have f9 := (jb_0.mp c_52); simp [hz, z_isN, qu_17, e_11.1, e_16.1] at f9; done) | (have f9 := ((lg_cmp_eq _ _).mp c_57); simp [hz, z_isN, qu_17, e_11.1, e_16.1] at f9; done) | (have f9 := ((lg_cmp_ge _ _).mp c_60); simp [hz, z_isN, qu_17, e_11.1, e_16.1] at f9; done) | (have f9 := ((lg_cmp_le _ _).mp c_61); simp [hz, z_isN, qu_17, e_11.1, e_16.1] at f9; done) | (simp [mz_cmp, (jb_n0.mp c_3), (jb_n0.mp c_6), (jb_n0.mp c_9), (c_20), (jb_0.mp c_49), (jb_0.mp c_52), c_53, (c_54), ((lg_cmp_eq _ _).mp c_57), ((lg_cmp_ge _ _).mp c_60), ((lg_cmp_le _ _).mp c_61)]; done)), by show MWd D cL h0 q0 A _ t.heap; rw [ht2]; exact hM⟩, hS.F ht2⟩) hS.2.2 md_M_compare_152
                      · refine lv_bipush (v := 108) hx hb md_M_compare_145 (by decide) ?_
                        refine lv_goto (tgt := 152) hx hb md_M_compare_147 (by decide) ?_
                        exact W.iret (v := 108) hx hb hr (fun t ht2 _ => ⟨⟨108, u_17, rfl, (by have qu_17 : ∀ a, u_17.2 a = 0 := (fun a => (congrFun (e_16.2.trans (e_11.2.trans rfl)) a).trans (hz a)); first | (have f9 := (jb_0.mp c_49); simp [hz, z_isN, qu_17, e_11.1, e_16.1] at f9; done) | (have f9 := (jb_0.mp c_52); simp [hz, z_isN, qu_17, e_11.1, e_16.1] at f9; done) | (have f9 := ((lg_cmp_eq _ _).mp c_57); simp [hz, z_isN, qu_17, e_11.1, e_16.1] at f9; done) | (have f9 := ((lg_cmp_ge _ _).mp c_60); simp [hz, z_isN, qu_17, e_11.1, e_16.1] at f9; done) | (have f9 := (mt (lg_cmp_le _ _).mpr c_61); simp [hz, z_isN, qu_17, e_11.1, e_16.1] at f9; done) | (simp [mz_cmp, (jb_n0.mp c_3), (jb_n0.mp c_6), (jb_n0.mp c_9), (c_20), (jb_0.mp c_49), (jb_0.mp c_52), c_53, (c_54), ((lg_cmp_eq _ _).mp c_57), ((lg_cmp_ge _ _).mp c_60), (mt (lg_cmp_le _ _).mpr c_61)]; done)), by show MWd D cL h0 q0 A _ t.heap; rw [ht2]; exact hM⟩, hS.F ht2⟩) hS.2.2 md_M_compare_152
                    · refine lv_sipush (v := 163) hx hb md_M_compare_131 (by decide) ?_
                      refine lv_goto (tgt := 152) hx hb md_M_compare_134 (by decide) ?_
                      exact W.iret (v := 163) hx hb hr (fun t ht2 _ => ⟨⟨163, u_17, rfl, (by have qu_17 : ∀ a, u_17.2 a = 0 := (fun a => (congrFun (e_16.2.trans (e_11.2.trans rfl)) a).trans (hz a)); first | (have f9 := (jb_0.mp c_49); simp [hz, z_isN, qu_17, e_11.1, e_16.1] at f9; done) | (have f9 := (jb_0.mp c_52); simp [hz, z_isN, qu_17, e_11.1, e_16.1] at f9; done) | (have f9 := ((lg_cmp_eq _ _).mp c_57); simp [hz, z_isN, qu_17, e_11.1, e_16.1] at f9; done) | (have f9 := (mt (lg_cmp_ge _ _).mpr c_60); simp [hz, z_isN, qu_17, e_11.1, e_16.1] at f9; done) | (simp [mz_cmp, (jb_n0.mp c_3), (jb_n0.mp c_6), (jb_n0.mp c_9), (c_20), (jb_0.mp c_49), (jb_0.mp c_52), c_53, (c_54), ((lg_cmp_eq _ _).mp c_57), (mt (lg_cmp_ge _ _).mpr c_60)]; done)), by show MWd D cL h0 q0 A _ t.heap; rw [ht2]; exact hM⟩, hS.F ht2⟩) hS.2.2 md_M_compare_152
              · refine lv_lload hx hb md_M_compare_94 (lv_at hl 1 rfl) ?_
                refine lv_ldc2 (v := (-1)) hx hb hown (ht _ tm_421) md_M_compare_96 ?_
                refine W.lcmp hx hb md_M_compare_99 ?_
                refine lv_if_ne (tgt := 106) hx hb md_M_compare_100 (by decide) (fun c_62 => ?_) (fun c_62 => ?_)
                · refine lv_iload_n hx hb md_M_compare_106 rfl (lv_at hl 3 rfl) ?_
                  refine lv_iconst (v := 2) hx hb md_M_compare_107 (by decide) ?_
                  refine lv_icmp_ge (tgt := 123) hx hb md_M_compare_108 (by decide) (fun c_63 => ?_) (fun c_63 => ?_)
                  · refine lv_lload hx hb md_M_compare_123 (lv_at hl 1 rfl) ?_
                    refine lv_lload hx hb md_M_compare_125 (lv_at hl 0 rfl) ?_
                    refine W.lcmp hx hb md_M_compare_127 ?_
                    refine lv_if_ge (tgt := 137) hx hb md_M_compare_128 (by decide) (fun c_64 => ?_) (fun c_64 => ?_)
                    · refine lv_lload hx hb md_M_compare_137 (lv_at hl 1 rfl) ?_
                      refine lv_lload hx hb md_M_compare_139 (lv_at hl 0 rfl) ?_
                      refine W.lcmp hx hb md_M_compare_141 ?_
                      refine lv_if_le (tgt := 150) hx hb md_M_compare_142 (by decide) (fun c_65 => ?_) (fun c_65 => ?_)
                      · refine lv_bipush (v := 90) hx hb md_M_compare_150 (by decide) ?_
                        exact W.iret (v := 90) hx hb hr (fun t ht2 _ => ⟨⟨90, u_17, rfl, (by have qu_17 : ∀ a, u_17.2 a = 0 := (fun a => (congrFun (e_16.2.trans (e_11.2.trans rfl)) a).trans (hz a)); first | (have f9 := (jb_0.mp c_49); simp [hz, z_isN, qu_17, e_11.1, e_16.1] at f9; done) | (have f9 := (jb_0.mp c_52); simp [hz, z_isN, qu_17, e_11.1, e_16.1] at f9; done) | (have f9 := (mt (lg_cmp_eq _ _).mpr c_62); simp [hz, z_isN, qu_17, e_11.1, e_16.1] at f9; done) | (have f9 := ((lg_cmp_ge _ _).mp c_64); simp [hz, z_isN, qu_17, e_11.1, e_16.1] at f9; done) | (have f9 := ((lg_cmp_le _ _).mp c_65); simp [hz, z_isN, qu_17, e_11.1, e_16.1] at f9; done) | (simp [mz_cmp, (jb_n0.mp c_3), (jb_n0.mp c_6), (jb_n0.mp c_9), (c_20), (jb_0.mp c_49), (jb_0.mp c_52), (c_53), (mt (lg_cmp_eq _ _).mpr c_62), c_63, ((lg_cmp_ge _ _).mp c_64), ((lg_cmp_le _ _).mp c_65)]; done)), by show MWd D cL h0 q0 A _ t.heap; rw [ht2]; exact hM⟩, hS.F ht2⟩) hS.2.2 md_M_compare_152
                      · refine lv_bipush (v := 108) hx hb md_M_compare_145 (by decide) ?_
                        refine lv_goto (tgt := 152) hx hb md_M_compare_147 (by decide) ?_
                        exact W.iret (v := 108) hx hb hr (fun t ht2 _ => ⟨⟨108, u_17, rfl, (by have qu_17 : ∀ a, u_17.2 a = 0 := (fun a => (congrFun (e_16.2.trans (e_11.2.trans rfl)) a).trans (hz a)); first | (have f9 := (jb_0.mp c_49); simp [hz, z_isN, qu_17, e_11.1, e_16.1] at f9; done) | (have f9 := (jb_0.mp c_52); simp [hz, z_isN, qu_17, e_11.1, e_16.1] at f9; done) | (have f9 := (mt (lg_cmp_eq _ _).mpr c_62); simp [hz, z_isN, qu_17, e_11.1, e_16.1] at f9; done) | (have f9 := ((lg_cmp_ge _ _).mp c_64); simp [hz, z_isN, qu_17, e_11.1, e_16.1] at f9; done) | (have f9 := (mt (lg_cmp_le _ _).mpr c_65); simp [hz, z_isN, qu_17, e_11.1, e_16.1] at f9; done) | (simp [mz_cmp, (jb_n0.mp c_3), (jb_n0.mp c_6), (jb_n0.mp c_9), (c_20), (jb_0.mp c_49), (jb_0.mp c_52), (c_53), (mt (lg_cmp_eq _ _).mpr c_62), c_63, ((lg_cmp_ge _ _).mp c_64), (mt (lg_cmp_le _ _).mpr c_65)]; done)), by show MWd D cL h0 q0 A _ t.heap; rw [ht2]; exact hM⟩, hS.F ht2⟩) hS.2.2 md_M_compare_152
                    · refine lv_sipush (v := 163) hx hb md_M_compare_131 (by decide) ?_
                      refine lv_goto (tgt := 152) hx hb md_M_compare_134 (by decide) ?_
                      exact W.iret (v := 163) hx hb hr (fun t ht2 _ => ⟨⟨163, u_17, rfl, (by have qu_17 : ∀ a, u_17.2 a = 0 := (fun a => (congrFun (e_16.2.trans (e_11.2.trans rfl)) a).trans (hz a)); first | (have f9 := (jb_0.mp c_49); simp [hz, z_isN, qu_17, e_11.1, e_16.1] at f9; done) | (have f9 := (jb_0.mp c_52); simp [hz, z_isN, qu_17, e_11.1, e_16.1] at f9; done) | (have f9 := (mt (lg_cmp_eq _ _).mpr c_62); simp [hz, z_isN, qu_17, e_11.1, e_16.1] at f9; done) | (have f9 := (mt (lg_cmp_ge _ _).mpr c_64); simp [hz, z_isN, qu_17, e_11.1, e_16.1] at f9; done) | (simp [mz_cmp, (jb_n0.mp c_3), (jb_n0.mp c_6), (jb_n0.mp c_9), (c_20), (jb_0.mp c_49), (jb_0.mp c_52), (c_53), (mt (lg_cmp_eq _ _).mpr c_62), c_63, (mt (lg_cmp_ge _ _).mpr c_64)]; done)), by show MWd D cL h0 q0 A _ t.heap; rw [ht2]; exact hM⟩, hS.F ht2⟩) hS.2.2 md_M_compare_152
                  · refine lv_lload hx hb md_M_compare_111 (lv_at hl 0 rfl) ?_
                    refine lv_ldc2 (v := (-1)) hx hb hown (ht _ tm_421) md_M_compare_113 ?_
                    refine W.lcmp hx hb md_M_compare_116 ?_
                    refine lv_if_ne (tgt := 123) hx hb md_M_compare_117 (by decide) (fun c_66 => ?_) (fun c_66 => ?_)
                    · refine lv_lload hx hb md_M_compare_123 (lv_at hl 1 rfl) ?_
                      refine lv_lload hx hb md_M_compare_125 (lv_at hl 0 rfl) ?_
                      refine W.lcmp hx hb md_M_compare_127 ?_
                      refine lv_if_ge (tgt := 137) hx hb md_M_compare_128 (by decide) (fun c_67 => ?_) (fun c_67 => ?_)
                      · refine lv_lload hx hb md_M_compare_137 (lv_at hl 1 rfl) ?_
                        refine lv_lload hx hb md_M_compare_139 (lv_at hl 0 rfl) ?_
                        refine W.lcmp hx hb md_M_compare_141 ?_
                        refine lv_if_le (tgt := 150) hx hb md_M_compare_142 (by decide) (fun c_68 => ?_) (fun c_68 => ?_)
                        · refine lv_bipush (v := 90) hx hb md_M_compare_150 (by decide) ?_
                          exact W.iret (v := 90) hx hb hr (fun t ht2 _ => ⟨⟨90, u_17, rfl, (by have qu_17 : ∀ a, u_17.2 a = 0 := (fun a => (congrFun (e_16.2.trans (e_11.2.trans rfl)) a).trans (hz a)); first | (have f9 := (jb_0.mp c_49); simp [hz, z_isN, qu_17, e_11.1, e_16.1] at f9; done) | (have f9 := (jb_0.mp c_52); simp [hz, z_isN, qu_17, e_11.1, e_16.1] at f9; done) | (have f9 := (mt (lg_cmp_eq _ _).mpr c_62); simp [hz, z_isN, qu_17, e_11.1, e_16.1] at f9; done) | (have f9 := (mt (lg_cmp_eq _ _).mpr c_66); simp [hz, z_isN, qu_17, e_11.1, e_16.1] at f9; done) | (have f9 := ((lg_cmp_ge _ _).mp c_67); simp [hz, z_isN, qu_17, e_11.1, e_16.1] at f9; done) | (have f9 := ((lg_cmp_le _ _).mp c_68); simp [hz, z_isN, qu_17, e_11.1, e_16.1] at f9; done) | (simp [mz_cmp, (jb_n0.mp c_3), (jb_n0.mp c_6), (jb_n0.mp c_9), (c_20), (jb_0.mp c_49), (jb_0.mp c_52), (c_53), (mt (lg_cmp_eq _ _).mpr c_62), (c_63), (mt (lg_cmp_eq _ _).mpr c_66), ((lg_cmp_ge _ _).mp c_67), ((lg_cmp_le _ _).mp c_68)]; done)), by show MWd D cL h0 q0 A _ t.heap; rw [ht2]; exact hM⟩, hS.F ht2⟩) hS.2.2 md_M_compare_152
                        · refine lv_bipush (v := 108) hx hb md_M_compare_145 (by decide) ?_
                          refine lv_goto (tgt := 152) hx hb md_M_compare_147 (by decide) ?_
                          exact W.iret (v := 108) hx hb hr (fun t ht2 _ => ⟨⟨108, u_17, rfl, (by have qu_17 : ∀ a, u_17.2 a = 0 := (fun a => (congrFun (e_16.2.trans (e_11.2.trans rfl)) a).trans (hz a)); first | (have f9 := (jb_0.mp c_49); simp [hz, z_isN, qu_17, e_11.1, e_16.1] at f9; done) | (have f9 := (jb_0.mp c_52); simp [hz, z_isN, qu_17, e_11.1, e_16.1] at f9; done) | (have f9 := (mt (lg_cmp_eq _ _).mpr c_62); simp [hz, z_isN, qu_17, e_11.1, e_16.1] at f9; done) | (have f9 := (mt (lg_cmp_eq _ _).mpr c_66); simp [hz, z_isN, qu_17, e_11.1, e_16.1] at f9; done) | (have f9 := ((lg_cmp_ge _ _).mp c_67); simp [hz, z_isN, qu_17, e_11.1, e_16.1] at f9; done) | (have f9 := (mt (lg_cmp_le _ _).mpr c_68); simp [hz, z_isN, qu_17, e_11.1, e_16.1] at f9; done) | (simp [mz_cmp, (jb_n0.mp c_3), (jb_n0.mp c_6), (jb_n0.mp c_9), (c_20), (jb_0.mp c_49), (jb_0.mp c_52), (c_53), (mt (lg_cmp_eq _ _).mpr c_62), (c_63), (mt (lg_cmp_eq _ _).mpr c_66), ((lg_cmp_ge _ _).mp c_67), (mt (lg_cmp_le _ _).mpr c_68)]; done)), by show MWd D cL h0 q0 A _ t.heap; rw [ht2]; exact hM⟩, hS.F ht2⟩) hS.2.2 md_M_compare_152
                      · refine lv_sipush (v := 163) hx hb md_M_compare_131 (by decide) ?_
                        refine lv_goto (tgt := 152) hx hb md_M_compare_134 (by decide) ?_
                        exact W.iret (v := 163) hx hb hr (fun t ht2 _ => ⟨⟨163, u_17, rfl, (by have qu_17 : ∀ a, u_17.2 a = 0 := (fun a => (congrFun (e_16.2.trans (e_11.2.trans rfl)) a).trans (hz a)); first | (have f9 := (jb_0.mp c_49); simp [hz, z_isN, qu_17, e_11.1, e_16.1] at f9; done) | (have f9 := (jb_0.mp c_52); simp [hz, z_isN, qu_17, e_11.1, e_16.1] at f9; done) | (have f9 := (mt (lg_cmp_eq _ _).mpr c_62); simp [hz, z_isN, qu_17, e_11.1, e_16.1] at f9; done) | (have f9 := (mt (lg_cmp_eq _ _).mpr c_66); simp [hz, z_isN, qu_17, e_11.1, e_16.1] at f9; done) | (have f9 := (mt (lg_cmp_ge _ _).mpr c_67); simp [hz, z_isN, qu_17, e_11.1, e_16.1] at f9; done) | (simp [mz_cmp, (jb_n0.mp c_3), (jb_n0.mp c_6), (jb_n0.mp c_9), (c_20), (jb_0.mp c_49), (jb_0.mp c_52), (c_53), (mt (lg_cmp_eq _ _).mpr c_62), (c_63), (mt (lg_cmp_eq _ _).mpr c_66), (mt (lg_cmp_ge _ _).mpr c_67)]; done)), by show MWd D cL h0 q0 A _ t.heap; rw [ht2]; exact hM⟩, hS.F ht2⟩) hS.2.2 md_M_compare_152
                    · refine lv_lconst (v := 0) hx hb md_M_compare_120 (by decide) ?_
                      refine lv_lstore (lv' := [(6, .long 0), (4, .long r_10), (0, .ref h0), (1, .int p0), (2, .int p1), (3, .int p2)]) hx hb md_M_compare_121 hl (by decide) rfl (fun ls hl => ?_)
                      refine lv_lload hx hb md_M_compare_123 (lv_at hl 1 rfl) ?_
                      refine lv_lload hx hb md_M_compare_125 (lv_at hl 0 rfl) ?_
                      refine W.lcmp hx hb md_M_compare_127 ?_
                      refine lv_if_ge (tgt := 137) hx hb md_M_compare_128 (by decide) (fun c_69 => ?_) (fun c_69 => ?_)
                      · refine lv_lload hx hb md_M_compare_137 (lv_at hl 1 rfl) ?_
                        refine lv_lload hx hb md_M_compare_139 (lv_at hl 0 rfl) ?_
                        refine W.lcmp hx hb md_M_compare_141 ?_
                        refine lv_if_le (tgt := 150) hx hb md_M_compare_142 (by decide) (fun c_70 => ?_) (fun c_70 => ?_)
                        · refine lv_bipush (v := 90) hx hb md_M_compare_150 (by decide) ?_
                          exact W.iret (v := 90) hx hb hr (fun t ht2 _ => ⟨⟨90, u_17, rfl, (by have qu_17 : ∀ a, u_17.2 a = 0 := (fun a => (congrFun (e_16.2.trans (e_11.2.trans rfl)) a).trans (hz a)); first | (have f9 := (jb_0.mp c_49); simp [hz, z_isN, qu_17, e_11.1, e_16.1] at f9; done) | (have f9 := (jb_0.mp c_52); simp [hz, z_isN, qu_17, e_11.1, e_16.1] at f9; done) | (have f9 := (mt (lg_cmp_eq _ _).mpr c_62); simp [hz, z_isN, qu_17, e_11.1, e_16.1] at f9; done) | (have f9 := ((lg_cmp_eq _ _).mp c_66); simp [hz, z_isN, qu_17, e_11.1, e_16.1] at f9; done) | (have f9 := ((lg_cmp_ge _ _).mp c_69); simp [hz, z_isN, qu_17, e_11.1, e_16.1] at f9; done) | (have f9 := ((lg_cmp_le _ _).mp c_70); simp [hz, z_isN, qu_17, e_11.1, e_16.1] at f9; done) | (simp [mz_cmp, (jb_n0.mp c_3), (jb_n0.mp c_6), (jb_n0.mp c_9), (c_20), (jb_0.mp c_49), (jb_0.mp c_52), (c_53), (mt (lg_cmp_eq _ _).mpr c_62), (c_63), ((lg_cmp_eq _ _).mp c_66), ((lg_cmp_ge _ _).mp c_69), ((lg_cmp_le _ _).mp c_70)]; done)), by show MWd D cL h0 q0 A _ t.heap; rw [ht2]; exact hM⟩, hS.F ht2⟩) hS.2.2 md_M_compare_152
                        · refine lv_bipush (v := 108) hx hb md_M_compare_145 (by decide) ?_
                          refine lv_goto (tgt := 152) hx hb md_M_compare_147 (by decide) ?_
                          exact W.iret (v := 108) hx hb hr (fun t ht2 _ => ⟨⟨108, u_17, rfl, (by have qu_17 : ∀ a, u_17.2 a = 0 := (fun a => (congrFun (e_16.2.trans (e_11.2.trans rfl)) a).trans (hz a)); first | (have f9 := (jb_0.mp c_49); simp [hz, z_isN, qu_17, e_11.1, e_16.1] at f9; done) | (have f9 := (jb_0.mp c_52); simp [hz, z_isN, qu_17, e_11.1, e_16.1] at f9; done) | (have f9 := (mt (lg_cmp_eq _ _).mpr c_62); simp [hz, z_isN, qu_17, e_11.1, e_16.1] at f9; done) | (have f9 := ((lg_cmp_eq _ _).mp c_66); simp [hz, z_isN, qu_17, e_11.1, e_16.1] at f9; done) | (have f9 := ((lg_cmp_ge _ _).mp c_69); simp [hz, z_isN, qu_17, e_11.1, e_16.1] at f9; done) | (have f9 := (mt (lg_cmp_le _ _).mpr c_70); simp [hz, z_isN, qu_17, e_11.1, e_16.1] at f9; done) | (simp [mz_cmp, (jb_n0.mp c_3), (jb_n0.mp c_6), (jb_n0.mp c_9), (c_20), (jb_0.mp c_49), (jb_0.mp c_52), (c_53), (mt (lg_cmp_eq _ _).mpr c_62), (c_63), ((lg_cmp_eq _ _).mp c_66), ((lg_cmp_ge _ _).mp c_69), (mt (lg_cmp_le _ _).mpr c_70)]; done)), by show MWd D cL h0 q0 A _ t.heap; rw [ht2]; exact hM⟩, hS.F ht2⟩) hS.2.2 md_M_compare_152
                      · refine lv_sipush (v := 163) hx hb md_M_compare_131 (by decide) ?_
                        refine lv_goto (tgt := 152) hx hb md_M_compare_134 (by decide) ?_
                        exact W.iret (v := 163) hx hb hr (fun t ht2 _ => ⟨⟨163, u_17, rfl, (by have qu_17 : ∀ a, u_17.2 a = 0 := (fun a => (congrFun (e_16.2.trans (e_11.2.trans rfl)) a).trans (hz a)); first | (have f9 := (jb_0.mp c_49); simp [hz, z_isN, qu_17, e_11.1, e_16.1] at f9; done) | (have f9 := (jb_0.mp c_52); simp [hz, z_isN, qu_17, e_11.1, e_16.1] at f9; done) | (have f9 := (mt (lg_cmp_eq _ _).mpr c_62); simp [hz, z_isN, qu_17, e_11.1, e_16.1] at f9; done) | (have f9 := ((lg_cmp_eq _ _).mp c_66); simp [hz, z_isN, qu_17, e_11.1, e_16.1] at f9; done) | (have f9 := (mt (lg_cmp_ge _ _).mpr c_69); simp [hz, z_isN, qu_17, e_11.1, e_16.1] at f9; done) | (simp [mz_cmp, (jb_n0.mp c_3), (jb_n0.mp c_6), (jb_n0.mp c_9), (c_20), (jb_0.mp c_49), (jb_0.mp c_52), (c_53), (mt (lg_cmp_eq _ _).mpr c_62), (c_63), ((lg_cmp_eq _ _).mp c_66), (mt (lg_cmp_ge _ _).mpr c_69)]; done)), by show MWd D cL h0 q0 A _ t.heap; rw [ht2]; exact hM⟩, hS.F ht2⟩) hS.2.2 md_M_compare_152
                · refine lv_lconst (v := 0) hx hb md_M_compare_103 (by decide) ?_
                  refine lv_lstore (lv' := [(4, .long 0), (6, .long r_15), (0, .ref h0), (1, .int p0), (2, .int p1), (3, .int p2)]) hx hb md_M_compare_104 hl (by decide) rfl (fun ls hl => ?_)
                  refine lv_iload_n hx hb md_M_compare_106 rfl (lv_at hl 3 rfl) ?_
                  refine lv_iconst (v := 2) hx hb md_M_compare_107 (by decide) ?_
                  refine lv_icmp_ge (tgt := 123) hx hb md_M_compare_108 (by decide) (fun c_71 => ?_) (fun c_71 => ?_)
                  · refine lv_lload hx hb md_M_compare_123 (lv_at hl 0 rfl) ?_
                    refine lv_lload hx hb md_M_compare_125 (lv_at hl 1 rfl) ?_
                    refine W.lcmp hx hb md_M_compare_127 ?_
                    refine lv_if_ge (tgt := 137) hx hb md_M_compare_128 (by decide) (fun c_72 => ?_) (fun c_72 => ?_)
                    · refine lv_lload hx hb md_M_compare_137 (lv_at hl 0 rfl) ?_
                      refine lv_lload hx hb md_M_compare_139 (lv_at hl 1 rfl) ?_
                      refine W.lcmp hx hb md_M_compare_141 ?_
                      refine lv_if_le (tgt := 150) hx hb md_M_compare_142 (by decide) (fun c_73 => ?_) (fun c_73 => ?_)
                      · refine lv_bipush (v := 90) hx hb md_M_compare_150 (by decide) ?_
                        exact W.iret (v := 90) hx hb hr (fun t ht2 _ => ⟨⟨90, u_17, rfl, (by have qu_17 : ∀ a, u_17.2 a = 0 := (fun a => (congrFun (e_16.2.trans (e_11.2.trans rfl)) a).trans (hz a)); first | (have f9 := (jb_0.mp c_49); simp [hz, z_isN, qu_17, e_11.1, e_16.1] at f9; done) | (have f9 := (jb_0.mp c_52); simp [hz, z_isN, qu_17, e_11.1, e_16.1] at f9; done) | (have f9 := ((lg_cmp_eq _ _).mp c_62); simp [hz, z_isN, qu_17, e_11.1, e_16.1] at f9; done) | (have f9 := ((lg_cmp_ge _ _).mp c_72); simp [hz, z_isN, qu_17, e_11.1, e_16.1] at f9; done) | (have f9 := ((lg_cmp_le _ _).mp c_73); simp [hz, z_isN, qu_17, e_11.1, e_16.1] at f9; done) | (simp [mz_cmp, (jb_n0.mp c_3), (jb_n0.mp c_6), (jb_n0.mp c_9), (c_20), (jb_0.mp c_49), (jb_0.mp c_52), (c_53), ((lg_cmp_eq _ _).mp c_62), c_71, ((lg_cmp_ge _ _).mp c_72), ((lg_cmp_le _ _).mp c_73)]; done)), by show MWd D cL h0 q0 A _ t.heap; rw [ht2]; exact hM⟩, hS.F ht2⟩) hS.2.2 md_M_compare_152
                      · refine lv_bipush (v := 108) hx hb md_M_compare_145 (by decide) ?_
                        refine lv_goto (tgt := 152) hx hb md_M_compare_147 (by decide) ?_
                        exact W.iret (v := 108) hx hb hr (fun t ht2 _ => ⟨⟨108, u_17, rfl, (by have qu_17 : ∀ a, u_17.2 a = 0 := (fun a => (congrFun (e_16.2.trans (e_11.2.trans rfl)) a).trans (hz a)); first | (have f9 := (jb_0.mp c_49); simp [hz, z_isN, qu_17, e_11.1, e_16.1] at f9; done) | (have f9 := (jb_0.mp c_52); simp [hz, z_isN, qu_17, e_11.1, e_16.1] at f9; done) | (have f9 := ((lg_cmp_eq _ _).mp c_62); simp [hz, z_isN, qu_17, e_11.1, e_16.1] at f9; done) | (have f9 := ((lg_cmp_ge _ _).mp c_72); simp [hz, z_isN, qu_17, e_11.1, e_16.1] at f9; done) | (have f9 := (mt (lg_cmp_le _ _).mpr c_73); simp [hz, z_isN, qu_17, e_11.1, e_16.1] at f9; done) | (simp [mz_cmp, (jb_n0.mp c_3), (jb_n0.mp c_6), (jb_n0.mp c_9), (c_20), (jb_0.mp c_49), (jb_0.mp c_52), (c_53), ((lg_cmp_eq _ _).mp c_62), c_71, ((lg_cmp_ge _ _).mp c_72), (mt (lg_cmp_le _ _).mpr c_73)]; done)), by show MWd D cL h0 q0 A _ t.heap; rw [ht2]; exact hM⟩, hS.F ht2⟩) hS.2.2 md_M_compare_152
                    · refine lv_sipush (v := 163) hx hb md_M_compare_131 (by decide) ?_
                      refine lv_goto (tgt := 152) hx hb md_M_compare_134 (by decide) ?_
                      exact W.iret (v := 163) hx hb hr (fun t ht2 _ => ⟨⟨163, u_17, rfl, (by have qu_17 : ∀ a, u_17.2 a = 0 := (fun a => (congrFun (e_16.2.trans (e_11.2.trans rfl)) a).trans (hz a)); first | (have f9 := (jb_0.mp c_49); simp [hz, z_isN, qu_17, e_11.1, e_16.1] at f9; done) | (have f9 := (jb_0.mp c_52); simp [hz, z_isN, qu_17, e_11.1, e_16.1] at f9; done) | (have f9 := ((lg_cmp_eq _ _).mp c_62); simp [hz, z_isN, qu_17, e_11.1, e_16.1] at f9; done) | (have f9 := (mt (lg_cmp_ge _ _).mpr c_72); simp [hz, z_isN, qu_17, e_11.1, e_16.1] at f9; done) | (simp [mz_cmp, (jb_n0.mp c_3), (jb_n0.mp c_6), (jb_n0.mp c_9), (c_20), (jb_0.mp c_49), (jb_0.mp c_52), (c_53), ((lg_cmp_eq _ _).mp c_62), c_71, (mt (lg_cmp_ge _ _).mpr c_72)]; done)), by show MWd D cL h0 q0 A _ t.heap; rw [ht2]; exact hM⟩, hS.F ht2⟩) hS.2.2 md_M_compare_152
                  · refine lv_lload hx hb md_M_compare_111 (lv_at hl 1 rfl) ?_
                    refine lv_ldc2 (v := (-1)) hx hb hown (ht _ tm_421) md_M_compare_113 ?_
                    refine W.lcmp hx hb md_M_compare_116 ?_
                    refine lv_if_ne (tgt := 123) hx hb md_M_compare_117 (by decide) (fun c_74 => ?_) (fun c_74 => ?_)
                    · refine lv_lload hx hb md_M_compare_123 (lv_at hl 0 rfl) ?_
                      refine lv_lload hx hb md_M_compare_125 (lv_at hl 1 rfl) ?_
                      refine W.lcmp hx hb md_M_compare_127 ?_
                      refine lv_if_ge (tgt := 137) hx hb md_M_compare_128 (by decide) (fun c_75 => ?_) (fun c_75 => ?_)
                      · refine lv_lload hx hb md_M_compare_137 (lv_at hl 0 rfl) ?_
                        refine lv_lload hx hb md_M_compare_139 (lv_at hl 1 rfl) ?_
                        refine W.lcmp hx hb md_M_compare_141 ?_
                        refine lv_if_le (tgt := 150) hx hb md_M_compare_142 (by decide) (fun c_76 => ?_) (fun c_76 => ?_)
                        · refine lv_bipush (v := 90) hx hb md_M_compare_150 (by decide) ?_
                          exact W.iret (v := 90) hx hb hr (fun t ht2 _ => ⟨⟨90, u_17, rfl, (by have qu_17 : ∀ a, u_17.2 a = 0 := (fun a => (congrFun (e_16.2.trans (e_11.2.trans rfl)) a).trans (hz a)); first | (have f9 := (jb_0.mp c_49); simp [hz, z_isN, qu_17, e_11.1, e_16.1] at f9; done) | (have f9 := (jb_0.mp c_52); simp [hz, z_isN, qu_17, e_11.1, e_16.1] at f9; done) | (have f9 := ((lg_cmp_eq _ _).mp c_62); simp [hz, z_isN, qu_17, e_11.1, e_16.1] at f9; done) | (have f9 := (mt (lg_cmp_eq _ _).mpr c_74); simp [hz, z_isN, qu_17, e_11.1, e_16.1] at f9; done) | (have f9 := ((lg_cmp_ge _ _).mp c_75); simp [hz, z_isN, qu_17, e_11.1, e_16.1] at f9; done) | (have f9 := ((lg_cmp_le _ _).mp c_76); simp [hz, z_isN, qu_17, e_11.1, e_16.1] at f9; done) | (simp [mz_cmp, (jb_n0.mp c_3), (jb_n0.mp c_6), (jb_n0.mp c_9), (c_20), (jb_0.mp c_49), (jb_0.mp c_52), (c_53), ((lg_cmp_eq _ _).mp c_62), (c_71), (mt (lg_cmp_eq _ _).mpr c_74), ((lg_cmp_ge _ _).mp c_75), ((lg_cmp_le _ _).mp c_76)]; done)), by show MWd D cL h0 q0 A _ t.heap; rw [ht2]; exact hM⟩, hS.F ht2⟩) hS.2.2 md_M_compare_152
                        · refine lv_bipush (v := 108) hx hb md_M_compare_145 (by decide) ?_
                          refine lv_goto (tgt := 152) hx hb md_M_compare_147 (by decide) ?_
                          exact W.iret (v := 108) hx hb hr (fun t ht2 _ => ⟨⟨108, u_17, rfl, (by have qu_17 : ∀ a, u_17.2 a = 0 := (fun a => (congrFun (e_16.2.trans (e_11.2.trans rfl)) a).trans (hz a)); first | (have f9 := (jb_0.mp c_49); simp [hz, z_isN, qu_17, e_11.1, e_16.1] at f9; done) | (have f9 := (jb_0.mp c_52); simp [hz, z_isN, qu_17, e_11.1, e_16.1] at f9; done) | (have f9 := ((lg_cmp_eq _ _).mp c_62); simp [hz, z_isN, qu_17, e_11.1, e_16.1] at f9; done) | (have f9 := (mt (lg_cmp_eq _ _).mpr c_74); simp [hz, z_isN, qu_17, e_11.1, e_16.1] at f9; done) | (have f9 := ((lg_cmp_ge _ _).mp c_75); simp [hz, z_isN, qu_17, e_11.1, e_16.1] at f9; done) | (have f9 := (mt (lg_cmp_le _ _).mpr c_76); simp [hz, z_isN, qu_17, e_11.1, e_16.1] at f9; done) | (simp [mz_cmp, (jb_n0.mp c_3), (jb_n0.mp c_6), (jb_n0.mp c_9), (c_20), (jb_0.mp c_49), (jb_0.mp c_52), (c_53), ((lg_cmp_eq _ _).mp c_62), (c_71), (mt (lg_cmp_eq _ _).mpr c_74), ((lg_cmp_ge _ _).mp c_75), (mt (lg_cmp_le _ _).mpr c_76)]; done)), by show MWd D cL h0 q0 A _ t.heap; rw [ht2]; exact hM⟩, hS.F ht2⟩) hS.2.2 md_M_compare_152
                      · refine lv_sipush (v := 163) hx hb md_M_compare_131 (by decide) ?_
                        refine lv_goto (tgt := 152) hx hb md_M_compare_134 (by decide) ?_
                        exact W.iret (v := 163) hx hb hr (fun t ht2 _ => ⟨⟨163, u_17, rfl, (by have qu_17 : ∀ a, u_17.2 a = 0 := (fun a => (congrFun (e_16.2.trans (e_11.2.trans rfl)) a).trans (hz a)); first | (have f9 := (jb_0.mp c_49); simp [hz, z_isN, qu_17, e_11.1, e_16.1] at f9; done) | (have f9 := (jb_0.mp c_52); simp [hz, z_isN, qu_17, e_11.1, e_16.1] at f9; done) | (have f9 := ((lg_cmp_eq _ _).mp c_62); simp [hz, z_isN, qu_17, e_11.1, e_16.1] at f9; done) | (have f9 := (mt (lg_cmp_eq _ _).mpr c_74); simp [hz, z_isN, qu_17, e_11.1, e_16.1] at f9; done) | (have f9 := (mt (lg_cmp_ge _ _).mpr c_75); simp [hz, z_isN, qu_17, e_11.1, e_16.1] at f9; done) | (simp [mz_cmp, (jb_n0.mp c_3), (jb_n0.mp c_6), (jb_n0.mp c_9), (c_20), (jb_0.mp c_49), (jb_0.mp c_52), (c_53), ((lg_cmp_eq _ _).mp c_62), (c_71), (mt (lg_cmp_eq _ _).mpr c_74), (mt (lg_cmp_ge _ _).mpr c_75)]; done)), by show MWd D cL h0 q0 A _ t.heap; rw [ht2]; exact hM⟩, hS.F ht2⟩) hS.2.2 md_M_compare_152
                    · refine lv_lconst (v := 0) hx hb md_M_compare_120 (by decide) ?_
                      refine lv_lstore (lv' := [(6, .long 0), (4, .long 0), (0, .ref h0), (1, .int p0), (2, .int p1), (3, .int p2)]) hx hb md_M_compare_121 hl (by decide) rfl (fun ls hl => ?_)
                      refine lv_lload hx hb md_M_compare_123 (lv_at hl 1 rfl) ?_
                      refine lv_lload hx hb md_M_compare_125 (lv_at hl 0 rfl) ?_
                      refine W.lcmp hx hb md_M_compare_127 ?_
                      refine lv_if_ge (tgt := 137) hx hb md_M_compare_128 (by decide) (fun c_77 => ?_) (fun c_77 => ?_)
                      · refine lv_lload hx hb md_M_compare_137 (lv_at hl 1 rfl) ?_
                        refine lv_lload hx hb md_M_compare_139 (lv_at hl 0 rfl) ?_
                        refine W.lcmp hx hb md_M_compare_141 ?_
                        refine lv_if_le (tgt := 150) hx hb md_M_compare_142 (by decide) (fun c_78 => ?_) (fun c_78 => ?_)
                        · refine lv_bipush (v := 90) hx hb md_M_compare_150 (by decide) ?_
                          exact W.iret (v := 90) hx hb hr (fun t ht2 _ => ⟨⟨90, u_17, rfl, (by have qu_17 : ∀ a, u_17.2 a = 0 := (fun a => (congrFun (e_16.2.trans (e_11.2.trans rfl)) a).trans (hz a)); first | (have f9 := (jb_0.mp c_49); simp [hz, z_isN, qu_17, e_11.1, e_16.1] at f9; done) | (have f9 := (jb_0.mp c_52); simp [hz, z_isN, qu_17, e_11.1, e_16.1] at f9; done) | (have f9 := ((lg_cmp_eq _ _).mp c_62); simp [hz, z_isN, qu_17, e_11.1, e_16.1] at f9; done) | (have f9 := ((lg_cmp_eq _ _).mp c_74); simp [hz, z_isN, qu_17, e_11.1, e_16.1] at f9; done) | (simp [mz_cmp, (jb_n0.mp c_3), (jb_n0.mp c_6), (jb_n0.mp c_9), (c_20), (jb_0.mp c_49), (jb_0.mp c_52), (c_53), ((lg_cmp_eq _ _).mp c_62), (c_71), ((lg_cmp_eq _ _).mp c_74), ((lg_cmp_ge _ _).mp c_77), ((lg_cmp_le _ _).mp c_78)]; done)), by show MWd D cL h0 q0 A _ t.heap; rw [ht2]; exact hM⟩, hS.F ht2⟩) hS.2.2 md_M_compare_152
                        · refine lv_bipush (v := 108) hx hb md_M_compare_145 (by decide) ?_
                          refine lv_goto (tgt := 152) hx hb md_M_compare_147 (by decide) ?_
                          exact W.iret (v := 108) hx hb hr (fun t ht2 _ => ⟨⟨108, u_17, rfl, (by have qu_17 : ∀ a, u_17.2 a = 0 := (fun a => (congrFun (e_16.2.trans (e_11.2.trans rfl)) a).trans (hz a)); first | (have f9 := (jb_0.mp c_49); simp [hz, z_isN, qu_17, e_11.1, e_16.1] at f9; done) | (have f9 := (jb_0.mp c_52); simp [hz, z_isN, qu_17, e_11.1, e_16.1] at f9; done) | (have f9 := ((lg_cmp_eq _ _).mp c_62); simp [hz, z_isN, qu_17, e_11.1, e_16.1] at f9; done) | (have f9 := ((lg_cmp_eq _ _).mp c_74); simp [hz, z_isN, qu_17, e_11.1, e_16.1] at f9; done) | (simp [mz_cmp, (jb_n0.mp c_3), (jb_n0.mp c_6), (jb_n0.mp c_9), (c_20), (jb_0.mp c_49), (jb_0.mp c_52), (c_53), ((lg_cmp_eq _ _).mp c_62), (c_71), ((lg_cmp_eq _ _).mp c_74), ((lg_cmp_ge _ _).mp c_77), (mt (lg_cmp_le _ _).mpr c_78)]; done)), by show MWd D cL h0 q0 A _ t.heap; rw [ht2]; exact hM⟩, hS.F ht2⟩) hS.2.2 md_M_compare_152
                      · refine lv_sipush (v := 163) hx hb md_M_compare_131 (by decide) ?_
                        refine lv_goto (tgt := 152) hx hb md_M_compare_134 (by decide) ?_
                        exact W.iret (v := 163) hx hb hr (fun t ht2 _ => ⟨⟨163, u_17, rfl, (by have qu_17 : ∀ a, u_17.2 a = 0 := (fun a => (congrFun (e_16.2.trans (e_11.2.trans rfl)) a).trans (hz a)); first | (have f9 := (jb_0.mp c_49); simp [hz, z_isN, qu_17, e_11.1, e_16.1] at f9; done) | (have f9 := (jb_0.mp c_52); simp [hz, z_isN, qu_17, e_11.1, e_16.1] at f9; done) | (have f9 := ((lg_cmp_eq _ _).mp c_62); simp [hz, z_isN, qu_17, e_11.1, e_16.1] at f9; done) | (have f9 := ((lg_cmp_eq _ _).mp c_74); simp [hz, z_isN, qu_17, e_11.1, e_16.1] at f9; done) | (simp [mz_cmp, (jb_n0.mp c_3), (jb_n0.mp c_6), (jb_n0.mp c_9), (c_20), (jb_0.mp c_49), (jb_0.mp c_52), (c_53), ((lg_cmp_eq _ _).mp c_62), (c_71), ((lg_cmp_eq _ _).mp c_74), (mt (lg_cmp_ge _ _).mpr c_77)]; done)), by show MWd D cL h0 q0 A _ t.heap; rw [ht2]; exact hM⟩, hS.F ht2⟩) hS.2.2 md_M_compare_152
            · refine lv_sipush (v := 224) hx hb md_M_compare_85 (by decide) ?_
              exact W.iret (v := 224) hx hb hr (fun t ht2 _ => ⟨⟨224, u_17, rfl, (by have qu_17 : ∀ a, u_17.2 a = 0 := (fun a => (congrFun (e_16.2.trans (e_11.2.trans rfl)) a).trans (hz a)); first | (have f9 := (jb_0.mp c_49); simp [hz, z_isN, qu_17, e_11.1, e_16.1] at f9; done) | (have f9 := (jb_n0.mp c_52); simp [hz, z_isN, qu_17, e_11.1, e_16.1] at f9; done) | (simp [mz_cmp, (jb_n0.mp c_3), (jb_n0.mp c_6), (jb_n0.mp c_9), (c_20), (jb_0.mp c_49), (jb_n0.mp c_52)]; done)), by show MWd D cL h0 q0 A _ t.heap; rw [ht2]; exact hM⟩, hS.F ht2⟩) hS.2.2 md_M_compare_88
      · refine lv_iconst (v := (-1)) hx hb md_M_compare_26 (by decide) ?_
        exact W.iret (v := (-1)) hx hb hr (fun t ht2 _ => ⟨⟨(-1), u, rfl, (by first | (simp [mz_cmp, (jb_n0.mp c_3), (jb_n0.mp c_6), (jb_0.mp c_9)]; done)), by show MWd D cL h0 q0 A _ t.heap; rw [ht2]; exact hM⟩, hS.F ht2⟩) hS.2.2 md_M_compare_27
set_option maxHeartbeats 4000000 in
set_option maxRecDepth 100000 in
theorem mz_M_order (l : Launch) (D : va_G) (cL : ClassId) (h0 q0 sz : Nat) (u : MT) (p0 : Int32) (p1 : Int32) (p2 : Int32) (hz : ∀ a, u.2 a = 0) : Met l my_M_order mw_M_order ({ frames := 5, cells := 0, slots := 0, locals := 108 } : Room) (MPc D cL h0 q0 sz u [.int p0, .int p1, .int p2]) (MQi D cL h0 q0 (MA h0 q0 cL u sz) (fun (r : Int32) (v : MT) => r = mz_ord p0 p1 p2)) 0 0 (MA h0 q0 cL u sz) := by
  refine Met.ofW (cc := mc_M_order) (maxL := 8) (ret := (some .int)) (by decide) rfl ?_
  intro p e s m args below meth c s₁ B hml hv
  obtain ⟨rfl, hsz, hP, hK, hD0⟩ := hv
  have hx := B.exec
  have hb := B.bytes
  have hr := B.returns
  have hts := atoms_spec (ws := mw_M_order) B.pre
  have ht : ∀ w ∈ gw_tbl, w.before _ s = true := fun w h => hts w (List.mem_cons_of_mem _ h)
  have hown : s.vm.findClass "NumberProbeModel" = some m.cls := findClass_of_methodNamed B.named
  have hlocks := B.notSynchronized
  subst hsz
  have hD : va_D (MA h0 q0 cL u s.heap.size) (mWs h0 q0 cL u) := hD0.self (sz := s.heap.size)
  generalize hAe : MA h0 q0 cL u s.heap.size = A at hD ⊢
  have hA : ∀ q : Nat, s.heap.size ≤ q → A q := fun q h => by rw [← hAe]; exact Or.inr h
  have hS : va_S A s.heap s.heap [] := va_S.rf
  have hM : MWd D cL h0 q0 A u s.heap := ⟨hP, hD⟩
  have hl := lv_entry ([.ref h0, .int p0, .int p1, .int p2]) (n := 8) (Nat.le_of_ble_eq_true rfl)
  rw [lg_entry_eq]
  generalize (lg_sl ([.ref h0, .int p0, .int p1, .int p2]) ++ List.replicate (8 - (lg_sl ([.ref h0, .int p0, .int p1, .int p2])).length) Slot.unset).toArray = ls at hl ⊢
  have hl : lv_has ls 8 [(0, .ref h0), (1, .int p0), (2, .int p1), (3, .int p2)] := hl
  refine lv_iload_n hx hb md_M_order_0 rfl (lv_at hl 1 rfl) ?_
  refine lv_iconst (v := 4) hx hb md_M_order_1 (by decide) ?_
  refine vp_callSi (W.runS (As := [.int p0, .int 4]) (rest := []) ⟨hx, hb, hml, hown, hts⟩ (mt_M_in l p0 4) (va_cwS 2 hts (gd_S tm_359 tm_360 tm_25 tm_361) rfl rfl rfl (by decide +kernel) ⟨Nat.le_of_ble_eq_true rfl, Nat.le_of_ble_eq_true rfl⟩) ⟨fb_0, fun U hU hW => ⟨rfl, trivial⟩⟩ rfl rfl hl.1 rfl (lv_room (Nat.le_of_ble_eq_true rfl)) md_M_order_2 ⟨Nat.zero_le _, Nat.zero_le _⟩) (fun r_1 e_2 => ?_)
  obtain rfl : r_1 = jb (rn_in p0 4) := e_2
  refine lv_if_eq (tgt := 26) hx hb md_M_order_5 (by decide) (fun c_3 => ?_) (fun c_3 => ?_)
  · refine lv_iconst (v := (-1)) hx hb md_M_order_26 (by decide) ?_
    exact W.iret (v := (-1)) hx hb hr (fun t ht2 _ => ⟨⟨(-1), u, rfl, (by first | (simp [mz_ord, (jb_0.mp c_3)]; done)), by show MWd D cL h0 q0 A _ t.heap; rw [ht2]; exact hM⟩, hS.F ht2⟩) hS.2.2 md_M_order_27
  · refine lv_iload_n hx hb md_M_order_8 rfl (lv_at hl 2 rfl) ?_
    refine lv_bipush (v := 6) hx hb md_M_order_9 (by decide) ?_
    refine vp_callSi (W.runS (As := [.int p1, .int 6]) (rest := []) ⟨hx, hb, hml, hown, hts⟩ (mt_M_in l p1 6) (va_cwS 2 hts (gd_S tm_359 tm_360 tm_25 tm_361) rfl rfl rfl (by decide +kernel) ⟨Nat.le_of_ble_eq_true rfl, Nat.le_of_ble_eq_true rfl⟩) ⟨fb_0, fun U hU hW => ⟨rfl, trivial⟩⟩ rfl rfl hl.1 rfl (lv_room (Nat.le_of_ble_eq_true rfl)) md_M_order_11 ⟨Nat.zero_le _, Nat.zero_le _⟩) (fun r_4 e_5 => ?_)
    obtain rfl : r_4 = jb (rn_in p1 6) := e_5
    refine lv_if_eq (tgt := 26) hx hb md_M_order_14 (by decide) (fun c_6 => ?_) (fun c_6 => ?_)
    · refine lv_iconst (v := (-1)) hx hb md_M_order_26 (by decide) ?_
      exact W.iret (v := (-1)) hx hb hr (fun t ht2 _ => ⟨⟨(-1), u, rfl, (by first | (simp [mz_ord, (jb_n0.mp c_3), (jb_0.mp c_6)]; done)), by show MWd D cL h0 q0 A _ t.heap; rw [ht2]; exact hM⟩, hS.F ht2⟩) hS.2.2 md_M_order_27
    · refine lv_iload_n hx hb md_M_order_17 rfl (lv_at hl 3 rfl) ?_
      refine lv_bipush (v := 6) hx hb md_M_order_18 (by decide) ?_
      refine vp_callSi (W.runS (As := [.int p2, .int 6]) (rest := []) ⟨hx, hb, hml, hown, hts⟩ (mt_M_in l p2 6) (va_cwS 2 hts (gd_S tm_359 tm_360 tm_25 tm_361) rfl rfl rfl (by decide +kernel) ⟨Nat.le_of_ble_eq_true rfl, Nat.le_of_ble_eq_true rfl⟩) ⟨fb_0, fun U hU hW => ⟨rfl, trivial⟩⟩ rfl rfl hl.1 rfl (lv_room (Nat.le_of_ble_eq_true rfl)) md_M_order_20 ⟨Nat.zero_le _, Nat.zero_le _⟩) (fun r_7 e_8 => ?_)
      obtain rfl : r_7 = jb (rn_in p2 6) := e_8
      refine lv_if_ne (tgt := 28) hx hb md_M_order_23 (by decide) (fun c_9 => ?_) (fun c_9 => ?_)
      · refine lv_aload_n hx hb md_M_order_28 rfl (lv_at hl 0 rfl) ?_
        refine lv_iload_n hx hb md_M_order_29 rfl (lv_at hl 1 rfl) ?_
        refine lv_iload_n hx hb md_M_order_30 rfl (lv_at hl 2 rfl) ?_
        refine m_calll (va_runV (C := "NumberProbeModel") (As := [.int p0, .int p1]) (rest := []) ⟨hx, hb, hml, hown, hts⟩ (mz_M_placeOf l D cL h0 q0 _ u p0 p1 hz (jb_n0.mp c_3) (jb_n0.mp c_6)) (cwV 2 hts (gd_V tm_527 tm_529 tm_22 tm_25 tm_530) rfl rfl rfl (by decide +kernel) ⟨Nat.le_of_ble_eq_true rfl, Nat.le_of_ble_eq_true rfl⟩) (m_in (locs := []) hK hM) rfl rfl hl.1 rfl (lv_room (Nat.le_of_ble_eq_true rfl)) md_M_order_31 ⟨Nat.zero_le _, Nat.zero_le _⟩) hM hS hA (fun r_10 u_12 H_13 L_14 e_11 hM hS => ?_)
        refine lv_lstore (lv' := [(4, .long r_10), (0, .ref h0), (1, .int p0), (2, .int p1), (3, .int p2)]) hx hb md_M_order_34 hl (by decide) rfl (fun ls hl => ?_)
        refine lv_aload_n hx hb md_M_order_36 rfl (lv_at hl 1 rfl) ?_
        refine lv_iload_n hx hb md_M_order_37 rfl (lv_at hl 2 rfl) ?_
        refine lv_iload_n hx hb md_M_order_38 rfl (lv_at hl 4 rfl) ?_
        refine m_calll (va_runV (C := "NumberProbeModel") (As := [.int p0, .int p2]) (rest := []) ⟨hx, hb, hml, hown, hts⟩ (mz_M_placeOf l D cL h0 q0 _ u_12 p0 p2 (fun a => (congrFun (e_11.2.trans rfl) a).trans (hz a)) (jb_n0.mp c_3) (jb_n0.mp c_9)) (cwV 2 hts (gd_V tm_527 tm_529 tm_22 tm_25 tm_530) rfl rfl rfl (by decide +kernel) ⟨Nat.le_of_ble_eq_true rfl, Nat.le_of_ble_eq_true rfl⟩) (m_in (locs := L_14) hK hM) rfl rfl hl.1 rfl (lv_room (Nat.le_of_ble_eq_true rfl)) md_M_order_39 ⟨Nat.zero_le _, Nat.zero_le _⟩) hM hS hA (fun r_15 u_17 H_18 L_19 e_16 hM hS => ?_)
        refine lv_lstore (lv' := [(6, .long r_15), (4, .long r_10), (0, .ref h0), (1, .int p0), (2, .int p1), (3, .int p2)]) hx hb md_M_order_42 hl (by decide) rfl (fun ls hl => ?_)
        refine lv_lload hx hb md_M_order_44 (lv_at hl 1 rfl) ?_
        refine lv_lload hx hb md_M_order_46 (lv_at hl 0 rfl) ?_
        refine W.lcmp hx hb md_M_order_48 ?_
        refine lv_if_ge (tgt := 56) hx hb md_M_order_49 (by decide) (fun c_20 => ?_) (fun c_20 => ?_)
        · refine lv_lload hx hb md_M_order_56 (lv_at hl 1 rfl) ?_
          refine lv_lload hx hb md_M_order_58 (lv_at hl 0 rfl) ?_
          refine W.lcmp hx hb md_M_order_60 ?_
          refine lv_if_le (tgt := 68) hx hb md_M_order_61 (by decide) (fun c_21 => ?_) (fun c_21 => ?_)
          · refine lv_iconst (v := 0) hx hb md_M_order_68 (by decide) ?_
            exact W.iret (v := 0) hx hb hr (fun t ht2 _ => ⟨⟨0, u_17, rfl, (by first | (have f9 := ((lg_cmp_ge _ _).mp c_20); simp [hz, z_isN, e_11.1, e_16.1] at f9; done) | (have f9 := ((lg_cmp_le _ _).mp c_21); simp [hz, z_isN, e_11.1, e_16.1] at f9; done) | (simp [mz_ord, (jb_n0.mp c_3), (jb_n0.mp c_6), (jb_n0.mp c_9), ((lg_cmp_ge _ _).mp c_20), ((lg_cmp_le _ _).mp c_21)]; done)), by show MWd D cL h0 q0 A _ t.heap; rw [ht2]; exact hM⟩, hS.F ht2⟩) hS.2.2 md_M_order_69
          · refine lv_iconst (v := 1) hx hb md_M_order_64 (by decide) ?_
            refine lv_goto (tgt := 69) hx hb md_M_order_65 (by decide) ?_
            exact W.iret (v := 1) hx hb hr (fun t ht2 _ => ⟨⟨1, u_17, rfl, (by first | (have f9 := ((lg_cmp_ge _ _).mp c_20); simp [hz, z_isN, e_11.1, e_16.1] at f9; done) | (have f9 := (mt (lg_cmp_le _ _).mpr c_21); simp [hz, z_isN, e_11.1, e_16.1] at f9; done) | (simp [mz_ord, (jb_n0.mp c_3), (jb_n0.mp c_6), (jb_n0.mp c_9), ((lg_cmp_ge _ _).mp c_20), (mt (lg_cmp_le _ _).mpr c_21)]; done)), by show MWd D cL h0 q0 A _ t.heap; rw [ht2]; exact hM⟩, hS.F ht2⟩) hS.2.2 md_M_order_69
        · refine lv_iconst (v := (-1)) hx hb md_M_order_52 (by decide) ?_
          refine lv_goto (tgt := 69) hx hb md_M_order_53 (by decide) ?_
          exact W.iret (v := (-1)) hx hb hr (fun t ht2 _ => ⟨⟨(-1), u_17, rfl, (by first | (have f9 := (mt (lg_cmp_ge _ _).mpr c_20); simp [hz, z_isN, e_11.1, e_16.1] at f9; done) | (simp [mz_ord, (jb_n0.mp c_3), (jb_n0.mp c_6), (jb_n0.mp c_9), (mt (lg_cmp_ge _ _).mpr c_20)]; done)), by show MWd D cL h0 q0 A _ t.heap; rw [ht2]; exact hM⟩, hS.F ht2⟩) hS.2.2 md_M_order_69
      · refine lv_iconst (v := (-1)) hx hb md_M_order_26 (by decide) ?_
        exact W.iret (v := (-1)) hx hb hr (fun t ht2 _ => ⟨⟨(-1), u, rfl, (by first | (simp [mz_ord, (jb_n0.mp c_3), (jb_n0.mp c_6), (jb_0.mp c_9)]; done)), by show MWd D cL h0 q0 A _ t.heap; rw [ht2]; exact hM⟩, hS.F ht2⟩) hS.2.2 md_M_order_27
set_option maxHeartbeats 4000000 in
set_option maxRecDepth 100000 in
theorem mz_M_sort (l : Launch) (D : va_G) (cL : ClassId) (h0 q0 sz : Nat) (u : MT) (p0 : Int32) (p1 : Int32) (hz : ∀ a, u.2 a = 0) : Met l my_M_sort mw_M_sort ({ frames := 4, cells := 0, slots := 0, locals := 91 } : Room) (MPc D cL h0 q0 sz u [.int p0, .int p1]) (MQi D cL h0 q0 (MA h0 q0 cL u sz) (fun (r : Int32) (v : MT) => r = mz_srt p0 p1)) 0 0 (MA h0 q0 cL u sz) := by
  refine Met.ofW (cc := mc_M_sort) (maxL := 5) (ret := (some .int)) (by decide) rfl ?_
  intro p e s m args below meth c s₁ B hml hv
  obtain ⟨rfl, hsz, hP, hK, hD0⟩ := hv
  have hx := B.exec
  have hb := B.bytes
  have hr := B.returns
  have hts := atoms_spec (ws := mw_M_sort) B.pre
  have ht : ∀ w ∈ gw_tbl, w.before _ s = true := fun w h => hts w (List.mem_cons_of_mem _ h)
  have hown : s.vm.findClass "NumberProbeModel" = some m.cls := findClass_of_methodNamed B.named
  have hlocks := B.notSynchronized
  subst hsz
  have hD : va_D (MA h0 q0 cL u s.heap.size) (mWs h0 q0 cL u) := hD0.self (sz := s.heap.size)
  generalize hAe : MA h0 q0 cL u s.heap.size = A at hD ⊢
  have hA : ∀ q : Nat, s.heap.size ≤ q → A q := fun q h => by rw [← hAe]; exact Or.inr h
  have hS : va_S A s.heap s.heap [] := va_S.rf
  have hM : MWd D cL h0 q0 A u s.heap := ⟨hP, hD⟩
  have hl := lv_entry ([.ref h0, .int p0, .int p1]) (n := 5) (Nat.le_of_ble_eq_true rfl)
  rw [lg_entry_eq]
  generalize (lg_sl ([.ref h0, .int p0, .int p1]) ++ List.replicate (5 - (lg_sl ([.ref h0, .int p0, .int p1])).length) Slot.unset).toArray = ls at hl ⊢
  have hl : lv_has ls 5 [(0, .ref h0), (1, .int p0), (2, .int p1)] := hl
  refine lv_iload_n hx hb md_M_sort_0 rfl (lv_at hl 1 rfl) ?_
  refine lv_iconst (v := 4) hx hb md_M_sort_1 (by decide) ?_
  refine vp_callSi (W.runS (As := [.int p0, .int 4]) (rest := []) ⟨hx, hb, hml, hown, hts⟩ (mt_M_in l p0 4) (va_cwS 2 hts (gd_S tm_359 tm_360 tm_25 tm_361) rfl rfl rfl (by decide +kernel) ⟨Nat.le_of_ble_eq_true rfl, Nat.le_of_ble_eq_true rfl⟩) ⟨fb_0, fun U hU hW => ⟨rfl, trivial⟩⟩ rfl rfl hl.1 rfl (lv_room (Nat.le_of_ble_eq_true rfl)) md_M_sort_2 ⟨Nat.zero_le _, Nat.zero_le _⟩) (fun r_1 e_2 => ?_)
  obtain rfl : r_1 = jb (rn_in p0 4) := e_2
  refine lv_if_eq (tgt := 17) hx hb md_M_sort_5 (by decide) (fun c_3 => ?_) (fun c_3 => ?_)
  · refine lv_iconst (v := (-1)) hx hb md_M_sort_17 (by decide) ?_
    exact W.iret (v := (-1)) hx hb hr (fun t ht2 _ => ⟨⟨(-1), u, rfl, (by first | (simp [mz_srt, (jb_0.mp c_3)]; done)), by show MWd D cL h0 q0 A _ t.heap; rw [ht2]; exact hM⟩, hS.F ht2⟩) hS.2.2 md_M_sort_18
  · refine lv_iload_n hx hb md_M_sort_8 rfl (lv_at hl 2 rfl) ?_
    refine lv_bipush (v := 6) hx hb md_M_sort_9 (by decide) ?_
    refine vp_callSi (W.runS (As := [.int p1, .int 6]) (rest := []) ⟨hx, hb, hml, hown, hts⟩ (mt_M_in l p1 6) (va_cwS 2 hts (gd_S tm_359 tm_360 tm_25 tm_361) rfl rfl rfl (by decide +kernel) ⟨Nat.le_of_ble_eq_true rfl, Nat.le_of_ble_eq_true rfl⟩) ⟨fb_0, fun U hU hW => ⟨rfl, trivial⟩⟩ rfl rfl hl.1 rfl (lv_room (Nat.le_of_ble_eq_true rfl)) md_M_sort_11 ⟨Nat.zero_le _, Nat.zero_le _⟩) (fun r_4 e_5 => ?_)
    obtain rfl : r_4 = jb (rn_in p1 6) := e_5
    refine lv_if_ne (tgt := 19) hx hb md_M_sort_14 (by decide) (fun c_6 => ?_) (fun c_6 => ?_)
    · refine lv_iload_n hx hb md_M_sort_19 rfl (lv_at hl 1 rfl) ?_
      refine lv_iconst (v := 1) hx hb md_M_sort_20 (by decide) ?_
      refine lv_icmp_le (tgt := 26) hx hb md_M_sort_21 (by decide) (fun c_7 => ?_) (fun c_7 => ?_)
      · refine lv_aload_n hx hb md_M_sort_26 rfl (lv_at hl 0 rfl) ?_
        refine lv_iload_n hx hb md_M_sort_27 rfl (lv_at hl 1 rfl) ?_
        refine lv_aload_n hx hb md_M_sort_28 rfl (lv_at hl 0 rfl) ?_
        refine va_get (D := D) (ci := 1) (v := .ref q0) (C := "NumberProbeModel") (T := TM) (N := 12) hx hb ht inM hown hK hM.1 0 rfl rfl 0 (by decide) (ht _ tm_318) (fun _ h9 => h9) rfl md_M_sort_29 ?_
        refine lv_iload_n hx hb md_M_sort_32 rfl (lv_at hl 1 rfl) ?_
        refine lv_bipush (v := 6) hx hb md_M_sort_33 (by decide) ?_
        refine lv_imul hx hb md_M_sort_35 ?_
        refine lv_iload_n hx hb md_M_sort_36 rfl (lv_at hl 2 rfl) ?_
        refine lv_iadd hx hb md_M_sort_37 ?_
        refine va_lald (D := D) hx hb hK hM.1 1 0 rfl rfl (rn_idx (jb_n0.mp c_3) (jb_n0.mp c_6)) md_M_sort_38 ?_
        refine m_callv (va_runV (C := "NumberProbeModel") (As := [.int p0, .long (u.2 ((p0 * 6) + p1).toNatClampNeg)]) (rest := []) ⟨hx, hb, hml, hown, hts⟩ (mt_M_takeX l D cL h0 q0 _ u p0 (u.2 ((p0 * 6) + p1).toNatClampNeg)) (cwV 2 hts (gd_V tm_451 tm_453 tm_13 tm_25 tm_454) rfl rfl rfl (by decide +kernel) ⟨Nat.le_of_ble_eq_true rfl, Nat.le_of_ble_eq_true rfl⟩) (m_in (locs := []) hK hM) rfl rfl hl.1 rfl (lv_room (Nat.le_of_ble_eq_true rfl)) md_M_sort_39 ⟨Nat.zero_le _, Nat.zero_le _⟩) hM hS hA (fun u_10 H_11 L_12 e_9 hM hS => ?_)
        obtain rfl : u_10 = mtX p0 (u.2 ((p0 * 6) + p1).toNatClampNeg) u := e_9
        refine lv_aload_n hx hb md_M_sort_42 rfl (lv_at hl 0 rfl) ?_
        refine va_get (D := D) (ci := 1) (v := .int (jb (rf_isN p0 (u.2 ((p0 * 6) + p1).toNatClampNeg)))) (C := "NumberProbeModel") (T := TM) (N := 12) hx hb ht inM hown hK hM.1 0 rfl rfl 3 (by decide) (ht _ tm_321) (fun _ h9 => h9) rfl md_M_sort_43 ?_
        refine lv_if_eq (tgt := 51) hx hb md_M_sort_46 (by decide) (fun c_13 => ?_) (fun c_13 => ?_)
        · refine lv_aload_n hx hb md_M_sort_51 rfl (lv_at hl 0 rfl) ?_
          refine va_get (D := D) (ci := 1) (v := .int (jb (rf_isI p0 (u.2 ((p0 * 6) + p1).toNatClampNeg)))) (C := "NumberProbeModel") (T := TM) (N := 12) hx hb ht inM hown hK hM.1 0 rfl rfl 5 (by decide) (ht _ tm_323) (fun _ h9 => h9) rfl md_M_sort_52 ?_
          refine lv_if_eq (tgt := 62) hx hb md_M_sort_55 (by decide) (fun c_14 => ?_) (fun c_14 => ?_)
          · refine lv_iconst (v := 4) hx hb md_M_sort_62 (by decide) ?_
            refine lv_istore_n (lv' := [(3, .int 4), (0, .ref h0), (1, .int p0), (2, .int p1)]) hx hb md_M_sort_63 rfl hl (by decide) rfl (fun ls hl => ?_)
            refine lv_aload_n hx hb md_M_sort_64 rfl (lv_at hl 1 rfl) ?_
            refine va_get (D := D) (ci := 1) (v := .int (jb (rf_isS p0 (u.2 ((p0 * 6) + p1).toNatClampNeg)))) (C := "NumberProbeModel") (T := TM) (N := 12) hx hb ht inM hown hK hM.1 0 rfl rfl 1 (by decide) (ht _ tm_319) (fun _ h9 => h9) rfl md_M_sort_65 ?_
            refine lv_if_eq (tgt := 74) hx hb md_M_sort_68 (by decide) (fun c_15 => ?_) (fun c_15 => ?_)
            · refine lv_aload_n hx hb md_M_sort_74 rfl (lv_at hl 1 rfl) ?_
              refine va_get (D := D) (ci := 1) (v := .int (jb (rf_isI p0 (u.2 ((p0 * 6) + p1).toNatClampNeg)))) (C := "NumberProbeModel") (T := TM) (N := 12) hx hb ht inM hown hK hM.1 0 rfl rfl 5 (by decide) (ht _ tm_323) (fun _ h9 => h9) rfl md_M_sort_75 ?_
              refine lv_if_eq (tgt := 83) hx hb md_M_sort_78 (by decide) (fun c_16 => ?_) (fun c_16 => ?_)
              · refine lv_aload_n hx hb md_M_sort_83 rfl (lv_at hl 1 rfl) ?_
                refine va_get (D := D) (ci := 1) (v := .long (rf_man p0 (u.2 ((p0 * 6) + p1).toNatClampNeg))) (C := "NumberProbeModel") (T := TM) (N := 12) hx hb ht inM hown hK hM.1 0 rfl rfl 7 (by decide) (ht _ tm_325) (fun _ h9 => h9) rfl md_M_sort_84 ?_
                refine lv_lconst (v := 0) hx hb md_M_sort_87 (by decide) ?_
                refine W.lcmp hx hb md_M_sort_88 ?_
                refine lv_if_ne (tgt := 100) hx hb md_M_sort_89 (by decide) (fun c_17 => ?_) (fun c_17 => ?_)
                · refine lv_aload_n hx hb md_M_sort_100 rfl (lv_at hl 1 rfl) ?_
                  refine va_get (D := D) (ci := 1) (v := .long (rf_man p0 (u.2 ((p0 * 6) + p1).toNatClampNeg))) (C := "NumberProbeModel") (T := TM) (N := 12) hx hb ht inM hown hK hM.1 0 rfl rfl 7 (by decide) (ht _ tm_325) (fun _ h9 => h9) rfl md_M_sort_101 ?_
                  refine lv_lconst (v := 1) hx hb md_M_sort_104 (by decide) ?_
                  refine lv_iload_n hx hb md_M_sort_105 rfl (lv_at hl 2 rfl) ?_
                  refine vp_callSi (W.runS (As := [.int p0]) (rest := [.long 1, .long (rf_man p0 (u.2 ((p0 * 6) + p1).toNatClampNeg))]) ⟨hx, hb, hml, hown, hts⟩ (mt_M_fraction l p0) (va_cwS 1 hts (gd_S tm_407 tm_408 tm_25 tm_409) rfl rfl rfl (by decide +kernel) ⟨Nat.le_of_ble_eq_true rfl, Nat.le_of_ble_eq_true rfl⟩) ⟨fb_0, fun U hU hW => ⟨rfl, trivial⟩⟩ rfl rfl hl.1 rfl (lv_room (Nat.le_of_ble_eq_true rfl)) md_M_sort_106 ⟨Nat.zero_le _, Nat.zero_le _⟩) (fun r_18 e_19 => ?_)
                  obtain rfl : r_18 = rf_fr p0 := e_19
                  refine lv_lshl (v := jl_shl 1 (rf_fr p0)) hx hb md_M_sort_109 rfl ?_
                  refine W.lcmp hx hb md_M_sort_110 ?_
                  refine lv_if_ge (tgt := 117) hx hb md_M_sort_111 (by decide) (fun c_20 => ?_) (fun c_20 => ?_)
                  · refine lv_iconst (v := 0) hx hb md_M_sort_117 (by decide) ?_
                    refine lv_istore (lv' := [(4, .int 0), (3, .int 4), (0, .ref h0), (1, .int p0), (2, .int p1)]) hx hb md_M_sort_118 hl (by decide) rfl (fun ls hl => ?_)
                    exact absurd (by rw [hz]; exact z_man _) (mt (lg_cmp_eq _ _).mpr c_17)
                  · refine lv_iinc (v := 4 + 16) (lv' := [(3, .int (4 + 16)), (0, .ref h0), (1, .int p0), (2, .int p1)]) hx hb md_M_sort_114 hl (k := 0) rfl rfl (by decide) rfl (fun ls hl => ?_)
                    refine lv_iconst (v := 0) hx hb md_M_sort_117 (by decide) ?_
                    refine lv_istore (lv' := [(4, .int 0), (3, .int (4 + 16)), (0, .ref h0), (1, .int p0), (2, .int p1)]) hx hb md_M_sort_118 hl (by decide) rfl (fun ls hl => ?_)
                    exact absurd (by rw [hz]; exact z_man _) (mt (lg_cmp_eq _ _).mpr c_17)
                · refine lv_iload_n hx hb md_M_sort_92 rfl (lv_at hl 0 rfl) ?_
                  refine lv_bipush (v := 8) hx hb md_M_sort_93 (by decide) ?_
                  refine lv_iadd hx hb md_M_sort_95 ?_
                  refine lv_bipush (v := 64) hx hb md_M_sort_96 (by decide) ?_
                  refine lv_iadd hx hb md_M_sort_98 ?_
                  exact W.iret (v := (4 + 8) + 64) hx hb hr (fun t ht2 _ => ⟨⟨(4 + 8) + 64, mtX p0 (u.2 ((p0 * 6) + p1).toNatClampNeg) u, rfl, (by first | (have f9 := (jb_0.mp c_13); simp [hz, z_isN, z_isI, z_isS, z_man] at f9; done) | (have f9 := (jb_0.mp c_14); simp [hz, z_isN, z_isI, z_isS, z_man] at f9; done) | (have f9 := (jb_0.mp c_15); simp [hz, z_isN, z_isI, z_isS, z_man] at f9; done) | (have f9 := (jb_0.mp c_16); simp [hz, z_isN, z_isI, z_isS, z_man] at f9; done) | (have f9 := ((lg_cmp_eq _ _).mp c_17); simp [hz, z_isN, z_isI, z_isS, z_man] at f9; done) | (simp [mz_srt, (jb_n0.mp c_3), (jb_n0.mp c_6), c_7, (jb_0.mp c_13), (jb_0.mp c_14), (jb_0.mp c_15), (jb_0.mp c_16), ((lg_cmp_eq _ _).mp c_17)]; done)), by show MWd D cL h0 q0 A _ t.heap; rw [ht2]; exact hM⟩, hS.F ht2⟩) hS.2.2 md_M_sort_99
              · refine lv_iload_n hx hb md_M_sort_81 rfl (lv_at hl 0 rfl) ?_
                exact W.iret (v := 4) hx hb hr (fun t ht2 _ => ⟨⟨4, mtX p0 (u.2 ((p0 * 6) + p1).toNatClampNeg) u, rfl, (by first | (have f9 := (jb_0.mp c_13); simp [hz, z_isN, z_isI, z_isS, z_man] at f9; done) | (have f9 := (jb_0.mp c_14); simp [hz, z_isN, z_isI, z_isS, z_man] at f9; done) | (have f9 := (jb_0.mp c_15); simp [hz, z_isN, z_isI, z_isS, z_man] at f9; done) | (have f9 := (jb_n0.mp c_16); simp [hz, z_isN, z_isI, z_isS, z_man] at f9; done) | (simp [mz_srt, (jb_n0.mp c_3), (jb_n0.mp c_6), c_7, (jb_0.mp c_13), (jb_0.mp c_14), (jb_0.mp c_15), (jb_n0.mp c_16)]; done)), by show MWd D cL h0 q0 A _ t.heap; rw [ht2]; exact hM⟩, hS.F ht2⟩) hS.2.2 md_M_sort_82
            · refine lv_iinc (v := 4 + 32) (lv' := [(3, .int (4 + 32)), (0, .ref h0), (1, .int p0), (2, .int p1)]) hx hb md_M_sort_71 hl (k := 0) rfl rfl (by decide) rfl (fun ls hl => ?_)
              refine lv_aload_n hx hb md_M_sort_74 rfl (lv_at hl 1 rfl) ?_
              refine va_get (D := D) (ci := 1) (v := .int (jb (rf_isI p0 (u.2 ((p0 * 6) + p1).toNatClampNeg)))) (C := "NumberProbeModel") (T := TM) (N := 12) hx hb ht inM hown hK hM.1 0 rfl rfl 5 (by decide) (ht _ tm_323) (fun _ h9 => h9) rfl md_M_sort_75 ?_
              refine lv_if_eq (tgt := 83) hx hb md_M_sort_78 (by decide) (fun c_21 => ?_) (fun c_21 => ?_)
              · refine lv_aload_n hx hb md_M_sort_83 rfl (lv_at hl 1 rfl) ?_
                refine va_get (D := D) (ci := 1) (v := .long (rf_man p0 (u.2 ((p0 * 6) + p1).toNatClampNeg))) (C := "NumberProbeModel") (T := TM) (N := 12) hx hb ht inM hown hK hM.1 0 rfl rfl 7 (by decide) (ht _ tm_325) (fun _ h9 => h9) rfl md_M_sort_84 ?_
                refine lv_lconst (v := 0) hx hb md_M_sort_87 (by decide) ?_
                refine W.lcmp hx hb md_M_sort_88 ?_
                refine lv_if_ne (tgt := 100) hx hb md_M_sort_89 (by decide) (fun c_22 => ?_) (fun c_22 => ?_)
                · refine lv_aload_n hx hb md_M_sort_100 rfl (lv_at hl 1 rfl) ?_
                  refine va_get (D := D) (ci := 1) (v := .long (rf_man p0 (u.2 ((p0 * 6) + p1).toNatClampNeg))) (C := "NumberProbeModel") (T := TM) (N := 12) hx hb ht inM hown hK hM.1 0 rfl rfl 7 (by decide) (ht _ tm_325) (fun _ h9 => h9) rfl md_M_sort_101 ?_
                  refine lv_lconst (v := 1) hx hb md_M_sort_104 (by decide) ?_
                  refine lv_iload_n hx hb md_M_sort_105 rfl (lv_at hl 2 rfl) ?_
                  refine vp_callSi (W.runS (As := [.int p0]) (rest := [.long 1, .long (rf_man p0 (u.2 ((p0 * 6) + p1).toNatClampNeg))]) ⟨hx, hb, hml, hown, hts⟩ (mt_M_fraction l p0) (va_cwS 1 hts (gd_S tm_407 tm_408 tm_25 tm_409) rfl rfl rfl (by decide +kernel) ⟨Nat.le_of_ble_eq_true rfl, Nat.le_of_ble_eq_true rfl⟩) ⟨fb_0, fun U hU hW => ⟨rfl, trivial⟩⟩ rfl rfl hl.1 rfl (lv_room (Nat.le_of_ble_eq_true rfl)) md_M_sort_106 ⟨Nat.zero_le _, Nat.zero_le _⟩) (fun r_23 e_24 => ?_)
                  obtain rfl : r_23 = rf_fr p0 := e_24
                  refine lv_lshl (v := jl_shl 1 (rf_fr p0)) hx hb md_M_sort_109 rfl ?_
                  refine W.lcmp hx hb md_M_sort_110 ?_
                  refine lv_if_ge (tgt := 117) hx hb md_M_sort_111 (by decide) (fun c_25 => ?_) (fun c_25 => ?_)
                  · refine lv_iconst (v := 0) hx hb md_M_sort_117 (by decide) ?_
                    refine lv_istore (lv' := [(4, .int 0), (3, .int (4 + 32)), (0, .ref h0), (1, .int p0), (2, .int p1)]) hx hb md_M_sort_118 hl (by decide) rfl (fun ls hl => ?_)
                    exact absurd (by rw [hz]; exact z_man _) (mt (lg_cmp_eq _ _).mpr c_22)
                  · refine lv_iinc (v := (4 + 32) + 16) (lv' := [(3, .int ((4 + 32) + 16)), (0, .ref h0), (1, .int p0), (2, .int p1)]) hx hb md_M_sort_114 hl (k := 0) rfl rfl (by decide) rfl (fun ls hl => ?_)
                    refine lv_iconst (v := 0) hx hb md_M_sort_117 (by decide) ?_
                    refine lv_istore (lv' := [(4, .int 0), (3, .int ((4 + 32) + 16)), (0, .ref h0), (1, .int p0), (2, .int p1)]) hx hb md_M_sort_118 hl (by decide) rfl (fun ls hl => ?_)
                    exact absurd (by rw [hz]; exact z_man _) (mt (lg_cmp_eq _ _).mpr c_22)
                · refine lv_iload_n hx hb md_M_sort_92 rfl (lv_at hl 0 rfl) ?_
                  refine lv_bipush (v := 8) hx hb md_M_sort_93 (by decide) ?_
                  refine lv_iadd hx hb md_M_sort_95 ?_
                  refine lv_bipush (v := 64) hx hb md_M_sort_96 (by decide) ?_
                  refine lv_iadd hx hb md_M_sort_98 ?_
                  exact W.iret (v := ((4 + 32) + 8) + 64) hx hb hr (fun t ht2 _ => ⟨⟨((4 + 32) + 8) + 64, mtX p0 (u.2 ((p0 * 6) + p1).toNatClampNeg) u, rfl, (by first | (have f9 := (jb_0.mp c_13); simp [hz, z_isN, z_isI, z_isS, z_man] at f9; done) | (have f9 := (jb_0.mp c_14); simp [hz, z_isN, z_isI, z_isS, z_man] at f9; done) | (have f9 := (jb_n0.mp c_15); simp [hz, z_isN, z_isI, z_isS, z_man] at f9; done) | (have f9 := (jb_0.mp c_21); simp [hz, z_isN, z_isI, z_isS, z_man] at f9; done) | (have f9 := ((lg_cmp_eq _ _).mp c_22); simp [hz, z_isN, z_isI, z_isS, z_man] at f9; done) | (simp [mz_srt, (jb_n0.mp c_3), (jb_n0.mp c_6), c_7, (jb_0.mp c_13), (jb_0.mp c_14), (jb_n0.mp c_15), (jb_0.mp c_21), ((lg_cmp_eq _ _).mp c_22)]; done)), by show MWd D cL h0 q0 A _ t.heap; rw [ht2]; exact hM⟩, hS.F ht2⟩) hS.2.2 md_M_sort_99
              · refine lv_iload_n hx hb md_M_sort_81 rfl (lv_at hl 0 rfl) ?_
                exact W.iret (v := 4 + 32) hx hb hr (fun t ht2 _ => ⟨⟨4 + 32, mtX p0 (u.2 ((p0 * 6) + p1).toNatClampNeg) u, rfl, (by first | (have f9 := (jb_0.mp c_13); simp [hz, z_isN, z_isI, z_isS, z_man] at f9; done) | (have f9 := (jb_0.mp c_14); simp [hz, z_isN, z_isI, z_isS, z_man] at f9; done) | (have f9 := (jb_n0.mp c_15); simp [hz, z_isN, z_isI, z_isS, z_man] at f9; done) | (have f9 := (jb_n0.mp c_21); simp [hz, z_isN, z_isI, z_isS, z_man] at f9; done) | (simp [mz_srt, (jb_n0.mp c_3), (jb_n0.mp c_6), c_7, (jb_0.mp c_13), (jb_0.mp c_14), (jb_n0.mp c_15), (jb_n0.mp c_21)]; done)), by show MWd D cL h0 q0 A _ t.heap; rw [ht2]; exact hM⟩, hS.F ht2⟩) hS.2.2 md_M_sort_82
          · refine lv_iconst (v := 2) hx hb md_M_sort_58 (by decide) ?_
            refine lv_goto (tgt := 63) hx hb md_M_sort_59 (by decide) ?_
            refine lv_istore_n (lv' := [(3, .int 2), (0, .ref h0), (1, .int p0), (2, .int p1)]) hx hb md_M_sort_63 rfl hl (by decide) rfl (fun ls hl => ?_)
            refine lv_aload_n hx hb md_M_sort_64 rfl (lv_at hl 1 rfl) ?_
            refine va_get (D := D) (ci := 1) (v := .int (jb (rf_isS p0 (u.2 ((p0 * 6) + p1).toNatClampNeg)))) (C := "NumberProbeModel") (T := TM) (N := 12) hx hb ht inM hown hK hM.1 0 rfl rfl 1 (by decide) (ht _ tm_319) (fun _ h9 => h9) rfl md_M_sort_65 ?_
            refine lv_if_eq (tgt := 74) hx hb md_M_sort_68 (by decide) (fun c_26 => ?_) (fun c_26 => ?_)
            · refine lv_aload_n hx hb md_M_sort_74 rfl (lv_at hl 1 rfl) ?_
              refine va_get (D := D) (ci := 1) (v := .int (jb (rf_isI p0 (u.2 ((p0 * 6) + p1).toNatClampNeg)))) (C := "NumberProbeModel") (T := TM) (N := 12) hx hb ht inM hown hK hM.1 0 rfl rfl 5 (by decide) (ht _ tm_323) (fun _ h9 => h9) rfl md_M_sort_75 ?_
              refine lv_if_eq (tgt := 83) hx hb md_M_sort_78 (by decide) (fun c_27 => ?_) (fun c_27 => ?_)
              · refine lv_aload_n hx hb md_M_sort_83 rfl (lv_at hl 1 rfl) ?_
                refine va_get (D := D) (ci := 1) (v := .long (rf_man p0 (u.2 ((p0 * 6) + p1).toNatClampNeg))) (C := "NumberProbeModel") (T := TM) (N := 12) hx hb ht inM hown hK hM.1 0 rfl rfl 7 (by decide) (ht _ tm_325) (fun _ h9 => h9) rfl md_M_sort_84 ?_
                refine lv_lconst (v := 0) hx hb md_M_sort_87 (by decide) ?_
                refine W.lcmp hx hb md_M_sort_88 ?_
                refine lv_if_ne (tgt := 100) hx hb md_M_sort_89 (by decide) (fun c_28 => ?_) (fun c_28 => ?_)
                · refine lv_aload_n hx hb md_M_sort_100 rfl (lv_at hl 1 rfl) ?_
                  refine va_get (D := D) (ci := 1) (v := .long (rf_man p0 (u.2 ((p0 * 6) + p1).toNatClampNeg))) (C := "NumberProbeModel") (T := TM) (N := 12) hx hb ht inM hown hK hM.1 0 rfl rfl 7 (by decide) (ht _ tm_325) (fun _ h9 => h9) rfl md_M_sort_101 ?_
                  refine lv_lconst (v := 1) hx hb md_M_sort_104 (by decide) ?_
                  refine lv_iload_n hx hb md_M_sort_105 rfl (lv_at hl 2 rfl) ?_
                  refine vp_callSi (W.runS (As := [.int p0]) (rest := [.long 1, .long (rf_man p0 (u.2 ((p0 * 6) + p1).toNatClampNeg))]) ⟨hx, hb, hml, hown, hts⟩ (mt_M_fraction l p0) (va_cwS 1 hts (gd_S tm_407 tm_408 tm_25 tm_409) rfl rfl rfl (by decide +kernel) ⟨Nat.le_of_ble_eq_true rfl, Nat.le_of_ble_eq_true rfl⟩) ⟨fb_0, fun U hU hW => ⟨rfl, trivial⟩⟩ rfl rfl hl.1 rfl (lv_room (Nat.le_of_ble_eq_true rfl)) md_M_sort_106 ⟨Nat.zero_le _, Nat.zero_le _⟩) (fun r_29 e_30 => ?_)
                  obtain rfl : r_29 = rf_fr p0 := e_30
                  refine lv_lshl (v := jl_shl 1 (rf_fr p0)) hx hb md_M_sort_109 rfl ?_
                  refine W.lcmp hx hb md_M_sort_110 ?_
                  refine lv_if_ge (tgt := 117) hx hb md_M_sort_111 (by decide) (fun c_31 => ?_) (fun c_31 => ?_)
                  · refine lv_iconst (v := 0) hx hb md_M_sort_117 (by decide) ?_
                    refine lv_istore (lv' := [(4, .int 0), (3, .int 2), (0, .ref h0), (1, .int p0), (2, .int p1)]) hx hb md_M_sort_118 hl (by decide) rfl (fun ls hl => ?_)
                    exact absurd (by rw [hz]; exact z_man _) (mt (lg_cmp_eq _ _).mpr c_28)
                  · refine lv_iinc (v := 2 + 16) (lv' := [(3, .int (2 + 16)), (0, .ref h0), (1, .int p0), (2, .int p1)]) hx hb md_M_sort_114 hl (k := 0) rfl rfl (by decide) rfl (fun ls hl => ?_)
                    refine lv_iconst (v := 0) hx hb md_M_sort_117 (by decide) ?_
                    refine lv_istore (lv' := [(4, .int 0), (3, .int (2 + 16)), (0, .ref h0), (1, .int p0), (2, .int p1)]) hx hb md_M_sort_118 hl (by decide) rfl (fun ls hl => ?_)
                    exact absurd (by rw [hz]; exact z_man _) (mt (lg_cmp_eq _ _).mpr c_28)
                · refine lv_iload_n hx hb md_M_sort_92 rfl (lv_at hl 0 rfl) ?_
                  refine lv_bipush (v := 8) hx hb md_M_sort_93 (by decide) ?_
                  refine lv_iadd hx hb md_M_sort_95 ?_
                  refine lv_bipush (v := 64) hx hb md_M_sort_96 (by decide) ?_
                  refine lv_iadd hx hb md_M_sort_98 ?_
                  exact W.iret (v := (2 + 8) + 64) hx hb hr (fun t ht2 _ => ⟨⟨(2 + 8) + 64, mtX p0 (u.2 ((p0 * 6) + p1).toNatClampNeg) u, rfl, (by first | (have f9 := (jb_0.mp c_13); simp [hz, z_isN, z_isI, z_isS, z_man] at f9; done) | (have f9 := (jb_n0.mp c_14); simp [hz, z_isN, z_isI, z_isS, z_man] at f9; done) | (have f9 := (jb_0.mp c_26); simp [hz, z_isN, z_isI, z_isS, z_man] at f9; done) | (have f9 := (jb_0.mp c_27); simp [hz, z_isN, z_isI, z_isS, z_man] at f9; done) | (have f9 := ((lg_cmp_eq _ _).mp c_28); simp [hz, z_isN, z_isI, z_isS, z_man] at f9; done) | (simp [mz_srt, (jb_n0.mp c_3), (jb_n0.mp c_6), c_7, (jb_0.mp c_13), (jb_n0.mp c_14), (jb_0.mp c_26), (jb_0.mp c_27), ((lg_cmp_eq _ _).mp c_28)]; done)), by show MWd D cL h0 q0 A _ t.heap; rw [ht2]; exact hM⟩, hS.F ht2⟩) hS.2.2 md_M_sort_99
              · refine lv_iload_n hx hb md_M_sort_81 rfl (lv_at hl 0 rfl) ?_
                exact W.iret (v := 2) hx hb hr (fun t ht2 _ => ⟨⟨2, mtX p0 (u.2 ((p0 * 6) + p1).toNatClampNeg) u, rfl, (by first | (have f9 := (jb_0.mp c_13); simp [hz, z_isN, z_isI, z_isS, z_man] at f9; done) | (have f9 := (jb_n0.mp c_14); simp [hz, z_isN, z_isI, z_isS, z_man] at f9; done) | (have f9 := (jb_0.mp c_26); simp [hz, z_isN, z_isI, z_isS, z_man] at f9; done) | (have f9 := (jb_n0.mp c_27); simp [hz, z_isN, z_isI, z_isS, z_man] at f9; done) | (simp [mz_srt, (jb_n0.mp c_3), (jb_n0.mp c_6), c_7, (jb_0.mp c_13), (jb_n0.mp c_14), (jb_0.mp c_26), (jb_n0.mp c_27)]; done)), by show MWd D cL h0 q0 A _ t.heap; rw [ht2]; exact hM⟩, hS.F ht2⟩) hS.2.2 md_M_sort_82
            · refine lv_iinc (v := 2 + 32) (lv' := [(3, .int (2 + 32)), (0, .ref h0), (1, .int p0), (2, .int p1)]) hx hb md_M_sort_71 hl (k := 0) rfl rfl (by decide) rfl (fun ls hl => ?_)
              refine lv_aload_n hx hb md_M_sort_74 rfl (lv_at hl 1 rfl) ?_
              refine va_get (D := D) (ci := 1) (v := .int (jb (rf_isI p0 (u.2 ((p0 * 6) + p1).toNatClampNeg)))) (C := "NumberProbeModel") (T := TM) (N := 12) hx hb ht inM hown hK hM.1 0 rfl rfl 5 (by decide) (ht _ tm_323) (fun _ h9 => h9) rfl md_M_sort_75 ?_
              refine lv_if_eq (tgt := 83) hx hb md_M_sort_78 (by decide) (fun c_32 => ?_) (fun c_32 => ?_)
              · refine lv_aload_n hx hb md_M_sort_83 rfl (lv_at hl 1 rfl) ?_
                refine va_get (D := D) (ci := 1) (v := .long (rf_man p0 (u.2 ((p0 * 6) + p1).toNatClampNeg))) (C := "NumberProbeModel") (T := TM) (N := 12) hx hb ht inM hown hK hM.1 0 rfl rfl 7 (by decide) (ht _ tm_325) (fun _ h9 => h9) rfl md_M_sort_84 ?_
                refine lv_lconst (v := 0) hx hb md_M_sort_87 (by decide) ?_
                refine W.lcmp hx hb md_M_sort_88 ?_
                refine lv_if_ne (tgt := 100) hx hb md_M_sort_89 (by decide) (fun c_33 => ?_) (fun c_33 => ?_)
                · refine lv_aload_n hx hb md_M_sort_100 rfl (lv_at hl 1 rfl) ?_
                  refine va_get (D := D) (ci := 1) (v := .long (rf_man p0 (u.2 ((p0 * 6) + p1).toNatClampNeg))) (C := "NumberProbeModel") (T := TM) (N := 12) hx hb ht inM hown hK hM.1 0 rfl rfl 7 (by decide) (ht _ tm_325) (fun _ h9 => h9) rfl md_M_sort_101 ?_
                  refine lv_lconst (v := 1) hx hb md_M_sort_104 (by decide) ?_
                  refine lv_iload_n hx hb md_M_sort_105 rfl (lv_at hl 2 rfl) ?_
                  refine vp_callSi (W.runS (As := [.int p0]) (rest := [.long 1, .long (rf_man p0 (u.2 ((p0 * 6) + p1).toNatClampNeg))]) ⟨hx, hb, hml, hown, hts⟩ (mt_M_fraction l p0) (va_cwS 1 hts (gd_S tm_407 tm_408 tm_25 tm_409) rfl rfl rfl (by decide +kernel) ⟨Nat.le_of_ble_eq_true rfl, Nat.le_of_ble_eq_true rfl⟩) ⟨fb_0, fun U hU hW => ⟨rfl, trivial⟩⟩ rfl rfl hl.1 rfl (lv_room (Nat.le_of_ble_eq_true rfl)) md_M_sort_106 ⟨Nat.zero_le _, Nat.zero_le _⟩) (fun r_34 e_35 => ?_)
                  obtain rfl : r_34 = rf_fr p0 := e_35
                  refine lv_lshl (v := jl_shl 1 (rf_fr p0)) hx hb md_M_sort_109 rfl ?_
                  refine W.lcmp hx hb md_M_sort_110 ?_
                  refine lv_if_ge (tgt := 117) hx hb md_M_sort_111 (by decide) (fun c_36 => ?_) (fun c_36 => ?_)
                  · refine lv_iconst (v := 0) hx hb md_M_sort_117 (by decide) ?_
                    refine lv_istore (lv' := [(4, .int 0), (3, .int (2 + 32)), (0, .ref h0), (1, .int p0), (2, .int p1)]) hx hb md_M_sort_118 hl (by decide) rfl (fun ls hl => ?_)
                    exact absurd (by rw [hz]; exact z_man _) (mt (lg_cmp_eq _ _).mpr c_33)
                  · refine lv_iinc (v := (2 + 32) + 16) (lv' := [(3, .int ((2 + 32) + 16)), (0, .ref h0), (1, .int p0), (2, .int p1)]) hx hb md_M_sort_114 hl (k := 0) rfl rfl (by decide) rfl (fun ls hl => ?_)
                    refine lv_iconst (v := 0) hx hb md_M_sort_117 (by decide) ?_
                    refine lv_istore (lv' := [(4, .int 0), (3, .int ((2 + 32) + 16)), (0, .ref h0), (1, .int p0), (2, .int p1)]) hx hb md_M_sort_118 hl (by decide) rfl (fun ls hl => ?_)
                    exact absurd (by rw [hz]; exact z_man _) (mt (lg_cmp_eq _ _).mpr c_33)
                · refine lv_iload_n hx hb md_M_sort_92 rfl (lv_at hl 0 rfl) ?_
                  refine lv_bipush (v := 8) hx hb md_M_sort_93 (by decide) ?_
                  refine lv_iadd hx hb md_M_sort_95 ?_
                  refine lv_bipush (v := 64) hx hb md_M_sort_96 (by decide) ?_
                  refine lv_iadd hx hb md_M_sort_98 ?_
                  exact W.iret (v := ((2 + 32) + 8) + 64) hx hb hr (fun t ht2 _ => ⟨⟨((2 + 32) + 8) + 64, mtX p0 (u.2 ((p0 * 6) + p1).toNatClampNeg) u, rfl, (by first | (have f9 := (jb_0.mp c_13); simp [hz, z_isN, z_isI, z_isS, z_man] at f9; done) | (have f9 := (jb_n0.mp c_14); simp [hz, z_isN, z_isI, z_isS, z_man] at f9; done) | (have f9 := (jb_n0.mp c_26); simp [hz, z_isN, z_isI, z_isS, z_man] at f9; done) | (have f9 := (jb_0.mp c_32); simp [hz, z_isN, z_isI, z_isS, z_man] at f9; done) | (have f9 := ((lg_cmp_eq _ _).mp c_33); simp [hz, z_isN, z_isI, z_isS, z_man] at f9; done) | (simp [mz_srt, (jb_n0.mp c_3), (jb_n0.mp c_6), c_7, (jb_0.mp c_13), (jb_n0.mp c_14), (jb_n0.mp c_26), (jb_0.mp c_32), ((lg_cmp_eq _ _).mp c_33)]; done)), by show MWd D cL h0 q0 A _ t.heap; rw [ht2]; exact hM⟩, hS.F ht2⟩) hS.2.2 md_M_sort_99
              · refine lv_iload_n hx hb md_M_sort_81 rfl (lv_at hl 0 rfl) ?_
                exact W.iret (v := 2 + 32) hx hb hr (fun t ht2 _ => ⟨⟨2 + 32, mtX p0 (u.2 ((p0 * 6) + p1).toNatClampNeg) u, rfl, (by first | (have f9 := (jb_0.mp c_13); simp [hz, z_isN, z_isI, z_isS, z_man] at f9; done) | (have f9 := (jb_n0.mp c_14); simp [hz, z_isN, z_isI, z_isS, z_man] at f9; done) | (have f9 := (jb_n0.mp c_26); simp [hz, z_isN, z_isI, z_isS, z_man] at f9; done) | (have f9 := (jb_n0.mp c_32); simp [hz, z_isN, z_isI, z_isS, z_man] at f9; done) | (simp [mz_srt, (jb_n0.mp c_3), (jb_n0.mp c_6), c_7, (jb_0.mp c_13), (jb_n0.mp c_14), (jb_n0.mp c_26), (jb_n0.mp c_32)]; done)), by show MWd D cL h0 q0 A _ t.heap; rw [ht2]; exact hM⟩, hS.F ht2⟩) hS.2.2 md_M_sort_82
        · refine lv_iconst (v := 1) hx hb md_M_sort_49 (by decide) ?_
          exact W.iret (v := 1) hx hb hr (fun t ht2 _ => ⟨⟨1, mtX p0 (u.2 ((p0 * 6) + p1).toNatClampNeg) u, rfl, (by first | (have f9 := (jb_n0.mp c_13); simp [hz, z_isN, z_isI, z_isS, z_man] at f9; done) | (simp [mz_srt, (jb_n0.mp c_3), (jb_n0.mp c_6), c_7, (jb_n0.mp c_13)]; done)), by show MWd D cL h0 q0 A _ t.heap; rw [ht2]; exact hM⟩, hS.F ht2⟩) hS.2.2 md_M_sort_50
      · refine lv_iconst (v := 0) hx hb md_M_sort_24 (by decide) ?_
        exact W.iret (v := 0) hx hb hr (fun t ht2 _ => ⟨⟨0, u, rfl, (by first | (simp [mz_srt, (jb_n0.mp c_3), (jb_n0.mp c_6), (c_7)]; done)), by show MWd D cL h0 q0 A _ t.heap; rw [ht2]; exact hM⟩, hS.F ht2⟩) hS.2.2 md_M_sort_25
    · refine lv_iconst (v := (-1)) hx hb md_M_sort_17 (by decide) ?_
      exact W.iret (v := (-1)) hx hb hr (fun t ht2 _ => ⟨⟨(-1), u, rfl, (by first | (simp [mz_srt, (jb_n0.mp c_3), (jb_0.mp c_6)]; done)), by show MWd D cL h0 q0 A _ t.heap; rw [ht2]; exact hM⟩, hS.F ht2⟩) hS.2.2 md_M_sort_18
