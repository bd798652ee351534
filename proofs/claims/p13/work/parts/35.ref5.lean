set_option maxHeartbeats 4000000 in
set_option maxRecDepth 100000 in
theorem mt_M_sort (l : Launch) (D : va_G) (cL : ClassId) (h0 q0 sz : Nat) (u : MT) (p0 : Int32) (p1 : Int32) : Met l my_M_sort mw_M_sort ({ frames := 4, cells := 0, slots := 0, locals := 91 } : Room) (MPc D cL h0 q0 sz u [.int p0, .int p1]) (MQi D cL h0 q0 (MA h0 q0 cL u sz) (fun (r : Int32) (v : MT) => True)) 0 0 (MA h0 q0 cL u sz) := by
  refine Met.ofW (cc := mc_M_sort) (maxL := 5) (ret := (some .int)) (by decide) rfl ?_
  intro p e s m args below meth c s₁ B hml hv
  obtain ⟨rfl, hsz, hP, hK, hD0⟩ := hv
  have hx := B.exec
  have hb := B.bytes
  have hr := B.returns
  have hts := atoms_spec (ws := mw_M_sort) B.pre
  have ht : ∀ w ∈ gw_tbl, w.before _ s = true := fun w h => hts w (List.mem_cons_of_mem _ h)
  have hown : s.vm.findClass "NumberProbeModel" = some m.cls := findClass_of_methodNamed B.named
  have hlocks := B.notSynchronized
  subst hsz
  have hD : va_D (MA h0 q0 cL u s.heap.size) (mWs h0 q0 cL u) := hD0.self (sz := s.heap.size)
  generalize hAe : MA h0 q0 cL u s.heap.size = A at hD ⊢
  have hA : ∀ q : Nat, s.heap.size ≤ q → A q := fun q h => by rw [← hAe]; exact Or.inr h
  have hS : va_S A s.heap s.heap [] := va_S.rf
  have hM : MWd D cL h0 q0 A u s.heap := ⟨hP, hD⟩
  have hl := lv_entry ([.ref h0, .int p0, .int p1]) (n := 5) (Nat.le_of_ble_eq_true rfl)
  rw [lg_entry_eq]
  generalize (lg_sl ([.ref h0, .int p0, .int p1]) ++ List.replicate (5 - (lg_sl ([.ref h0, .int p0, .int p1])).length) Slot.unset).toArray = ls at hl ⊢
  have hl : lv_has ls 5 [(0, .ref h0), (1, .int p0), (2, .int p1)] := hl
  refine lv_iload_n hx hb md_M_sort_0 rfl (lv_at hl 1 rfl) ?_
  refine lv_iconst (v := 4) hx hb md_M_sort_1 (by decide) ?_
  refine vp_callSi (W.runS (As := [.int p0, .int 4]) (rest := []) ⟨hx, hb, hml, hown, hts⟩ (mt_M_in l p0 4) (va_cwS 2 hts (gd_S tm_359 tm_360 tm_25 tm_361) rfl rfl rfl (by decide +kernel) ⟨Nat.le_of_ble_eq_true rfl, Nat.le_of_ble_eq_true rfl⟩) ⟨fb_0, fun U hU hW => ⟨rfl, trivial⟩⟩ rfl rfl hl.1 rfl (lv_room (Nat.le_of_ble_eq_true rfl)) md_M_sort_2 ⟨Nat.zero_le _, Nat.zero_le _⟩) (fun r_1 e_2 => ?_)
  obtain rfl : r_1 = jb (rn_in p0 4) := e_2
  refine lv_if_eq (tgt := 17) hx hb md_M_sort_5 (by decide) (fun c_3 => ?_) (fun c_3 => ?_)
  · refine lv_iconst (v := (-1)) hx hb md_M_sort_17 (by decide) ?_
    exact W.iret (v := (-1)) hx hb hr (fun t ht2 _ => ⟨⟨(-1), u, rfl, trivial, by show MWd D cL h0 q0 A _ t.heap; rw [ht2]; exact hM⟩, hS.F ht2⟩) hS.2.2 md_M_sort_18
  · refine lv_iload_n hx hb md_M_sort_8 rfl (lv_at hl 2 rfl) ?_
    refine lv_bipush (v := 6) hx hb md_M_sort_9 (by decide) ?_
    refine vp_callSi (W.runS (As := [.int p1, .int 6]) (rest := []) ⟨hx, hb, hml, hown, hts⟩ (mt_M_in l p1 6) (va_cwS 2 hts (gd_S tm_359 tm_360 tm_25 tm_361) rfl rfl rfl (by decide +kernel) ⟨Nat.le_of_ble_eq_true rfl, Nat.le_of_ble_eq_true rfl⟩) ⟨fb_0, fun U hU hW => ⟨rfl, trivial⟩⟩ rfl rfl hl.1 rfl (lv_room (Nat.le_of_ble_eq_true rfl)) md_M_sort_11 ⟨Nat.zero_le _, Nat.zero_le _⟩) (fun r_4 e_5 => ?_)
    obtain rfl : r_4 = jb (rn_in p1 6) := e_5
    refine lv_if_ne (tgt := 19) hx hb md_M_sort_14 (by decide) (fun c_6 => ?_) (fun c_6 => ?_)
    · refine lv_iload_n hx hb md_M_sort_19 rfl (lv_at hl 1 rfl) ?_
      refine lv_iconst (v := 1) hx hb md_M_sort_20 (by decide) ?_
      refine lv_icmp_le (tgt := 26) hx hb md_M_sort_21 (by decide) (fun c_7 => ?_) (fun c_7 => ?_)
      · refine lv_aload_n hx hb md_M_sort_26 rfl (lv_at hl 0 rfl) ?_
        refine lv_iload_n hx hb md_M_sort_27 rfl (lv_at hl 1 rfl) ?_
        refine lv_aload_n hx hb md_M_sort_28 rfl (lv_at hl 0 rfl) ?_
        refine va_get (D := D) (ci := 1) (v := .ref q0) (C := "NumberProbeModel") (T := TM) (N := 12) hx hb ht inM hown hK hM.1 0 rfl rfl 0 (by decide) (ht _ tm_318) (fun _ h9 => h9) rfl md_M_sort_29 ?_
        refine lv_iload_n hx hb md_M_sort_32 rfl (lv_at hl 1 rfl) ?_
        refine lv_bipush (v := 6) hx hb md_M_sort_33 (by decide) ?_
        refine lv_imul hx hb md_M_sort_35 ?_
        refine lv_iload_n hx hb md_M_sort_36 rfl (lv_at hl 2 rfl) ?_
        refine lv_iadd hx hb md_M_sort_37 ?_
        refine va_lald (D := D) hx hb hK hM.1 1 0 rfl rfl (rn_idx (jb_n0.mp c_3) (jb_n0.mp c_6)) md_M_sort_38 ?_
        refine m_callv (va_runV (C := "NumberProbeModel") (As := [.int p0, .long (u.2 ((p0 * 6) + p1).toNatClampNeg)]) (rest := []) ⟨hx, hb, hml, hown, hts⟩ (mt_M_takeX l D cL h0 q0 _ u p0 (u.2 ((p0 * 6) + p1).toNatClampNeg)) (cwV 2 hts (gd_V tm_451 tm_453 tm_13 tm_25 tm_454) rfl rfl rfl (by decide +kernel) ⟨Nat.le_of_ble_eq_true rfl, Nat.le_of_ble_eq_true rfl⟩) (m_in (locs := []) hK hM) rfl rfl hl.1 rfl (lv_room (Nat.le_of_ble_eq_true rfl)) md_M_sort_39 ⟨Nat.zero_le _, Nat.zero_le _⟩) hM hS hA (fun u_10 H_11 L_12 e_9 hM hS => ?_)
        obtain rfl : u_10 = mtX p0 (u.2 ((p0 * 6) + p1).toNatClampNeg) u := e_9
        refine lv_aload_n hx hb md_M_sort_42 rfl (lv_at hl 0 rfl) ?_
        refine va_get (D := D) (ci := 1) (v := .int (jb (rf_isN p0 (u.2 ((p0 * 6) + p1).toNatClampNeg)))) (C := "NumberProbeModel") (T := TM) (N := 12) hx hb ht inM hown hK hM.1 0 rfl rfl 3 (by decide) (ht _ tm_321) (fun _ h9 => h9) rfl md_M_sort_43 ?_
        refine lv_if_eq (tgt := 51) hx hb md_M_sort_46 (by decide) (fun c_13 => ?_) (fun c_13 => ?_)
        · refine lv_aload_n hx hb md_M_sort_51 rfl (lv_at hl 0 rfl) ?_
          refine va_get (D := D) (ci := 1) (v := .int (jb (rf_isI p0 (u.2 ((p0 * 6) + p1).toNatClampNeg)))) (C := "NumberProbeModel") (T := TM) (N := 12) hx hb ht inM hown hK hM.1 0 rfl rfl 5 (by decide) (ht _ tm_323) (fun _ h9 => h9) rfl md_M_sort_52 ?_
          have J_15 : ∀ (z_16 : Int32) (ls : Array Slot), lv_has ls 5 [(0, .ref h0), (1, .int p0), (2, .int p1)] → W p l e (headSpec mw_M_sort ({ frames := 4, cells := 0, slots := 0, locals := 91 } : Room)).room s m ([.ref h0, .int p0, .int p1] : List Value).toArray below meth c H_11 L_12 0 0 (MQ below (MQi D cL h0 q0 A (fun (r : Int32) (v : MT) => True)) ([.ref h0, .int p0, .int p1] : List Value).toArray s 0 0 A) (F0 m 63 ls [.int z_16]) := by
            intro z_16 ls hl
            refine lv_istore_n (lv' := [(3, .int z_16), (0, .ref h0), (1, .int p0), (2, .int p1)]) hx hb md_M_sort_63 rfl hl (by decide) rfl (fun ls hl => ?_)
            refine lv_aload_n hx hb md_M_sort_64 rfl (lv_at hl 1 rfl) ?_
            refine va_get (D := D) (ci := 1) (v := .int (jb (rf_isS p0 (u.2 ((p0 * 6) + p1).toNatClampNeg)))) (C := "NumberProbeModel") (T := TM) (N := 12) hx hb ht inM hown hK hM.1 0 rfl rfl 1 (by decide) (ht _ tm_319) (fun _ h9 => h9) rfl md_M_sort_65 ?_
            have J_18 : ∀ (z_19 : Int32) (ls : Array Slot), lv_has ls 5 [(3, .int z_19), (0, .ref h0), (1, .int p0), (2, .int p1)] → W p l e (headSpec mw_M_sort ({ frames := 4, cells := 0, slots := 0, locals := 91 } : Room)).room s m ([.ref h0, .int p0, .int p1] : List Value).toArray below meth c H_11 L_12 0 0 (MQ below (MQi D cL h0 q0 A (fun (r : Int32) (v : MT) => True)) ([.ref h0, .int p0, .int p1] : List Value).toArray s 0 0 A) (F0 m 74 ls []) := by
              intro z_19 ls hl
              refine lv_aload_n hx hb md_M_sort_74 rfl (lv_at hl 1 rfl) ?_
              refine va_get (D := D) (ci := 1) (v := .int (jb (rf_isI p0 (u.2 ((p0 * 6) + p1).toNatClampNeg)))) (C := "NumberProbeModel") (T := TM) (N := 12) hx hb ht inM hown hK hM.1 0 rfl rfl 5 (by decide) (ht _ tm_323) (fun _ h9 => h9) rfl md_M_sort_75 ?_
              refine lv_if_eq (tgt := 83) hx hb md_M_sort_78 (by decide) (fun c_20 => ?_) (fun c_20 => ?_)
              · refine lv_aload_n hx hb md_M_sort_83 rfl (lv_at hl 1 rfl) ?_
                refine va_get (D := D) (ci := 1) (v := .long (rf_man p0 (u.2 ((p0 * 6) + p1).toNatClampNeg))) (C := "NumberProbeModel") (T := TM) (N := 12) hx hb ht inM hown hK hM.1 0 rfl rfl 7 (by decide) (ht _ tm_325) (fun _ h9 => h9) rfl md_M_sort_84 ?_
                refine lv_lconst (v := 0) hx hb md_M_sort_87 (by decide) ?_
                refine W.lcmp hx hb md_M_sort_88 ?_
                refine lv_if_ne (tgt := 100) hx hb md_M_sort_89 (by decide) (fun c_21 => ?_) (fun c_21 => ?_)
                · refine lv_aload_n hx hb md_M_sort_100 rfl (lv_at hl 1 rfl) ?_
                  refine va_get (D := D) (ci := 1) (v := .long (rf_man p0 (u.2 ((p0 * 6) + p1).toNatClampNeg))) (C := "NumberProbeModel") (T := TM) (N := 12) hx hb ht inM hown hK hM.1 0 rfl rfl 7 (by decide) (ht _ tm_325) (fun _ h9 => h9) rfl md_M_sort_101 ?_
                  refine lv_lconst (v := 1) hx hb md_M_sort_104 (by decide) ?_
                  refine lv_iload_n hx hb md_M_sort_105 rfl (lv_at hl 2 rfl) ?_
                  refine vp_callSi (W.runS (As := [.int p0]) (rest := [.long 1, .long (rf_man p0 (u.2 ((p0 * 6) + p1).toNatClampNeg))]) ⟨hx, hb, hml, hown, hts⟩ (mt_M_fraction l p0) (va_cwS 1 hts (gd_S tm_407 tm_408 tm_25 tm_409) rfl rfl rfl (by decide +kernel) ⟨Nat.le_of_ble_eq_true rfl, Nat.le_of_ble_eq_true rfl⟩) ⟨fb_0, fun U hU hW => ⟨rfl, trivial⟩⟩ rfl rfl hl.1 rfl (lv_room (Nat.le_of_ble_eq_true rfl)) md_M_sort_106 ⟨Nat.zero_le _, Nat.zero_le _⟩) (fun r_22 e_23 => ?_)
                  obtain rfl : r_22 = rf_fr p0 := e_23
                  refine lv_lshl (v := jl_shl 1 (rf_fr p0)) hx hb md_M_sort_109 rfl ?_
                  refine W.lcmp hx hb md_M_sort_110 ?_
                  have J_25 : ∀ (z_26 : Int32) (ls : Array Slot), lv_has ls 5 [(3, .int z_26), (0, .ref h0), (1, .int p0), (2, .int p1)] → W p l e (headSpec mw_M_sort ({ frames := 4, cells := 0, slots := 0, locals := 91 } : Room)).room s m ([.ref h0, .int p0, .int p1] : List Value).toArray below meth c H_11 L_12 0 0 (MQ below (MQi D cL h0 q0 A (fun (r : Int32) (v : MT) => True)) ([.ref h0, .int p0, .int p1] : List Value).toArray s 0 0 A) (F0 m 117 ls []) := by
                    intro z_26 ls hl
                    refine lv_iconst (v := 0) hx hb md_M_sort_117 (by decide) ?_
                    refine lv_istore (lv' := [(4, .int 0), (3, .int z_26), (0, .ref h0), (1, .int p0), (2, .int p1)]) hx hb md_M_sort_118 hl (by decide) rfl (fun ls hl => ?_)
                    obtain ⟨m9, m1, m2⟩ := fa_man p0 (u.2 ((p0 * 6) + p1).toNatClampNeg)
                    obtain ⟨j9, j1, j2⟩ := fa_bit (m := m9) (by intro q; exact (mt (lg_cmp_eq _ _).mpr c_21) (by rw [m2, q]; rfl)) m1
                    rw [← m2] at j2
                    have L9 : ∀ (n z : Nat) (ls : Array Slot), z + n = j9 → lv_has ls 5 [(4, .int (zI (z : Int))), (3, .int z_26), (0, .ref h0), (1, .int p0), (2, .int p1)] → W p l e (headSpec mw_M_sort ({ frames := 4, cells := 0, slots := 0, locals := 91 } : Room)).room s m ([.ref h0, .int p0, .int p1] : List Value).toArray below meth c H_11 L_12 0 0 (MQ below (MQi D cL h0 q0 A (fun (r : Int32) (v : MT) => True)) ([.ref h0, .int p0, .int p1] : List Value).toArray s 0 0 A) (F0 m 120 ls []) := by
                      intro n
                      induction n with
                      | zero =>
                        intro z ls hn hl
                        refine lv_aload_n hx hb md_M_sort_120 rfl (lv_at hl 2 rfl) ?_
                        refine va_get (D := D) (ci := 1) (v := .long (rf_man p0 (u.2 ((p0 * 6) + p1).toNatClampNeg))) (C := "NumberProbeModel") (T := TM) (N := 12) hx hb ht inM hown hK hM.1 0 rfl rfl 7 (by decide) (ht _ tm_325) (fun _ h9 => h9) rfl md_M_sort_121 ?_
                        refine lv_iload hx hb md_M_sort_124 (lv_at hl 0 rfl) ?_
                        refine lv_lushr (v := jl_ush (rf_man p0 (u.2 ((p0 * 6) + p1).toNatClampNeg)) (zI (z : Int))) hx hb md_M_sort_126 rfl ?_
                        refine lv_lconst (v := 1) hx hb md_M_sort_127 (by decide) ?_
                        refine lv_land hx hb md_M_sort_128 ?_
                        refine lv_lconst (v := 0) hx hb md_M_sort_129 (by decide) ?_
                        refine W.lcmp hx hb md_M_sort_130 ?_
                        refine lv_if_ne (tgt := 140) hx hb md_M_sort_131 (by decide) (fun c_27 => ?_) (fun c_27 => ?_)
                        · refine lv_aload_n hx hb md_M_sort_140 rfl (lv_at hl 2 rfl) ?_
                          refine va_get (D := D) (ci := 1) (v := .int (rf_pow p0 (u.2 ((p0 * 6) + p1).toNatClampNeg))) (C := "NumberProbeModel") (T := TM) (N := 12) hx hb ht inM hown hK hM.1 0 rfl rfl 9 (by decide) (ht _ tm_327) (fun _ h9 => h9) rfl md_M_sort_141 ?_
                          refine lv_iload hx hb md_M_sort_144 (lv_at hl 0 rfl) ?_
                          refine lv_iadd hx hb md_M_sort_146 ?_
                          have J_29 : ∀ (z_30 : Int32) (ls : Array Slot), lv_has ls 5 [(4, .int (zI (z : Int))), (3, .int z_30), (0, .ref h0), (1, .int p0), (2, .int p1)] → W p l e (headSpec mw_M_sort ({ frames := 4, cells := 0, slots := 0, locals := 91 } : Room)).room s m ([.ref h0, .int p0, .int p1] : List Value).toArray below meth c H_11 L_12 0 0 (MQ below (MQi D cL h0 q0 A (fun (r : Int32) (v : MT) => True)) ([.ref h0, .int p0, .int p1] : List Value).toArray s 0 0 A) (F0 m 153 ls []) := by
                            intro z_30 ls hl
                            refine lv_iload_n hx hb md_M_sort_153 rfl (lv_at hl 1 rfl) ?_
                            refine lv_aload_n hx hb md_M_sort_154 rfl (lv_at hl 2 rfl) ?_
                            refine va_get (D := D) (ci := 1) (v := .long (rf_man p0 (u.2 ((p0 * 6) + p1).toNatClampNeg))) (C := "NumberProbeModel") (T := TM) (N := 12) hx hb ht inM hown hK hM.1 0 rfl rfl 7 (by decide) (ht _ tm_325) (fun _ h9 => h9) rfl md_M_sort_155 ?_
                            refine lv_iload hx hb md_M_sort_158 (lv_at hl 0 rfl) ?_
                            refine lv_lushr (v := jl_ush (rf_man p0 (u.2 ((p0 * 6) + p1).toNatClampNeg)) (zI (z : Int))) hx hb md_M_sort_160 rfl ?_
                            refine lv_lconst (v := 1) hx hb md_M_sort_161 (by decide) ?_
                            refine W.lcmp hx hb md_M_sort_162 ?_
                            have J_35 : ∀ (z_36 : Int32) (ls : Array Slot), lv_has ls 5 [(4, .int (zI (z : Int))), (3, .int z_30), (0, .ref h0), (1, .int p0), (2, .int p1)] → W p l e (headSpec mw_M_sort ({ frames := 4, cells := 0, slots := 0, locals := 91 } : Room)).room s m ([.ref h0, .int p0, .int p1] : List Value).toArray below meth c H_11 L_12 0 0 (MQ below (MQi D cL h0 q0 A (fun (r : Int32) (v : MT) => True)) ([.ref h0, .int p0, .int p1] : List Value).toArray s 0 0 A) (F0 m 180 ls [.int z_36, .int z_30]) := by
                              intro z_36 ls hl
                              refine lv_iadd hx hb md_M_sort_180 ?_
                              exact W.iret (v := z_30 + z_36) hx hb hr (fun t ht2 _ => ⟨⟨z_30 + z_36, mtX p0 (u.2 ((p0 * 6) + p1).toNatClampNeg) u, rfl, trivial, by show MWd D cL h0 q0 A _ t.heap; rw [ht2]; exact hM⟩, hS.F ht2⟩) hS.2.2 md_M_sort_181
                            refine lv_if_ne (tgt := 179) hx hb md_M_sort_163 (by decide) (fun c_31 => ?_) (fun c_31 => ?_)
                            · refine lv_iconst (v := 0) hx hb md_M_sort_179 (by decide) ?_
                              exact J_35 0 ls (lv_sub hl [0, 1, 2, 3, 4] rfl)
                            · refine lv_aload_n hx hb md_M_sort_166 rfl (lv_at hl 2 rfl) ?_
                              refine va_get (D := D) (ci := 1) (v := .int (jb (rf_isS p0 (u.2 ((p0 * 6) + p1).toNatClampNeg)))) (C := "NumberProbeModel") (T := TM) (N := 12) hx hb ht inM hown hK hM.1 0 rfl rfl 1 (by decide) (ht _ tm_319) (fun _ h9 => h9) rfl md_M_sort_167 ?_
                              have J_38 : ∀ (z_39 : Int32) (ls : Array Slot), lv_has ls 5 [(4, .int (zI (z : Int))), (3, .int z_30), (0, .ref h0), (1, .int p0), (2, .int p1)] → W p l e (headSpec mw_M_sort ({ frames := 4, cells := 0, slots := 0, locals := 91 } : Room)).room s m ([.ref h0, .int p0, .int p1] : List Value).toArray below meth c H_11 L_12 0 0 (MQ below (MQi D cL h0 q0 A (fun (r : Int32) (v : MT) => True)) ([.ref h0, .int p0, .int p1] : List Value).toArray s 0 0 A) (F0 m 180 ls [.int z_39, .int z_30]) := by
                                intro z_39 ls hl
                                exact J_35 z_39 ls (lv_sub hl [0, 1, 2, 3, 4] rfl)
                              refine lv_if_ne (tgt := 179) hx hb md_M_sort_170 (by decide) (fun c_37 => ?_) (fun c_37 => ?_)
                              · refine lv_iconst (v := 0) hx hb md_M_sort_179 (by decide) ?_
                                exact J_38 0 ls (lv_sub hl [0, 1, 2, 3, 4] rfl)
                              · refine lv_sipush (v := 128) hx hb md_M_sort_173 (by decide) ?_
                                refine lv_goto (tgt := 180) hx hb md_M_sort_176 (by decide) ?_
                                exact J_38 128 ls (lv_sub hl [0, 1, 2, 3, 4] rfl)
                          refine lv_if_lt (tgt := 153) hx hb md_M_sort_147 (by decide) (fun c_28 => ?_) (fun c_28 => ?_)
                          · exact J_29 z_26 ls (lv_sub hl [0, 1, 2, 3, 4] rfl)
                          · refine lv_iinc (v := z_26 + 64) (lv' := [(3, .int (z_26 + 64)), (4, .int (zI (z : Int))), (0, .ref h0), (1, .int p0), (2, .int p1)]) hx hb md_M_sort_150 hl (k := 1) rfl rfl (by decide) rfl (fun ls hl => ?_)
                            exact J_29 (z_26 + 64) ls (lv_sub hl [1, 0, 2, 3, 4] rfl)
                        · refine lv_iinc (v := (zI (z : Int)) + 1) (lv' := [(4, .int ((zI (z : Int)) + 1)), (3, .int z_26), (0, .ref h0), (1, .int p0), (2, .int p1)]) hx hb md_M_sort_134 hl (k := 0) rfl rfl (by decide) rfl (fun ls hl => ?_)
                          refine lv_goto (tgt := 120) hx hb md_M_sort_137 (by decide) ?_
                          exact absurd ((lg_cmp_eq _ _).mp c_27) (by rw [show z = j9 by omega]; exact j2)
                      | succ n ih =>
                        intro z ls hn hl
                        refine lv_aload_n hx hb md_M_sort_120 rfl (lv_at hl 2 rfl) ?_
                        refine va_get (D := D) (ci := 1) (v := .long (rf_man p0 (u.2 ((p0 * 6) + p1).toNatClampNeg))) (C := "NumberProbeModel") (T := TM) (N := 12) hx hb ht inM hown hK hM.1 0 rfl rfl 7 (by decide) (ht _ tm_325) (fun _ h9 => h9) rfl md_M_sort_121 ?_
                        refine lv_iload hx hb md_M_sort_124 (lv_at hl 0 rfl) ?_
                        refine lv_lushr (v := jl_ush (rf_man p0 (u.2 ((p0 * 6) + p1).toNatClampNeg)) (zI (z : Int))) hx hb md_M_sort_126 rfl ?_
                        refine lv_lconst (v := 1) hx hb md_M_sort_127 (by decide) ?_
                        refine lv_land hx hb md_M_sort_128 ?_
                        refine lv_lconst (v := 0) hx hb md_M_sort_129 (by decide) ?_
                        refine W.lcmp hx hb md_M_sort_130 ?_
                        refine lv_if_ne (tgt := 140) hx hb md_M_sort_131 (by decide) (fun c_40 => ?_) (fun c_40 => ?_)
                        · refine lv_aload_n hx hb md_M_sort_140 rfl (lv_at hl 2 rfl) ?_
                          refine va_get (D := D) (ci := 1) (v := .int (rf_pow p0 (u.2 ((p0 * 6) + p1).toNatClampNeg))) (C := "NumberProbeModel") (T := TM) (N := 12) hx hb ht inM hown hK hM.1 0 rfl rfl 9 (by decide) (ht _ tm_327) (fun _ h9 => h9) rfl md_M_sort_141 ?_
                          refine lv_iload hx hb md_M_sort_144 (lv_at hl 0 rfl) ?_
                          refine lv_iadd hx hb md_M_sort_146 ?_
                          have J_42 : ∀ (z_43 : Int32) (ls : Array Slot), lv_has ls 5 [(4, .int (zI (z : Int))), (3, .int z_43), (0, .ref h0), (1, .int p0), (2, .int p1)] → W p l e (headSpec mw_M_sort ({ frames := 4, cells := 0, slots := 0, locals := 91 } : Room)).room s m ([.ref h0, .int p0, .int p1] : List Value).toArray below meth c H_11 L_12 0 0 (MQ below (MQi D cL h0 q0 A (fun (r : Int32) (v : MT) => True)) ([.ref h0, .int p0, .int p1] : List Value).toArray s 0 0 A) (F0 m 153 ls []) := by
                            intro z_43 ls hl
                            refine lv_iload_n hx hb md_M_sort_153 rfl (lv_at hl 1 rfl) ?_
                            refine lv_aload_n hx hb md_M_sort_154 rfl (lv_at hl 2 rfl) ?_
                            refine va_get (D := D) (ci := 1) (v := .long (rf_man p0 (u.2 ((p0 * 6) + p1).toNatClampNeg))) (C := "NumberProbeModel") (T := TM) (N := 12) hx hb ht inM hown hK hM.1 0 rfl rfl 7 (by decide) (ht _ tm_325) (fun _ h9 => h9) rfl md_M_sort_155 ?_
                            refine lv_iload hx hb md_M_sort_158 (lv_at hl 0 rfl) ?_
                            refine lv_lushr (v := jl_ush (rf_man p0 (u.2 ((p0 * 6) + p1).toNatClampNeg)) (zI (z : Int))) hx hb md_M_sort_160 rfl ?_
                            refine lv_lconst (v := 1) hx hb md_M_sort_161 (by decide) ?_
                            refine W.lcmp hx hb md_M_sort_162 ?_
                            have J_48 : ∀ (z_49 : Int32) (ls : Array Slot), lv_has ls 5 [(4, .int (zI (z : Int))), (3, .int z_43), (0, .ref h0), (1, .int p0), (2, .int p1)] → W p l e (headSpec mw_M_sort ({ frames := 4, cells := 0, slots := 0, locals := 91 } : Room)).room s m ([.ref h0, .int p0, .int p1] : List Value).toArray below meth c H_11 L_12 0 0 (MQ below (MQi D cL h0 q0 A (fun (r : Int32) (v : MT) => True)) ([.ref h0, .int p0, .int p1] : List Value).toArray s 0 0 A) (F0 m 180 ls [.int z_49, .int z_43]) := by
                              intro z_49 ls hl
                              refine lv_iadd hx hb md_M_sort_180 ?_
                              exact W.iret (v := z_43 + z_49) hx hb hr (fun t ht2 _ => ⟨⟨z_43 + z_49, mtX p0 (u.2 ((p0 * 6) + p1).toNatClampNeg) u, rfl, trivial, by show MWd D cL h0 q0 A _ t.heap; rw [ht2]; exact hM⟩, hS.F ht2⟩) hS.2.2 md_M_sort_181
                            refine lv_if_ne (tgt := 179) hx hb md_M_sort_163 (by decide) (fun c_44 => ?_) (fun c_44 => ?_)
                            · refine lv_iconst (v := 0) hx hb md_M_sort_179 (by decide) ?_
                              exact J_48 0 ls (lv_sub hl [0, 1, 2, 3, 4] rfl)
                            · refine lv_aload_n hx hb md_M_sort_166 rfl (lv_at hl 2 rfl) ?_
                              refine va_get (D := D) (ci := 1) (v := .int (jb (rf_isS p0 (u.2 ((p0 * 6) + p1).toNatClampNeg)))) (C := "NumberProbeModel") (T := TM) (N := 12) hx hb ht inM hown hK hM.1 0 rfl rfl 1 (by decide) (ht _ tm_319) (fun _ h9 => h9) rfl md_M_sort_167 ?_
                              have J_51 : ∀ (z_52 : Int32) (ls : Array Slot), lv_has ls 5 [(4, .int (zI (z : Int))), (3, .int z_43), (0, .ref h0), (1, .int p0), (2, .int p1)] → W p l e (headSpec mw_M_sort ({ frames := 4, cells := 0, slots := 0, locals := 91 } : Room)).room s m ([.ref h0, .int p0, .int p1] : List Value).toArray below meth c H_11 L_12 0 0 (MQ below (MQi D cL h0 q0 A (fun (r : Int32) (v : MT) => True)) ([.ref h0, .int p0, .int p1] : List Value).toArray s 0 0 A) (F0 m 180 ls [.int z_52, .int z_43]) := by
                                intro z_52 ls hl
                                exact J_48 z_52 ls (lv_sub hl [0, 1, 2, 3, 4] rfl)
                              refine lv_if_ne (tgt := 179) hx hb md_M_sort_170 (by decide) (fun c_50 => ?_) (fun c_50 => ?_)
                              · refine lv_iconst (v := 0) hx hb md_M_sort_179 (by decide) ?_
                                exact J_51 0 ls (lv_sub hl [0, 1, 2, 3, 4] rfl)
                              · refine lv_sipush (v := 128) hx hb md_M_sort_173 (by decide) ?_
                                refine lv_goto (tgt := 180) hx hb md_M_sort_176 (by decide) ?_
                                exact J_51 128 ls (lv_sub hl [0, 1, 2, 3, 4] rfl)
                          refine lv_if_lt (tgt := 153) hx hb md_M_sort_147 (by decide) (fun c_41 => ?_) (fun c_41 => ?_)
                          · exact J_42 z_26 ls (lv_sub hl [0, 1, 2, 3, 4] rfl)
                          · refine lv_iinc (v := z_26 + 64) (lv' := [(3, .int (z_26 + 64)), (4, .int (zI (z : Int))), (0, .ref h0), (1, .int p0), (2, .int p1)]) hx hb md_M_sort_150 hl (k := 1) rfl rfl (by decide) rfl (fun ls hl => ?_)
                            exact J_42 (z_26 + 64) ls (lv_sub hl [1, 0, 2, 3, 4] rfl)
                        · refine lv_iinc (v := (zI (z : Int)) + 1) (lv' := [(4, .int ((zI (z : Int)) + 1)), (3, .int z_26), (0, .ref h0), (1, .int p0), (2, .int p1)]) hx hb md_M_sort_134 hl (k := 0) rfl rfl (by decide) rfl (fun ls hl => ?_)
                          refine lv_goto (tgt := 120) hx hb md_M_sort_137 (by decide) ?_
                          have ez : zI (z : Int) + 1 = zI ((z + 1 : Nat) : Int) := by rw [show (1 : Int32) = zI 1 from rfl, zI_add]; rfl
                          exact ih (z + 1) ls (by omega) (by rw [← ez]; exact lv_sub hl [0, 1, 2, 3, 4] rfl)
                    exact L9 j9 0 ls (by omega) (lv_sub hl [0, 1, 2, 3, 4] rfl)
                  refine lv_if_ge (tgt := 117) hx hb md_M_sort_111 (by decide) (fun c_24 => ?_) (fun c_24 => ?_)
                  · exact J_25 z_19 ls (lv_sub hl [0, 1, 2, 3] rfl)
                  · refine lv_iinc (v := z_19 + 16) (lv' := [(3, .int (z_19 + 16)), (0, .ref h0), (1, .int p0), (2, .int p1)]) hx hb md_M_sort_114 hl (k := 0) rfl rfl (by decide) rfl (fun ls hl => ?_)
                    exact J_25 (z_19 + 16) ls (lv_sub hl [0, 1, 2, 3] rfl)
                · refine lv_iload_n hx hb md_M_sort_92 rfl (lv_at hl 0 rfl) ?_
                  refine lv_bipush (v := 8) hx hb md_M_sort_93 (by decide) ?_
                  refine lv_iadd hx hb md_M_sort_95 ?_
                  refine lv_bipush (v := 64) hx hb md_M_sort_96 (by decide) ?_
                  refine lv_iadd hx hb md_M_sort_98 ?_
                  exact W.iret (v := (z_19 + 8) + 64) hx hb hr (fun t ht2 _ => ⟨⟨(z_19 + 8) + 64, mtX p0 (u.2 ((p0 * 6) + p1).toNatClampNeg) u, rfl, trivial, by show MWd D cL h0 q0 A _ t.heap; rw [ht2]; exact hM⟩, hS.F ht2⟩) hS.2.2 md_M_sort_99
              · refine lv_iload_n hx hb md_M_sort_81 rfl (lv_at hl 0 rfl) ?_
                exact W.iret (v := z_19) hx hb hr (fun t ht2 _ => ⟨⟨z_19, mtX p0 (u.2 ((p0 * 6) + p1).toNatClampNeg) u, rfl, trivial, by show MWd D cL h0 q0 A _ t.heap; rw [ht2]; exact hM⟩, hS.F ht2⟩) hS.2.2 md_M_sort_82
            refine lv_if_eq (tgt := 74) hx hb md_M_sort_68 (by decide) (fun c_17 => ?_) (fun c_17 => ?_)
            · exact J_18 z_16 ls (lv_sub hl [0, 1, 2, 3] rfl)
            · refine lv_iinc (v := z_16 + 32) (lv' := [(3, .int (z_16 + 32)), (0, .ref h0), (1, .int p0), (2, .int p1)]) hx hb md_M_sort_71 hl (k := 0) rfl rfl (by decide) rfl (fun ls hl => ?_)
              exact J_18 (z_16 + 32) ls (lv_sub hl [0, 1, 2, 3] rfl)
          refine lv_if_eq (tgt := 62) hx hb md_M_sort_55 (by decide) (fun c_14 => ?_) (fun c_14 => ?_)
          · refine lv_iconst (v := 4) hx hb md_M_sort_62 (by decide) ?_
            exact J_15 4 ls (lv_sub hl [0, 1, 2] rfl)
          · refine lv_iconst (v := 2) hx hb md_M_sort_58 (by decide) ?_
            refine lv_goto (tgt := 63) hx hb md_M_sort_59 (by decide) ?_
            exact J_15 2 ls (lv_sub hl [0, 1, 2] rfl)
        · refine lv_iconst (v := 1) hx hb md_M_sort_49 (by decide) ?_
          exact W.iret (v := 1) hx hb hr (fun t ht2 _ => ⟨⟨1, mtX p0 (u.2 ((p0 * 6) + p1).toNatClampNeg) u, rfl, trivial, by show MWd D cL h0 q0 A _ t.heap; rw [ht2]; exact hM⟩, hS.F ht2⟩) hS.2.2 md_M_sort_50
      · refine lv_iconst (v := 0) hx hb md_M_sort_24 (by decide) ?_
        exact W.iret (v := 0) hx hb hr (fun t ht2 _ => ⟨⟨0, u, rfl, trivial, by show MWd D cL h0 q0 A _ t.heap; rw [ht2]; exact hM⟩, hS.F ht2⟩) hS.2.2 md_M_sort_25
    · refine lv_iconst (v := (-1)) hx hb md_M_sort_17 (by decide) ?_
      exact W.iret (v := (-1)) hx hb hr (fun t ht2 _ => ⟨⟨(-1), u, rfl, trivial, by show MWd D cL h0 q0 A _ t.heap; rw [ht2]; exact hM⟩, hS.F ht2⟩) hS.2.2 md_M_sort_18
set_option maxHeartbeats 4000000 in
set_option maxRecDepth 100000 in
theorem mt_M_series (l : Launch) (D : va_G) (cL : ClassId) (h0 q0 sz : Nat) (u : MT) (p0 : Int32) (p1 : Int32) (p2 : Int32) (p3 : Int32) : Met l my_M_series mw_M_series ({ frames := 5, cells := 0, slots := 0, locals := 123 } : Room) (MPc D cL h0 q0 sz u [.int p0, .int p1, .int p2, .int p3]) (MQi D cL h0 q0 (MA h0 q0 cL u sz) (fun (r : Int32) (v : MT) => r = mq_ser p0 p1 p2 p3)) 0 0 (MA h0 q0 cL u sz) := by
  refine Met.ofW (cc := mc_M_series) (maxL := 10) (ret := (some .int)) (by decide) rfl ?_
  intro p e s m args below meth c s₁ B hml hv
  obtain ⟨rfl, hsz, hP, hK, hD0⟩ := hv
  have hx := B.exec
  have hb := B.bytes
  have hr := B.returns
  have hts := atoms_spec (ws := mw_M_series) B.pre
  have ht : ∀ w ∈ gw_tbl, w.before _ s = true := fun w h => hts w (List.mem_cons_of_mem _ h)
  have hown : s.vm.findClass "NumberProbeModel" = some m.cls := findClass_of_methodNamed B.named
  have hlocks := B.notSynchronized
  subst hsz
  have hD : va_D (MA h0 q0 cL u s.heap.size) (mWs h0 q0 cL u) := hD0.self (sz := s.heap.size)
  generalize hAe : MA h0 q0 cL u s.heap.size = A at hD ⊢
  have hA : ∀ q : Nat, s.heap.size ≤ q → A q := fun q h => by rw [← hAe]; exact Or.inr h
  have hS : va_S A s.heap s.heap [] := va_S.rf
  have hM : MWd D cL h0 q0 A u s.heap := ⟨hP, hD⟩
  have hl := lv_entry ([.ref h0, .int p0, .int p1, .int p2, .int p3]) (n := 10) (Nat.le_of_ble_eq_true rfl)
  rw [lg_entry_eq]
  generalize (lg_sl ([.ref h0, .int p0, .int p1, .int p2, .int p3]) ++ List.replicate (10 - (lg_sl ([.ref h0, .int p0, .int p1, .int p2, .int p3])).length) Slot.unset).toArray = ls at hl ⊢
  have hl : lv_has ls 10 [(0, .ref h0), (1, .int p0), (2, .int p1), (3, .int p2), (4, .int p3)] := hl
  refine lv_iload_n hx hb md_M_series_0 rfl (lv_at hl 1 rfl) ?_
  refine lv_bipush (v := 6) hx hb md_M_series_1 (by decide) ?_
  refine vp_callSi (W.runS (As := [.int p0, .int 6]) (rest := []) ⟨hx, hb, hml, hown, hts⟩ (mt_M_in l p0 6) (va_cwS 2 hts (gd_S tm_359 tm_360 tm_25 tm_361) rfl rfl rfl (by decide +kernel) ⟨Nat.le_of_ble_eq_true rfl, Nat.le_of_ble_eq_true rfl⟩) ⟨fb_0, fun U hU hW => ⟨rfl, trivial⟩⟩ rfl rfl hl.1 rfl (lv_room (Nat.le_of_ble_eq_true rfl)) md_M_series_3 ⟨Nat.zero_le _, Nat.zero_le _⟩) (fun r_1 e_2 => ?_)
  obtain rfl : r_1 = jb (rn_in p0 6) := e_2
  refine lv_if_eq (tgt := 37) hx hb md_M_series_6 (by decide) (fun c_3 => ?_) (fun c_3 => ?_)
  · refine lv_iconst (v := (-1)) hx hb md_M_series_37 (by decide) ?_
    exact W.iret (v := (-1)) hx hb hr (fun t ht2 _ => ⟨⟨(-1), u, rfl, (by simp [mq_ser, (jb_0.mp c_3)] <;> decide), by show MWd D cL h0 q0 A _ t.heap; rw [ht2]; exact hM⟩, hS.F ht2⟩) hS.2.2 md_M_series_38
  · refine lv_iload_n hx hb md_M_series_9 rfl (lv_at hl 2 rfl) ?_
    refine lv_bipush (v := 6) hx hb md_M_series_10 (by decide) ?_
    refine vp_callSi (W.runS (As := [.int p1, .int 6]) (rest := []) ⟨hx, hb, hml, hown, hts⟩ (mt_M_in l p1 6) (va_cwS 2 hts (gd_S tm_359 tm_360 tm_25 tm_361) rfl rfl rfl (by decide +kernel) ⟨Nat.le_of_ble_eq_true rfl, Nat.le_of_ble_eq_true rfl⟩) ⟨fb_0, fun U hU hW => ⟨rfl, trivial⟩⟩ rfl rfl hl.1 rfl (lv_room (Nat.le_of_ble_eq_true rfl)) md_M_series_12 ⟨Nat.zero_le _, Nat.zero_le _⟩) (fun r_4 e_5 => ?_)
    obtain rfl : r_4 = jb (rn_in p1 6) := e_5
    refine lv_if_eq (tgt := 37) hx hb md_M_series_15 (by decide) (fun c_6 => ?_) (fun c_6 => ?_)
    · refine lv_iconst (v := (-1)) hx hb md_M_series_37 (by decide) ?_
      exact W.iret (v := (-1)) hx hb hr (fun t ht2 _ => ⟨⟨(-1), u, rfl, (by simp [mq_ser, (jb_n0.mp c_3), (jb_0.mp c_6)] <;> decide), by show MWd D cL h0 q0 A _ t.heap; rw [ht2]; exact hM⟩, hS.F ht2⟩) hS.2.2 md_M_series_38
    · refine lv_iload_n hx hb md_M_series_18 rfl (lv_at hl 3 rfl) ?_
      refine lv_bipush (v := 41) hx hb md_M_series_19 (by decide) ?_
      refine vp_callSi (W.runS (As := [.int p2, .int 41]) (rest := []) ⟨hx, hb, hml, hown, hts⟩ (mt_M_in l p2 41) (va_cwS 2 hts (gd_S tm_359 tm_360 tm_25 tm_361) rfl rfl rfl (by decide +kernel) ⟨Nat.le_of_ble_eq_true rfl, Nat.le_of_ble_eq_true rfl⟩) ⟨fb_0, fun U hU hW => ⟨rfl, trivial⟩⟩ rfl rfl hl.1 rfl (lv_room (Nat.le_of_ble_eq_true rfl)) md_M_series_21 ⟨Nat.zero_le _, Nat.zero_le _⟩) (fun r_7 e_8 => ?_)
      obtain rfl : r_7 = jb (rn_in p2 41) := e_8
      refine lv_if_eq (tgt := 37) hx hb md_M_series_24 (by decide) (fun c_9 => ?_) (fun c_9 => ?_)
      · refine lv_iconst (v := (-1)) hx hb md_M_series_37 (by decide) ?_
        exact W.iret (v := (-1)) hx hb hr (fun t ht2 _ => ⟨⟨(-1), u, rfl, (by simp [mq_ser, (jb_n0.mp c_3), (jb_n0.mp c_6), (jb_0.mp c_9)] <;> decide), by show MWd D cL h0 q0 A _ t.heap; rw [ht2]; exact hM⟩, hS.F ht2⟩) hS.2.2 md_M_series_38
      · refine lv_iload hx hb md_M_series_27 (lv_at hl 4 rfl) ?_
        refine lv_bipush (v := 6) hx hb md_M_series_29 (by decide) ?_
        refine vp_callSi (W.runS (As := [.int p3, .int 6]) (rest := []) ⟨hx, hb, hml, hown, hts⟩ (mt_M_in l p3 6) (va_cwS 2 hts (gd_S tm_359 tm_360 tm_25 tm_361) rfl rfl rfl (by decide +kernel) ⟨Nat.le_of_ble_eq_true rfl, Nat.le_of_ble_eq_true rfl⟩) ⟨fb_0, fun U hU hW => ⟨rfl, trivial⟩⟩ rfl rfl hl.1 rfl (lv_room (Nat.le_of_ble_eq_true rfl)) md_M_series_31 ⟨Nat.zero_le _, Nat.zero_le _⟩) (fun r_10 e_11 => ?_)
        obtain rfl : r_10 = jb (rn_in p3 6) := e_11
        refine lv_if_ne (tgt := 39) hx hb md_M_series_34 (by decide) (fun c_12 => ?_) (fun c_12 => ?_)
        · refine lv_aload_n hx hb md_M_series_39 rfl (lv_at hl 0 rfl) ?_
          refine va_get (D := D) (ci := 1) (v := .ref q0) (C := "NumberProbeModel") (T := TM) (N := 12) hx hb ht inM hown hK hM.1 0 rfl rfl 0 (by decide) (ht _ tm_318) (fun _ h9 => h9) rfl md_M_series_40 ?_
          refine lv_bipush (v := 6) hx hb md_M_series_43 (by decide) ?_
          refine lv_iload_n hx hb md_M_series_45 rfl (lv_at hl 1 rfl) ?_
          refine lv_iadd hx hb md_M_series_46 ?_
          refine va_lald (D := D) hx hb hK hM.1 1 0 rfl rfl (rn_i6 (jb_n0.mp c_3)).2 md_M_series_47 ?_
          refine lv_lstore (lv' := [(5, .long (u.2 (6 + p0).toNatClampNeg)), (0, .ref h0), (1, .int p0), (2, .int p1), (3, .int p2), (4, .int p3)]) hx hb md_M_series_48 hl (by decide) rfl (fun ls hl => ?_)
          refine lv_lconst (v := 0) hx hb md_M_series_50 (by decide) ?_
          refine lv_lstore (lv' := [(7, .long 0), (5, .long (u.2 (6 + p0).toNatClampNeg)), (0, .ref h0), (1, .int p0), (2, .int p1), (3, .int p2), (4, .int p3)]) hx hb md_M_series_51 hl (by decide) rfl (fun ls hl => ?_)
          refine lv_iconst (v := 0) hx hb md_M_series_53 (by decide) ?_
          refine lv_istore (lv' := [(9, .int 0), (7, .long 0), (5, .long (u.2 (6 + p0).toNatClampNeg)), (0, .ref h0), (1, .int p0), (2, .int p1), (3, .int p2), (4, .int p3)]) hx hb md_M_series_54 hl (by decide) rfl (fun ls hl => ?_)
          have L_13 : ∀ (n : Nat) (z_14 : Int32) (z_15 : Int64) (z_16 : Int64) (u_17 : MT) (H_18 : Heap) (L_19 : List Loc) (ls : Array Slot), ((p2 : Int32).toInt - z_14.toInt).toNat ≤ n → MWd D cL h0 q0 A u_17 H_18 → va_S A s.heap H_18 L_19 → lv_has ls 10 [(9, .int z_14), (7, .long z_15), (5, .long z_16), (0, .ref h0), (1, .int p0), (2, .int p1), (3, .int p2), (4, .int p3)] → W p l e (headSpec mw_M_series ({ frames := 5, cells := 0, slots := 0, locals := 123 } : Room)).room s m ([.ref h0, .int p0, .int p1, .int p2, .int p3] : List Value).toArray below meth c H_18 L_19 0 0 (MQ below (MQi D cL h0 q0 A (fun (r : Int32) (v : MT) => r = mq_ser p0 p1 p2 p3)) ([.ref h0, .int p0, .int p1, .int p2, .int p3] : List Value).toArray s 0 0 A) (F0 m 56 ls []) := by
            intro n
            induction n with
            | zero =>
              intro z_14 z_15 z_16 u_17 H_18 L_19 ls hn hM hS hl
              refine lv_iload hx hb md_M_series_56 (lv_at hl 0 rfl) ?_
              refine lv_iload_n hx hb md_M_series_58 rfl (lv_at hl 6 rfl) ?_
              refine lv_icmp_ge (tgt := 107) hx hb md_M_series_59 (by decide) (fun c_20 => ?_) (fun c_20 => ?_)
              · refine lv_aload_n hx hb md_M_series_107 rfl (lv_at hl 3 rfl) ?_
                refine va_get (D := D) (ci := 1) (v := .ref q0) (C := "NumberProbeModel") (T := TM) (N := 12) hx hb ht inM hown hK hM.1 0 rfl rfl 0 (by decide) (ht _ tm_318) (fun _ h9 => h9) rfl md_M_series_108 ?_
                refine lv_bipush (v := 6) hx hb md_M_series_111 (by decide) ?_
                refine lv_iload hx hb md_M_series_113 (lv_at hl 7 rfl) ?_
                refine lv_iadd hx hb md_M_series_115 ?_
                refine lv_lload hx hb md_M_series_116 (lv_at hl 1 rfl) ?_
                refine m_ast hx hb hK hM hS (rn_i6 (jb_n0.mp c_12)).2 md_M_series_118 (fun u_21 H_22 L_23 hM hS => ?_)
                refine lv_iconst (v := 0) hx hb md_M_series_119 (by decide) ?_
                exact W.iret (v := 0) hx hb hr (fun t ht2 _ => ⟨⟨0, u_21, rfl, (by simp [mq_ser, (jb_n0.mp c_3), (jb_n0.mp c_6), (jb_n0.mp c_9), (jb_n0.mp c_12)] <;> decide), by show MWd D cL h0 q0 A _ t.heap; rw [ht2]; exact hM⟩, hS.F ht2⟩) hS.2.2 md_M_series_120
              · exact (lu_0 (Int32.not_le.mp c_20) hn).elim
            | succ n ih =>
              intro z_14 z_15 z_16 u_17 H_18 L_19 ls hn hM hS hl
              refine lv_iload hx hb md_M_series_56 (lv_at hl 0 rfl) ?_
              refine lv_iload_n hx hb md_M_series_58 rfl (lv_at hl 6 rfl) ?_
              refine lv_icmp_ge (tgt := 107) hx hb md_M_series_59 (by decide) (fun c_24 => ?_) (fun c_24 => ?_)
              · refine lv_aload_n hx hb md_M_series_107 rfl (lv_at hl 3 rfl) ?_
                refine va_get (D := D) (ci := 1) (v := .ref q0) (C := "NumberProbeModel") (T := TM) (N := 12) hx hb ht inM hown hK hM.1 0 rfl rfl 0 (by decide) (ht _ tm_318) (fun _ h9 => h9) rfl md_M_series_108 ?_
                refine lv_bipush (v := 6) hx hb md_M_series_111 (by decide) ?_
                refine lv_iload hx hb md_M_series_113 (lv_at hl 7 rfl) ?_
                refine lv_iadd hx hb md_M_series_115 ?_
                refine lv_lload hx hb md_M_series_116 (lv_at hl 1 rfl) ?_
                refine m_ast hx hb hK hM hS (rn_i6 (jb_n0.mp c_12)).2 md_M_series_118 (fun u_25 H_26 L_27 hM hS => ?_)
                refine lv_iconst (v := 0) hx hb md_M_series_119 (by decide) ?_
                exact W.iret (v := 0) hx hb hr (fun t ht2 _ => ⟨⟨0, u_25, rfl, (by simp [mq_ser, (jb_n0.mp c_3), (jb_n0.mp c_6), (jb_n0.mp c_9), (jb_n0.mp c_12)] <;> decide), by show MWd D cL h0 q0 A _ t.heap; rw [ht2]; exact hM⟩, hS.F ht2⟩) hS.2.2 md_M_series_120
              · refine lv_iload hx hb md_M_series_62 (lv_at hl 0 rfl) ?_
                refine lv_if_ne (tgt := 72) hx hb md_M_series_64 (by decide) (fun c_28 => ?_) (fun c_28 => ?_)
                · refine lv_aload_n hx hb md_M_series_72 rfl (lv_at hl 3 rfl) ?_
                  refine lv_iconst (v := 1) hx hb md_M_series_73 (by decide) ?_
                  refine lv_lload hx hb md_M_series_74 (lv_at hl 1 rfl) ?_
                  refine lv_lload hx hb md_M_series_76 (lv_at hl 2 rfl) ?_
                  refine m_calll (va_runV (C := "NumberProbeModel") (As := [.int 1, .long z_15, .long z_16]) (rest := []) ⟨hx, hb, hml, hown, hts⟩ (mt_M_add l D cL h0 q0 _ u_17 1 z_15 z_16) (cwV 3 hts (gd_V tm_447 tm_449 tm_12 tm_25 tm_450) rfl rfl rfl (by decide +kernel) ⟨Nat.le_of_ble_eq_true rfl, Nat.le_of_ble_eq_true rfl⟩) (m_in (locs := L_19) hK hM) rfl rfl hl.1 rfl (lv_room (Nat.le_of_ble_eq_true rfl)) md_M_series_78 ⟨Nat.zero_le _, Nat.zero_le _⟩) hM hS hA (fun r_29 u_31 H_32 L_33 e_30 hM hS => ?_)
                  refine lv_lstore (lv' := [(7, .long r_29), (9, .int z_14), (5, .long z_16), (0, .ref h0), (1, .int p0), (2, .int p1), (3, .int p2), (4, .int p3)]) hx hb md_M_series_81 hl (by decide) rfl (fun ls hl => ?_)
                  refine lv_aload_n hx hb md_M_series_83 rfl (lv_at hl 3 rfl) ?_
                  refine lv_iconst (v := 1) hx hb md_M_series_84 (by decide) ?_
                  refine lv_lload hx hb md_M_series_85 (lv_at hl 2 rfl) ?_
                  refine lv_aload_n hx hb md_M_series_87 rfl (lv_at hl 3 rfl) ?_
                  refine va_get (D := D) (ci := 1) (v := .ref q0) (C := "NumberProbeModel") (T := TM) (N := 12) hx hb ht inM hown hK hM.1 0 rfl rfl 0 (by decide) (ht _ tm_318) (fun _ h9 => h9) rfl md_M_series_88 ?_
                  refine lv_bipush (v := 6) hx hb md_M_series_91 (by decide) ?_
                  refine lv_iload_n hx hb md_M_series_93 rfl (lv_at hl 5 rfl) ?_
                  refine lv_iadd hx hb md_M_series_94 ?_
                  refine va_lald (D := D) hx hb hK hM.1 1 0 rfl rfl (rn_i6 (jb_n0.mp c_6)).2 md_M_series_95 ?_
                  refine m_calll (va_runV (C := "NumberProbeModel") (As := [.int 1, .long z_16, .long (u_31.2 (6 + p1).toNatClampNeg)]) (rest := []) ⟨hx, hb, hml, hown, hts⟩ (mt_M_add l D cL h0 q0 _ u_31 1 z_16 (u_31.2 (6 + p1).toNatClampNeg)) (cwV 3 hts (gd_V tm_447 tm_449 tm_12 tm_25 tm_450) rfl rfl rfl (by decide +kernel) ⟨Nat.le_of_ble_eq_true rfl, Nat.le_of_ble_eq_true rfl⟩) (m_in (locs := L_33) hK hM) rfl rfl hl.1 rfl (lv_room (Nat.le_of_ble_eq_true rfl)) md_M_series_96 ⟨Nat.zero_le _, Nat.zero_le _⟩) hM hS hA (fun r_34 u_36 H_37 L_38 e_35 hM hS => ?_)
                  refine lv_lstore (lv' := [(5, .long r_34), (7, .long r_29), (9, .int z_14), (0, .ref h0), (1, .int p0), (2, .int p1), (3, .int p2), (4, .int p3)]) hx hb md_M_series_99 hl (by decide) rfl (fun ls hl => ?_)
                  refine lv_iinc (v := z_14 + 1) (lv' := [(9, .int (z_14 + 1)), (5, .long r_34), (7, .long r_29), (0, .ref h0), (1, .int p0), (2, .int p1), (3, .int p2), (4, .int p3)]) hx hb md_M_series_101 hl (k := 2) rfl rfl (by decide) rfl (fun ls hl => ?_)
                  refine lv_goto (tgt := 56) hx hb md_M_series_104 (by decide) ?_
                  exact ih (z_14 + 1) r_29 r_34 _ _ _ ls (lu_s (Int32.not_le.mp c_24) hn) hM hS (lv_sub hl [0, 2, 1, 3, 4, 5, 6, 7] rfl)
                · refine lv_lload hx hb md_M_series_67 (lv_at hl 2 rfl) ?_
                  refine lv_goto (tgt := 81) hx hb md_M_series_69 (by decide) ?_
                  refine lv_lstore (lv' := [(7, .long z_16), (9, .int z_14), (5, .long z_16), (0, .ref h0), (1, .int p0), (2, .int p1), (3, .int p2), (4, .int p3)]) hx hb md_M_series_81 hl (by decide) rfl (fun ls hl => ?_)
                  refine lv_aload_n hx hb md_M_series_83 rfl (lv_at hl 3 rfl) ?_
                  refine lv_iconst (v := 1) hx hb md_M_series_84 (by decide) ?_
                  refine lv_lload hx hb md_M_series_85 (lv_at hl 2 rfl) ?_
                  refine lv_aload_n hx hb md_M_series_87 rfl (lv_at hl 3 rfl) ?_
                  refine va_get (D := D) (ci := 1) (v := .ref q0) (C := "NumberProbeModel") (T := TM) (N := 12) hx hb ht inM hown hK hM.1 0 rfl rfl 0 (by decide) (ht _ tm_318) (fun _ h9 => h9) rfl md_M_series_88 ?_
                  refine lv_bipush (v := 6) hx hb md_M_series_91 (by decide) ?_
                  refine lv_iload_n hx hb md_M_series_93 rfl (lv_at hl 5 rfl) ?_
                  refine lv_iadd hx hb md_M_series_94 ?_
                  refine va_lald (D := D) hx hb hK hM.1 1 0 rfl rfl (rn_i6 (jb_n0.mp c_6)).2 md_M_series_95 ?_
                  refine m_calll (va_runV (C := "NumberProbeModel") (As := [.int 1, .long z_16, .long (u_17.2 (6 + p1).toNatClampNeg)]) (rest := []) ⟨hx, hb, hml, hown, hts⟩ (mt_M_add l D cL h0 q0 _ u_17 1 z_16 (u_17.2 (6 + p1).toNatClampNeg)) (cwV 3 hts (gd_V tm_447 tm_449 tm_12 tm_25 tm_450) rfl rfl rfl (by decide +kernel) ⟨Nat.le_of_ble_eq_true rfl, Nat.le_of_ble_eq_true rfl⟩) (m_in (locs := L_19) hK hM) rfl rfl hl.1 rfl (lv_room (Nat.le_of_ble_eq_true rfl)) md_M_series_96 ⟨Nat.zero_le _, Nat.zero_le _⟩) hM hS hA (fun r_39 u_41 H_42 L_43 e_40 hM hS => ?_)
                  refine lv_lstore (lv' := [(5, .long r_39), (7, .long z_16), (9, .int z_14), (0, .ref h0), (1, .int p0), (2, .int p1), (3, .int p2), (4, .int p3)]) hx hb md_M_series_99 hl (by decide) rfl (fun ls hl => ?_)
                  refine lv_iinc (v := z_14 + 1) (lv' := [(9, .int (z_14 + 1)), (5, .long r_39), (7, .long z_16), (0, .ref h0), (1, .int p0), (2, .int p1), (3, .int p2), (4, .int p3)]) hx hb md_M_series_101 hl (k := 2) rfl rfl (by decide) rfl (fun ls hl => ?_)
                  refine lv_goto (tgt := 56) hx hb md_M_series_104 (by decide) ?_
                  exact ih (z_14 + 1) z_16 r_39 _ _ _ ls (lu_s (Int32.not_le.mp c_24) hn) hM hS (lv_sub hl [0, 2, 1, 3, 4, 5, 6, 7] rfl)
          exact L_13 _ 0 0 (u.2 (6 + p0).toNatClampNeg) _ _ _ ls (Nat.le_refl _) hM hS (lv_sub hl [0, 1, 2, 3, 4, 5, 6, 7] rfl)
        · refine lv_iconst (v := (-1)) hx hb md_M_series_37 (by decide) ?_
          exact W.iret (v := (-1)) hx hb hr (fun t ht2 _ => ⟨⟨(-1), u, rfl, (by simp [mq_ser, (jb_n0.mp c_3), (jb_n0.mp c_6), (jb_n0.mp c_9), (jb_0.mp c_12)] <;> decide), by show MWd D cL h0 q0 A _ t.heap; rw [ht2]; exact hM⟩, hS.F ht2⟩) hS.2.2 md_M_series_38
set_option maxHeartbeats 4000000 in
set_option maxRecDepth 100000 in
theorem mt_M_polynomial (l : Launch) (D : va_G) (cL : ClassId) (h0 q0 sz : Nat) (u : MT) (p0 : Int32) (p1 : Int32) : Met l my_M_polynomial mw_M_polynomial ({ frames := 5, cells := 0, slots := 0, locals := 123 } : Room) (MPc D cL h0 q0 sz u [.int p0, .int p1]) (MQi D cL h0 q0 (MA h0 q0 cL u sz) (fun (r : Int32) (v : MT) => r = mq_pol p0 p1)) 0 0 (MA h0 q0 cL u sz) := by
  refine Met.ofW (cc := mc_M_polynomial) (maxL := 8) (ret := (some .int)) (by decide) rfl ?_
  intro p e s m args below meth c s₁ B hml hv
  obtain ⟨rfl, hsz, hP, hK, hD0⟩ := hv
  have hx := B.exec
  have hb := B.bytes
  have hr := B.returns
  have hts := atoms_spec (ws := mw_M_polynomial) B.pre
  have ht : ∀ w ∈ gw_tbl, w.before _ s = true := fun w h => hts w (List.mem_cons_of_mem _ h)
  have hown : s.vm.findClass "NumberProbeModel" = some m.cls := findClass_of_methodNamed B.named
  have hlocks := B.notSynchronized
  subst hsz
  have hD : va_D (MA h0 q0 cL u s.heap.size) (mWs h0 q0 cL u) := hD0.self (sz := s.heap.size)
  generalize hAe : MA h0 q0 cL u s.heap.size = A at hD ⊢
  have hA : ∀ q : Nat, s.heap.size ≤ q → A q := fun q h => by rw [← hAe]; exact Or.inr h
  have hS : va_S A s.heap s.heap [] := va_S.rf
  have hM : MWd D cL h0 q0 A u s.heap := ⟨hP, hD⟩
  have hl := lv_entry ([.ref h0, .int p0, .int p1]) (n := 8) (Nat.le_of_ble_eq_true rfl)
  rw [lg_entry_eq]
  generalize (lg_sl ([.ref h0, .int p0, .int p1]) ++ List.replicate (8 - (lg_sl ([.ref h0, .int p0, .int p1])).length) Slot.unset).toArray = ls at hl ⊢
  have hl : lv_has ls 8 [(0, .ref h0), (1, .int p0), (2, .int p1)] := hl
  refine lv_iload_n hx hb md_M_polynomial_0 rfl (lv_at hl 1 rfl) ?_
  refine lv_bipush (v := 6) hx hb md_M_polynomial_1 (by decide) ?_
  refine vp_callSi (W.runS (As := [.int p0, .int 6]) (rest := []) ⟨hx, hb, hml, hown, hts⟩ (mt_M_in l p0 6) (va_cwS 2 hts (gd_S tm_359 tm_360 tm_25 tm_361) rfl rfl rfl (by decide +kernel) ⟨Nat.le_of_ble_eq_true rfl, Nat.le_of_ble_eq_true rfl⟩) ⟨fb_0, fun U hU hW => ⟨rfl, trivial⟩⟩ rfl rfl hl.1 rfl (lv_room (Nat.le_of_ble_eq_true rfl)) md_M_polynomial_3 ⟨Nat.zero_le _, Nat.zero_le _⟩) (fun r_1 e_2 => ?_)
  obtain rfl : r_1 = jb (rn_in p0 6) := e_2
  refine lv_if_eq (tgt := 18) hx hb md_M_polynomial_6 (by decide) (fun c_3 => ?_) (fun c_3 => ?_)
  · refine lv_iconst (v := (-1)) hx hb md_M_polynomial_18 (by decide) ?_
    exact W.iret (v := (-1)) hx hb hr (fun t ht2 _ => ⟨⟨(-1), u, rfl, (by simp [mq_pol, (jb_0.mp c_3)] <;> decide), by show MWd D cL h0 q0 A _ t.heap; rw [ht2]; exact hM⟩, hS.F ht2⟩) hS.2.2 md_M_polynomial_19
  · refine lv_iload_n hx hb md_M_polynomial_9 rfl (lv_at hl 2 rfl) ?_
    refine lv_bipush (v := 6) hx hb md_M_polynomial_10 (by decide) ?_
    refine vp_callSi (W.runS (As := [.int p1, .int 6]) (rest := []) ⟨hx, hb, hml, hown, hts⟩ (mt_M_in l p1 6) (va_cwS 2 hts (gd_S tm_359 tm_360 tm_25 tm_361) rfl rfl rfl (by decide +kernel) ⟨Nat.le_of_ble_eq_true rfl, Nat.le_of_ble_eq_true rfl⟩) ⟨fb_0, fun U hU hW => ⟨rfl, trivial⟩⟩ rfl rfl hl.1 rfl (lv_room (Nat.le_of_ble_eq_true rfl)) md_M_polynomial_12 ⟨Nat.zero_le _, Nat.zero_le _⟩) (fun r_4 e_5 => ?_)
    obtain rfl : r_4 = jb (rn_in p1 6) := e_5
    refine lv_if_ne (tgt := 20) hx hb md_M_polynomial_15 (by decide) (fun c_6 => ?_) (fun c_6 => ?_)
    · refine lv_aload_n hx hb md_M_polynomial_20 rfl (lv_at hl 0 rfl) ?_
      refine va_get (D := D) (ci := 1) (v := .ref q0) (C := "NumberProbeModel") (T := TM) (N := 12) hx hb ht inM hown hK hM.1 0 rfl rfl 0 (by decide) (ht _ tm_318) (fun _ h9 => h9) rfl md_M_polynomial_21 ?_
      refine lv_iload_n hx hb md_M_polynomial_24 rfl (lv_at hl 1 rfl) ?_
      refine va_lald (D := D) hx hb hK hM.1 1 0 rfl rfl (rn_i6 (jb_n0.mp c_3)).1 md_M_polynomial_25 ?_
      refine lv_lstore_n (lv' := [(3, .long (u.2 p0.toNatClampNeg)), (0, .ref h0), (1, .int p0), (2, .int p1)]) hx hb md_M_polynomial_26 rfl hl (by decide) rfl (fun ls hl => ?_)
      refine lv_aload_n hx hb md_M_polynomial_27 rfl (lv_at hl 1 rfl) ?_
      refine va_get (D := D) (ci := 1) (v := .ref q0) (C := "NumberProbeModel") (T := TM) (N := 12) hx hb ht inM hown hK hM.1 0 rfl rfl 0 (by decide) (ht _ tm_318) (fun _ h9 => h9) rfl md_M_polynomial_28 ?_
      refine lv_iconst (v := 5) hx hb md_M_polynomial_31 (by decide) ?_
      refine va_lald (D := D) hx hb hK hM.1 1 0 rfl rfl (vp_in_iff.mpr (by decide)) md_M_polynomial_32 ?_
      refine lv_lstore (lv' := [(5, .long (u.2 (5 : Int32).toNatClampNeg)), (3, .long (u.2 p0.toNatClampNeg)), (0, .ref h0), (1, .int p0), (2, .int p1)]) hx hb md_M_polynomial_33 hl (by decide) rfl (fun ls hl => ?_)
      refine lv_iconst (v := 4) hx hb md_M_polynomial_35 (by decide) ?_
      refine lv_istore (lv' := [(7, .int 4), (5, .long (u.2 (5 : Int32).toNatClampNeg)), (3, .long (u.2 p0.toNatClampNeg)), (0, .ref h0), (1, .int p0), (2, .int p1)]) hx hb md_M_polynomial_36 hl (by decide) rfl (fun ls hl => ?_)
      have L_7 : ∀ (n : Nat) (z_8 : Int32) (z_9 : Int64) (u_10 : MT) (H_11 : Heap) (L_12 : List Loc) (ls : Array Slot), (z_8.toInt + 1).toNat ≤ n → z_8 ≤ 4 → MWd D cL h0 q0 A u_10 H_11 → va_S A s.heap H_11 L_12 → lv_has ls 8 [(7, .int z_8), (5, .long z_9), (3, .long (u.2 p0.toNatClampNeg)), (0, .ref h0), (1, .int p0), (2, .int p1)] → W p l e (headSpec mw_M_polynomial ({ frames := 5, cells := 0, slots := 0, locals := 123 } : Room)).room s m ([.ref h0, .int p0, .int p1] : List Value).toArray below meth c H_11 L_12 0 0 (MQ below (MQi D cL h0 q0 A (fun (r : Int32) (v : MT) => r = mq_pol p0 p1)) ([.ref h0, .int p0, .int p1] : List Value).toArray s 0 0 A) (F0 m 38 ls []) := by
        intro n
        induction n with
        | zero =>
          intro z_8 z_9 u_10 H_11 L_12 ls hn hi hM hS hl
          refine lv_iload hx hb md_M_polynomial_38 (lv_at hl 0 rfl) ?_
          refine lv_if_lt (tgt := 71) hx hb md_M_polynomial_40 (by decide) (fun c_13 => ?_) (fun c_13 => ?_)
          · refine lv_aload_n hx hb md_M_polynomial_71 rfl (lv_at hl 3 rfl) ?_
            refine va_get (D := D) (ci := 1) (v := .ref q0) (C := "NumberProbeModel") (T := TM) (N := 12) hx hb ht inM hown hK hM.1 0 rfl rfl 0 (by decide) (ht _ tm_318) (fun _ h9 => h9) rfl md_M_polynomial_72 ?_
            refine lv_iload_n hx hb md_M_polynomial_75 rfl (lv_at hl 5 rfl) ?_
            refine lv_lload hx hb md_M_polynomial_76 (lv_at hl 1 rfl) ?_
            refine m_ast hx hb hK hM hS (rn_i6 (jb_n0.mp c_6)).1 md_M_polynomial_78 (fun u_14 H_15 L_16 hM hS => ?_)
            refine lv_iconst (v := 0) hx hb md_M_polynomial_79 (by decide) ?_
            exact W.iret (v := 0) hx hb hr (fun t ht2 _ => ⟨⟨0, u_14, rfl, (by simp [mq_pol, (jb_n0.mp c_3), (jb_n0.mp c_6)] <;> decide), by show MWd D cL h0 q0 A _ t.heap; rw [ht2]; exact hM⟩, hS.F ht2⟩) hS.2.2 md_M_polynomial_80
          · exact (lg_0 (Int32.not_lt.mp c_13) hn).elim
        | succ n ih =>
          intro z_8 z_9 u_10 H_11 L_12 ls hn hi hM hS hl
          refine lv_iload hx hb md_M_polynomial_38 (lv_at hl 0 rfl) ?_
          refine lv_if_lt (tgt := 71) hx hb md_M_polynomial_40 (by decide) (fun c_17 => ?_) (fun c_17 => ?_)
          · refine lv_aload_n hx hb md_M_polynomial_71 rfl (lv_at hl 3 rfl) ?_
            refine va_get (D := D) (ci := 1) (v := .ref q0) (C := "NumberProbeModel") (T := TM) (N := 12) hx hb ht inM hown hK hM.1 0 rfl rfl 0 (by decide) (ht _ tm_318) (fun _ h9 => h9) rfl md_M_polynomial_72 ?_
            refine lv_iload_n hx hb md_M_polynomial_75 rfl (lv_at hl 5 rfl) ?_
            refine lv_lload hx hb md_M_polynomial_76 (lv_at hl 1 rfl) ?_
            refine m_ast hx hb hK hM hS (rn_i6 (jb_n0.mp c_6)).1 md_M_polynomial_78 (fun u_18 H_19 L_20 hM hS => ?_)
            refine lv_iconst (v := 0) hx hb md_M_polynomial_79 (by decide) ?_
            exact W.iret (v := 0) hx hb hr (fun t ht2 _ => ⟨⟨0, u_18, rfl, (by simp [mq_pol, (jb_n0.mp c_3), (jb_n0.mp c_6)] <;> decide), by show MWd D cL h0 q0 A _ t.heap; rw [ht2]; exact hM⟩, hS.F ht2⟩) hS.2.2 md_M_polynomial_80
          · refine lv_aload_n hx hb md_M_polynomial_43 rfl (lv_at hl 3 rfl) ?_
            refine lv_iconst (v := 0) hx hb md_M_polynomial_44 (by decide) ?_
            refine lv_aload_n hx hb md_M_polynomial_45 rfl (lv_at hl 3 rfl) ?_
            refine lv_iconst (v := 0) hx hb md_M_polynomial_46 (by decide) ?_
            refine lv_lload hx hb md_M_polynomial_47 (lv_at hl 1 rfl) ?_
            refine lv_lload_n hx hb md_M_polynomial_49 rfl (lv_at hl 2 rfl) ?_
            refine m_calll (va_runV (C := "NumberProbeModel") (As := [.int 0, .long z_9, .long (u.2 p0.toNatClampNeg)]) (rest := [.int 0, .ref h0]) ⟨hx, hb, hml, hown, hts⟩ (mt_M_multiply l D cL h0 q0 _ u_10 0 z_9 (u.2 p0.toNatClampNeg)) (cwV 3 hts (gd_V tm_475 tm_477 tm_16 tm_25 tm_478) rfl rfl rfl (by decide +kernel) ⟨Nat.le_of_ble_eq_true rfl, Nat.le_of_ble_eq_true rfl⟩) (m_in (locs := L_12) hK hM) rfl rfl hl.1 rfl (lv_room (Nat.le_of_ble_eq_true rfl)) md_M_polynomial_50 ⟨Nat.zero_le _, Nat.zero_le _⟩) hM hS hA (fun r_21 u_23 H_24 L_25 e_22 hM hS => ?_)
            refine lv_aload_n hx hb md_M_polynomial_53 rfl (lv_at hl 3 rfl) ?_
            refine va_get (D := D) (ci := 1) (v := .ref q0) (C := "NumberProbeModel") (T := TM) (N := 12) hx hb ht inM hown hK hM.1 0 rfl rfl 0 (by decide) (ht _ tm_318) (fun _ h9 => h9) rfl md_M_polynomial_54 ?_
            refine lv_iload hx hb md_M_polynomial_57 (lv_at hl 0 rfl) ?_
            refine va_lald (D := D) hx hb hK hM.1 1 0 rfl rfl (lp_in (Int32.not_lt.mp c_17) hi (by decide)) md_M_polynomial_59 ?_
            refine m_calll (va_runV (C := "NumberProbeModel") (As := [.int 0, .long r_21, .long (u_23.2 z_8.toNatClampNeg)]) (rest := []) ⟨hx, hb, hml, hown, hts⟩ (mt_M_add l D cL h0 q0 _ u_23 0 r_21 (u_23.2 z_8.toNatClampNeg)) (cwV 3 hts (gd_V tm_447 tm_449 tm_12 tm_25 tm_450) rfl rfl rfl (by decide +kernel) ⟨Nat.le_of_ble_eq_true rfl, Nat.le_of_ble_eq_true rfl⟩) (m_in (locs := L_25) hK hM) rfl rfl hl.1 rfl (lv_room (Nat.le_of_ble_eq_true rfl)) md_M_polynomial_60 ⟨Nat.zero_le _, Nat.zero_le _⟩) hM hS hA (fun r_26 u_28 H_29 L_30 e_27 hM hS => ?_)
            refine lv_lstore (lv' := [(5, .long r_26), (7, .int z_8), (3, .long (u.2 p0.toNatClampNeg)), (0, .ref h0), (1, .int p0), (2, .int p1)]) hx hb md_M_polynomial_63 hl (by decide) rfl (fun ls hl => ?_)
            refine lv_iinc (v := z_8 + (-1)) (lv' := [(7, .int (z_8 + (-1))), (5, .long r_26), (3, .long (u.2 p0.toNatClampNeg)), (0, .ref h0), (1, .int p0), (2, .int p1)]) hx hb md_M_polynomial_65 hl (k := 1) rfl rfl (by decide) rfl (fun ls hl => ?_)
            refine lv_goto (tgt := 38) hx hb md_M_polynomial_68 (by decide) ?_
            exact ih (z_8 + (-1)) r_26 _ _ _ ls (lg_s (Int32.not_lt.mp c_17) hn) (lp_st (Int32.not_lt.mp c_17) hi) hM hS (lv_sub hl [0, 1, 2, 3, 4, 5] rfl)
      exact L_7 _ 4 (u.2 (5 : Int32).toNatClampNeg) _ _ _ ls (Nat.le_refl _) (by decide) hM hS (lv_sub hl [0, 1, 2, 3, 4, 5] rfl)
    · refine lv_iconst (v := (-1)) hx hb md_M_polynomial_18 (by decide) ?_
      exact W.iret (v := (-1)) hx hb hr (fun t ht2 _ => ⟨⟨(-1), u, rfl, (by simp [mq_pol, (jb_n0.mp c_3), (jb_0.mp c_6)] <;> decide), by show MWd D cL h0 q0 A _ t.heap; rw [ht2]; exact hM⟩, hS.F ht2⟩) hS.2.2 md_M_polynomial_19
