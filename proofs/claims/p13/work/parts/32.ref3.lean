set_option maxHeartbeats 4000000 in
set_option maxRecDepth 100000 in
theorem mt_M_remainder (l : Launch) (D : va_G) (cL : ClassId) (h0 q0 sz : Nat) (u : MT) (p0 : Int32) (p1 : Int64) (p2 : Int64) : Met l my_M_remainder mw_M_remainder ({ frames := 4, cells := 0, slots := 0, locals := 91 } : Room) (MPc D cL h0 q0 sz u [.int p0, .long p1, .long p2]) (MQl D cL h0 q0 (MA h0 q0 cL u sz) (fun (r : Int64) (v : MT) => True)) 0 0 (MA h0 q0 cL u sz) := by
  refine Met.ofW (cc := mc_M_remainder) (maxL := 10) (ret := (some .long)) (by decide) rfl ?_
  intro p e s m args below meth c s₁ B hml hv
  obtain ⟨rfl, hsz, hP, hK, hD0⟩ := hv
  have hx := B.exec
  have hb := B.bytes
  have hr := B.returns
  have hts := atoms_spec (ws := mw_M_remainder) B.pre
  have ht : ∀ w ∈ gw_tbl, w.before _ s = true := fun w h => hts w (List.mem_cons_of_mem _ h)
  have hown : s.vm.findClass "NumberProbeModel" = some m.cls := findClass_of_methodNamed B.named
  have hlocks := B.notSynchronized
  subst hsz
  have hD : va_D (MA h0 q0 cL u s.heap.size) (mWs h0 q0 cL u) := hD0.self (sz := s.heap.size)
  generalize hAe : MA h0 q0 cL u s.heap.size = A at hD ⊢
  have hA : ∀ q : Nat, s.heap.size ≤ q → A q := fun q h => by rw [← hAe]; exact Or.inr h
  have hS : va_S A s.heap s.heap [] := va_S.rf
  have hM : MWd D cL h0 q0 A u s.heap := ⟨hP, hD⟩
  have hl := lv_entry ([.ref h0, .int p0, .long p1, .long p2]) (n := 10) (Nat.le_of_ble_eq_true rfl)
  rw [lg_entry_eq]
  generalize (lg_sl ([.ref h0, .int p0, .long p1, .long p2]) ++ List.replicate (10 - (lg_sl ([.ref h0, .int p0, .long p1, .long p2])).length) Slot.unset).toArray = ls at hl ⊢
  have hl : lv_has ls 10 [(0, .ref h0), (1, .int p0), (2, .long p1), (4, .long p2)] := hl
  refine lv_aload_n hx hb md_M_remainder_0 rfl (lv_at hl 0 rfl) ?_
  refine lv_iload_n hx hb md_M_remainder_1 rfl (lv_at hl 1 rfl) ?_
  refine lv_lload_n hx hb md_M_remainder_2 rfl (lv_at hl 2 rfl) ?_
  refine m_callv (va_runV (C := "NumberProbeModel") (As := [.int p0, .long p1]) (rest := []) ⟨hx, hb, hml, hown, hts⟩ (mt_M_takeX l D cL h0 q0 _ u p0 p1) (cwV 2 hts (gd_V tm_451 tm_453 tm_13 tm_25 tm_454) rfl rfl rfl (by decide +kernel) ⟨Nat.le_of_ble_eq_true rfl, Nat.le_of_ble_eq_true rfl⟩) (m_in (locs := []) hK hM) rfl rfl hl.1 rfl (lv_room (Nat.le_of_ble_eq_true rfl)) md_M_remainder_3 ⟨Nat.zero_le _, Nat.zero_le _⟩) hM hS hA (fun u_3 H_4 L_5 e_2 hM hS => ?_)
  obtain rfl : u_3 = mtX p0 p1 u := e_2
  refine lv_aload_n hx hb md_M_remainder_6 rfl (lv_at hl 0 rfl) ?_
  refine lv_iload_n hx hb md_M_remainder_7 rfl (lv_at hl 1 rfl) ?_
  refine lv_lload hx hb md_M_remainder_8 (lv_at hl 3 rfl) ?_
  refine m_callv (va_runV (C := "NumberProbeModel") (As := [.int p0, .long p2]) (rest := []) ⟨hx, hb, hml, hown, hts⟩ (mt_M_takeY l D cL h0 q0 _ (mtX p0 p1 u) p0 p2) (cwV 2 hts (gd_V tm_464 tm_466 tm_14 tm_25 tm_467) rfl rfl rfl (by decide +kernel) ⟨Nat.le_of_ble_eq_true rfl, Nat.le_of_ble_eq_true rfl⟩) (m_in (locs := L_5) hK hM) rfl rfl hl.1 rfl (lv_room (Nat.le_of_ble_eq_true rfl)) md_M_remainder_10 ⟨Nat.zero_le _, Nat.zero_le _⟩) hM hS hA (fun u_8 H_9 L_10 e_7 hM hS => ?_)
  obtain rfl : u_8 = mtY p0 p2 (mtX p0 p1 u) := e_7
  refine lv_aload_n hx hb md_M_remainder_13 rfl (lv_at hl 0 rfl) ?_
  refine va_get (D := D) (ci := 1) (v := .int (jb (rf_isN p0 p1))) (C := "NumberProbeModel") (T := TM) (N := 12) hx hb ht inM hown hK hM.1 0 rfl rfl 3 (by decide) (ht _ tm_321) (fun _ h9 => h9) rfl md_M_remainder_14 ?_
  refine lv_if_ne (tgt := 43) hx hb md_M_remainder_17 (by decide) (fun c_11 => ?_) (fun c_11 => ?_)
  · refine lv_iload_n hx hb md_M_remainder_43 rfl (lv_at hl 1 rfl) ?_
    refine vp_callSl (W.runS (As := [.int p0]) (rest := []) ⟨hx, hb, hml, hown, hts⟩ (mt_M_nan l p0) (va_cwS 1 hts (gd_S tm_382 tm_383 tm_25 tm_384) rfl rfl rfl (by decide +kernel) ⟨Nat.le_of_ble_eq_true rfl, Nat.le_of_ble_eq_true rfl⟩) ⟨fb_0, fun U hU hW => ⟨rfl, trivial⟩⟩ rfl rfl hl.1 rfl (lv_room (Nat.le_of_ble_eq_true rfl)) md_M_remainder_44 ⟨Nat.zero_le _, Nat.zero_le _⟩) (fun r_12 e_13 => ?_)
    obtain rfl : r_12 = rf_na p0 := e_13
    exact W.lret (v := rf_na p0) hx hb hr (fun t ht2 _ => ⟨⟨rf_na p0, mtY p0 p2 (mtX p0 p1 u), rfl, trivial, by show MWd D cL h0 q0 A _ t.heap; rw [ht2]; exact hM⟩, hS.F ht2⟩) hS.2.2 md_M_remainder_47
  · refine lv_aload_n hx hb md_M_remainder_20 rfl (lv_at hl 0 rfl) ?_
    refine va_get (D := D) (ci := 1) (v := .int (jb (rf_isN p0 p2))) (C := "NumberProbeModel") (T := TM) (N := 12) hx hb ht inM hown hK hM.1 0 rfl rfl 4 (by decide) (ht _ tm_322) (fun _ h9 => h9) rfl md_M_remainder_21 ?_
    refine lv_if_ne (tgt := 43) hx hb md_M_remainder_24 (by decide) (fun c_14 => ?_) (fun c_14 => ?_)
    · refine lv_iload_n hx hb md_M_remainder_43 rfl (lv_at hl 1 rfl) ?_
      refine vp_callSl (W.runS (As := [.int p0]) (rest := []) ⟨hx, hb, hml, hown, hts⟩ (mt_M_nan l p0) (va_cwS 1 hts (gd_S tm_382 tm_383 tm_25 tm_384) rfl rfl rfl (by decide +kernel) ⟨Nat.le_of_ble_eq_true rfl, Nat.le_of_ble_eq_true rfl⟩) ⟨fb_0, fun U hU hW => ⟨rfl, trivial⟩⟩ rfl rfl hl.1 rfl (lv_room (Nat.le_of_ble_eq_true rfl)) md_M_remainder_44 ⟨Nat.zero_le _, Nat.zero_le _⟩) (fun r_15 e_16 => ?_)
      obtain rfl : r_15 = rf_na p0 := e_16
      exact W.lret (v := rf_na p0) hx hb hr (fun t ht2 _ => ⟨⟨rf_na p0, mtY p0 p2 (mtX p0 p1 u), rfl, trivial, by show MWd D cL h0 q0 A _ t.heap; rw [ht2]; exact hM⟩, hS.F ht2⟩) hS.2.2 md_M_remainder_47
    · refine lv_aload_n hx hb md_M_remainder_27 rfl (lv_at hl 0 rfl) ?_
      refine va_get (D := D) (ci := 1) (v := .int (jb (rf_isI p0 p1))) (C := "NumberProbeModel") (T := TM) (N := 12) hx hb ht inM hown hK hM.1 0 rfl rfl 5 (by decide) (ht _ tm_323) (fun _ h9 => h9) rfl md_M_remainder_28 ?_
      refine lv_if_ne (tgt := 43) hx hb md_M_remainder_31 (by decide) (fun c_17 => ?_) (fun c_17 => ?_)
      · refine lv_iload_n hx hb md_M_remainder_43 rfl (lv_at hl 1 rfl) ?_
        refine vp_callSl (W.runS (As := [.int p0]) (rest := []) ⟨hx, hb, hml, hown, hts⟩ (mt_M_nan l p0) (va_cwS 1 hts (gd_S tm_382 tm_383 tm_25 tm_384) rfl rfl rfl (by decide +kernel) ⟨Nat.le_of_ble_eq_true rfl, Nat.le_of_ble_eq_true rfl⟩) ⟨fb_0, fun U hU hW => ⟨rfl, trivial⟩⟩ rfl rfl hl.1 rfl (lv_room (Nat.le_of_ble_eq_true rfl)) md_M_remainder_44 ⟨Nat.zero_le _, Nat.zero_le _⟩) (fun r_18 e_19 => ?_)
        obtain rfl : r_18 = rf_na p0 := e_19
        exact W.lret (v := rf_na p0) hx hb hr (fun t ht2 _ => ⟨⟨rf_na p0, mtY p0 p2 (mtX p0 p1 u), rfl, trivial, by show MWd D cL h0 q0 A _ t.heap; rw [ht2]; exact hM⟩, hS.F ht2⟩) hS.2.2 md_M_remainder_47
      · refine lv_aload_n hx hb md_M_remainder_34 rfl (lv_at hl 0 rfl) ?_
        refine va_get (D := D) (ci := 1) (v := .long (rf_man p0 p2)) (C := "NumberProbeModel") (T := TM) (N := 12) hx hb ht inM hown hK hM.1 0 rfl rfl 8 (by decide) (ht _ tm_326) (fun _ h9 => h9) rfl md_M_remainder_35 ?_
        refine lv_lconst (v := 0) hx hb md_M_remainder_38 (by decide) ?_
        refine W.lcmp hx hb md_M_remainder_39 ?_
        refine lv_if_ne (tgt := 48) hx hb md_M_remainder_40 (by decide) (fun c_20 => ?_) (fun c_20 => ?_)
        · refine lv_aload_n hx hb md_M_remainder_48 rfl (lv_at hl 0 rfl) ?_
          refine va_get (D := D) (ci := 1) (v := .int (jb (rf_isI p0 p2))) (C := "NumberProbeModel") (T := TM) (N := 12) hx hb ht inM hown hK hM.1 0 rfl rfl 6 (by decide) (ht _ tm_324) (fun _ h9 => h9) rfl md_M_remainder_49 ?_
          refine lv_if_ne (tgt := 64) hx hb md_M_remainder_52 (by decide) (fun c_21 => ?_) (fun c_21 => ?_)
          · refine lv_lload_n hx hb md_M_remainder_64 rfl (lv_at hl 2 rfl) ?_
            exact W.lret (v := p1) hx hb hr (fun t ht2 _ => ⟨⟨p1, mtY p0 p2 (mtX p0 p1 u), rfl, trivial, by show MWd D cL h0 q0 A _ t.heap; rw [ht2]; exact hM⟩, hS.F ht2⟩) hS.2.2 md_M_remainder_65
          · refine lv_aload_n hx hb md_M_remainder_55 rfl (lv_at hl 0 rfl) ?_
            refine va_get (D := D) (ci := 1) (v := .long (rf_man p0 p1)) (C := "NumberProbeModel") (T := TM) (N := 12) hx hb ht inM hown hK hM.1 0 rfl rfl 7 (by decide) (ht _ tm_325) (fun _ h9 => h9) rfl md_M_remainder_56 ?_
            refine lv_lconst (v := 0) hx hb md_M_remainder_59 (by decide) ?_
            refine W.lcmp hx hb md_M_remainder_60 ?_
            refine lv_if_ne (tgt := 66) hx hb md_M_remainder_61 (by decide) (fun c_22 => ?_) (fun c_22 => ?_)
            · refine lv_aload_n hx hb md_M_remainder_66 rfl (lv_at hl 0 rfl) ?_
              refine va_get (D := D) (ci := 1) (v := .int (rf_pow p0 p2)) (C := "NumberProbeModel") (T := TM) (N := 12) hx hb ht inM hown hK hM.1 0 rfl rfl 10 (by decide) (ht _ tm_328) (fun _ h9 => h9) rfl md_M_remainder_67 ?_
              refine lv_aload_n hx hb md_M_remainder_70 rfl (lv_at hl 0 rfl) ?_
              refine va_get (D := D) (ci := 1) (v := .int (rf_pow p0 p1)) (C := "NumberProbeModel") (T := TM) (N := 12) hx hb ht inM hown hK hM.1 0 rfl rfl 9 (by decide) (ht _ tm_327) (fun _ h9 => h9) rfl md_M_remainder_71 ?_
              refine lv_isub hx hb md_M_remainder_74 ?_
              refine lv_istore (lv' := [(6, .int ((rf_pow p0 p2) - (rf_pow p0 p1))), (0, .ref h0), (1, .int p0), (2, .long p1), (4, .long p2)]) hx hb md_M_remainder_75 hl (by decide) rfl (fun ls hl => ?_)
              refine lv_iload hx hb md_M_remainder_77 (lv_at hl 0 rfl) ?_
              refine lv_bipush (v := 10) hx hb md_M_remainder_79 (by decide) ?_
              refine lv_icmp_le (tgt := 86) hx hb md_M_remainder_81 (by decide) (fun c_23 => ?_) (fun c_23 => ?_)
              · refine lv_iload hx hb md_M_remainder_86 (lv_at hl 0 rfl) ?_
                refine lv_if_lt (tgt := 116) hx hb md_M_remainder_88 (by decide) (fun c_24 => ?_) (fun c_24 => ?_)
                · refine lv_aload_n hx hb md_M_remainder_116 rfl (lv_at hl 1 rfl) ?_
                  refine va_get (D := D) (ci := 1) (v := .long (rf_man p0 p1)) (C := "NumberProbeModel") (T := TM) (N := 12) hx hb ht inM hown hK hM.1 0 rfl rfl 7 (by decide) (ht _ tm_325) (fun _ h9 => h9) rfl md_M_remainder_117 ?_
                  refine lv_aload_n hx hb md_M_remainder_120 rfl (lv_at hl 1 rfl) ?_
                  refine va_get (D := D) (ci := 1) (v := .long (rf_man p0 p2)) (C := "NumberProbeModel") (T := TM) (N := 12) hx hb ht inM hown hK hM.1 0 rfl rfl 8 (by decide) (ht _ tm_326) (fun _ h9 => h9) rfl md_M_remainder_121 ?_
                  refine lv_lrem hx hb md_M_remainder_124 (mt (lg_cmp_eq _ _).mpr c_20) ?_
                  refine lv_lstore (lv' := [(7, .long ((rf_man p0 p1) - (rf_man p0 p1) / (rf_man p0 p2) * (rf_man p0 p2))), (6, .int ((rf_pow p0 p2) - (rf_pow p0 p1))), (0, .ref h0), (1, .int p0), (2, .long p1), (4, .long p2)]) hx hb md_M_remainder_125 hl (by decide) rfl (fun ls hl => ?_)
                  refine lv_iconst (v := 0) hx hb md_M_remainder_127 (by decide) ?_
                  refine lv_istore (lv' := [(9, .int 0), (7, .long ((rf_man p0 p1) - (rf_man p0 p1) / (rf_man p0 p2) * (rf_man p0 p2))), (6, .int ((rf_pow p0 p2) - (rf_pow p0 p1))), (0, .ref h0), (1, .int p0), (2, .long p1), (4, .long p2)]) hx hb md_M_remainder_128 hl (by decide) rfl (fun ls hl => ?_)
                  have L_25 : ∀ (n : Nat) (z_26 : Int32) (z_27 : Int64) (ls : Array Slot), ((-((rf_pow p0 p2) - (rf_pow p0 p1)) : Int32).toInt - z_26.toInt).toNat ≤ n → lv_has ls 10 [(9, .int z_26), (7, .long z_27), (6, .int ((rf_pow p0 p2) - (rf_pow p0 p1))), (0, .ref h0), (1, .int p0), (2, .long p1), (4, .long p2)] → W p l e (headSpec mw_M_remainder ({ frames := 4, cells := 0, slots := 0, locals := 91 } : Room)).room s m ([.ref h0, .int p0, .long p1, .long p2] : List Value).toArray below meth c H_9 L_10 0 0 (MQ below (MQl D cL h0 q0 A (fun (r : Int64) (v : MT) => True)) ([.ref h0, .int p0, .long p1, .long p2] : List Value).toArray s 0 0 A) (F0 m 130 ls []) := by
                    intro n
                    induction n with
                    | zero =>
                      intro z_26 z_27 ls hn hl
                      refine lv_iload hx hb md_M_remainder_130 (lv_at hl 0 rfl) ?_
                      refine lv_iload hx hb md_M_remainder_132 (lv_at hl 2 rfl) ?_
                      refine lv_ineg hx hb md_M_remainder_134 ?_
                      refine lv_icmp_ge (tgt := 155) hx hb md_M_remainder_135 (by decide) (fun c_28 => ?_) (fun c_28 => ?_)
                      · refine lv_iload_n hx hb md_M_remainder_155 rfl (lv_at hl 4 rfl) ?_
                        refine lv_aload_n hx hb md_M_remainder_156 rfl (lv_at hl 3 rfl) ?_
                        refine va_get (D := D) (ci := 1) (v := .int (jb (rf_isS p0 p1))) (C := "NumberProbeModel") (T := TM) (N := 12) hx hb ht inM hown hK hM.1 0 rfl rfl 1 (by decide) (ht _ tm_319) (fun _ h9 => h9) rfl md_M_remainder_157 ?_
                        refine lv_lload hx hb md_M_remainder_160 (lv_at hl 1 rfl) ?_
                        refine lv_aload_n hx hb md_M_remainder_162 rfl (lv_at hl 3 rfl) ?_
                        refine va_get (D := D) (ci := 1) (v := .int (rf_pow p0 p2)) (C := "NumberProbeModel") (T := TM) (N := 12) hx hb ht inM hown hK hM.1 0 rfl rfl 10 (by decide) (ht _ tm_328) (fun _ h9 => h9) rfl md_M_remainder_163 ?_
                        refine vp_callSl (W.runS (As := [.int p0, .int (jb (rf_isS p0 p1)), .long z_27, .int (rf_pow p0 p2)]) (rest := []) ⟨hx, hb, hml, hown, hts⟩ (mt_M_round l p0 (rf_isS p0 p1) z_27 (rf_pow p0 p2)) (va_cwS 4 hts (gd_S tm_398 tm_399 tm_25 tm_400) rfl rfl rfl (by decide +kernel) ⟨Nat.le_of_ble_eq_true rfl, Nat.le_of_ble_eq_true rfl⟩) ⟨fb_0, fun U hU hW => ⟨rfl, trivial⟩⟩ rfl rfl hl.1 rfl (lv_room (Nat.le_of_ble_eq_true rfl)) md_M_remainder_166 ⟨Nat.zero_le _, Nat.zero_le _⟩) (fun r_29 e_30 => ?_)
                        exact W.lret (v := r_29) hx hb hr (fun t ht2 _ => ⟨⟨r_29, mtY p0 p2 (mtX p0 p1 u), rfl, trivial, by show MWd D cL h0 q0 A _ t.heap; rw [ht2]; exact hM⟩, hS.F ht2⟩) hS.2.2 md_M_remainder_169
                      · exact (lu_0 (Int32.not_le.mp c_28) hn).elim
                    | succ n ih =>
                      intro z_26 z_27 ls hn hl
                      refine lv_iload hx hb md_M_remainder_130 (lv_at hl 0 rfl) ?_
                      refine lv_iload hx hb md_M_remainder_132 (lv_at hl 2 rfl) ?_
                      refine lv_ineg hx hb md_M_remainder_134 ?_
                      refine lv_icmp_ge (tgt := 155) hx hb md_M_remainder_135 (by decide) (fun c_31 => ?_) (fun c_31 => ?_)
                      · refine lv_iload_n hx hb md_M_remainder_155 rfl (lv_at hl 4 rfl) ?_
                        refine lv_aload_n hx hb md_M_remainder_156 rfl (lv_at hl 3 rfl) ?_
                        refine va_get (D := D) (ci := 1) (v := .int (jb (rf_isS p0 p1))) (C := "NumberProbeModel") (T := TM) (N := 12) hx hb ht inM hown hK hM.1 0 rfl rfl 1 (by decide) (ht _ tm_319) (fun _ h9 => h9) rfl md_M_remainder_157 ?_
                        refine lv_lload hx hb md_M_remainder_160 (lv_at hl 1 rfl) ?_
                        refine lv_aload_n hx hb md_M_remainder_162 rfl (lv_at hl 3 rfl) ?_
                        refine va_get (D := D) (ci := 1) (v := .int (rf_pow p0 p2)) (C := "NumberProbeModel") (T := TM) (N := 12) hx hb ht inM hown hK hM.1 0 rfl rfl 10 (by decide) (ht _ tm_328) (fun _ h9 => h9) rfl md_M_remainder_163 ?_
                        refine vp_callSl (W.runS (As := [.int p0, .int (jb (rf_isS p0 p1)), .long z_27, .int (rf_pow p0 p2)]) (rest := []) ⟨hx, hb, hml, hown, hts⟩ (mt_M_round l p0 (rf_isS p0 p1) z_27 (rf_pow p0 p2)) (va_cwS 4 hts (gd_S tm_398 tm_399 tm_25 tm_400) rfl rfl rfl (by decide +kernel) ⟨Nat.le_of_ble_eq_true rfl, Nat.le_of_ble_eq_true rfl⟩) ⟨fb_0, fun U hU hW => ⟨rfl, trivial⟩⟩ rfl rfl hl.1 rfl (lv_room (Nat.le_of_ble_eq_true rfl)) md_M_remainder_166 ⟨Nat.zero_le _, Nat.zero_le _⟩) (fun r_32 e_33 => ?_)
                        exact W.lret (v := r_32) hx hb hr (fun t ht2 _ => ⟨⟨r_32, mtY p0 p2 (mtX p0 p1 u), rfl, trivial, by show MWd D cL h0 q0 A _ t.heap; rw [ht2]; exact hM⟩, hS.F ht2⟩) hS.2.2 md_M_remainder_169
                      · refine lv_lload hx hb md_M_remainder_138 (lv_at hl 1 rfl) ?_
                        refine lv_iconst (v := 1) hx hb md_M_remainder_140 (by decide) ?_
                        refine lv_lshl (v := jl_shl z_27 1) hx hb md_M_remainder_141 rfl ?_
                        refine lv_aload_n hx hb md_M_remainder_142 rfl (lv_at hl 3 rfl) ?_
                        refine va_get (D := D) (ci := 1) (v := .long (rf_man p0 p2)) (C := "NumberProbeModel") (T := TM) (N := 12) hx hb ht inM hown hK hM.1 0 rfl rfl 8 (by decide) (ht _ tm_326) (fun _ h9 => h9) rfl md_M_remainder_143 ?_
                        refine lv_lrem hx hb md_M_remainder_146 (mt (lg_cmp_eq _ _).mpr c_20) ?_
                        refine lv_lstore (lv' := [(7, .long ((jl_shl z_27 1) - (jl_shl z_27 1) / (rf_man p0 p2) * (rf_man p0 p2))), (9, .int z_26), (6, .int ((rf_pow p0 p2) - (rf_pow p0 p1))), (0, .ref h0), (1, .int p0), (2, .long p1), (4, .long p2)]) hx hb md_M_remainder_147 hl (by decide) rfl (fun ls hl => ?_)
                        refine lv_iinc (v := z_26 + 1) (lv' := [(9, .int (z_26 + 1)), (7, .long ((jl_shl z_27 1) - (jl_shl z_27 1) / (rf_man p0 p2) * (rf_man p0 p2))), (6, .int ((rf_pow p0 p2) - (rf_pow p0 p1))), (0, .ref h0), (1, .int p0), (2, .long p1), (4, .long p2)]) hx hb md_M_remainder_149 hl (k := 1) rfl rfl (by decide) rfl (fun ls hl => ?_)
                        refine lv_goto (tgt := 130) hx hb md_M_remainder_152 (by decide) ?_
                        exact ih (z_26 + 1) ((jl_shl z_27 1) - (jl_shl z_27 1) / (rf_man p0 p2) * (rf_man p0 p2)) ls (lu_s (Int32.not_le.mp c_31) hn) (lv_sub hl [0, 1, 2, 3, 4, 5, 6] rfl)
                  exact L_25 _ 0 ((rf_man p0 p1) - (rf_man p0 p1) / (rf_man p0 p2) * (rf_man p0 p2)) ls (Nat.le_refl _) (lv_sub hl [0, 1, 2, 3, 4, 5, 6] rfl)
                · refine lv_iload_n hx hb md_M_remainder_91 rfl (lv_at hl 2 rfl) ?_
                  refine lv_aload_n hx hb md_M_remainder_92 rfl (lv_at hl 1 rfl) ?_
                  refine va_get (D := D) (ci := 1) (v := .int (jb (rf_isS p0 p1))) (C := "NumberProbeModel") (T := TM) (N := 12) hx hb ht inM hown hK hM.1 0 rfl rfl 1 (by decide) (ht _ tm_319) (fun _ h9 => h9) rfl md_M_remainder_93 ?_
                  refine lv_aload_n hx hb md_M_remainder_96 rfl (lv_at hl 1 rfl) ?_
                  refine va_get (D := D) (ci := 1) (v := .long (rf_man p0 p1)) (C := "NumberProbeModel") (T := TM) (N := 12) hx hb ht inM hown hK hM.1 0 rfl rfl 7 (by decide) (ht _ tm_325) (fun _ h9 => h9) rfl md_M_remainder_97 ?_
                  refine lv_aload_n hx hb md_M_remainder_100 rfl (lv_at hl 1 rfl) ?_
                  refine va_get (D := D) (ci := 1) (v := .long (rf_man p0 p2)) (C := "NumberProbeModel") (T := TM) (N := 12) hx hb ht inM hown hK hM.1 0 rfl rfl 8 (by decide) (ht _ tm_326) (fun _ h9 => h9) rfl md_M_remainder_101 ?_
                  refine lv_iload hx hb md_M_remainder_104 (lv_at hl 0 rfl) ?_
                  refine lv_lshl (v := jl_shl (rf_man p0 p2) ((rf_pow p0 p2) - (rf_pow p0 p1))) hx hb md_M_remainder_106 rfl ?_
                  refine lv_lrem hx hb md_M_remainder_107 (fa_man_shl (mt (lg_cmp_eq _ _).mpr c_20) (Int32.not_lt.mp (c_24)) c_23) ?_
                  refine lv_aload_n hx hb md_M_remainder_108 rfl (lv_at hl 1 rfl) ?_
                  refine va_get (D := D) (ci := 1) (v := .int (rf_pow p0 p1)) (C := "NumberProbeModel") (T := TM) (N := 12) hx hb ht inM hown hK hM.1 0 rfl rfl 9 (by decide) (ht _ tm_327) (fun _ h9 => h9) rfl md_M_remainder_109 ?_
                  refine vp_callSl (W.runS (As := [.int p0, .int (jb (rf_isS p0 p1)), .long ((rf_man p0 p1) - (rf_man p0 p1) / (jl_shl (rf_man p0 p2) ((rf_pow p0 p2) - (rf_pow p0 p1))) * (jl_shl (rf_man p0 p2) ((rf_pow p0 p2) - (rf_pow p0 p1)))), .int (rf_pow p0 p1)]) (rest := []) ⟨hx, hb, hml, hown, hts⟩ (mt_M_round l p0 (rf_isS p0 p1) ((rf_man p0 p1) - (rf_man p0 p1) / (jl_shl (rf_man p0 p2) ((rf_pow p0 p2) - (rf_pow p0 p1))) * (jl_shl (rf_man p0 p2) ((rf_pow p0 p2) - (rf_pow p0 p1)))) (rf_pow p0 p1)) (va_cwS 4 hts (gd_S tm_398 tm_399 tm_25 tm_400) rfl rfl rfl (by decide +kernel) ⟨Nat.le_of_ble_eq_true rfl, Nat.le_of_ble_eq_true rfl⟩) ⟨fb_0, fun U hU hW => ⟨rfl, trivial⟩⟩ rfl rfl hl.1 rfl (lv_room (Nat.le_of_ble_eq_true rfl)) md_M_remainder_112 ⟨Nat.zero_le _, Nat.zero_le _⟩) (fun r_34 e_35 => ?_)
                  exact W.lret (v := r_34) hx hb hr (fun t ht2 _ => ⟨⟨r_34, mtY p0 p2 (mtX p0 p1 u), rfl, trivial, by show MWd D cL h0 q0 A _ t.heap; rw [ht2]; exact hM⟩, hS.F ht2⟩) hS.2.2 md_M_remainder_115
              · refine lv_lload_n hx hb md_M_remainder_84 rfl (lv_at hl 3 rfl) ?_
                exact W.lret (v := p1) hx hb hr (fun t ht2 _ => ⟨⟨p1, mtY p0 p2 (mtX p0 p1 u), rfl, trivial, by show MWd D cL h0 q0 A _ t.heap; rw [ht2]; exact hM⟩, hS.F ht2⟩) hS.2.2 md_M_remainder_85
            · refine lv_lload_n hx hb md_M_remainder_64 rfl (lv_at hl 2 rfl) ?_
              exact W.lret (v := p1) hx hb hr (fun t ht2 _ => ⟨⟨p1, mtY p0 p2 (mtX p0 p1 u), rfl, trivial, by show MWd D cL h0 q0 A _ t.heap; rw [ht2]; exact hM⟩, hS.F ht2⟩) hS.2.2 md_M_remainder_65
        · refine lv_iload_n hx hb md_M_remainder_43 rfl (lv_at hl 1 rfl) ?_
          refine vp_callSl (W.runS (As := [.int p0]) (rest := []) ⟨hx, hb, hml, hown, hts⟩ (mt_M_nan l p0) (va_cwS 1 hts (gd_S tm_382 tm_383 tm_25 tm_384) rfl rfl rfl (by decide +kernel) ⟨Nat.le_of_ble_eq_true rfl, Nat.le_of_ble_eq_true rfl⟩) ⟨fb_0, fun U hU hW => ⟨rfl, trivial⟩⟩ rfl rfl hl.1 rfl (lv_room (Nat.le_of_ble_eq_true rfl)) md_M_remainder_44 ⟨Nat.zero_le _, Nat.zero_le _⟩) (fun r_36 e_37 => ?_)
          obtain rfl : r_36 = rf_na p0 := e_37
          exact W.lret (v := rf_na p0) hx hb hr (fun t ht2 _ => ⟨⟨rf_na p0, mtY p0 p2 (mtX p0 p1 u), rfl, trivial, by show MWd D cL h0 q0 A _ t.heap; rw [ht2]; exact hM⟩, hS.F ht2⟩) hS.2.2 md_M_remainder_47
set_option maxHeartbeats 4000000 in
set_option maxRecDepth 100000 in
theorem mt_M_operateReal (l : Launch) (D : va_G) (cL : ClassId) (h0 q0 sz : Nat) (u : MT) (p0 : Int32) (p1 : Int32) (p2 : Int64) (p3 : Int64) : Met l my_M_operateReal mw_M_operateReal ({ frames := 5, cells := 0, slots := 0, locals := 127 } : Room) (MPc D cL h0 q0 sz u [.int p0, .int p1, .long p2, .long p3]) (MQl D cL h0 q0 (MA h0 q0 cL u sz) (fun (r : Int64) (v : MT) => True)) 0 0 (MA h0 q0 cL u sz) := by
  refine Met.ofW (cc := mc_M_operateReal) (maxL := 8) (ret := (some .long)) (by decide) rfl ?_
  intro p e s m args below meth c s₁ B hml hv
  obtain ⟨rfl, hsz, hP, hK, hD0⟩ := hv
  have hx := B.exec
  have hb := B.bytes
  have hr := B.returns
  have hts := atoms_spec (ws := mw_M_operateReal) B.pre
  have ht : ∀ w ∈ gw_tbl, w.before _ s = true := fun w h => hts w (List.mem_cons_of_mem _ h)
  have hown : s.vm.findClass "NumberProbeModel" = some m.cls := findClass_of_methodNamed B.named
  have hlocks := B.notSynchronized
  subst hsz
  have hD : va_D (MA h0 q0 cL u s.heap.size) (mWs h0 q0 cL u) := hD0.self (sz := s.heap.size)
  generalize hAe : MA h0 q0 cL u s.heap.size = A at hD ⊢
  have hA : ∀ q : Nat, s.heap.size ≤ q → A q := fun q h => by rw [← hAe]; exact Or.inr h
  have hS : va_S A s.heap s.heap [] := va_S.rf
  have hM : MWd D cL h0 q0 A u s.heap := ⟨hP, hD⟩
  have hl := lv_entry ([.ref h0, .int p0, .int p1, .long p2, .long p3]) (n := 8) (Nat.le_of_ble_eq_true rfl)
  rw [lg_entry_eq]
  generalize (lg_sl ([.ref h0, .int p0, .int p1, .long p2, .long p3]) ++ List.replicate (8 - (lg_sl ([.ref h0, .int p0, .int p1, .long p2, .long p3])).length) Slot.unset).toArray = ls at hl ⊢
  have hl : lv_has ls 8 [(0, .ref h0), (1, .int p0), (2, .int p1), (3, .long p2), (5, .long p3)] := hl
  refine lv_iload_n hx hb md_M_operateReal_0 rfl (lv_at hl 1 rfl) ?_
  refine lv_lload_n hx hb md_M_operateReal_1 rfl (lv_at hl 3 rfl) ?_
  refine vp_callSi (W.runS (As := [.int p0, .long p2]) (rest := []) ⟨hx, hb, hml, hown, hts⟩ (mt_M_isNan l p0 p2) (va_cwS 2 hts (gd_S tm_366 tm_367 tm_25 tm_368) rfl rfl rfl (by decide +kernel) ⟨Nat.le_of_ble_eq_true rfl, Nat.le_of_ble_eq_true rfl⟩) ⟨fb_0, fun U hU hW => ⟨rfl, trivial⟩⟩ rfl rfl hl.1 rfl (lv_room (Nat.le_of_ble_eq_true rfl)) md_M_operateReal_2 ⟨Nat.zero_le _, Nat.zero_le _⟩) (fun r_1 e_2 => ?_)
  obtain rfl : r_1 = jb (rf_isN p0 p2) := e_2
  have J_9 : ∀ (z_10 : Bool) (ls : Array Slot), lv_has ls 8 [(0, .ref h0), (1, .int p0), (2, .int p1), (3, .long p2), (5, .long p3)] → W p l e (headSpec mw_M_operateReal ({ frames := 5, cells := 0, slots := 0, locals := 127 } : Room)).room s m ([.ref h0, .int p0, .int p1, .long p2, .long p3] : List Value).toArray below meth c s.heap [] 0 0 (MQ below (MQl D cL h0 q0 A (fun (r : Int64) (v : MT) => True)) ([.ref h0, .int p0, .int p1, .long p2, .long p3] : List Value).toArray s 0 0 A) (F0 m 22 ls [.int (jb z_10)]) := by
    intro z_10 ls hl
    refine lv_istore (lv' := [(7, .int (jb z_10)), (0, .ref h0), (1, .int p0), (2, .int p1), (3, .long p2), (5, .long p3)]) hx hb md_M_operateReal_22 hl (by decide) rfl (fun ls hl => ?_)
    refine lv_iload_n hx hb md_M_operateReal_24 rfl (lv_at hl 3 rfl) ?_
    by_cases k_11 : p1 = 0
    · refine lv_tableIn (off := 47) (tgt := 72) hx hb md_M_operateReal_25 (by rw [k_11]; decide) (by rw [k_11]; decide) (by rw [k_11]; rfl) (by decide) ?_
      refine lv_aload_n hx hb md_M_operateReal_72 rfl (lv_at hl 1 rfl) ?_
      refine lv_iload_n hx hb md_M_operateReal_73 rfl (lv_at hl 2 rfl) ?_
      refine lv_lload_n hx hb md_M_operateReal_74 rfl (lv_at hl 4 rfl) ?_
      refine lv_lload hx hb md_M_operateReal_75 (lv_at hl 5 rfl) ?_
      refine m_calll (va_runV (C := "NumberProbeModel") (As := [.int p0, .long p2, .long p3]) (rest := []) ⟨hx, hb, hml, hown, hts⟩ (mt_M_add l D cL h0 q0 _ u p0 p2 p3) (cwV 3 hts (gd_V tm_447 tm_449 tm_12 tm_25 tm_450) rfl rfl rfl (by decide +kernel) ⟨Nat.le_of_ble_eq_true rfl, Nat.le_of_ble_eq_true rfl⟩) (m_in (locs := []) hK hM) rfl rfl hl.1 rfl (lv_room (Nat.le_of_ble_eq_true rfl)) md_M_operateReal_77 ⟨Nat.zero_le _, Nat.zero_le _⟩) hM hS hA (fun r_12 u_14 H_15 L_16 e_13 hM hS => ?_)
      exact W.lret (v := r_12) hx hb hr (fun t ht2 _ => ⟨⟨r_12, u_14, rfl, trivial, by show MWd D cL h0 q0 A _ t.heap; rw [ht2]; exact hM⟩, hS.F ht2⟩) hS.2.2 md_M_operateReal_80
    by_cases k_17 : p1 = 1
    · refine lv_tableIn (off := 56) (tgt := 81) hx hb md_M_operateReal_25 (by rw [k_17]; decide) (by rw [k_17]; decide) (by rw [k_17]; rfl) (by decide) ?_
      refine lv_aload_n hx hb md_M_operateReal_81 rfl (lv_at hl 1 rfl) ?_
      refine lv_iload_n hx hb md_M_operateReal_82 rfl (lv_at hl 2 rfl) ?_
      refine lv_lload_n hx hb md_M_operateReal_83 rfl (lv_at hl 4 rfl) ?_
      refine lv_aload_n hx hb md_M_operateReal_84 rfl (lv_at hl 1 rfl) ?_
      refine lv_iload_n hx hb md_M_operateReal_85 rfl (lv_at hl 2 rfl) ?_
      refine lv_lload hx hb md_M_operateReal_86 (lv_at hl 5 rfl) ?_
      refine m_calll (va_runV (C := "NumberProbeModel") (As := [.int p0, .long p3]) (rest := [.long p2, .int p0, .ref h0]) ⟨hx, hb, hml, hown, hts⟩ (mt_M_flipped l D cL h0 q0 _ u p0 p3) (cwV 2 hts (gd_V tm_471 tm_473 tm_15 tm_25 tm_474) rfl rfl rfl (by decide +kernel) ⟨Nat.le_of_ble_eq_true rfl, Nat.le_of_ble_eq_true rfl⟩) (m_in (locs := []) hK hM) rfl rfl hl.1 rfl (lv_room (Nat.le_of_ble_eq_true rfl)) md_M_operateReal_88 ⟨Nat.zero_le _, Nat.zero_le _⟩) hM hS hA (fun r_18 u_20 H_21 L_22 e_19 hM hS => ?_)
      refine m_calll (va_runV (C := "NumberProbeModel") (As := [.int p0, .long p2, .long r_18]) (rest := []) ⟨hx, hb, hml, hown, hts⟩ (mt_M_add l D cL h0 q0 _ u_20 p0 p2 r_18) (cwV 3 hts (gd_V tm_447 tm_449 tm_12 tm_25 tm_450) rfl rfl rfl (by decide +kernel) ⟨Nat.le_of_ble_eq_true rfl, Nat.le_of_ble_eq_true rfl⟩) (m_in (locs := L_22) hK hM) rfl rfl hl.1 rfl (lv_room (Nat.le_of_ble_eq_true rfl)) md_M_operateReal_91 ⟨Nat.zero_le _, Nat.zero_le _⟩) hM hS hA (fun r_23 u_25 H_26 L_27 e_24 hM hS => ?_)
      exact W.lret (v := r_23) hx hb hr (fun t ht2 _ => ⟨⟨r_23, u_25, rfl, trivial, by show MWd D cL h0 q0 A _ t.heap; rw [ht2]; exact hM⟩, hS.F ht2⟩) hS.2.2 md_M_operateReal_94
    by_cases k_28 : p1 = 2
    · refine lv_tableIn (off := 70) (tgt := 95) hx hb md_M_operateReal_25 (by rw [k_28]; decide) (by rw [k_28]; decide) (by rw [k_28]; rfl) (by decide) ?_
      refine lv_aload_n hx hb md_M_operateReal_95 rfl (lv_at hl 1 rfl) ?_
      refine lv_iload_n hx hb md_M_operateReal_96 rfl (lv_at hl 2 rfl) ?_
      refine lv_lload_n hx hb md_M_operateReal_97 rfl (lv_at hl 4 rfl) ?_
      refine lv_lload hx hb md_M_operateReal_98 (lv_at hl 5 rfl) ?_
      refine m_calll (va_runV (C := "NumberProbeModel") (As := [.int p0, .long p2, .long p3]) (rest := []) ⟨hx, hb, hml, hown, hts⟩ (mt_M_multiply l D cL h0 q0 _ u p0 p2 p3) (cwV 3 hts (gd_V tm_475 tm_477 tm_16 tm_25 tm_478) rfl rfl rfl (by decide +kernel) ⟨Nat.le_of_ble_eq_true rfl, Nat.le_of_ble_eq_true rfl⟩) (m_in (locs := []) hK hM) rfl rfl hl.1 rfl (lv_room (Nat.le_of_ble_eq_true rfl)) md_M_operateReal_100 ⟨Nat.zero_le _, Nat.zero_le _⟩) hM hS hA (fun r_29 u_31 H_32 L_33 e_30 hM hS => ?_)
      exact W.lret (v := r_29) hx hb hr (fun t ht2 _ => ⟨⟨r_29, u_31, rfl, trivial, by show MWd D cL h0 q0 A _ t.heap; rw [ht2]; exact hM⟩, hS.F ht2⟩) hS.2.2 md_M_operateReal_103
    by_cases k_34 : p1 = 3
    · refine lv_tableIn (off := 79) (tgt := 104) hx hb md_M_operateReal_25 (by rw [k_34]; decide) (by rw [k_34]; decide) (by rw [k_34]; rfl) (by decide) ?_
      refine lv_aload_n hx hb md_M_operateReal_104 rfl (lv_at hl 1 rfl) ?_
      refine lv_iload_n hx hb md_M_operateReal_105 rfl (lv_at hl 2 rfl) ?_
      refine lv_lload_n hx hb md_M_operateReal_106 rfl (lv_at hl 4 rfl) ?_
      refine lv_lload hx hb md_M_operateReal_107 (lv_at hl 5 rfl) ?_
      refine m_calll (va_runV (C := "NumberProbeModel") (As := [.int p0, .long p2, .long p3]) (rest := []) ⟨hx, hb, hml, hown, hts⟩ (mt_M_divide l D cL h0 q0 _ u p0 p2 p3) (cwV 3 hts (gd_V tm_483 tm_485 tm_18 tm_25 tm_486) rfl rfl rfl (by decide +kernel) ⟨Nat.le_of_ble_eq_true rfl, Nat.le_of_ble_eq_true rfl⟩) (m_in (locs := []) hK hM) rfl rfl hl.1 rfl (lv_room (Nat.le_of_ble_eq_true rfl)) md_M_operateReal_109 ⟨Nat.zero_le _, Nat.zero_le _⟩) hM hS hA (fun r_35 u_37 H_38 L_39 e_36 hM hS => ?_)
      exact W.lret (v := r_35) hx hb hr (fun t ht2 _ => ⟨⟨r_35, u_37, rfl, trivial, by show MWd D cL h0 q0 A _ t.heap; rw [ht2]; exact hM⟩, hS.F ht2⟩) hS.2.2 md_M_operateReal_112
    by_cases k_40 : p1 = 4
    · refine lv_tableIn (off := 88) (tgt := 113) hx hb md_M_operateReal_25 (by rw [k_40]; decide) (by rw [k_40]; decide) (by rw [k_40]; rfl) (by decide) ?_
      refine lv_aload_n hx hb md_M_operateReal_113 rfl (lv_at hl 1 rfl) ?_
      refine lv_iload_n hx hb md_M_operateReal_114 rfl (lv_at hl 2 rfl) ?_
      refine lv_lload_n hx hb md_M_operateReal_115 rfl (lv_at hl 4 rfl) ?_
      refine lv_lload hx hb md_M_operateReal_116 (lv_at hl 5 rfl) ?_
      refine m_calll (va_runV (C := "NumberProbeModel") (As := [.int p0, .long p2, .long p3]) (rest := []) ⟨hx, hb, hml, hown, hts⟩ (mt_M_remainder l D cL h0 q0 _ u p0 p2 p3) (cwV 3 hts (gd_V tm_487 tm_489 tm_19 tm_25 tm_490) rfl rfl rfl (by decide +kernel) ⟨Nat.le_of_ble_eq_true rfl, Nat.le_of_ble_eq_true rfl⟩) (m_in (locs := []) hK hM) rfl rfl hl.1 rfl (lv_room (Nat.le_of_ble_eq_true rfl)) md_M_operateReal_118 ⟨Nat.zero_le _, Nat.zero_le _⟩) hM hS hA (fun r_41 u_43 H_44 L_45 e_42 hM hS => ?_)
      exact W.lret (v := r_41) hx hb hr (fun t ht2 _ => ⟨⟨r_41, u_43, rfl, trivial, by show MWd D cL h0 q0 A _ t.heap; rw [ht2]; exact hM⟩, hS.F ht2⟩) hS.2.2 md_M_operateReal_121
    by_cases k_46 : p1 = 5
    · refine lv_tableIn (off := 97) (tgt := 122) hx hb md_M_operateReal_25 (by rw [k_46]; decide) (by rw [k_46]; decide) (by rw [k_46]; rfl) (by decide) ?_
      refine lv_iload hx hb md_M_operateReal_122 (lv_at hl 0 rfl) ?_
      have J_57 : ∀ (z_58 : Int64) (ls : Array Slot), lv_has ls 8 [(7, .int (jb z_10)), (0, .ref h0), (1, .int p0), (2, .int p1), (3, .long p2), (5, .long p3)] → W p l e (headSpec mw_M_operateReal ({ frames := 5, cells := 0, slots := 0, locals := 127 } : Room)).room s m ([.ref h0, .int p0, .int p1, .long p2, .long p3] : List Value).toArray below meth c s.heap [] 0 0 (MQ below (MQl D cL h0 q0 A (fun (r : Int64) (v : MT) => True)) ([.ref h0, .int p0, .int p1, .long p2, .long p3] : List Value).toArray s 0 0 A) (F0 m 155 ls [.long z_58]) := by
        intro z_58 ls hl
        exact W.lret (v := z_58) hx hb hr (fun t ht2 _ => ⟨⟨z_58, u, rfl, trivial, by show MWd D cL h0 q0 A _ t.heap; rw [ht2]; exact hM⟩, hS.F ht2⟩) hS.2.2 md_M_operateReal_155
      refine lv_if_eq (tgt := 134) hx hb md_M_operateReal_124 (by decide) (fun c_47 => ?_) (fun c_47 => ?_)
      · refine lv_iload_n hx hb md_M_operateReal_134 rfl (lv_at hl 2 rfl) ?_
        refine lv_lload_n hx hb md_M_operateReal_135 rfl (lv_at hl 4 rfl) ?_
        refine vp_callSl (W.runS (As := [.int p0, .long p2]) (rest := []) ⟨hx, hb, hml, hown, hts⟩ (mt_M_place l p0 p2) (va_cwS 2 hts (gd_S tm_491 tm_492 tm_25 tm_493) rfl rfl rfl (by decide +kernel) ⟨Nat.le_of_ble_eq_true rfl, Nat.le_of_ble_eq_true rfl⟩) ⟨fb_0, fun U hU hW => ⟨rfl, trivial⟩⟩ rfl rfl hl.1 rfl (lv_room (Nat.le_of_ble_eq_true rfl)) md_M_operateReal_136 ⟨Nat.zero_le _, Nat.zero_le _⟩) (fun r_59 e_60 => ?_)
        obtain rfl : r_59 = rf_pla p0 p2 := e_60
        refine lv_iload_n hx hb md_M_operateReal_139 rfl (lv_at hl 2 rfl) ?_
        refine lv_lload hx hb md_M_operateReal_140 (lv_at hl 5 rfl) ?_
        refine vp_callSl (W.runS (As := [.int p0, .long p3]) (rest := [.long (rf_pla p0 p2)]) ⟨hx, hb, hml, hown, hts⟩ (mt_M_place l p0 p3) (va_cwS 2 hts (gd_S tm_491 tm_492 tm_25 tm_493) rfl rfl rfl (by decide +kernel) ⟨Nat.le_of_ble_eq_true rfl, Nat.le_of_ble_eq_true rfl⟩) ⟨fb_0, fun U hU hW => ⟨rfl, trivial⟩⟩ rfl rfl hl.1 rfl (lv_room (Nat.le_of_ble_eq_true rfl)) md_M_operateReal_142 ⟨Nat.zero_le _, Nat.zero_le _⟩) (fun r_61 e_62 => ?_)
        obtain rfl : r_61 = rf_pla p0 p3 := e_62
        refine W.lcmp hx hb md_M_operateReal_145 ?_
        have J_64 : ∀ (z_65 : Int64) (ls : Array Slot), lv_has ls 8 [(7, .int (jb z_10)), (0, .ref h0), (1, .int p0), (2, .int p1), (3, .long p2), (5, .long p3)] → W p l e (headSpec mw_M_operateReal ({ frames := 5, cells := 0, slots := 0, locals := 127 } : Room)).room s m ([.ref h0, .int p0, .int p1, .long p2, .long p3] : List Value).toArray below meth c s.heap [] 0 0 (MQ below (MQl D cL h0 q0 A (fun (r : Int64) (v : MT) => True)) ([.ref h0, .int p0, .int p1, .long p2, .long p3] : List Value).toArray s 0 0 A) (F0 m 155 ls [.long z_65]) := by
          intro z_65 ls hl
          exact J_57 z_65 ls (lv_sub hl [0, 1, 2, 3, 4, 5] rfl)
        refine lv_if_gt (tgt := 153) hx hb md_M_operateReal_146 (by decide) (fun c_63 => ?_) (fun c_63 => ?_)
        · refine lv_lload hx hb md_M_operateReal_153 (lv_at hl 5 rfl) ?_
          exact J_64 p3 ls (lv_sub hl [0, 1, 2, 3, 4, 5] rfl)
        · refine lv_lload_n hx hb md_M_operateReal_149 rfl (lv_at hl 4 rfl) ?_
          refine lv_goto (tgt := 155) hx hb md_M_operateReal_150 (by decide) ?_
          exact J_64 p2 ls (lv_sub hl [0, 1, 2, 3, 4, 5] rfl)
      · refine lv_iload_n hx hb md_M_operateReal_127 rfl (lv_at hl 2 rfl) ?_
        refine vp_callSl (W.runS (As := [.int p0]) (rest := []) ⟨hx, hb, hml, hown, hts⟩ (mt_M_nan l p0) (va_cwS 1 hts (gd_S tm_382 tm_383 tm_25 tm_384) rfl rfl rfl (by decide +kernel) ⟨Nat.le_of_ble_eq_true rfl, Nat.le_of_ble_eq_true rfl⟩) ⟨fb_0, fun U hU hW => ⟨rfl, trivial⟩⟩ rfl rfl hl.1 rfl (lv_room (Nat.le_of_ble_eq_true rfl)) md_M_operateReal_128 ⟨Nat.zero_le _, Nat.zero_le _⟩) (fun r_66 e_67 => ?_)
        obtain rfl : r_66 = rf_na p0 := e_67
        refine lv_goto (tgt := 155) hx hb md_M_operateReal_131 (by decide) ?_
        exact J_57 (rf_na p0) ls (lv_sub hl [0, 1, 2, 3, 4, 5] rfl)
    by_cases k_68 : p1 = 6
    · refine lv_tableIn (off := 131) (tgt := 156) hx hb md_M_operateReal_25 (by rw [k_68]; decide) (by rw [k_68]; decide) (by rw [k_68]; rfl) (by decide) ?_
      refine lv_iload hx hb md_M_operateReal_156 (lv_at hl 0 rfl) ?_
      have J_79 : ∀ (z_80 : Int64) (ls : Array Slot), lv_has ls 8 [(7, .int (jb z_10)), (0, .ref h0), (1, .int p0), (2, .int p1), (3, .long p2), (5, .long p3)] → W p l e (headSpec mw_M_operateReal ({ frames := 5, cells := 0, slots := 0, locals := 127 } : Room)).room s m ([.ref h0, .int p0, .int p1, .long p2, .long p3] : List Value).toArray below meth c s.heap [] 0 0 (MQ below (MQl D cL h0 q0 A (fun (r : Int64) (v : MT) => True)) ([.ref h0, .int p0, .int p1, .long p2, .long p3] : List Value).toArray s 0 0 A) (F0 m 189 ls [.long z_80]) := by
        intro z_80 ls hl
        exact W.lret (v := z_80) hx hb hr (fun t ht2 _ => ⟨⟨z_80, u, rfl, trivial, by show MWd D cL h0 q0 A _ t.heap; rw [ht2]; exact hM⟩, hS.F ht2⟩) hS.2.2 md_M_operateReal_189
      refine lv_if_eq (tgt := 168) hx hb md_M_operateReal_158 (by decide) (fun c_69 => ?_) (fun c_69 => ?_)
      · refine lv_iload_n hx hb md_M_operateReal_168 rfl (lv_at hl 2 rfl) ?_
        refine lv_lload_n hx hb md_M_operateReal_169 rfl (lv_at hl 4 rfl) ?_
        refine vp_callSl (W.runS (As := [.int p0, .long p2]) (rest := []) ⟨hx, hb, hml, hown, hts⟩ (mt_M_place l p0 p2) (va_cwS 2 hts (gd_S tm_491 tm_492 tm_25 tm_493) rfl rfl rfl (by decide +kernel) ⟨Nat.le_of_ble_eq_true rfl, Nat.le_of_ble_eq_true rfl⟩) ⟨fb_0, fun U hU hW => ⟨rfl, trivial⟩⟩ rfl rfl hl.1 rfl (lv_room (Nat.le_of_ble_eq_true rfl)) md_M_operateReal_170 ⟨Nat.zero_le _, Nat.zero_le _⟩) (fun r_81 e_82 => ?_)
        obtain rfl : r_81 = rf_pla p0 p2 := e_82
        refine lv_iload_n hx hb md_M_operateReal_173 rfl (lv_at hl 2 rfl) ?_
        refine lv_lload hx hb md_M_operateReal_174 (lv_at hl 5 rfl) ?_
        refine vp_callSl (W.runS (As := [.int p0, .long p3]) (rest := [.long (rf_pla p0 p2)]) ⟨hx, hb, hml, hown, hts⟩ (mt_M_place l p0 p3) (va_cwS 2 hts (gd_S tm_491 tm_492 tm_25 tm_493) rfl rfl rfl (by decide +kernel) ⟨Nat.le_of_ble_eq_true rfl, Nat.le_of_ble_eq_true rfl⟩) ⟨fb_0, fun U hU hW => ⟨rfl, trivial⟩⟩ rfl rfl hl.1 rfl (lv_room (Nat.le_of_ble_eq_true rfl)) md_M_operateReal_176 ⟨Nat.zero_le _, Nat.zero_le _⟩) (fun r_83 e_84 => ?_)
        obtain rfl : r_83 = rf_pla p0 p3 := e_84
        refine W.lcmp hx hb md_M_operateReal_179 ?_
        have J_86 : ∀ (z_87 : Int64) (ls : Array Slot), lv_has ls 8 [(7, .int (jb z_10)), (0, .ref h0), (1, .int p0), (2, .int p1), (3, .long p2), (5, .long p3)] → W p l e (headSpec mw_M_operateReal ({ frames := 5, cells := 0, slots := 0, locals := 127 } : Room)).room s m ([.ref h0, .int p0, .int p1, .long p2, .long p3] : List Value).toArray below meth c s.heap [] 0 0 (MQ below (MQl D cL h0 q0 A (fun (r : Int64) (v : MT) => True)) ([.ref h0, .int p0, .int p1, .long p2, .long p3] : List Value).toArray s 0 0 A) (F0 m 189 ls [.long z_87]) := by
          intro z_87 ls hl
          exact J_79 z_87 ls (lv_sub hl [0, 1, 2, 3, 4, 5] rfl)
        refine lv_if_lt (tgt := 187) hx hb md_M_operateReal_180 (by decide) (fun c_85 => ?_) (fun c_85 => ?_)
        · refine lv_lload hx hb md_M_operateReal_187 (lv_at hl 5 rfl) ?_
          exact J_86 p3 ls (lv_sub hl [0, 1, 2, 3, 4, 5] rfl)
        · refine lv_lload_n hx hb md_M_operateReal_183 rfl (lv_at hl 4 rfl) ?_
          refine lv_goto (tgt := 189) hx hb md_M_operateReal_184 (by decide) ?_
          exact J_86 p2 ls (lv_sub hl [0, 1, 2, 3, 4, 5] rfl)
      · refine lv_iload_n hx hb md_M_operateReal_161 rfl (lv_at hl 2 rfl) ?_
        refine vp_callSl (W.runS (As := [.int p0]) (rest := []) ⟨hx, hb, hml, hown, hts⟩ (mt_M_nan l p0) (va_cwS 1 hts (gd_S tm_382 tm_383 tm_25 tm_384) rfl rfl rfl (by decide +kernel) ⟨Nat.le_of_ble_eq_true rfl, Nat.le_of_ble_eq_true rfl⟩) ⟨fb_0, fun U hU hW => ⟨rfl, trivial⟩⟩ rfl rfl hl.1 rfl (lv_room (Nat.le_of_ble_eq_true rfl)) md_M_operateReal_162 ⟨Nat.zero_le _, Nat.zero_le _⟩) (fun r_88 e_89 => ?_)
        obtain rfl : r_88 = rf_na p0 := e_89
        refine lv_goto (tgt := 189) hx hb md_M_operateReal_165 (by decide) ?_
        exact J_79 (rf_na p0) ls (lv_sub hl [0, 1, 2, 3, 4, 5] rfl)
    by_cases k_90 : p1 = 7
    · refine lv_tableIn (off := 165) (tgt := 190) hx hb md_M_operateReal_25 (by rw [k_90]; decide) (by rw [k_90]; decide) (by rw [k_90]; rfl) (by decide) ?_
      refine lv_aload_n hx hb md_M_operateReal_190 rfl (lv_at hl 1 rfl) ?_
      refine lv_iload_n hx hb md_M_operateReal_191 rfl (lv_at hl 2 rfl) ?_
      refine lv_lload_n hx hb md_M_operateReal_192 rfl (lv_at hl 4 rfl) ?_
      refine m_calll (va_runV (C := "NumberProbeModel") (As := [.int p0, .long p2]) (rest := []) ⟨hx, hb, hml, hown, hts⟩ (mt_M_flipped l D cL h0 q0 _ u p0 p2) (cwV 2 hts (gd_V tm_471 tm_473 tm_15 tm_25 tm_474) rfl rfl rfl (by decide +kernel) ⟨Nat.le_of_ble_eq_true rfl, Nat.le_of_ble_eq_true rfl⟩) (m_in (locs := []) hK hM) rfl rfl hl.1 rfl (lv_room (Nat.le_of_ble_eq_true rfl)) md_M_operateReal_193 ⟨Nat.zero_le _, Nat.zero_le _⟩) hM hS hA (fun r_91 u_93 H_94 L_95 e_92 hM hS => ?_)
      exact W.lret (v := r_91) hx hb hr (fun t ht2 _ => ⟨⟨r_91, u_93, rfl, trivial, by show MWd D cL h0 q0 A _ t.heap; rw [ht2]; exact hM⟩, hS.F ht2⟩) hS.2.2 md_M_operateReal_196
    refine lv_tableOut (tgt := 197) hx hb md_M_operateReal_25 (by have := lv_neT k_11 (a := 0) rfl; have := lv_neT k_17 (a := 1) rfl; have := lv_neT k_28 (a := 2) rfl; have := lv_neT k_34 (a := 3) rfl; have := lv_neT k_40 (a := 4) rfl; have := lv_neT k_46 (a := 5) rfl; have := lv_neT k_68 (a := 6) rfl; have := lv_neT k_90 (a := 7) rfl; omega) (by decide) ?_
    refine lv_iload_n hx hb md_M_operateReal_197 rfl (lv_at hl 2 rfl) ?_
    refine lv_lload_n hx hb md_M_operateReal_198 rfl (lv_at hl 4 rfl) ?_
    refine vp_callSi (W.runS (As := [.int p0, .long p2]) (rest := []) ⟨hx, hb, hml, hown, hts⟩ (mt_M_isNan l p0 p2) (va_cwS 2 hts (gd_S tm_366 tm_367 tm_25 tm_368) rfl rfl rfl (by decide +kernel) ⟨Nat.le_of_ble_eq_true rfl, Nat.le_of_ble_eq_true rfl⟩) ⟨fb_0, fun U hU hW => ⟨rfl, trivial⟩⟩ rfl rfl hl.1 rfl (lv_room (Nat.le_of_ble_eq_true rfl)) md_M_operateReal_199 ⟨Nat.zero_le _, Nat.zero_le _⟩) (fun r_96 e_97 => ?_)
    obtain rfl : r_96 = jb (rf_isN p0 p2) := e_97
    have J_101 : ∀ (z_102 : Int64) (ls : Array Slot), lv_has ls 8 [(7, .int (jb z_10)), (0, .ref h0), (1, .int p0), (2, .int p1), (3, .long p2), (5, .long p3)] → W p l e (headSpec mw_M_operateReal ({ frames := 5, cells := 0, slots := 0, locals := 127 } : Room)).room s m ([.ref h0, .int p0, .int p1, .long p2, .long p3] : List Value).toArray below meth c s.heap [] 0 0 (MQ below (MQl D cL h0 q0 A (fun (r : Int64) (v : MT) => True)) ([.ref h0, .int p0, .int p1, .long p2, .long p3] : List Value).toArray s 0 0 A) (F0 m 214 ls [.long z_102]) := by
      intro z_102 ls hl
      exact W.lret (v := z_102) hx hb hr (fun t ht2 _ => ⟨⟨z_102, u, rfl, trivial, by show MWd D cL h0 q0 A _ t.heap; rw [ht2]; exact hM⟩, hS.F ht2⟩) hS.2.2 md_M_operateReal_214
    refine lv_if_eq (tgt := 209) hx hb md_M_operateReal_202 (by decide) (fun c_98 => ?_) (fun c_98 => ?_)
    · refine lv_iload_n hx hb md_M_operateReal_209 rfl (lv_at hl 2 rfl) ?_
      refine lv_lload_n hx hb md_M_operateReal_210 rfl (lv_at hl 4 rfl) ?_
      refine vp_callSl (W.runS (As := [.int p0, .long p2]) (rest := []) ⟨hx, hb, hml, hown, hts⟩ (mt_M_size l p0 p2) (va_cwS 2 hts (gd_S tm_369 tm_370 tm_25 tm_371) rfl rfl rfl (by decide +kernel) ⟨Nat.le_of_ble_eq_true rfl, Nat.le_of_ble_eq_true rfl⟩) ⟨fb_0, fun U hU hW => ⟨rfl, trivial⟩⟩ rfl rfl hl.1 rfl (lv_room (Nat.le_of_ble_eq_true rfl)) md_M_operateReal_211 ⟨Nat.zero_le _, Nat.zero_le _⟩) (fun r_103 e_104 => ?_)
      obtain rfl : r_103 = rf_siz p0 p2 := e_104
      exact J_101 (rf_siz p0 p2) ls (lv_sub hl [0, 1, 2, 3, 4, 5] rfl)
    · refine lv_lload_n hx hb md_M_operateReal_205 rfl (lv_at hl 4 rfl) ?_
      refine lv_goto (tgt := 214) hx hb md_M_operateReal_206 (by decide) ?_
      exact J_101 p2 ls (lv_sub hl [0, 1, 2, 3, 4, 5] rfl)
  refine lv_if_ne (tgt := 17) hx hb md_M_operateReal_5 (by decide) (fun c_3 => ?_) (fun c_3 => ?_)
  · refine lv_iconst (v := 1) hx hb md_M_operateReal_17 (by decide) ?_
    refine lv_goto (tgt := 22) hx hb md_M_operateReal_18 (by decide) ?_
    exact J_9 true ls (lv_sub hl [0, 1, 2, 3, 4] rfl)
  · refine lv_iload_n hx hb md_M_operateReal_8 rfl (lv_at hl 1 rfl) ?_
    refine lv_lload hx hb md_M_operateReal_9 (lv_at hl 4 rfl) ?_
    refine vp_callSi (W.runS (As := [.int p0, .long p3]) (rest := []) ⟨hx, hb, hml, hown, hts⟩ (mt_M_isNan l p0 p3) (va_cwS 2 hts (gd_S tm_366 tm_367 tm_25 tm_368) rfl rfl rfl (by decide +kernel) ⟨Nat.le_of_ble_eq_true rfl, Nat.le_of_ble_eq_true rfl⟩) ⟨fb_0, fun U hU hW => ⟨rfl, trivial⟩⟩ rfl rfl hl.1 rfl (lv_room (Nat.le_of_ble_eq_true rfl)) md_M_operateReal_11 ⟨Nat.zero_le _, Nat.zero_le _⟩) (fun r_105 e_106 => ?_)
    obtain rfl : r_105 = jb (rf_isN p0 p3) := e_106
    have J_108 : ∀ (z_109 : Bool) (ls : Array Slot), lv_has ls 8 [(0, .ref h0), (1, .int p0), (2, .int p1), (3, .long p2), (5, .long p3)] → W p l e (headSpec mw_M_operateReal ({ frames := 5, cells := 0, slots := 0, locals := 127 } : Room)).room s m ([.ref h0, .int p0, .int p1, .long p2, .long p3] : List Value).toArray below meth c s.heap [] 0 0 (MQ below (MQl D cL h0 q0 A (fun (r : Int64) (v : MT) => True)) ([.ref h0, .int p0, .int p1, .long p2, .long p3] : List Value).toArray s 0 0 A) (F0 m 22 ls [.int (jb z_109)]) := by
      intro z_109 ls hl
      exact J_9 z_109 ls (lv_sub hl [0, 1, 2, 3, 4] rfl)
    refine lv_if_eq (tgt := 21) hx hb md_M_operateReal_14 (by decide) (fun c_107 => ?_) (fun c_107 => ?_)
    · refine lv_iconst (v := 0) hx hb md_M_operateReal_21 (by decide) ?_
      exact J_108 false ls (lv_sub hl [0, 1, 2, 3, 4] rfl)
    · refine lv_iconst (v := 1) hx hb md_M_operateReal_17 (by decide) ?_
      refine lv_goto (tgt := 22) hx hb md_M_operateReal_18 (by decide) ?_
      exact J_108 true ls (lv_sub hl [0, 1, 2, 3, 4] rfl)
set_option maxHeartbeats 4000000 in
set_option maxRecDepth 100000 in
theorem mt_M_toWhole (l : Launch) (D : va_G) (cL : ClassId) (h0 q0 sz : Nat) (u : MT) (p0 : Int32) (p1 : Int64) : Met l my_M_toWhole mw_M_toWhole ({ frames := 4, cells := 0, slots := 0, locals := 91 } : Room) (MPc D cL h0 q0 sz u [.int p0, .long p1]) (MQl D cL h0 q0 (MA h0 q0 cL u sz) (fun (r : Int64) (v : MT) => True)) 0 0 (MA h0 q0 cL u sz) := by
  refine Met.ofW (cc := mc_M_toWhole) (maxL := 6) (ret := (some .long)) (by decide) rfl ?_
  intro p e s m args below meth c s₁ B hml hv
  obtain ⟨rfl, hsz, hP, hK, hD0⟩ := hv
  have hx := B.exec
  have hb := B.bytes
  have hr := B.returns
  have hts := atoms_spec (ws := mw_M_toWhole) B.pre
  have ht : ∀ w ∈ gw_tbl, w.before _ s = true := fun w h => hts w (List.mem_cons_of_mem _ h)
  have hown : s.vm.findClass "NumberProbeModel" = some m.cls := findClass_of_methodNamed B.named
  have hlocks := B.notSynchronized
  subst hsz
  have hD : va_D (MA h0 q0 cL u s.heap.size) (mWs h0 q0 cL u) := hD0.self (sz := s.heap.size)
  generalize hAe : MA h0 q0 cL u s.heap.size = A at hD ⊢
  have hA : ∀ q : Nat, s.heap.size ≤ q → A q := fun q h => by rw [← hAe]; exact Or.inr h
  have hS : va_S A s.heap s.heap [] := va_S.rf
  have hM : MWd D cL h0 q0 A u s.heap := ⟨hP, hD⟩
  have hl := lv_entry ([.ref h0, .int p0, .long p1]) (n := 6) (Nat.le_of_ble_eq_true rfl)
  rw [lg_entry_eq]
  generalize (lg_sl ([.ref h0, .int p0, .long p1]) ++ List.replicate (6 - (lg_sl ([.ref h0, .int p0, .long p1])).length) Slot.unset).toArray = ls at hl ⊢
  have hl : lv_has ls 6 [(0, .ref h0), (1, .int p0), (2, .long p1)] := hl
  refine lv_aload_n hx hb md_M_toWhole_0 rfl (lv_at hl 0 rfl) ?_
  refine lv_iload_n hx hb md_M_toWhole_1 rfl (lv_at hl 1 rfl) ?_
  refine lv_lload_n hx hb md_M_toWhole_2 rfl (lv_at hl 2 rfl) ?_
  refine m_callv (va_runV (C := "NumberProbeModel") (As := [.int p0, .long p1]) (rest := []) ⟨hx, hb, hml, hown, hts⟩ (mt_M_takeX l D cL h0 q0 _ u p0 p1) (cwV 2 hts (gd_V tm_451 tm_453 tm_13 tm_25 tm_454) rfl rfl rfl (by decide +kernel) ⟨Nat.le_of_ble_eq_true rfl, Nat.le_of_ble_eq_true rfl⟩) (m_in (locs := []) hK hM) rfl rfl hl.1 rfl (lv_room (Nat.le_of_ble_eq_true rfl)) md_M_toWhole_3 ⟨Nat.zero_le _, Nat.zero_le _⟩) hM hS hA (fun u_3 H_4 L_5 e_2 hM hS => ?_)
  obtain rfl : u_3 = mtX p0 p1 u := e_2
  refine lv_aload_n hx hb md_M_toWhole_6 rfl (lv_at hl 0 rfl) ?_
  refine va_get (D := D) (ci := 1) (v := .int (jb (rf_isN p0 p1))) (C := "NumberProbeModel") (T := TM) (N := 12) hx hb ht inM hown hK hM.1 0 rfl rfl 3 (by decide) (ht _ tm_321) (fun _ h9 => h9) rfl md_M_toWhole_7 ?_
  refine lv_if_eq (tgt := 15) hx hb md_M_toWhole_10 (by decide) (fun c_6 => ?_) (fun c_6 => ?_)
  · refine lv_aload_n hx hb md_M_toWhole_15 rfl (lv_at hl 0 rfl) ?_
    refine va_get (D := D) (ci := 1) (v := .int (jb (rf_isI p0 p1))) (C := "NumberProbeModel") (T := TM) (N := 12) hx hb ht inM hown hK hM.1 0 rfl rfl 5 (by decide) (ht _ tm_323) (fun _ h9 => h9) rfl md_M_toWhole_16 ?_
    refine lv_if_ne (tgt := 39) hx hb md_M_toWhole_19 (by decide) (fun c_7 => ?_) (fun c_7 => ?_)
    · refine lv_aload_n hx hb md_M_toWhole_39 rfl (lv_at hl 0 rfl) ?_
      refine va_get (D := D) (ci := 1) (v := .int (jb (rf_isS p0 p1))) (C := "NumberProbeModel") (T := TM) (N := 12) hx hb ht inM hown hK hM.1 0 rfl rfl 1 (by decide) (ht _ tm_319) (fun _ h9 => h9) rfl md_M_toWhole_40 ?_
      have J_9 : ∀ (z_10 : Int64) (ls : Array Slot), lv_has ls 6 [(0, .ref h0), (1, .int p0), (2, .long p1)] → W p l e (headSpec mw_M_toWhole ({ frames := 4, cells := 0, slots := 0, locals := 91 } : Room)).room s m ([.ref h0, .int p0, .long p1] : List Value).toArray below meth c H_4 L_5 0 0 (MQ below (MQl D cL h0 q0 A (fun (r : Int64) (v : MT) => True)) ([.ref h0, .int p0, .long p1] : List Value).toArray s 0 0 A) (F0 m 55 ls [.long z_10]) := by
        intro z_10 ls hl
        exact W.lret (v := z_10) hx hb hr (fun t ht2 _ => ⟨⟨z_10, mtX p0 p1 u, rfl, trivial, by show MWd D cL h0 q0 A _ t.heap; rw [ht2]; exact hM⟩, hS.F ht2⟩) hS.2.2 md_M_toWhole_55
      refine lv_if_eq (tgt := 52) hx hb md_M_toWhole_43 (by decide) (fun c_8 => ?_) (fun c_8 => ?_)
      · refine lv_ldc2 (v := 9223372036854775807) hx hb hown (ht _ tm_417) md_M_toWhole_52 ?_
        exact J_9 9223372036854775807 ls (lv_sub hl [0, 1, 2] rfl)
      · refine lv_ldc2 (v := (-9223372036854775808)) hx hb hown (ht _ tm_376) md_M_toWhole_46 ?_
        refine lv_goto (tgt := 55) hx hb md_M_toWhole_49 (by decide) ?_
        exact J_9 (-9223372036854775808) ls (lv_sub hl [0, 1, 2] rfl)
    · refine lv_aload_n hx hb md_M_toWhole_22 rfl (lv_at hl 0 rfl) ?_
      refine va_get (D := D) (ci := 1) (v := .int (rf_pow p0 p1)) (C := "NumberProbeModel") (T := TM) (N := 12) hx hb ht inM hown hK hM.1 0 rfl rfl 9 (by decide) (ht _ tm_327) (fun _ h9 => h9) rfl md_M_toWhole_23 ?_
      refine lv_aload_n hx hb md_M_toWhole_26 rfl (lv_at hl 0 rfl) ?_
      refine va_get (D := D) (ci := 1) (v := .long (rf_man p0 p1)) (C := "NumberProbeModel") (T := TM) (N := 12) hx hb ht inM hown hK hM.1 0 rfl rfl 7 (by decide) (ht _ tm_325) (fun _ h9 => h9) rfl md_M_toWhole_27 ?_
      refine vp_callSi (W.runS (As := [.long (rf_man p0 p1)]) (rest := [.int (rf_pow p0 p1)]) ⟨hx, hb, hml, hown, hts⟩ (mt_M_length l (rf_man p0 p1)) (va_cwS 1 hts (gd_S tm_404 tm_405 tm_25 tm_406) rfl rfl rfl (by decide +kernel) ⟨Nat.le_of_ble_eq_true rfl, Nat.le_of_ble_eq_true rfl⟩) ⟨fb_0, fun U hU hW => ⟨rfl, trivial⟩⟩ rfl rfl hl.1 rfl (lv_room (Nat.le_of_ble_eq_true rfl)) md_M_toWhole_30 ⟨Nat.zero_le _, Nat.zero_le _⟩) (fun r_11 e_12 => ?_)
      refine lv_iadd hx hb md_M_toWhole_33 ?_
      refine lv_bipush (v := 63) hx hb md_M_toWhole_34 (by decide) ?_
      refine lv_icmp_le (tgt := 56) hx hb md_M_toWhole_36 (by decide) (fun c_13 => ?_) (fun c_13 => ?_)
      · refine lv_aload_n hx hb md_M_toWhole_56 rfl (lv_at hl 0 rfl) ?_
        refine va_get (D := D) (ci := 1) (v := .int (rf_pow p0 p1)) (C := "NumberProbeModel") (T := TM) (N := 12) hx hb ht inM hown hK hM.1 0 rfl rfl 9 (by decide) (ht _ tm_327) (fun _ h9 => h9) rfl md_M_toWhole_57 ?_
        have J_18 : ∀ (z_19 : Int64) (ls : Array Slot), lv_has ls 6 [(0, .ref h0), (1, .int p0), (2, .long p1)] → W p l e (headSpec mw_M_toWhole ({ frames := 4, cells := 0, slots := 0, locals := 91 } : Room)).room s m ([.ref h0, .int p0, .long p1] : List Value).toArray below meth c H_4 L_5 0 0 (MQ below (MQl D cL h0 q0 A (fun (r : Int64) (v : MT) => True)) ([.ref h0, .int p0, .long p1] : List Value).toArray s 0 0 A) (F0 m 98 ls [.long z_19]) := by
          intro z_19 ls hl
          refine lv_lstore (lv' := [(4, .long z_19), (0, .ref h0), (1, .int p0), (2, .long p1)]) hx hb md_M_toWhole_98 hl (by decide) rfl (fun ls hl => ?_)
          refine lv_aload_n hx hb md_M_toWhole_100 rfl (lv_at hl 1 rfl) ?_
          refine va_get (D := D) (ci := 1) (v := .int (jb (rf_isS p0 p1))) (C := "NumberProbeModel") (T := TM) (N := 12) hx hb ht inM hown hK hM.1 0 rfl rfl 1 (by decide) (ht _ tm_319) (fun _ h9 => h9) rfl md_M_toWhole_101 ?_
          have J_21 : ∀ (z_22 : Int64) (ls : Array Slot), lv_has ls 6 [(4, .long z_19), (0, .ref h0), (1, .int p0), (2, .long p1)] → W p l e (headSpec mw_M_toWhole ({ frames := 4, cells := 0, slots := 0, locals := 91 } : Room)).room s m ([.ref h0, .int p0, .long p1] : List Value).toArray below meth c H_4 L_5 0 0 (MQ below (MQl D cL h0 q0 A (fun (r : Int64) (v : MT) => True)) ([.ref h0, .int p0, .long p1] : List Value).toArray s 0 0 A) (F0 m 115 ls [.long z_22]) := by
            intro z_22 ls hl
            exact W.lret (v := z_22) hx hb hr (fun t ht2 _ => ⟨⟨z_22, mtX p0 p1 u, rfl, trivial, by show MWd D cL h0 q0 A _ t.heap; rw [ht2]; exact hM⟩, hS.F ht2⟩) hS.2.2 md_M_toWhole_115
          refine lv_if_eq (tgt := 113) hx hb md_M_toWhole_104 (by decide) (fun c_20 => ?_) (fun c_20 => ?_)
          · refine lv_lload hx hb md_M_toWhole_113 (lv_at hl 0 rfl) ?_
            exact J_21 z_19 ls (lv_sub hl [0, 1, 2, 3] rfl)
          · refine lv_lload hx hb md_M_toWhole_107 (lv_at hl 0 rfl) ?_
            refine lv_lneg hx hb md_M_toWhole_109 ?_
            refine lv_goto (tgt := 115) hx hb md_M_toWhole_110 (by decide) ?_
            exact J_21 (-z_19) ls (lv_sub hl [0, 1, 2, 3] rfl)
        refine lv_if_lt (tgt := 75) hx hb md_M_toWhole_60 (by decide) (fun c_14 => ?_) (fun c_14 => ?_)
        · refine lv_aload_n hx hb md_M_toWhole_75 rfl (lv_at hl 0 rfl) ?_
          refine va_get (D := D) (ci := 1) (v := .int (rf_pow p0 p1)) (C := "NumberProbeModel") (T := TM) (N := 12) hx hb ht inM hown hK hM.1 0 rfl rfl 9 (by decide) (ht _ tm_327) (fun _ h9 => h9) rfl md_M_toWhole_76 ?_
          refine lv_bipush (v := (-62)) hx hb md_M_toWhole_79 (by decide) ?_
          have J_24 : ∀ (z_25 : Int64) (ls : Array Slot), lv_has ls 6 [(0, .ref h0), (1, .int p0), (2, .long p1)] → W p l e (headSpec mw_M_toWhole ({ frames := 4, cells := 0, slots := 0, locals := 91 } : Room)).room s m ([.ref h0, .int p0, .long p1] : List Value).toArray below meth c H_4 L_5 0 0 (MQ below (MQl D cL h0 q0 A (fun (r : Int64) (v : MT) => True)) ([.ref h0, .int p0, .long p1] : List Value).toArray s 0 0 A) (F0 m 98 ls [.long z_25]) := by
            intro z_25 ls hl
            exact J_18 z_25 ls (lv_sub hl [0, 1, 2] rfl)
          refine lv_icmp_ge (tgt := 88) hx hb md_M_toWhole_81 (by decide) (fun c_23 => ?_) (fun c_23 => ?_)
          · refine lv_aload_n hx hb md_M_toWhole_88 rfl (lv_at hl 0 rfl) ?_
            refine va_get (D := D) (ci := 1) (v := .long (rf_man p0 p1)) (C := "NumberProbeModel") (T := TM) (N := 12) hx hb ht inM hown hK hM.1 0 rfl rfl 7 (by decide) (ht _ tm_325) (fun _ h9 => h9) rfl md_M_toWhole_89 ?_
            refine lv_aload_n hx hb md_M_toWhole_92 rfl (lv_at hl 0 rfl) ?_
            refine va_get (D := D) (ci := 1) (v := .int (rf_pow p0 p1)) (C := "NumberProbeModel") (T := TM) (N := 12) hx hb ht inM hown hK hM.1 0 rfl rfl 9 (by decide) (ht _ tm_327) (fun _ h9 => h9) rfl md_M_toWhole_93 ?_
            refine lv_ineg hx hb md_M_toWhole_96 ?_
            refine lv_lushr (v := jl_ush (rf_man p0 p1) (-(rf_pow p0 p1))) hx hb md_M_toWhole_97 rfl ?_
            exact J_24 (jl_ush (rf_man p0 p1) (-(rf_pow p0 p1))) ls (lv_sub hl [0, 1, 2] rfl)
          · refine lv_lconst (v := 0) hx hb md_M_toWhole_84 (by decide) ?_
            refine lv_goto (tgt := 98) hx hb md_M_toWhole_85 (by decide) ?_
            exact J_24 0 ls (lv_sub hl [0, 1, 2] rfl)
        · refine lv_aload_n hx hb md_M_toWhole_63 rfl (lv_at hl 0 rfl) ?_
          refine va_get (D := D) (ci := 1) (v := .long (rf_man p0 p1)) (C := "NumberProbeModel") (T := TM) (N := 12) hx hb ht inM hown hK hM.1 0 rfl rfl 7 (by decide) (ht _ tm_325) (fun _ h9 => h9) rfl md_M_toWhole_64 ?_
          refine lv_aload_n hx hb md_M_toWhole_67 rfl (lv_at hl 0 rfl) ?_
          refine va_get (D := D) (ci := 1) (v := .int (rf_pow p0 p1)) (C := "NumberProbeModel") (T := TM) (N := 12) hx hb ht inM hown hK hM.1 0 rfl rfl 9 (by decide) (ht _ tm_327) (fun _ h9 => h9) rfl md_M_toWhole_68 ?_
          refine lv_lshl (v := jl_shl (rf_man p0 p1) (rf_pow p0 p1)) hx hb md_M_toWhole_71 rfl ?_
          refine lv_goto (tgt := 98) hx hb md_M_toWhole_72 (by decide) ?_
          exact J_18 (jl_shl (rf_man p0 p1) (rf_pow p0 p1)) ls (lv_sub hl [0, 1, 2] rfl)
      · refine lv_aload_n hx hb md_M_toWhole_39 rfl (lv_at hl 0 rfl) ?_
        refine va_get (D := D) (ci := 1) (v := .int (jb (rf_isS p0 p1))) (C := "NumberProbeModel") (T := TM) (N := 12) hx hb ht inM hown hK hM.1 0 rfl rfl 1 (by decide) (ht _ tm_319) (fun _ h9 => h9) rfl md_M_toWhole_40 ?_
        have J_27 : ∀ (z_28 : Int64) (ls : Array Slot), lv_has ls 6 [(0, .ref h0), (1, .int p0), (2, .long p1)] → W p l e (headSpec mw_M_toWhole ({ frames := 4, cells := 0, slots := 0, locals := 91 } : Room)).room s m ([.ref h0, .int p0, .long p1] : List Value).toArray below meth c H_4 L_5 0 0 (MQ below (MQl D cL h0 q0 A (fun (r : Int64) (v : MT) => True)) ([.ref h0, .int p0, .long p1] : List Value).toArray s 0 0 A) (F0 m 55 ls [.long z_28]) := by
          intro z_28 ls hl
          exact W.lret (v := z_28) hx hb hr (fun t ht2 _ => ⟨⟨z_28, mtX p0 p1 u, rfl, trivial, by show MWd D cL h0 q0 A _ t.heap; rw [ht2]; exact hM⟩, hS.F ht2⟩) hS.2.2 md_M_toWhole_55
        refine lv_if_eq (tgt := 52) hx hb md_M_toWhole_43 (by decide) (fun c_26 => ?_) (fun c_26 => ?_)
        · refine lv_ldc2 (v := 9223372036854775807) hx hb hown (ht _ tm_417) md_M_toWhole_52 ?_
          exact J_27 9223372036854775807 ls (lv_sub hl [0, 1, 2] rfl)
        · refine lv_ldc2 (v := (-9223372036854775808)) hx hb hown (ht _ tm_376) md_M_toWhole_46 ?_
          refine lv_goto (tgt := 55) hx hb md_M_toWhole_49 (by decide) ?_
          exact J_27 (-9223372036854775808) ls (lv_sub hl [0, 1, 2] rfl)
  · refine lv_lconst (v := 0) hx hb md_M_toWhole_13 (by decide) ?_
    exact W.lret (v := 0) hx hb hr (fun t ht2 _ => ⟨⟨0, mtX p0 p1 u, rfl, trivial, by show MWd D cL h0 q0 A _ t.heap; rw [ht2]; exact hM⟩, hS.F ht2⟩) hS.2.2 md_M_toWhole_14
set_option maxHeartbeats 4000000 in
set_option maxRecDepth 100000 in
theorem mt_M_converted (l : Launch) (D : va_G) (cL : ClassId) (h0 q0 sz : Nat) (u : MT) (p0 : Int32) (p1 : Int64) (p2 : Int32) : Met l my_M_converted mw_M_converted ({ frames := 5, cells := 0, slots := 0, locals := 116 } : Room) (MPc D cL h0 q0 sz u [.int p0, .long p1, .int p2]) (MQl D cL h0 q0 (MA h0 q0 cL u sz) (fun (r : Int64) (v : MT) => True)) 0 0 (MA h0 q0 cL u sz) := by
  refine Met.ofW (cc := mc_M_converted) (maxL := 5) (ret := (some .long)) (by decide) rfl ?_
  intro p e s m args below meth c s₁ B hml hv
  obtain ⟨rfl, hsz, hP, hK, hD0⟩ := hv
  have hx := B.exec
  have hb := B.bytes
  have hr := B.returns
  have hts := atoms_spec (ws := mw_M_converted) B.pre
  have ht : ∀ w ∈ gw_tbl, w.before _ s = true := fun w h => hts w (List.mem_cons_of_mem _ h)
  have hown : s.vm.findClass "NumberProbeModel" = some m.cls := findClass_of_methodNamed B.named
  have hlocks := B.notSynchronized
  subst hsz
  have hD : va_D (MA h0 q0 cL u s.heap.size) (mWs h0 q0 cL u) := hD0.self (sz := s.heap.size)
  generalize hAe : MA h0 q0 cL u s.heap.size = A at hD ⊢
  have hA : ∀ q : Nat, s.heap.size ≤ q → A q := fun q h => by rw [← hAe]; exact Or.inr h
  have hS : va_S A s.heap s.heap [] := va_S.rf
  have hM : MWd D cL h0 q0 A u s.heap := ⟨hP, hD⟩
  have hl := lv_entry ([.ref h0, .int p0, .long p1, .int p2]) (n := 5) (Nat.le_of_ble_eq_true rfl)
  rw [lg_entry_eq]
  generalize (lg_sl ([.ref h0, .int p0, .long p1, .int p2]) ++ List.replicate (5 - (lg_sl ([.ref h0, .int p0, .long p1, .int p2])).length) Slot.unset).toArray = ls at hl ⊢
  have hl : lv_has ls 5 [(0, .ref h0), (1, .int p0), (2, .long p1), (4, .int p2)] := hl
  refine lv_iload_n hx hb md_M_converted_0 rfl (lv_at hl 1 rfl) ?_
  refine lv_iload hx hb md_M_converted_1 (lv_at hl 3 rfl) ?_
  refine lv_icmp_ne (tgt := 8) hx hb md_M_converted_3 (by decide) (fun c_1 => ?_) (fun c_1 => ?_)
  · refine lv_iload_n hx hb md_M_converted_8 rfl (lv_at hl 1 rfl) ?_
    refine lv_iconst (v := 1) hx hb md_M_converted_9 (by decide) ?_
    refine lv_icmp_le (tgt := 35) hx hb md_M_converted_10 (by decide) (fun c_2 => ?_) (fun c_2 => ?_)
    · refine lv_iload hx hb md_M_converted_35 (lv_at hl 3 rfl) ?_
      refine lv_iconst (v := 3) hx hb md_M_converted_37 (by decide) ?_
      refine lv_icmp_ne (tgt := 48) hx hb md_M_converted_38 (by decide) (fun c_3 => ?_) (fun c_3 => ?_)
      · refine lv_iload hx hb md_M_converted_48 (lv_at hl 3 rfl) ?_
        refine lv_iconst (v := 2) hx hb md_M_converted_50 (by decide) ?_
        refine lv_icmp_ne (tgt := 64) hx hb md_M_converted_51 (by decide) (fun c_4 => ?_) (fun c_4 => ?_)
        · refine lv_iload_n hx hb md_M_converted_64 rfl (lv_at hl 1 rfl) ?_
          refine lv_lload_n hx hb md_M_converted_65 rfl (lv_at hl 2 rfl) ?_
          refine vp_callSi (W.runS (As := [.int p0, .long p1]) (rest := []) ⟨hx, hb, hml, hown, hts⟩ (mt_M_isNan l p0 p1) (va_cwS 2 hts (gd_S tm_366 tm_367 tm_25 tm_368) rfl rfl rfl (by decide +kernel) ⟨Nat.le_of_ble_eq_true rfl, Nat.le_of_ble_eq_true rfl⟩) ⟨fb_0, fun U hU hW => ⟨rfl, trivial⟩⟩ rfl rfl hl.1 rfl (lv_room (Nat.le_of_ble_eq_true rfl)) md_M_converted_66 ⟨Nat.zero_le _, Nat.zero_le _⟩) (fun r_5 e_6 => ?_)
          obtain rfl : r_5 = jb (rf_isN p0 p1) := e_6
          refine lv_if_eq (tgt := 78) hx hb md_M_converted_69 (by decide) (fun c_7 => ?_) (fun c_7 => ?_)
          · refine lv_iload_n hx hb md_M_converted_78 rfl (lv_at hl 1 rfl) ?_
            refine lv_lload_n hx hb md_M_converted_79 rfl (lv_at hl 2 rfl) ?_
            refine vp_callSl (W.runS (As := [.int p0, .long p1]) (rest := []) ⟨hx, hb, hml, hown, hts⟩ (mt_M_size l p0 p1) (va_cwS 2 hts (gd_S tm_369 tm_370 tm_25 tm_371) rfl rfl rfl (by decide +kernel) ⟨Nat.le_of_ble_eq_true rfl, Nat.le_of_ble_eq_true rfl⟩) ⟨fb_0, fun U hU hW => ⟨rfl, trivial⟩⟩ rfl rfl hl.1 rfl (lv_room (Nat.le_of_ble_eq_true rfl)) md_M_converted_80 ⟨Nat.zero_le _, Nat.zero_le _⟩) (fun r_8 e_9 => ?_)
            obtain rfl : r_8 = rf_siz p0 p1 := e_9
            refine lv_iload_n hx hb md_M_converted_83 rfl (lv_at hl 1 rfl) ?_
            refine vp_callSl (W.runS (As := [.int p0]) (rest := [.long (rf_siz p0 p1)]) ⟨hx, hb, hml, hown, hts⟩ (mt_M_infinity l p0) (va_cwS 1 hts (gd_S tm_377 tm_378 tm_25 tm_379) rfl rfl rfl (by decide +kernel) ⟨Nat.le_of_ble_eq_true rfl, Nat.le_of_ble_eq_true rfl⟩) ⟨fb_0, fun U hU hW => ⟨rfl, trivial⟩⟩ rfl rfl hl.1 rfl (lv_room (Nat.le_of_ble_eq_true rfl)) md_M_converted_84 ⟨Nat.zero_le _, Nat.zero_le _⟩) (fun r_10 e_11 => ?_)
            obtain rfl : r_10 = rf_if p0 := e_11
            refine W.lcmp hx hb md_M_converted_87 ?_
            refine lv_if_ne (tgt := 107) hx hb md_M_converted_88 (by decide) (fun c_12 => ?_) (fun c_12 => ?_)
            · refine lv_iload hx hb md_M_converted_107 (lv_at hl 3 rfl) ?_
              refine lv_iload_n hx hb md_M_converted_109 rfl (lv_at hl 1 rfl) ?_
              refine lv_lload_n hx hb md_M_converted_110 rfl (lv_at hl 2 rfl) ?_
              refine vp_callSi (W.runS (As := [.int p0, .long p1]) (rest := [.int p2]) ⟨hx, hb, hml, hown, hts⟩ (mt_M_isSign l p0 p1) (va_cwS 2 hts (gd_S tm_455 tm_456 tm_25 tm_457) rfl rfl rfl (by decide +kernel) ⟨Nat.le_of_ble_eq_true rfl, Nat.le_of_ble_eq_true rfl⟩) ⟨fb_0, fun U hU hW => ⟨rfl, trivial⟩⟩ rfl rfl hl.1 rfl (lv_room (Nat.le_of_ble_eq_true rfl)) md_M_converted_111 ⟨Nat.zero_le _, Nat.zero_le _⟩) (fun r_13 e_14 => ?_)
              obtain rfl : r_13 = jb (rf_isS p0 p1) := e_14
              refine lv_iload_n hx hb md_M_converted_114 rfl (lv_at hl 1 rfl) ?_
              refine lv_lload_n hx hb md_M_converted_115 rfl (lv_at hl 2 rfl) ?_
              refine vp_callSl (W.runS (As := [.int p0, .long p1]) (rest := [.int (jb (rf_isS p0 p1)), .int p2]) ⟨hx, hb, hml, hown, hts⟩ (mt_M_mantissa l p0 p1) (va_cwS 2 hts (gd_S tm_458 tm_459 tm_25 tm_460) rfl rfl rfl (by decide +kernel) ⟨Nat.le_of_ble_eq_true rfl, Nat.le_of_ble_eq_true rfl⟩) ⟨fb_0, fun U hU hW => ⟨rfl, trivial⟩⟩ rfl rfl hl.1 rfl (lv_room (Nat.le_of_ble_eq_true rfl)) md_M_converted_116 ⟨Nat.zero_le _, Nat.zero_le _⟩) (fun r_15 e_16 => ?_)
              obtain rfl : r_15 = rf_man p0 p1 := e_16
              refine lv_iload_n hx hb md_M_converted_119 rfl (lv_at hl 1 rfl) ?_
              refine lv_lload_n hx hb md_M_converted_120 rfl (lv_at hl 2 rfl) ?_
              refine vp_callSi (W.runS (As := [.int p0, .long p1]) (rest := [.long (rf_man p0 p1), .int (jb (rf_isS p0 p1)), .int p2]) ⟨hx, hb, hml, hown, hts⟩ (mt_M_power l p0 p1) (va_cwS 2 hts (gd_S tm_461 tm_462 tm_25 tm_463) rfl rfl rfl (by decide +kernel) ⟨Nat.le_of_ble_eq_true rfl, Nat.le_of_ble_eq_true rfl⟩) ⟨fb_0, fun U hU hW => ⟨rfl, trivial⟩⟩ rfl rfl hl.1 rfl (lv_room (Nat.le_of_ble_eq_true rfl)) md_M_converted_121 ⟨Nat.zero_le _, Nat.zero_le _⟩) (fun r_17 e_18 => ?_)
              obtain rfl : r_17 = rf_pow p0 p1 := e_18
              refine vp_callSl (W.runS (As := [.int p2, .int (jb (rf_isS p0 p1)), .long (rf_man p0 p1), .int (rf_pow p0 p1)]) (rest := []) ⟨hx, hb, hml, hown, hts⟩ (mt_M_round l p2 (rf_isS p0 p1) (rf_man p0 p1) (rf_pow p0 p1)) (va_cwS 4 hts (gd_S tm_398 tm_399 tm_25 tm_400) rfl rfl rfl (by decide +kernel) ⟨Nat.le_of_ble_eq_true rfl, Nat.le_of_ble_eq_true rfl⟩) ⟨fb_0, fun U hU hW => ⟨rfl, trivial⟩⟩ rfl rfl hl.1 rfl (lv_room (Nat.le_of_ble_eq_true rfl)) md_M_converted_124 ⟨Nat.zero_le _, Nat.zero_le _⟩) (fun r_19 e_20 => ?_)
              exact W.lret (v := r_19) hx hb hr (fun t ht2 _ => ⟨⟨r_19, u, rfl, trivial, by show MWd D cL h0 q0 A _ t.heap; rw [ht2]; exact hM⟩, hS.F ht2⟩) hS.2.2 md_M_converted_127
            · refine lv_iload hx hb md_M_converted_91 (lv_at hl 3 rfl) ?_
              refine lv_iload_n hx hb md_M_converted_93 rfl (lv_at hl 1 rfl) ?_
              refine lv_lload_n hx hb md_M_converted_94 rfl (lv_at hl 2 rfl) ?_
              refine vp_callSi (W.runS (As := [.int p0, .long p1]) (rest := [.int p2]) ⟨hx, hb, hml, hown, hts⟩ (mt_M_isSign l p0 p1) (va_cwS 2 hts (gd_S tm_455 tm_456 tm_25 tm_457) rfl rfl rfl (by decide +kernel) ⟨Nat.le_of_ble_eq_true rfl, Nat.le_of_ble_eq_true rfl⟩) ⟨fb_0, fun U hU hW => ⟨rfl, trivial⟩⟩ rfl rfl hl.1 rfl (lv_room (Nat.le_of_ble_eq_true rfl)) md_M_converted_95 ⟨Nat.zero_le _, Nat.zero_le _⟩) (fun r_21 e_22 => ?_)
              obtain rfl : r_21 = jb (rf_isS p0 p1) := e_22
              refine lv_iload hx hb md_M_converted_98 (lv_at hl 3 rfl) ?_
              refine vp_callSl (W.runS (As := [.int p2]) (rest := [.int (jb (rf_isS p0 p1)), .int p2]) ⟨hx, hb, hml, hown, hts⟩ (mt_M_infinity l p2) (va_cwS 1 hts (gd_S tm_377 tm_378 tm_25 tm_379) rfl rfl rfl (by decide +kernel) ⟨Nat.le_of_ble_eq_true rfl, Nat.le_of_ble_eq_true rfl⟩) ⟨fb_0, fun U hU hW => ⟨rfl, trivial⟩⟩ rfl rfl hl.1 rfl (lv_room (Nat.le_of_ble_eq_true rfl)) md_M_converted_100 ⟨Nat.zero_le _, Nat.zero_le _⟩) (fun r_23 e_24 => ?_)
              obtain rfl : r_23 = rf_if p2 := e_24
              refine vp_callSl (W.runS (As := [.int p2, .int (jb (rf_isS p0 p1)), .long (rf_if p2)]) (rest := []) ⟨hx, hb, hml, hown, hts⟩ (mt_M_signed l p2 (rf_isS p0 p1) (rf_if p2)) (va_cwS 3 hts (gd_S tm_401 tm_402 tm_25 tm_403) rfl rfl rfl (by decide +kernel) ⟨Nat.le_of_ble_eq_true rfl, Nat.le_of_ble_eq_true rfl⟩) ⟨fb_0, fun U hU hW => ⟨rfl, trivial⟩⟩ rfl rfl hl.1 rfl (lv_room (Nat.le_of_ble_eq_true rfl)) md_M_converted_103 ⟨Nat.zero_le _, Nat.zero_le _⟩) (fun r_25 e_26 => ?_)
              exact W.lret (v := r_25) hx hb hr (fun t ht2 _ => ⟨⟨r_25, u, rfl, trivial, by show MWd D cL h0 q0 A _ t.heap; rw [ht2]; exact hM⟩, hS.F ht2⟩) hS.2.2 md_M_converted_106
          · refine lv_iload hx hb md_M_converted_72 (lv_at hl 3 rfl) ?_
            refine vp_callSl (W.runS (As := [.int p2]) (rest := []) ⟨hx, hb, hml, hown, hts⟩ (mt_M_nan l p2) (va_cwS 1 hts (gd_S tm_382 tm_383 tm_25 tm_384) rfl rfl rfl (by decide +kernel) ⟨Nat.le_of_ble_eq_true rfl, Nat.le_of_ble_eq_true rfl⟩) ⟨fb_0, fun U hU hW => ⟨rfl, trivial⟩⟩ rfl rfl hl.1 rfl (lv_room (Nat.le_of_ble_eq_true rfl)) md_M_converted_74 ⟨Nat.zero_le _, Nat.zero_le _⟩) (fun r_27 e_28 => ?_)
            obtain rfl : r_27 = rf_na p2 := e_28
            exact W.lret (v := rf_na p2) hx hb hr (fun t ht2 _ => ⟨⟨rf_na p2, u, rfl, trivial, by show MWd D cL h0 q0 A _ t.heap; rw [ht2]; exact hM⟩, hS.F ht2⟩) hS.2.2 md_M_converted_77
        · refine lv_aload_n hx hb md_M_converted_54 rfl (lv_at hl 0 rfl) ?_
          refine lv_iload_n hx hb md_M_converted_55 rfl (lv_at hl 1 rfl) ?_
          refine lv_lload_n hx hb md_M_converted_56 rfl (lv_at hl 2 rfl) ?_
          refine m_calll (va_runV (C := "NumberProbeModel") (As := [.int p0, .long p1]) (rest := []) ⟨hx, hb, hml, hown, hts⟩ (mt_M_toWhole l D cL h0 q0 _ u p0 p1) (cwV 2 hts (gd_V tm_508 tm_510 tm_21 tm_25 tm_511) rfl rfl rfl (by decide +kernel) ⟨Nat.le_of_ble_eq_true rfl, Nat.le_of_ble_eq_true rfl⟩) (m_in (locs := []) hK hM) rfl rfl hl.1 rfl (lv_room (Nat.le_of_ble_eq_true rfl)) md_M_converted_57 ⟨Nat.zero_le _, Nat.zero_le _⟩) hM hS hA (fun r_29 u_31 H_32 L_33 e_30 hM hS => ?_)
          refine vp_callSl (W.runS (As := [.long r_29]) (rest := []) ⟨hx, hb, hml, hown, hts⟩ (mt_M_bounded l r_29) (va_cwS 1 hts (gd_S tm_512 tm_513 tm_25 tm_514) rfl rfl rfl (by decide +kernel) ⟨Nat.le_of_ble_eq_true rfl, Nat.le_of_ble_eq_true rfl⟩) ⟨fb_0, fun U hU hW => ⟨rfl, trivial⟩⟩ rfl rfl hl.1 rfl (lv_room (Nat.le_of_ble_eq_true rfl)) md_M_converted_60 ⟨Nat.zero_le _, Nat.zero_le _⟩) (fun r_34 e_35 => ?_)
          exact W.lret (v := r_34) hx hb hr (fun t ht2 _ => ⟨⟨r_34, u_31, rfl, trivial, by show MWd D cL h0 q0 A _ t.heap; rw [ht2]; exact hM⟩, hS.F ht2⟩) hS.2.2 md_M_converted_63
      · refine lv_aload_n hx hb md_M_converted_41 rfl (lv_at hl 0 rfl) ?_
        refine lv_iload_n hx hb md_M_converted_42 rfl (lv_at hl 1 rfl) ?_
        refine lv_lload_n hx hb md_M_converted_43 rfl (lv_at hl 2 rfl) ?_
        refine m_calll (va_runV (C := "NumberProbeModel") (As := [.int p0, .long p1]) (rest := []) ⟨hx, hb, hml, hown, hts⟩ (mt_M_toWhole l D cL h0 q0 _ u p0 p1) (cwV 2 hts (gd_V tm_508 tm_510 tm_21 tm_25 tm_511) rfl rfl rfl (by decide +kernel) ⟨Nat.le_of_ble_eq_true rfl, Nat.le_of_ble_eq_true rfl⟩) (m_in (locs := []) hK hM) rfl rfl hl.1 rfl (lv_room (Nat.le_of_ble_eq_true rfl)) md_M_converted_44 ⟨Nat.zero_le _, Nat.zero_le _⟩) hM hS hA (fun r_36 u_38 H_39 L_40 e_37 hM hS => ?_)
        exact W.lret (v := r_36) hx hb hr (fun t ht2 _ => ⟨⟨r_36, u_38, rfl, trivial, by show MWd D cL h0 q0 A _ t.heap; rw [ht2]; exact hM⟩, hS.F ht2⟩) hS.2.2 md_M_converted_47
    · refine lv_iload hx hb md_M_converted_13 (lv_at hl 3 rfl) ?_
      refine lv_iconst (v := 1) hx hb md_M_converted_15 (by decide) ?_
      have J_46 : ∀ (z_47 : Int64) (ls : Array Slot), lv_has ls 5 [(0, .ref h0), (1, .int p0), (2, .long p1), (4, .int p2)] → W p l e (headSpec mw_M_converted ({ frames := 5, cells := 0, slots := 0, locals := 116 } : Room)).room s m ([.ref h0, .int p0, .long p1, .int p2] : List Value).toArray below meth c s.heap [] 0 0 (MQ below (MQl D cL h0 q0 A (fun (r : Int64) (v : MT) => True)) ([.ref h0, .int p0, .long p1, .int p2] : List Value).toArray s 0 0 A) (F0 m 34 ls [.long z_47]) := by
        intro z_47 ls hl
        exact W.lret (v := z_47) hx hb hr (fun t ht2 _ => ⟨⟨z_47, u, rfl, trivial, by show MWd D cL h0 q0 A _ t.heap; rw [ht2]; exact hM⟩, hS.F ht2⟩) hS.2.2 md_M_converted_34
      refine lv_icmp_le (tgt := 28) hx hb md_M_converted_16 (by decide) (fun c_41 => ?_) (fun c_41 => ?_)
      · refine lv_iload hx hb md_M_converted_28 (lv_at hl 3 rfl) ?_
        refine lv_lload_n hx hb md_M_converted_30 rfl (lv_at hl 2 rfl) ?_
        refine vp_callSl (W.runS (As := [.int p2, .long p1]) (rest := []) ⟨hx, hb, hml, hown, hts⟩ (mt_M_ofWhole l p2 p1) (va_cwS 2 hts (gd_S tm_394 tm_395 tm_25 tm_396) rfl rfl rfl (by decide +kernel) ⟨Nat.le_of_ble_eq_true rfl, Nat.le_of_ble_eq_true rfl⟩) ⟨fb_0, fun U hU hW => ⟨rfl, trivial⟩⟩ rfl rfl hl.1 rfl (lv_room (Nat.le_of_ble_eq_true rfl)) md_M_converted_31 ⟨Nat.zero_le _, Nat.zero_le _⟩) (fun r_48 e_49 => ?_)
        exact J_46 r_48 ls (lv_sub hl [0, 1, 2, 3] rfl)
      · refine lv_iload hx hb md_M_converted_19 (lv_at hl 3 rfl) ?_
        refine lv_lload_n hx hb md_M_converted_21 rfl (lv_at hl 2 rfl) ?_
        refine vp_callSl (W.runS (As := [.int p2, .long p1]) (rest := []) ⟨hx, hb, hml, hown, hts⟩ (mt_M_normal l p2 p1) (va_cwS 2 hts (gd_S tm_362 tm_363 tm_25 tm_364) rfl rfl rfl (by decide +kernel) ⟨Nat.le_of_ble_eq_true rfl, Nat.le_of_ble_eq_true rfl⟩) ⟨fb_0, fun U hU hW => ⟨rfl, trivial⟩⟩ rfl rfl hl.1 rfl (lv_room (Nat.le_of_ble_eq_true rfl)) md_M_converted_22 ⟨Nat.zero_le _, Nat.zero_le _⟩) (fun r_50 e_51 => ?_)
        refine lv_goto (tgt := 34) hx hb md_M_converted_25 (by decide) ?_
        exact J_46 r_50 ls (lv_sub hl [0, 1, 2, 3] rfl)
  · refine lv_lload_n hx hb md_M_converted_6 rfl (lv_at hl 2 rfl) ?_
    exact W.lret (v := p1) hx hb hr (fun t ht2 _ => ⟨⟨p1, u, rfl, trivial, by show MWd D cL h0 q0 A _ t.heap; rw [ht2]; exact hM⟩, hS.F ht2⟩) hS.2.2 md_M_converted_7
set_option maxHeartbeats 4000000 in
set_option maxRecDepth 100000 in
theorem mt_M_placeOf (l : Launch) (D : va_G) (cL : ClassId) (h0 q0 sz : Nat) (u : MT) (p0 : Int32) (p1 : Int32) (hi : rn_in p0 4 = true) (hj : rn_in p1 6 = true) : Met l my_M_placeOf mw_M_placeOf ({ frames := 4, cells := 0, slots := 0, locals := 86 } : Room) (MPc D cL h0 q0 sz u [.int p0, .int p1]) (MQl D cL h0 q0 (MA h0 q0 cL u sz) (fun (r : Int64) (v : MT) => True)) 0 0 (MA h0 q0 cL u sz) := by
  refine Met.ofW (cc := mc_M_placeOf) (maxL := 3) (ret := (some .long)) (by decide) rfl ?_
  intro p e s m args below meth c s₁ B hml hv
  obtain ⟨rfl, hsz, hP, hK, hD0⟩ := hv
  have hx := B.exec
  have hb := B.bytes
  have hr := B.returns
  have hts := atoms_spec (ws := mw_M_placeOf) B.pre
  have ht : ∀ w ∈ gw_tbl, w.before _ s = true := fun w h => hts w (List.mem_cons_of_mem _ h)
  have hown : s.vm.findClass "NumberProbeModel" = some m.cls := findClass_of_methodNamed B.named
  have hlocks := B.notSynchronized
  subst hsz
  have hD : va_D (MA h0 q0 cL u s.heap.size) (mWs h0 q0 cL u) := hD0.self (sz := s.heap.size)
  generalize hAe : MA h0 q0 cL u s.heap.size = A at hD ⊢
  have hA : ∀ q : Nat, s.heap.size ≤ q → A q := fun q h => by rw [← hAe]; exact Or.inr h
  have hS : va_S A s.heap s.heap [] := va_S.rf
  have hM : MWd D cL h0 q0 A u s.heap := ⟨hP, hD⟩
  have hl := lv_entry ([.ref h0, .int p0, .int p1]) (n := 3) (Nat.le_of_ble_eq_true rfl)
  rw [lg_entry_eq]
  generalize (lg_sl ([.ref h0, .int p0, .int p1]) ++ List.replicate (3 - (lg_sl ([.ref h0, .int p0, .int p1])).length) Slot.unset).toArray = ls at hl ⊢
  have hl : lv_has ls 3 [(0, .ref h0), (1, .int p0), (2, .int p1)] := hl
  refine lv_iload_n hx hb md_M_placeOf_0 rfl (lv_at hl 1 rfl) ?_
  refine lv_iconst (v := 2) hx hb md_M_placeOf_1 (by decide) ?_
  have J_4 : ∀ (z_5 : Int64) (ls : Array Slot), lv_has ls 3 [(0, .ref h0), (1, .int p0), (2, .int p1)] → W p l e (headSpec mw_M_placeOf ({ frames := 4, cells := 0, slots := 0, locals := 86 } : Room)).room s m ([.ref h0, .int p0, .int p1] : List Value).toArray below meth c s.heap [] 0 0 (MQ below (MQl D cL h0 q0 A (fun (r : Int64) (v : MT) => True)) ([.ref h0, .int p0, .int p1] : List Value).toArray s 0 0 A) (F0 m 34 ls [.long z_5]) := by
    intro z_5 ls hl
    exact W.lret (v := z_5) hx hb hr (fun t ht2 _ => ⟨⟨z_5, u, rfl, trivial, by show MWd D cL h0 q0 A _ t.heap; rw [ht2]; exact hM⟩, hS.F ht2⟩) hS.2.2 md_M_placeOf_34
  refine lv_icmp_ge (tgt := 23) hx hb md_M_placeOf_2 (by decide) (fun c_1 => ?_) (fun c_1 => ?_)
  · refine lv_aload_n hx hb md_M_placeOf_23 rfl (lv_at hl 0 rfl) ?_
    refine va_get (D := D) (ci := 1) (v := .ref q0) (C := "NumberProbeModel") (T := TM) (N := 12) hx hb ht inM hown hK hM.1 0 rfl rfl 0 (by decide) (ht _ tm_318) (fun _ h9 => h9) rfl md_M_placeOf_24 ?_
    refine lv_iload_n hx hb md_M_placeOf_27 rfl (lv_at hl 1 rfl) ?_
    refine lv_bipush (v := 6) hx hb md_M_placeOf_28 (by decide) ?_
    refine lv_imul hx hb md_M_placeOf_30 ?_
    refine lv_iload_n hx hb md_M_placeOf_31 rfl (lv_at hl 2 rfl) ?_
    refine lv_iadd hx hb md_M_placeOf_32 ?_
    refine va_lald (D := D) hx hb hK hM.1 1 0 rfl rfl (rn_idx hi hj) md_M_placeOf_33 ?_
    exact J_4 (u.2 ((p0 * 6) + p1).toNatClampNeg) ls (lv_sub hl [0, 1, 2] rfl)
  · refine lv_iload_n hx hb md_M_placeOf_5 rfl (lv_at hl 1 rfl) ?_
    refine lv_aload_n hx hb md_M_placeOf_6 rfl (lv_at hl 0 rfl) ?_
    refine va_get (D := D) (ci := 1) (v := .ref q0) (C := "NumberProbeModel") (T := TM) (N := 12) hx hb ht inM hown hK hM.1 0 rfl rfl 0 (by decide) (ht _ tm_318) (fun _ h9 => h9) rfl md_M_placeOf_7 ?_
    refine lv_iload_n hx hb md_M_placeOf_10 rfl (lv_at hl 1 rfl) ?_
    refine lv_bipush (v := 6) hx hb md_M_placeOf_11 (by decide) ?_
    refine lv_imul hx hb md_M_placeOf_13 ?_
    refine lv_iload_n hx hb md_M_placeOf_14 rfl (lv_at hl 2 rfl) ?_
    refine lv_iadd hx hb md_M_placeOf_15 ?_
    refine va_lald (D := D) hx hb hK hM.1 1 0 rfl rfl (rn_idx hi hj) md_M_placeOf_16 ?_
    refine vp_callSl (W.runS (As := [.int p0, .long (u.2 ((p0 * 6) + p1).toNatClampNeg)]) (rest := []) ⟨hx, hb, hml, hown, hts⟩ (mt_M_place l p0 (u.2 ((p0 * 6) + p1).toNatClampNeg)) (va_cwS 2 hts (gd_S tm_491 tm_492 tm_25 tm_493) rfl rfl rfl (by decide +kernel) ⟨Nat.le_of_ble_eq_true rfl, Nat.le_of_ble_eq_true rfl⟩) ⟨fb_0, fun U hU hW => ⟨rfl, trivial⟩⟩ rfl rfl hl.1 rfl (lv_room (Nat.le_of_ble_eq_true rfl)) md_M_placeOf_17 ⟨Nat.zero_le _, Nat.zero_le _⟩) (fun r_6 e_7 => ?_)
    obtain rfl : r_6 = rf_pla p0 (u.2 ((p0 * 6) + p1).toNatClampNeg) := e_7
    refine lv_goto (tgt := 34) hx hb md_M_placeOf_20 (by decide) ?_
    exact J_4 (rf_pla p0 (u.2 ((p0 * 6) + p1).toNatClampNeg)) ls (lv_sub hl [0, 1, 2] rfl)
