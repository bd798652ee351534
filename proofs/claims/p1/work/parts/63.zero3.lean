set_option maxHeartbeats 4000000 in
set_option maxRecDepth 100000 in
theorem mz_M_toWhole (l : Launch) (D : va_G) (cL : ClassId) (h0 q0 sz : Nat) (u : MT) (p0 : Int32) (p1 : Int64) : Met l my_M_toWhole mw_M_toWhole ({ frames := 4, cells := 0, slots := 0, locals := 91 } : Room) (MPc D cL h0 q0 sz u [.int p0, .long p1]) (MQl D cL h0 q0 (MA h0 q0 cL u sz) (fun (r : Int64) (v : MT) => (p1 = 0 → r = 0) ∧ v.2 = u.2)) 0 0 (MA h0 q0 cL u sz) := by
  refine Met.ofW (cc := mc_M_toWhole) (maxL := 6) (ret := (some .long)) (by decide) rfl ?_
  intro p e s m args below meth c s₁ B hml hv
  obtain ⟨rfl, hsz, hP, hK, hD0⟩ := hv
  have hx := B.exec
  have hb := B.bytes
  have hr := B.returns
  have hts := atoms_spec (ws := mw_M_toWhole) B.pre
  have ht : ∀ w ∈ gw_tbl, w.before _ s = true := fun w h => hts w (List.mem_cons_of_mem _ h)
  have hown : s.vm.findClass "NumberProbeModel" = some m.cls := findClass_of_methodNamed B.named
  have hlocks := B.notSynchronized
  subst hsz
  have hD : va_D (MA h0 q0 cL u s.heap.size) (mWs h0 q0 cL u) := hD0.self (sz := s.heap.size)
  generalize hAe : MA h0 q0 cL u s.heap.size = A at hD ⊢
  have hA : ∀ q : Nat, s.heap.size ≤ q → A q := fun q h => by rw [← hAe]; exact Or.inr h
  have hS : va_S A s.heap s.heap [] := va_S.rf
  have hM : MWd D cL h0 q0 A u s.heap := ⟨hP, hD⟩
  have hl := lv_entry ([.ref h0, .int p0, .long p1]) (n := 6) (Nat.le_of_ble_eq_true rfl)
  rw [lg_entry_eq]
  generalize (lg_sl ([.ref h0, .int p0, .long p1]) ++ List.replicate (6 - (lg_sl ([.ref h0, .int p0, .long p1])).length) Slot.unset).toArray = ls at hl ⊢
  have hl : lv_has ls 6 [(0, .ref h0), (1, .int p0), (2, .long p1)] := hl
  refine lv_aload_n hx hb md_M_toWhole_0 rfl (lv_at hl 0 rfl) ?_
  refine lv_iload_n hx hb md_M_toWhole_1 rfl (lv_at hl 1 rfl) ?_
  refine lv_lload_n hx hb md_M_toWhole_2 rfl (lv_at hl 2 rfl) ?_
  refine m_callv (va_runV (C := "NumberProbeModel") (As := [.int p0, .long p1]) (rest := []) ⟨hx, hb, hml, hown, hts⟩ (mt_M_takeX l D cL h0 q0 _ u p0 p1) (cwV 2 hts (gd_V tm_451 tm_453 tm_13 tm_25 tm_454) rfl rfl rfl (by decide +kernel) ⟨Nat.le_of_ble_eq_true rfl, Nat.le_of_ble_eq_true rfl⟩) (m_in (locs := []) hK hM) rfl rfl hl.1 rfl (lv_room (Nat.le_of_ble_eq_true rfl)) md_M_toWhole_3 ⟨Nat.zero_le _, Nat.zero_le _⟩) hM hS hA (fun u_3 H_4 L_5 e_2 hM hS => ?_)
  obtain rfl : u_3 = mtX p0 p1 u := e_2
  refine lv_aload_n hx hb md_M_toWhole_6 rfl (lv_at hl 0 rfl) ?_
  refine va_get (D := D) (ci := 1) (v := .int (jb (rf_isN p0 p1))) (C := "NumberProbeModel") (T := TM) (N := 12) hx hb ht inM hown hK hM.1 0 rfl rfl 3 (by decide) (ht _ tm_321) (fun _ h9 => h9) rfl md_M_toWhole_7 ?_
  refine lv_if_eq (tgt := 15) hx hb md_M_toWhole_10 (by decide) (fun c_6 => ?_) (fun c_6 => ?_)
  · refine lv_aload_n hx hb md_M_toWhole_15 rfl (lv_at hl 0 rfl) ?_
    refine va_get (D := D) (ci := 1) (v := .int (jb (rf_isI p0 p1))) (C := "NumberProbeModel") (T := TM) (N := 12) hx hb ht inM hown hK hM.1 0 rfl rfl 5 (by decide) (ht _ tm_323) (fun _ h9 => h9) rfl md_M_toWhole_16 ?_
    refine lv_if_ne (tgt := 39) hx hb md_M_toWhole_19 (by decide) (fun c_7 => ?_) (fun c_7 => ?_)
    · refine lv_aload_n hx hb md_M_toWhole_39 rfl (lv_at hl 0 rfl) ?_
      refine va_get (D := D) (ci := 1) (v := .int (jb (rf_isS p0 p1))) (C := "NumberProbeModel") (T := TM) (N := 12) hx hb ht inM hown hK hM.1 0 rfl rfl 1 (by decide) (ht _ tm_319) (fun _ h9 => h9) rfl md_M_toWhole_40 ?_
      refine lv_if_eq (tgt := 52) hx hb md_M_toWhole_43 (by decide) (fun c_8 => ?_) (fun c_8 => ?_)
      · refine lv_ldc2 (v := 9223372036854775807) hx hb hown (ht _ tm_417) md_M_toWhole_52 ?_
        exact W.lret (v := 9223372036854775807) hx hb hr (fun t ht2 _ => ⟨⟨9223372036854775807, mtX p0 p1 u, rfl, ⟨(fun hz => by subst hz; first | rfl | decide | (simp [z_man, z_shl, z_ush]; done) | (have f9 := (jb_0.mp c_6); simp [z_isN, z_isI, z_isS, z_man, z_pow, z_pla, z_siz, z_shl, z_ush] at f9; done) | (have f9 := (jb_n0.mp c_7); simp [z_isN, z_isI, z_isS, z_man, z_pow, z_pla, z_siz, z_shl, z_ush] at f9; done) | (have f9 := (jb_0.mp c_8); simp [z_isN, z_isI, z_isS, z_man, z_pow, z_pla, z_siz, z_shl, z_ush] at f9; done)), rfl⟩, by show MWd D cL h0 q0 A _ t.heap; rw [ht2]; exact hM⟩, hS.F ht2⟩) hS.2.2 md_M_toWhole_55
      · refine lv_ldc2 (v := (-9223372036854775808)) hx hb hown (ht _ tm_376) md_M_toWhole_46 ?_
        refine lv_goto (tgt := 55) hx hb md_M_toWhole_49 (by decide) ?_
        exact W.lret (v := (-9223372036854775808)) hx hb hr (fun t ht2 _ => ⟨⟨(-9223372036854775808), mtX p0 p1 u, rfl, ⟨(fun hz => by subst hz; first | rfl | decide | (simp [z_man, z_shl, z_ush]; done) | (have f9 := (jb_0.mp c_6); simp [z_isN, z_isI, z_isS, z_man, z_pow, z_pla, z_siz, z_shl, z_ush] at f9; done) | (have f9 := (jb_n0.mp c_7); simp [z_isN, z_isI, z_isS, z_man, z_pow, z_pla, z_siz, z_shl, z_ush] at f9; done) | (have f9 := (jb_n0.mp c_8); simp [z_isN, z_isI, z_isS, z_man, z_pow, z_pla, z_siz, z_shl, z_ush] at f9; done)), rfl⟩, by show MWd D cL h0 q0 A _ t.heap; rw [ht2]; exact hM⟩, hS.F ht2⟩) hS.2.2 md_M_toWhole_55
    · refine lv_aload_n hx hb md_M_toWhole_22 rfl (lv_at hl 0 rfl) ?_
      refine va_get (D := D) (ci := 1) (v := .int (rf_pow p0 p1)) (C := "NumberProbeModel") (T := TM) (N := 12) hx hb ht inM hown hK hM.1 0 rfl rfl 9 (by decide) (ht _ tm_327) (fun _ h9 => h9) rfl md_M_toWhole_23 ?_
      refine lv_aload_n hx hb md_M_toWhole_26 rfl (lv_at hl 0 rfl) ?_
      refine va_get (D := D) (ci := 1) (v := .long (rf_man p0 p1)) (C := "NumberProbeModel") (T := TM) (N := 12) hx hb ht inM hown hK hM.1 0 rfl rfl 7 (by decide) (ht _ tm_325) (fun _ h9 => h9) rfl md_M_toWhole_27 ?_
      refine vp_callSi (W.runS (As := [.long (rf_man p0 p1)]) (rest := [.int (rf_pow p0 p1)]) ⟨hx, hb, hml, hown, hts⟩ (mz_M_length l (rf_man p0 p1)) (va_cwS 1 hts (gd_S tm_404 tm_405 tm_25 tm_406) rfl rfl rfl (by decide +kernel) ⟨Nat.le_of_ble_eq_true rfl, Nat.le_of_ble_eq_true rfl⟩) ⟨fb_0, fun U hU hW => ⟨rfl, trivial⟩⟩ rfl rfl hl.1 rfl (lv_room (Nat.le_of_ble_eq_true rfl)) md_M_toWhole_30 ⟨Nat.zero_le _, Nat.zero_le _⟩) (fun r_9 e_10 => ?_)
      refine lv_iadd hx hb md_M_toWhole_33 ?_
      refine lv_bipush (v := 63) hx hb md_M_toWhole_34 (by decide) ?_
      refine lv_icmp_le (tgt := 56) hx hb md_M_toWhole_36 (by decide) (fun c_11 => ?_) (fun c_11 => ?_)
      · refine lv_aload_n hx hb md_M_toWhole_56 rfl (lv_at hl 0 rfl) ?_
        refine va_get (D := D) (ci := 1) (v := .int (rf_pow p0 p1)) (C := "NumberProbeModel") (T := TM) (N := 12) hx hb ht inM hown hK hM.1 0 rfl rfl 9 (by decide) (ht _ tm_327) (fun _ h9 => h9) rfl md_M_toWhole_57 ?_
        refine lv_if_lt (tgt := 75) hx hb md_M_toWhole_60 (by decide) (fun c_12 => ?_) (fun c_12 => ?_)
        · refine lv_aload_n hx hb md_M_toWhole_75 rfl (lv_at hl 0 rfl) ?_
          refine va_get (D := D) (ci := 1) (v := .int (rf_pow p0 p1)) (C := "NumberProbeModel") (T := TM) (N := 12) hx hb ht inM hown hK hM.1 0 rfl rfl 9 (by decide) (ht _ tm_327) (fun _ h9 => h9) rfl md_M_toWhole_76 ?_
          refine lv_bipush (v := (-62)) hx hb md_M_toWhole_79 (by decide) ?_
          refine lv_icmp_ge (tgt := 88) hx hb md_M_toWhole_81 (by decide) (fun c_13 => ?_) (fun c_13 => ?_)
          · refine lv_aload_n hx hb md_M_toWhole_88 rfl (lv_at hl 0 rfl) ?_
            refine va_get (D := D) (ci := 1) (v := .long (rf_man p0 p1)) (C := "NumberProbeModel") (T := TM) (N := 12) hx hb ht inM hown hK hM.1 0 rfl rfl 7 (by decide) (ht _ tm_325) (fun _ h9 => h9) rfl md_M_toWhole_89 ?_
            refine lv_aload_n hx hb md_M_toWhole_92 rfl (lv_at hl 0 rfl) ?_
            refine va_get (D := D) (ci := 1) (v := .int (rf_pow p0 p1)) (C := "NumberProbeModel") (T := TM) (N := 12) hx hb ht inM hown hK hM.1 0 rfl rfl 9 (by decide) (ht _ tm_327) (fun _ h9 => h9) rfl md_M_toWhole_93 ?_
            refine lv_ineg hx hb md_M_toWhole_96 ?_
            refine lv_lushr (v := jl_ush (rf_man p0 p1) (-(rf_pow p0 p1))) hx hb md_M_toWhole_97 rfl ?_
            refine lv_lstore (lv' := [(4, .long (jl_ush (rf_man p0 p1) (-(rf_pow p0 p1)))), (0, .ref h0), (1, .int p0), (2, .long p1)]) hx hb md_M_toWhole_98 hl (by decide) rfl (fun ls hl => ?_)
            refine lv_aload_n hx hb md_M_toWhole_100 rfl (lv_at hl 1 rfl) ?_
            refine va_get (D := D) (ci := 1) (v := .int (jb (rf_isS p0 p1))) (C := "NumberProbeModel") (T := TM) (N := 12) hx hb ht inM hown hK hM.1 0 rfl rfl 1 (by decide) (ht _ tm_319) (fun _ h9 => h9) rfl md_M_toWhole_101 ?_
            refine lv_if_eq (tgt := 113) hx hb md_M_toWhole_104 (by decide) (fun c_14 => ?_) (fun c_14 => ?_)
            · refine lv_lload hx hb md_M_toWhole_113 (lv_at hl 0 rfl) ?_
              exact W.lret (v := jl_ush (rf_man p0 p1) (-(rf_pow p0 p1))) hx hb hr (fun t ht2 _ => ⟨⟨jl_ush (rf_man p0 p1) (-(rf_pow p0 p1)), mtX p0 p1 u, rfl, ⟨(fun hz => by subst hz; first | rfl | decide | (simp [z_man, z_shl, z_ush]; done) | (have f9 := (jb_0.mp c_6); simp [z_isN, z_isI, z_isS, z_man, z_pow, z_pla, z_siz, z_shl, z_ush] at f9; done) | (have f9 := (jb_0.mp c_6); rw [e_10 (z_man _), z_pow] at f9; first | exact absurd f9 (z_le63 _) | exact absurd (z_le63b _) f9) | (have f9 := (jb_0.mp c_7); simp [z_isN, z_isI, z_isS, z_man, z_pow, z_pla, z_siz, z_shl, z_ush] at f9; done) | (have f9 := (jb_0.mp c_7); rw [e_10 (z_man _), z_pow] at f9; first | exact absurd f9 (z_le63 _) | exact absurd (z_le63b _) f9) | (have f9 := c_11; simp [z_isN, z_isI, z_isS, z_man, z_pow, z_pla, z_siz, z_shl, z_ush] at f9; done) | (have f9 := c_11; rw [e_10 (z_man _), z_pow] at f9; first | exact absurd f9 (z_le63 _) | exact absurd (z_le63b _) f9) | (have f9 := c_12; simp [z_isN, z_isI, z_isS, z_man, z_pow, z_pla, z_siz, z_shl, z_ush] at f9; done) | (have f9 := c_12; rw [e_10 (z_man _), z_pow] at f9; first | exact absurd f9 (z_le63 _) | exact absurd (z_le63b _) f9) | (have f9 := c_13; simp [z_isN, z_isI, z_isS, z_man, z_pow, z_pla, z_siz, z_shl, z_ush] at f9; done) | (have f9 := c_13; rw [e_10 (z_man _), z_pow] at f9; first | exact absurd f9 (z_le63 _) | exact absurd (z_le63b _) f9) | (have f9 := (jb_0.mp c_14); simp [z_isN, z_isI, z_isS, z_man, z_pow, z_pla, z_siz, z_shl, z_ush] at f9; done) | (have f9 := (jb_0.mp c_14); rw [e_10 (z_man _), z_pow] at f9; first | exact absurd f9 (z_le63 _) | exact absurd (z_le63b _) f9)), rfl⟩, by show MWd D cL h0 q0 A _ t.heap; rw [ht2]; exact hM⟩, hS.F ht2⟩) hS.2.2 md_M_toWhole_115
            · refine lv_lload hx hb md_M_toWhole_107 (lv_at hl 0 rfl) ?_
              refine lv_lneg hx hb md_M_toWhole_109 ?_
              refine lv_goto (tgt := 115) hx hb md_M_toWhole_110 (by decide) ?_
              exact W.lret (v := -(jl_ush (rf_man p0 p1) (-(rf_pow p0 p1)))) hx hb hr (fun t ht2 _ => ⟨⟨-(jl_ush (rf_man p0 p1) (-(rf_pow p0 p1))), mtX p0 p1 u, rfl, ⟨(fun hz => by subst hz; first | rfl | decide | (simp [z_man, z_shl, z_ush]; done) | (have f9 := (jb_0.mp c_6); simp [z_isN, z_isI, z_isS, z_man, z_pow, z_pla, z_siz, z_shl, z_ush] at f9; done) | (have f9 := (jb_0.mp c_6); rw [e_10 (z_man _), z_pow] at f9; first | exact absurd f9 (z_le63 _) | exact absurd (z_le63b _) f9) | (have f9 := (jb_0.mp c_7); simp [z_isN, z_isI, z_isS, z_man, z_pow, z_pla, z_siz, z_shl, z_ush] at f9; done) | (have f9 := (jb_0.mp c_7); rw [e_10 (z_man _), z_pow] at f9; first | exact absurd f9 (z_le63 _) | exact absurd (z_le63b _) f9) | (have f9 := c_11; simp [z_isN, z_isI, z_isS, z_man, z_pow, z_pla, z_siz, z_shl, z_ush] at f9; done) | (have f9 := c_11; rw [e_10 (z_man _), z_pow] at f9; first | exact absurd f9 (z_le63 _) | exact absurd (z_le63b _) f9) | (have f9 := c_12; simp [z_isN, z_isI, z_isS, z_man, z_pow, z_pla, z_siz, z_shl, z_ush] at f9; done) | (have f9 := c_12; rw [e_10 (z_man _), z_pow] at f9; first | exact absurd f9 (z_le63 _) | exact absurd (z_le63b _) f9) | (have f9 := c_13; simp [z_isN, z_isI, z_isS, z_man, z_pow, z_pla, z_siz, z_shl, z_ush] at f9; done) | (have f9 := c_13; rw [e_10 (z_man _), z_pow] at f9; first | exact absurd f9 (z_le63 _) | exact absurd (z_le63b _) f9) | (have f9 := (jb_n0.mp c_14); simp [z_isN, z_isI, z_isS, z_man, z_pow, z_pla, z_siz, z_shl, z_ush] at f9; done) | (have f9 := (jb_n0.mp c_14); rw [e_10 (z_man _), z_pow] at f9; first | exact absurd f9 (z_le63 _) | exact absurd (z_le63b _) f9)), rfl⟩, by show MWd D cL h0 q0 A _ t.heap; rw [ht2]; exact hM⟩, hS.F ht2⟩) hS.2.2 md_M_toWhole_115
          · refine lv_lconst (v := 0) hx hb md_M_toWhole_84 (by decide) ?_
            refine lv_goto (tgt := 98) hx hb md_M_toWhole_85 (by decide) ?_
            refine lv_lstore (lv' := [(4, .long 0), (0, .ref h0), (1, .int p0), (2, .long p1)]) hx hb md_M_toWhole_98 hl (by decide) rfl (fun ls hl => ?_)
            refine lv_aload_n hx hb md_M_toWhole_100 rfl (lv_at hl 1 rfl) ?_
            refine va_get (D := D) (ci := 1) (v := .int (jb (rf_isS p0 p1))) (C := "NumberProbeModel") (T := TM) (N := 12) hx hb ht inM hown hK hM.1 0 rfl rfl 1 (by decide) (ht _ tm_319) (fun _ h9 => h9) rfl md_M_toWhole_101 ?_
            refine lv_if_eq (tgt := 113) hx hb md_M_toWhole_104 (by decide) (fun c_15 => ?_) (fun c_15 => ?_)
            · refine lv_lload hx hb md_M_toWhole_113 (lv_at hl 0 rfl) ?_
              exact W.lret (v := 0) hx hb hr (fun t ht2 _ => ⟨⟨0, mtX p0 p1 u, rfl, ⟨(fun hz => by subst hz; first | rfl | decide | (simp [z_man, z_shl, z_ush]; done) | (have f9 := (jb_0.mp c_6); simp [z_isN, z_isI, z_isS, z_man, z_pow, z_pla, z_siz, z_shl, z_ush] at f9; done) | (have f9 := (jb_0.mp c_6); rw [e_10 (z_man _), z_pow] at f9; first | exact absurd f9 (z_le63 _) | exact absurd (z_le63b _) f9) | (have f9 := (jb_0.mp c_7); simp [z_isN, z_isI, z_isS, z_man, z_pow, z_pla, z_siz, z_shl, z_ush] at f9; done) | (have f9 := (jb_0.mp c_7); rw [e_10 (z_man _), z_pow] at f9; first | exact absurd f9 (z_le63 _) | exact absurd (z_le63b _) f9) | (have f9 := c_11; simp [z_isN, z_isI, z_isS, z_man, z_pow, z_pla, z_siz, z_shl, z_ush] at f9; done) | (have f9 := c_11; rw [e_10 (z_man _), z_pow] at f9; first | exact absurd f9 (z_le63 _) | exact absurd (z_le63b _) f9) | (have f9 := c_12; simp [z_isN, z_isI, z_isS, z_man, z_pow, z_pla, z_siz, z_shl, z_ush] at f9; done) | (have f9 := c_12; rw [e_10 (z_man _), z_pow] at f9; first | exact absurd f9 (z_le63 _) | exact absurd (z_le63b _) f9) | (have f9 := (c_13); simp [z_isN, z_isI, z_isS, z_man, z_pow, z_pla, z_siz, z_shl, z_ush] at f9; done) | (have f9 := (c_13); rw [e_10 (z_man _), z_pow] at f9; first | exact absurd f9 (z_le63 _) | exact absurd (z_le63b _) f9) | (have f9 := (jb_0.mp c_15); simp [z_isN, z_isI, z_isS, z_man, z_pow, z_pla, z_siz, z_shl, z_ush] at f9; done) | (have f9 := (jb_0.mp c_15); rw [e_10 (z_man _), z_pow] at f9; first | exact absurd f9 (z_le63 _) | exact absurd (z_le63b _) f9)), rfl⟩, by show MWd D cL h0 q0 A _ t.heap; rw [ht2]; exact hM⟩, hS.F ht2⟩) hS.2.2 md_M_toWhole_115
            · refine lv_lload hx hb md_M_toWhole_107 (lv_at hl 0 rfl) ?_
              refine lv_lneg hx hb md_M_toWhole_109 ?_
              refine lv_goto (tgt := 115) hx hb md_M_toWhole_110 (by decide) ?_
              exact W.lret (v := -0) hx hb hr (fun t ht2 _ => ⟨⟨-0, mtX p0 p1 u, rfl, ⟨(fun hz => by subst hz; first | rfl | decide | (simp [z_man, z_shl, z_ush]; done) | (have f9 := (jb_0.mp c_6); simp [z_isN, z_isI, z_isS, z_man, z_pow, z_pla, z_siz, z_shl, z_ush] at f9; done) | (have f9 := (jb_0.mp c_6); rw [e_10 (z_man _), z_pow] at f9; first | exact absurd f9 (z_le63 _) | exact absurd (z_le63b _) f9) | (have f9 := (jb_0.mp c_7); simp [z_isN, z_isI, z_isS, z_man, z_pow, z_pla, z_siz, z_shl, z_ush] at f9; done) | (have f9 := (jb_0.mp c_7); rw [e_10 (z_man _), z_pow] at f9; first | exact absurd f9 (z_le63 _) | exact absurd (z_le63b _) f9) | (have f9 := c_11; simp [z_isN, z_isI, z_isS, z_man, z_pow, z_pla, z_siz, z_shl, z_ush] at f9; done) | (have f9 := c_11; rw [e_10 (z_man _), z_pow] at f9; first | exact absurd f9 (z_le63 _) | exact absurd (z_le63b _) f9) | (have f9 := c_12; simp [z_isN, z_isI, z_isS, z_man, z_pow, z_pla, z_siz, z_shl, z_ush] at f9; done) | (have f9 := c_12; rw [e_10 (z_man _), z_pow] at f9; first | exact absurd f9 (z_le63 _) | exact absurd (z_le63b _) f9) | (have f9 := (c_13); simp [z_isN, z_isI, z_isS, z_man, z_pow, z_pla, z_siz, z_shl, z_ush] at f9; done) | (have f9 := (c_13); rw [e_10 (z_man _), z_pow] at f9; first | exact absurd f9 (z_le63 _) | exact absurd (z_le63b _) f9) | (have f9 := (jb_n0.mp c_15); simp [z_isN, z_isI, z_isS, z_man, z_pow, z_pla, z_siz, z_shl, z_ush] at f9; done) | (have f9 := (jb_n0.mp c_15); rw [e_10 (z_man _), z_pow] at f9; first | exact absurd f9 (z_le63 _) | exact absurd (z_le63b _) f9)), rfl⟩, by show MWd D cL h0 q0 A _ t.heap; rw [ht2]; exact hM⟩, hS.F ht2⟩) hS.2.2 md_M_toWhole_115
        · refine lv_aload_n hx hb md_M_toWhole_63 rfl (lv_at hl 0 rfl) ?_
          refine va_get (D := D) (ci := 1) (v := .long (rf_man p0 p1)) (C := "NumberProbeModel") (T := TM) (N := 12) hx hb ht inM hown hK hM.1 0 rfl rfl 7 (by decide) (ht _ tm_325) (fun _ h9 => h9) rfl md_M_toWhole_64 ?_
          refine lv_aload_n hx hb md_M_toWhole_67 rfl (lv_at hl 0 rfl) ?_
          refine va_get (D := D) (ci := 1) (v := .int (rf_pow p0 p1)) (C := "NumberProbeModel") (T := TM) (N := 12) hx hb ht inM hown hK hM.1 0 rfl rfl 9 (by decide) (ht _ tm_327) (fun _ h9 => h9) rfl md_M_toWhole_68 ?_
          refine lv_lshl (v := jl_shl (rf_man p0 p1) (rf_pow p0 p1)) hx hb md_M_toWhole_71 rfl ?_
          refine lv_goto (tgt := 98) hx hb md_M_toWhole_72 (by decide) ?_
          refine lv_lstore (lv' := [(4, .long (jl_shl (rf_man p0 p1) (rf_pow p0 p1))), (0, .ref h0), (1, .int p0), (2, .long p1)]) hx hb md_M_toWhole_98 hl (by decide) rfl (fun ls hl => ?_)
          refine lv_aload_n hx hb md_M_toWhole_100 rfl (lv_at hl 1 rfl) ?_
          refine va_get (D := D) (ci := 1) (v := .int (jb (rf_isS p0 p1))) (C := "NumberProbeModel") (T := TM) (N := 12) hx hb ht inM hown hK hM.1 0 rfl rfl 1 (by decide) (ht _ tm_319) (fun _ h9 => h9) rfl md_M_toWhole_101 ?_
          refine lv_if_eq (tgt := 113) hx hb md_M_toWhole_104 (by decide) (fun c_16 => ?_) (fun c_16 => ?_)
          · refine lv_lload hx hb md_M_toWhole_113 (lv_at hl 0 rfl) ?_
            exact W.lret (v := jl_shl (rf_man p0 p1) (rf_pow p0 p1)) hx hb hr (fun t ht2 _ => ⟨⟨jl_shl (rf_man p0 p1) (rf_pow p0 p1), mtX p0 p1 u, rfl, ⟨(fun hz => by subst hz; first | rfl | decide | (simp [z_man, z_shl, z_ush]; done) | (have f9 := (jb_0.mp c_6); simp [z_isN, z_isI, z_isS, z_man, z_pow, z_pla, z_siz, z_shl, z_ush] at f9; done) | (have f9 := (jb_0.mp c_6); rw [e_10 (z_man _), z_pow] at f9; first | exact absurd f9 (z_le63 _) | exact absurd (z_le63b _) f9) | (have f9 := (jb_0.mp c_7); simp [z_isN, z_isI, z_isS, z_man, z_pow, z_pla, z_siz, z_shl, z_ush] at f9; done) | (have f9 := (jb_0.mp c_7); rw [e_10 (z_man _), z_pow] at f9; first | exact absurd f9 (z_le63 _) | exact absurd (z_le63b _) f9) | (have f9 := c_11; simp [z_isN, z_isI, z_isS, z_man, z_pow, z_pla, z_siz, z_shl, z_ush] at f9; done) | (have f9 := c_11; rw [e_10 (z_man _), z_pow] at f9; first | exact absurd f9 (z_le63 _) | exact absurd (z_le63b _) f9) | (have f9 := (c_12); simp [z_isN, z_isI, z_isS, z_man, z_pow, z_pla, z_siz, z_shl, z_ush] at f9; done) | (have f9 := (c_12); rw [e_10 (z_man _), z_pow] at f9; first | exact absurd f9 (z_le63 _) | exact absurd (z_le63b _) f9) | (have f9 := (jb_0.mp c_16); simp [z_isN, z_isI, z_isS, z_man, z_pow, z_pla, z_siz, z_shl, z_ush] at f9; done) | (have f9 := (jb_0.mp c_16); rw [e_10 (z_man _), z_pow] at f9; first | exact absurd f9 (z_le63 _) | exact absurd (z_le63b _) f9)), rfl⟩, by show MWd D cL h0 q0 A _ t.heap; rw [ht2]; exact hM⟩, hS.F ht2⟩) hS.2.2 md_M_toWhole_115
          · refine lv_lload hx hb md_M_toWhole_107 (lv_at hl 0 rfl) ?_
            refine lv_lneg hx hb md_M_toWhole_109 ?_
            refine lv_goto (tgt := 115) hx hb md_M_toWhole_110 (by decide) ?_
            exact W.lret (v := -(jl_shl (rf_man p0 p1) (rf_pow p0 p1))) hx hb hr (fun t ht2 _ => ⟨⟨-(jl_shl (rf_man p0 p1) (rf_pow p0 p1)), mtX p0 p1 u, rfl, ⟨(fun hz => by subst hz; first | rfl | decide | (simp [z_man, z_shl, z_ush]; done) | (have f9 := (jb_0.mp c_6); simp [z_isN, z_isI, z_isS, z_man, z_pow, z_pla, z_siz, z_shl, z_ush] at f9; done) | (have f9 := (jb_0.mp c_6); rw [e_10 (z_man _), z_pow] at f9; first | exact absurd f9 (z_le63 _) | exact absurd (z_le63b _) f9) | (have f9 := (jb_0.mp c_7); simp [z_isN, z_isI, z_isS, z_man, z_pow, z_pla, z_siz, z_shl, z_ush] at f9; done) | (have f9 := (jb_0.mp c_7); rw [e_10 (z_man _), z_pow] at f9; first | exact absurd f9 (z_le63 _) | exact absurd (z_le63b _) f9) | (have f9 := c_11; simp [z_isN, z_isI, z_isS, z_man, z_pow, z_pla, z_siz, z_shl, z_ush] at f9; done) | (have f9 := c_11; rw [e_10 (z_man _), z_pow] at f9; first | exact absurd f9 (z_le63 _) | exact absurd (z_le63b _) f9) | (have f9 := (c_12); simp [z_isN, z_isI, z_isS, z_man, z_pow, z_pla, z_siz, z_shl, z_ush] at f9; done) | (have f9 := (c_12); rw [e_10 (z_man _), z_pow] at f9; first | exact absurd f9 (z_le63 _) | exact absurd (z_le63b _) f9) | (have f9 := (jb_n0.mp c_16); simp [z_isN, z_isI, z_isS, z_man, z_pow, z_pla, z_siz, z_shl, z_ush] at f9; done) | (have f9 := (jb_n0.mp c_16); rw [e_10 (z_man _), z_pow] at f9; first | exact absurd f9 (z_le63 _) | exact absurd (z_le63b _) f9)), rfl⟩, by show MWd D cL h0 q0 A _ t.heap; rw [ht2]; exact hM⟩, hS.F ht2⟩) hS.2.2 md_M_toWhole_115
      · refine lv_aload_n hx hb md_M_toWhole_39 rfl (lv_at hl 0 rfl) ?_
        refine va_get (D := D) (ci := 1) (v := .int (jb (rf_isS p0 p1))) (C := "NumberProbeModel") (T := TM) (N := 12) hx hb ht inM hown hK hM.1 0 rfl rfl 1 (by decide) (ht _ tm_319) (fun _ h9 => h9) rfl md_M_toWhole_40 ?_
        refine lv_if_eq (tgt := 52) hx hb md_M_toWhole_43 (by decide) (fun c_17 => ?_) (fun c_17 => ?_)
        · refine lv_ldc2 (v := 9223372036854775807) hx hb hown (ht _ tm_417) md_M_toWhole_52 ?_
          exact W.lret (v := 9223372036854775807) hx hb hr (fun t ht2 _ => ⟨⟨9223372036854775807, mtX p0 p1 u, rfl, ⟨(fun hz => by subst hz; first | rfl | decide | (simp [z_man, z_shl, z_ush]; done) | (have f9 := (jb_0.mp c_6); simp [z_isN, z_isI, z_isS, z_man, z_pow, z_pla, z_siz, z_shl, z_ush] at f9; done) | (have f9 := (jb_0.mp c_6); rw [e_10 (z_man _), z_pow] at f9; first | exact absurd f9 (z_le63 _) | exact absurd (z_le63b _) f9) | (have f9 := (jb_0.mp c_7); simp [z_isN, z_isI, z_isS, z_man, z_pow, z_pla, z_siz, z_shl, z_ush] at f9; done) | (have f9 := (jb_0.mp c_7); rw [e_10 (z_man _), z_pow] at f9; first | exact absurd f9 (z_le63 _) | exact absurd (z_le63b _) f9) | (have f9 := (c_11); simp [z_isN, z_isI, z_isS, z_man, z_pow, z_pla, z_siz, z_shl, z_ush] at f9; done) | (have f9 := (c_11); rw [e_10 (z_man _), z_pow] at f9; first | exact absurd f9 (z_le63 _) | exact absurd (z_le63b _) f9) | (have f9 := (jb_0.mp c_17); simp [z_isN, z_isI, z_isS, z_man, z_pow, z_pla, z_siz, z_shl, z_ush] at f9; done) | (have f9 := (jb_0.mp c_17); rw [e_10 (z_man _), z_pow] at f9; first | exact absurd f9 (z_le63 _) | exact absurd (z_le63b _) f9)), rfl⟩, by show MWd D cL h0 q0 A _ t.heap; rw [ht2]; exact hM⟩, hS.F ht2⟩) hS.2.2 md_M_toWhole_55
        · refine lv_ldc2 (v := (-9223372036854775808)) hx hb hown (ht _ tm_376) md_M_toWhole_46 ?_
          refine lv_goto (tgt := 55) hx hb md_M_toWhole_49 (by decide) ?_
          exact W.lret (v := (-9223372036854775808)) hx hb hr (fun t ht2 _ => ⟨⟨(-9223372036854775808), mtX p0 p1 u, rfl, ⟨(fun hz => by subst hz; first | rfl | decide | (simp [z_man, z_shl, z_ush]; done) | (have f9 := (jb_0.mp c_6); simp [z_isN, z_isI, z_isS, z_man, z_pow, z_pla, z_siz, z_shl, z_ush] at f9; done) | (have f9 := (jb_0.mp c_6); rw [e_10 (z_man _), z_pow] at f9; first | exact absurd f9 (z_le63 _) | exact absurd (z_le63b _) f9) | (have f9 := (jb_0.mp c_7); simp [z_isN, z_isI, z_isS, z_man, z_pow, z_pla, z_siz, z_shl, z_ush] at f9; done) | (have f9 := (jb_0.mp c_7); rw [e_10 (z_man _), z_pow] at f9; first | exact absurd f9 (z_le63 _) | exact absurd (z_le63b _) f9) | (have f9 := (c_11); simp [z_isN, z_isI, z_isS, z_man, z_pow, z_pla, z_siz, z_shl, z_ush] at f9; done) | (have f9 := (c_11); rw [e_10 (z_man _), z_pow] at f9; first | exact absurd f9 (z_le63 _) | exact absurd (z_le63b _) f9) | (have f9 := (jb_n0.mp c_17); simp [z_isN, z_isI, z_isS, z_man, z_pow, z_pla, z_siz, z_shl, z_ush] at f9; done) | (have f9 := (jb_n0.mp c_17); rw [e_10 (z_man _), z_pow] at f9; first | exact absurd f9 (z_le63 _) | exact absurd (z_le63b _) f9)), rfl⟩, by show MWd D cL h0 q0 A _ t.heap; rw [ht2]; exact hM⟩, hS.F ht2⟩) hS.2.2 md_M_toWhole_55
  · refine lv_lconst (v := 0) hx hb md_M_toWhole_13 (by decide) ?_
    exact W.lret (v := 0) hx hb hr (fun t ht2 _ => ⟨⟨0, mtX p0 p1 u, rfl, ⟨(fun hz => by subst hz; first | rfl | decide | (simp [z_man, z_shl, z_ush]; done) | (have f9 := (jb_n0.mp c_6); simp [z_isN, z_isI, z_isS, z_man, z_pow, z_pla, z_siz, z_shl, z_ush] at f9; done)), rfl⟩, by show MWd D cL h0 q0 A _ t.heap; rw [ht2]; exact hM⟩, hS.F ht2⟩) hS.2.2 md_M_toWhole_14
set_option maxHeartbeats 4000000 in
set_option maxRecDepth 100000 in
theorem mz_M_converted (l : Launch) (D : va_G) (cL : ClassId) (h0 q0 sz : Nat) (u : MT) (p0 : Int32) (p1 : Int64) (p2 : Int32) : Met l my_M_converted mw_M_converted ({ frames := 5, cells := 0, slots := 0, locals := 116 } : Room) (MPc D cL h0 q0 sz u [.int p0, .long p1, .int p2]) (MQl D cL h0 q0 (MA h0 q0 cL u sz) (fun (r : Int64) (v : MT) => (p1 = 0 → (p2 = 2 ∨ p2 = 3) → r = 0) ∧ v.2 = u.2)) 0 0 (MA h0 q0 cL u sz) := by
  refine Met.ofW (cc := mc_M_converted) (maxL := 5) (ret := (some .long)) (by decide) rfl ?_
  intro p e s m args below meth c s₁ B hml hv
  obtain ⟨rfl, hsz, hP, hK, hD0⟩ := hv
  have hx := B.exec
  have hb := B.bytes
  have hr := B.returns
  have hts := atoms_spec (ws := mw_M_converted) B.pre
  have ht : ∀ w ∈ gw_tbl, w.before _ s = true := fun w h => hts w (List.mem_cons_of_mem _ h)
  have hown : s.vm.findClass "NumberProbeModel" = some m.cls := findClass_of_methodNamed B.named
  have hlocks := B.notSynchronized
  subst hsz
  have hD : va_D (MA h0 q0 cL u s.heap.size) (mWs h0 q0 cL u) := hD0.self (sz := s.heap.size)
  generalize hAe : MA h0 q0 cL u s.heap.size = A at hD ⊢
  have hA : ∀ q : Nat, s.heap.size ≤ q → A q := fun q h => by rw [← hAe]; exact Or.inr h
  have hS : va_S A s.heap s.heap [] := va_S.rf
  have hM : MWd D cL h0 q0 A u s.heap := ⟨hP, hD⟩
  have hl := lv_entry ([.ref h0, .int p0, .long p1, .int p2]) (n := 5) (Nat.le_of_ble_eq_true rfl)
  rw [lg_entry_eq]
  generalize (lg_sl ([.ref h0, .int p0, .long p1, .int p2]) ++ List.replicate (5 - (lg_sl ([.ref h0, .int p0, .long p1, .int p2])).length) Slot.unset).toArray = ls at hl ⊢
  have hl : lv_has ls 5 [(0, .ref h0), (1, .int p0), (2, .long p1), (4, .int p2)] := hl
  refine lv_iload_n hx hb md_M_converted_0 rfl (lv_at hl 1 rfl) ?_
  refine lv_iload hx hb md_M_converted_1 (lv_at hl 3 rfl) ?_
  refine lv_icmp_ne (tgt := 8) hx hb md_M_converted_3 (by decide) (fun c_1 => ?_) (fun c_1 => ?_)
  · refine lv_iload_n hx hb md_M_converted_8 rfl (lv_at hl 1 rfl) ?_
    refine lv_iconst (v := 1) hx hb md_M_converted_9 (by decide) ?_
    refine lv_icmp_le (tgt := 35) hx hb md_M_converted_10 (by decide) (fun c_2 => ?_) (fun c_2 => ?_)
    · refine lv_iload hx hb md_M_converted_35 (lv_at hl 3 rfl) ?_
      refine lv_iconst (v := 3) hx hb md_M_converted_37 (by decide) ?_
      refine lv_icmp_ne (tgt := 48) hx hb md_M_converted_38 (by decide) (fun c_3 => ?_) (fun c_3 => ?_)
      · refine lv_iload hx hb md_M_converted_48 (lv_at hl 3 rfl) ?_
        refine lv_iconst (v := 2) hx hb md_M_converted_50 (by decide) ?_
        refine lv_icmp_ne (tgt := 64) hx hb md_M_converted_51 (by decide) (fun c_4 => ?_) (fun c_4 => ?_)
        · refine lv_iload_n hx hb md_M_converted_64 rfl (lv_at hl 1 rfl) ?_
          refine lv_lload_n hx hb md_M_converted_65 rfl (lv_at hl 2 rfl) ?_
          refine vp_callSi (W.runS (As := [.int p0, .long p1]) (rest := []) ⟨hx, hb, hml, hown, hts⟩ (mt_M_isNan l p0 p1) (va_cwS 2 hts (gd_S tm_366 tm_367 tm_25 tm_368) rfl rfl rfl (by decide +kernel) ⟨Nat.le_of_ble_eq_true rfl, Nat.le_of_ble_eq_true rfl⟩) ⟨fb_0, fun U hU hW => ⟨rfl, trivial⟩⟩ rfl rfl hl.1 rfl (lv_room (Nat.le_of_ble_eq_true rfl)) md_M_converted_66 ⟨Nat.zero_le _, Nat.zero_le _⟩) (fun r_5 e_6 => ?_)
          obtain rfl : r_5 = jb (rf_isN p0 p1) := e_6
          refine lv_if_eq (tgt := 78) hx hb md_M_converted_69 (by decide) (fun c_7 => ?_) (fun c_7 => ?_)
          · refine lv_iload_n hx hb md_M_converted_78 rfl (lv_at hl 1 rfl) ?_
            refine lv_lload_n hx hb md_M_converted_79 rfl (lv_at hl 2 rfl) ?_
            refine vp_callSl (W.runS (As := [.int p0, .long p1]) (rest := []) ⟨hx, hb, hml, hown, hts⟩ (mt_M_size l p0 p1) (va_cwS 2 hts (gd_S tm_369 tm_370 tm_25 tm_371) rfl rfl rfl (by decide +kernel) ⟨Nat.le_of_ble_eq_true rfl, Nat.le_of_ble_eq_true rfl⟩) ⟨fb_0, fun U hU hW => ⟨rfl, trivial⟩⟩ rfl rfl hl.1 rfl (lv_room (Nat.le_of_ble_eq_true rfl)) md_M_converted_80 ⟨Nat.zero_le _, Nat.zero_le _⟩) (fun r_8 e_9 => ?_)
            obtain rfl : r_8 = rf_siz p0 p1 := e_9
            refine lv_iload_n hx hb md_M_converted_83 rfl (lv_at hl 1 rfl) ?_
            refine vp_callSl (W.runS (As := [.int p0]) (rest := [.long (rf_siz p0 p1)]) ⟨hx, hb, hml, hown, hts⟩ (mt_M_infinity l p0) (va_cwS 1 hts (gd_S tm_377 tm_378 tm_25 tm_379) rfl rfl rfl (by decide +kernel) ⟨Nat.le_of_ble_eq_true rfl, Nat.le_of_ble_eq_true rfl⟩) ⟨fb_0, fun U hU hW => ⟨rfl, trivial⟩⟩ rfl rfl hl.1 rfl (lv_room (Nat.le_of_ble_eq_true rfl)) md_M_converted_84 ⟨Nat.zero_le _, Nat.zero_le _⟩) (fun r_10 e_11 => ?_)
            obtain rfl : r_10 = rf_if p0 := e_11
            refine W.lcmp hx hb md_M_converted_87 ?_
            refine lv_if_ne (tgt := 107) hx hb md_M_converted_88 (by decide) (fun c_12 => ?_) (fun c_12 => ?_)
            · refine lv_iload hx hb md_M_converted_107 (lv_at hl 3 rfl) ?_
              refine lv_iload_n hx hb md_M_converted_109 rfl (lv_at hl 1 rfl) ?_
              refine lv_lload_n hx hb md_M_converted_110 rfl (lv_at hl 2 rfl) ?_
              refine vp_callSi (W.runS (As := [.int p0, .long p1]) (rest := [.int p2]) ⟨hx, hb, hml, hown, hts⟩ (mt_M_isSign l p0 p1) (va_cwS 2 hts (gd_S tm_455 tm_456 tm_25 tm_457) rfl rfl rfl (by decide +kernel) ⟨Nat.le_of_ble_eq_true rfl, Nat.le_of_ble_eq_true rfl⟩) ⟨fb_0, fun U hU hW => ⟨rfl, trivial⟩⟩ rfl rfl hl.1 rfl (lv_room (Nat.le_of_ble_eq_true rfl)) md_M_converted_111 ⟨Nat.zero_le _, Nat.zero_le _⟩) (fun r_13 e_14 => ?_)
              obtain rfl : r_13 = jb (rf_isS p0 p1) := e_14
              refine lv_iload_n hx hb md_M_converted_114 rfl (lv_at hl 1 rfl) ?_
              refine lv_lload_n hx hb md_M_converted_115 rfl (lv_at hl 2 rfl) ?_
              refine vp_callSl (W.runS (As := [.int p0, .long p1]) (rest := [.int (jb (rf_isS p0 p1)), .int p2]) ⟨hx, hb, hml, hown, hts⟩ (mt_M_mantissa l p0 p1) (va_cwS 2 hts (gd_S tm_458 tm_459 tm_25 tm_460) rfl rfl rfl (by decide +kernel) ⟨Nat.le_of_ble_eq_true rfl, Nat.le_of_ble_eq_true rfl⟩) ⟨fb_0, fun U hU hW => ⟨rfl, trivial⟩⟩ rfl rfl hl.1 rfl (lv_room (Nat.le_of_ble_eq_true rfl)) md_M_converted_116 ⟨Nat.zero_le _, Nat.zero_le _⟩) (fun r_15 e_16 => ?_)
              obtain rfl : r_15 = rf_man p0 p1 := e_16
              refine lv_iload_n hx hb md_M_converted_119 rfl (lv_at hl 1 rfl) ?_
              refine lv_lload_n hx hb md_M_converted_120 rfl (lv_at hl 2 rfl) ?_
              refine vp_callSi (W.runS (As := [.int p0, .long p1]) (rest := [.long (rf_man p0 p1), .int (jb (rf_isS p0 p1)), .int p2]) ⟨hx, hb, hml, hown, hts⟩ (mt_M_power l p0 p1) (va_cwS 2 hts (gd_S tm_461 tm_462 tm_25 tm_463) rfl rfl rfl (by decide +kernel) ⟨Nat.le_of_ble_eq_true rfl, Nat.le_of_ble_eq_true rfl⟩) ⟨fb_0, fun U hU hW => ⟨rfl, trivial⟩⟩ rfl rfl hl.1 rfl (lv_room (Nat.le_of_ble_eq_true rfl)) md_M_converted_121 ⟨Nat.zero_le _, Nat.zero_le _⟩) (fun r_17 e_18 => ?_)
              obtain rfl : r_17 = rf_pow p0 p1 := e_18
              refine vp_callSl (W.runS (As := [.int p2, .int (jb (rf_isS p0 p1)), .long (rf_man p0 p1), .int (rf_pow p0 p1)]) (rest := []) ⟨hx, hb, hml, hown, hts⟩ (mt_M_round l p2 (rf_isS p0 p1) (rf_man p0 p1) (rf_pow p0 p1)) (va_cwS 4 hts (gd_S tm_398 tm_399 tm_25 tm_400) rfl rfl rfl (by decide +kernel) ⟨Nat.le_of_ble_eq_true rfl, Nat.le_of_ble_eq_true rfl⟩) ⟨fb_0, fun U hU hW => ⟨rfl, trivial⟩⟩ rfl rfl hl.1 rfl (lv_room (Nat.le_of_ble_eq_true rfl)) md_M_converted_124 ⟨Nat.zero_le _, Nat.zero_le _⟩) (fun r_19 e_20 => ?_)
              exact W.lret (v := r_19) hx hb hr (fun t ht2 _ => ⟨⟨r_19, u, rfl, ⟨(fun _ h9 => h9.elim (fun a => absurd a c_4) (fun a => absurd a c_3)), rfl⟩, by show MWd D cL h0 q0 A _ t.heap; rw [ht2]; exact hM⟩, hS.F ht2⟩) hS.2.2 md_M_converted_127
            · refine lv_iload hx hb md_M_converted_91 (lv_at hl 3 rfl) ?_
              refine lv_iload_n hx hb md_M_converted_93 rfl (lv_at hl 1 rfl) ?_
              refine lv_lload_n hx hb md_M_converted_94 rfl (lv_at hl 2 rfl) ?_
              refine vp_callSi (W.runS (As := [.int p0, .long p1]) (rest := [.int p2]) ⟨hx, hb, hml, hown, hts⟩ (mt_M_isSign l p0 p1) (va_cwS 2 hts (gd_S tm_455 tm_456 tm_25 tm_457) rfl rfl rfl (by decide +kernel) ⟨Nat.le_of_ble_eq_true rfl, Nat.le_of_ble_eq_true rfl⟩) ⟨fb_0, fun U hU hW => ⟨rfl, trivial⟩⟩ rfl rfl hl.1 rfl (lv_room (Nat.le_of_ble_eq_true rfl)) md_M_converted_95 ⟨Nat.zero_le _, Nat.zero_le _⟩) (fun r_21 e_22 => ?_)
              obtain rfl : r_21 = jb (rf_isS p0 p1) := e_22
              refine lv_iload hx hb md_M_converted_98 (lv_at hl 3 rfl) ?_
              refine vp_callSl (W.runS (As := [.int p2]) (rest := [.int (jb (rf_isS p0 p1)), .int p2]) ⟨hx, hb, hml, hown, hts⟩ (mt_M_infinity l p2) (va_cwS 1 hts (gd_S tm_377 tm_378 tm_25 tm_379) rfl rfl rfl (by decide +kernel) ⟨Nat.le_of_ble_eq_true rfl, Nat.le_of_ble_eq_true rfl⟩) ⟨fb_0, fun U hU hW => ⟨rfl, trivial⟩⟩ rfl rfl hl.1 rfl (lv_room (Nat.le_of_ble_eq_true rfl)) md_M_converted_100 ⟨Nat.zero_le _, Nat.zero_le _⟩) (fun r_23 e_24 => ?_)
              obtain rfl : r_23 = rf_if p2 := e_24
              refine vp_callSl (W.runS (As := [.int p2, .int (jb (rf_isS p0 p1)), .long (rf_if p2)]) (rest := []) ⟨hx, hb, hml, hown, hts⟩ (mt_M_signed l p2 (rf_isS p0 p1) (rf_if p2)) (va_cwS 3 hts (gd_S tm_401 tm_402 tm_25 tm_403) rfl rfl rfl (by decide +kernel) ⟨Nat.le_of_ble_eq_true rfl, Nat.le_of_ble_eq_true rfl⟩) ⟨fb_0, fun U hU hW => ⟨rfl, trivial⟩⟩ rfl rfl hl.1 rfl (lv_room (Nat.le_of_ble_eq_true rfl)) md_M_converted_103 ⟨Nat.zero_le _, Nat.zero_le _⟩) (fun r_25 e_26 => ?_)
              exact W.lret (v := r_25) hx hb hr (fun t ht2 _ => ⟨⟨r_25, u, rfl, ⟨(fun _ h9 => h9.elim (fun a => absurd a c_4) (fun a => absurd a c_3)), rfl⟩, by show MWd D cL h0 q0 A _ t.heap; rw [ht2]; exact hM⟩, hS.F ht2⟩) hS.2.2 md_M_converted_106
          · refine lv_iload hx hb md_M_converted_72 (lv_at hl 3 rfl) ?_
            refine vp_callSl (W.runS (As := [.int p2]) (rest := []) ⟨hx, hb, hml, hown, hts⟩ (mt_M_nan l p2) (va_cwS 1 hts (gd_S tm_382 tm_383 tm_25 tm_384) rfl rfl rfl (by decide +kernel) ⟨Nat.le_of_ble_eq_true rfl, Nat.le_of_ble_eq_true rfl⟩) ⟨fb_0, fun U hU hW => ⟨rfl, trivial⟩⟩ rfl rfl hl.1 rfl (lv_room (Nat.le_of_ble_eq_true rfl)) md_M_converted_74 ⟨Nat.zero_le _, Nat.zero_le _⟩) (fun r_27 e_28 => ?_)
            obtain rfl : r_27 = rf_na p2 := e_28
            exact W.lret (v := rf_na p2) hx hb hr (fun t ht2 _ => ⟨⟨rf_na p2, u, rfl, ⟨(fun _ h9 => h9.elim (fun a => absurd a c_4) (fun a => absurd a c_3)), rfl⟩, by show MWd D cL h0 q0 A _ t.heap; rw [ht2]; exact hM⟩, hS.F ht2⟩) hS.2.2 md_M_converted_77
        · refine lv_aload_n hx hb md_M_converted_54 rfl (lv_at hl 0 rfl) ?_
          refine lv_iload_n hx hb md_M_converted_55 rfl (lv_at hl 1 rfl) ?_
          refine lv_lload_n hx hb md_M_converted_56 rfl (lv_at hl 2 rfl) ?_
          refine m_calll (va_runV (C := "NumberProbeModel") (As := [.int p0, .long p1]) (rest := []) ⟨hx, hb, hml, hown, hts⟩ (mz_M_toWhole l D cL h0 q0 _ u p0 p1) (cwV 2 hts (gd_V tm_508 tm_510 tm_21 tm_25 tm_511) rfl rfl rfl (by decide +kernel) ⟨Nat.le_of_ble_eq_true rfl, Nat.le_of_ble_eq_true rfl⟩) (m_in (locs := []) hK hM) rfl rfl hl.1 rfl (lv_room (Nat.le_of_ble_eq_true rfl)) md_M_converted_57 ⟨Nat.zero_le _, Nat.zero_le _⟩) hM hS hA (fun r_29 u_31 H_32 L_33 e_30 hM hS => ?_)
          refine vp_callSl (W.runS (As := [.long r_29]) (rest := []) ⟨hx, hb, hml, hown, hts⟩ (mz_M_bounded l r_29) (va_cwS 1 hts (gd_S tm_512 tm_513 tm_25 tm_514) rfl rfl rfl (by decide +kernel) ⟨Nat.le_of_ble_eq_true rfl, Nat.le_of_ble_eq_true rfl⟩) ⟨fb_0, fun U hU hW => ⟨rfl, trivial⟩⟩ rfl rfl hl.1 rfl (lv_room (Nat.le_of_ble_eq_true rfl)) md_M_converted_60 ⟨Nat.zero_le _, Nat.zero_le _⟩) (fun r_34 e_35 => ?_)
          exact W.lret (v := r_34) hx hb hr (fun t ht2 _ => ⟨⟨r_34, u_31, rfl, ⟨(fun hz _ => e_35 (e_30.1 hz)), (e_30.2.trans rfl)⟩, by show MWd D cL h0 q0 A _ t.heap; rw [ht2]; exact hM⟩, hS.F ht2⟩) hS.2.2 md_M_converted_63
      · refine lv_aload_n hx hb md_M_converted_41 rfl (lv_at hl 0 rfl) ?_
        refine lv_iload_n hx hb md_M_converted_42 rfl (lv_at hl 1 rfl) ?_
        refine lv_lload_n hx hb md_M_converted_43 rfl (lv_at hl 2 rfl) ?_
        refine m_calll (va_runV (C := "NumberProbeModel") (As := [.int p0, .long p1]) (rest := []) ⟨hx, hb, hml, hown, hts⟩ (mz_M_toWhole l D cL h0 q0 _ u p0 p1) (cwV 2 hts (gd_V tm_508 tm_510 tm_21 tm_25 tm_511) rfl rfl rfl (by decide +kernel) ⟨Nat.le_of_ble_eq_true rfl, Nat.le_of_ble_eq_true rfl⟩) (m_in (locs := []) hK hM) rfl rfl hl.1 rfl (lv_room (Nat.le_of_ble_eq_true rfl)) md_M_converted_44 ⟨Nat.zero_le _, Nat.zero_le _⟩) hM hS hA (fun r_36 u_38 H_39 L_40 e_37 hM hS => ?_)
        exact W.lret (v := r_36) hx hb hr (fun t ht2 _ => ⟨⟨r_36, u_38, rfl, ⟨(fun hz _ => e_37.1 hz), (e_37.2.trans rfl)⟩, by show MWd D cL h0 q0 A _ t.heap; rw [ht2]; exact hM⟩, hS.F ht2⟩) hS.2.2 md_M_converted_47
    · refine lv_iload hx hb md_M_converted_13 (lv_at hl 3 rfl) ?_
      refine lv_iconst (v := 1) hx hb md_M_converted_15 (by decide) ?_
      refine lv_icmp_le (tgt := 28) hx hb md_M_converted_16 (by decide) (fun c_41 => ?_) (fun c_41 => ?_)
      · refine lv_iload hx hb md_M_converted_28 (lv_at hl 3 rfl) ?_
        refine lv_lload_n hx hb md_M_converted_30 rfl (lv_at hl 2 rfl) ?_
        refine vp_callSl (W.runS (As := [.int p2, .long p1]) (rest := []) ⟨hx, hb, hml, hown, hts⟩ (mt_M_ofWhole l p2 p1) (va_cwS 2 hts (gd_S tm_394 tm_395 tm_25 tm_396) rfl rfl rfl (by decide +kernel) ⟨Nat.le_of_ble_eq_true rfl, Nat.le_of_ble_eq_true rfl⟩) ⟨fb_0, fun U hU hW => ⟨rfl, trivial⟩⟩ rfl rfl hl.1 rfl (lv_room (Nat.le_of_ble_eq_true rfl)) md_M_converted_31 ⟨Nat.zero_le _, Nat.zero_le _⟩) (fun r_42 e_43 => ?_)
        exact W.lret (v := r_42) hx hb hr (fun t ht2 _ => ⟨⟨r_42, u, rfl, ⟨(fun _ h9 => by rcases h9 with q | q <;> (have f9 := c_41; rw [q] at f9; exact absurd f9 (by decide))), rfl⟩, by show MWd D cL h0 q0 A _ t.heap; rw [ht2]; exact hM⟩, hS.F ht2⟩) hS.2.2 md_M_converted_34
      · refine lv_iload hx hb md_M_converted_19 (lv_at hl 3 rfl) ?_
        refine lv_lload_n hx hb md_M_converted_21 rfl (lv_at hl 2 rfl) ?_
        refine vp_callSl (W.runS (As := [.int p2, .long p1]) (rest := []) ⟨hx, hb, hml, hown, hts⟩ (mz_M_normal l p2 p1) (va_cwS 2 hts (gd_S tm_362 tm_363 tm_25 tm_364) rfl rfl rfl (by decide +kernel) ⟨Nat.le_of_ble_eq_true rfl, Nat.le_of_ble_eq_true rfl⟩) ⟨fb_0, fun U hU hW => ⟨rfl, trivial⟩⟩ rfl rfl hl.1 rfl (lv_room (Nat.le_of_ble_eq_true rfl)) md_M_converted_22 ⟨Nat.zero_le _, Nat.zero_le _⟩) (fun r_44 e_45 => ?_)
        refine lv_goto (tgt := 34) hx hb md_M_converted_25 (by decide) ?_
        exact W.lret (v := r_44) hx hb hr (fun t ht2 _ => ⟨⟨r_44, u, rfl, ⟨(fun hz _ => e_45 hz), rfl⟩, by show MWd D cL h0 q0 A _ t.heap; rw [ht2]; exact hM⟩, hS.F ht2⟩) hS.2.2 md_M_converted_34
  · refine lv_lload_n hx hb md_M_converted_6 rfl (lv_at hl 2 rfl) ?_
    exact W.lret (v := p1) hx hb hr (fun t ht2 _ => ⟨⟨p1, u, rfl, ⟨(fun hz _ => hz), rfl⟩, by show MWd D cL h0 q0 A _ t.heap; rw [ht2]; exact hM⟩, hS.F ht2⟩) hS.2.2 md_M_converted_7
set_option maxHeartbeats 4000000 in
set_option maxRecDepth 100000 in
theorem mz_M_placeOf (l : Launch) (D : va_G) (cL : ClassId) (h0 q0 sz : Nat) (u : MT) (p0 : Int32) (p1 : Int32) (hz : ∀ a, u.2 a = 0) (hi : rn_in p0 4 = true) (hj : rn_in p1 6 = true) : Met l my_M_placeOf mw_M_placeOf ({ frames := 4, cells := 0, slots := 0, locals := 86 } : Room) (MPc D cL h0 q0 sz u [.int p0, .int p1]) (MQl D cL h0 q0 (MA h0 q0 cL u sz) (fun (r : Int64) (v : MT) => (r = 0) ∧ v.2 = u.2)) 0 0 (MA h0 q0 cL u sz) := by
  refine Met.ofW (cc := mc_M_placeOf) (maxL := 3) (ret := (some .long)) (by decide) rfl ?_
  intro p e s m args below meth c s₁ B hml hv
  obtain ⟨rfl, hsz, hP, hK, hD0⟩ := hv
  have hx := B.exec
  have hb := B.bytes
  have hr := B.returns
  have hts := atoms_spec (ws := mw_M_placeOf) B.pre
  have ht : ∀ w ∈ gw_tbl, w.before _ s = true := fun w h => hts w (List.mem_cons_of_mem _ h)
  have hown : s.vm.findClass "NumberProbeModel" = some m.cls := findClass_of_methodNamed B.named
  have hlocks := B.notSynchronized
  subst hsz
  have hD : va_D (MA h0 q0 cL u s.heap.size) (mWs h0 q0 cL u) := hD0.self (sz := s.heap.size)
  generalize hAe : MA h0 q0 cL u s.heap.size = A at hD ⊢
  have hA : ∀ q : Nat, s.heap.size ≤ q → A q := fun q h => by rw [← hAe]; exact Or.inr h
  have hS : va_S A s.heap s.heap [] := va_S.rf
  have hM : MWd D cL h0 q0 A u s.heap := ⟨hP, hD⟩
  have hl := lv_entry ([.ref h0, .int p0, .int p1]) (n := 3) (Nat.le_of_ble_eq_true rfl)
  rw [lg_entry_eq]
  generalize (lg_sl ([.ref h0, .int p0, .int p1]) ++ List.replicate (3 - (lg_sl ([.ref h0, .int p0, .int p1])).length) Slot.unset).toArray = ls at hl ⊢
  have hl : lv_has ls 3 [(0, .ref h0), (1, .int p0), (2, .int p1)] := hl
  refine lv_iload_n hx hb md_M_placeOf_0 rfl (lv_at hl 1 rfl) ?_
  refine lv_iconst (v := 2) hx hb md_M_placeOf_1 (by decide) ?_
  refine lv_icmp_ge (tgt := 23) hx hb md_M_placeOf_2 (by decide) (fun c_1 => ?_) (fun c_1 => ?_)
  · refine lv_aload_n hx hb md_M_placeOf_23 rfl (lv_at hl 0 rfl) ?_
    refine va_get (D := D) (ci := 1) (v := .ref q0) (C := "NumberProbeModel") (T := TM) (N := 12) hx hb ht inM hown hK hM.1 0 rfl rfl 0 (by decide) (ht _ tm_318) (fun _ h9 => h9) rfl md_M_placeOf_24 ?_
    refine lv_iload_n hx hb md_M_placeOf_27 rfl (lv_at hl 1 rfl) ?_
    refine lv_bipush (v := 6) hx hb md_M_placeOf_28 (by decide) ?_
    refine lv_imul hx hb md_M_placeOf_30 ?_
    refine lv_iload_n hx hb md_M_placeOf_31 rfl (lv_at hl 2 rfl) ?_
    refine lv_iadd hx hb md_M_placeOf_32 ?_
    refine va_lald (D := D) hx hb hK hM.1 1 0 rfl rfl (rn_idx hi hj) md_M_placeOf_33 ?_
    exact W.lret (v := u.2 ((p0 * 6) + p1).toNatClampNeg) hx hb hr (fun t ht2 _ => ⟨⟨u.2 ((p0 * 6) + p1).toNatClampNeg, u, rfl, ⟨(by first | exact hz _ | (rw [hz]; exact z_pla _)), rfl⟩, by show MWd D cL h0 q0 A _ t.heap; rw [ht2]; exact hM⟩, hS.F ht2⟩) hS.2.2 md_M_placeOf_34
  · refine lv_iload_n hx hb md_M_placeOf_5 rfl (lv_at hl 1 rfl) ?_
    refine lv_aload_n hx hb md_M_placeOf_6 rfl (lv_at hl 0 rfl) ?_
    refine va_get (D := D) (ci := 1) (v := .ref q0) (C := "NumberProbeModel") (T := TM) (N := 12) hx hb ht inM hown hK hM.1 0 rfl rfl 0 (by decide) (ht _ tm_318) (fun _ h9 => h9) rfl md_M_placeOf_7 ?_
    refine lv_iload_n hx hb md_M_placeOf_10 rfl (lv_at hl 1 rfl) ?_
    refine lv_bipush (v := 6) hx hb md_M_placeOf_11 (by decide) ?_
    refine lv_imul hx hb md_M_placeOf_13 ?_
    refine lv_iload_n hx hb md_M_placeOf_14 rfl (lv_at hl 2 rfl) ?_
    refine lv_iadd hx hb md_M_placeOf_15 ?_
    refine va_lald (D := D) hx hb hK hM.1 1 0 rfl rfl (rn_idx hi hj) md_M_placeOf_16 ?_
    refine vp_callSl (W.runS (As := [.int p0, .long (u.2 ((p0 * 6) + p1).toNatClampNeg)]) (rest := []) ⟨hx, hb, hml, hown, hts⟩ (mt_M_place l p0 (u.2 ((p0 * 6) + p1).toNatClampNeg)) (va_cwS 2 hts (gd_S tm_491 tm_492 tm_25 tm_493) rfl rfl rfl (by decide +kernel) ⟨Nat.le_of_ble_eq_true rfl, Nat.le_of_ble_eq_true rfl⟩) ⟨fb_0, fun U hU hW => ⟨rfl, trivial⟩⟩ rfl rfl hl.1 rfl (lv_room (Nat.le_of_ble_eq_true rfl)) md_M_placeOf_17 ⟨Nat.zero_le _, Nat.zero_le _⟩) (fun r_2 e_3 => ?_)
    obtain rfl : r_2 = rf_pla p0 (u.2 ((p0 * 6) + p1).toNatClampNeg) := e_3
    refine lv_goto (tgt := 34) hx hb md_M_placeOf_20 (by decide) ?_
    exact W.lret (v := rf_pla p0 (u.2 ((p0 * 6) + p1).toNatClampNeg)) hx hb hr (fun t ht2 _ => ⟨⟨rf_pla p0 (u.2 ((p0 * 6) + p1).toNatClampNeg), u, rfl, ⟨(by first | exact hz _ | (rw [hz]; exact z_pla _)), rfl⟩, by show MWd D cL h0 q0 A _ t.heap; rw [ht2]; exact hM⟩, hS.F ht2⟩) hS.2.2 md_M_placeOf_34
set_option maxHeartbeats 4000000 in
set_option maxRecDepth 100000 in
theorem mz_M_bits (l : Launch) (D : va_G) (cL : ClassId) (h0 q0 sz : Nat) (u : MT) (p0 : Int32) (p1 : Int32) (hz : ∀ a, u.2 a = 0) : Met l my_M_bits mw_M_bits ({ frames := 1, cells := 0, slots := 0, locals := 21 } : Room) (MPc D cL h0 q0 sz u [.int p0, .int p1]) (MQl D cL h0 q0 (MA h0 q0 cL u sz) (fun (r : Int64) (v : MT) => r = 0)) 0 0 (MA h0 q0 cL u sz) := by
  refine Met.ofW (cc := mc_M_bits) (maxL := 3) (ret := (some .long)) (by decide) rfl ?_
  intro p e s m args below meth c s₁ B hml hv
  obtain ⟨rfl, hsz, hP, hK, hD0⟩ := hv
  have hx := B.exec
  have hb := B.bytes
  have hr := B.returns
  have hts := atoms_spec (ws := mw_M_bits) B.pre
  have ht : ∀ w ∈ gw_tbl, w.before _ s = true := fun w h => hts w (List.mem_cons_of_mem _ h)
  have hown : s.vm.findClass "NumberProbeModel" = some m.cls := findClass_of_methodNamed B.named
  have hlocks := B.notSynchronized
  subst hsz
  have hD : va_D (MA h0 q0 cL u s.heap.size) (mWs h0 q0 cL u) := hD0.self (sz := s.heap.size)
  generalize hAe : MA h0 q0 cL u s.heap.size = A at hD ⊢
  have hA : ∀ q : Nat, s.heap.size ≤ q → A q := fun q h => by rw [← hAe]; exact Or.inr h
  have hS : va_S A s.heap s.heap [] := va_S.rf
  have hM : MWd D cL h0 q0 A u s.heap := ⟨hP, hD⟩
  have hl := lv_entry ([.ref h0, .int p0, .int p1]) (n := 3) (Nat.le_of_ble_eq_true rfl)
  rw [lg_entry_eq]
  generalize (lg_sl ([.ref h0, .int p0, .int p1]) ++ List.replicate (3 - (lg_sl ([.ref h0, .int p0, .int p1])).length) Slot.unset).toArray = ls at hl ⊢
  have hl : lv_has ls 3 [(0, .ref h0), (1, .int p0), (2, .int p1)] := hl
  refine lv_iload_n hx hb md_M_bits_0 rfl (lv_at hl 1 rfl) ?_
  refine lv_iconst (v := 4) hx hb md_M_bits_1 (by decide) ?_
  refine vp_callSi (W.runS (As := [.int p0, .int 4]) (rest := []) ⟨hx, hb, hml, hown, hts⟩ (mt_M_in l p0 4) (va_cwS 2 hts (gd_S tm_359 tm_360 tm_25 tm_361) rfl rfl rfl (by decide +kernel) ⟨Nat.le_of_ble_eq_true rfl, Nat.le_of_ble_eq_true rfl⟩) ⟨fb_0, fun U hU hW => ⟨rfl, trivial⟩⟩ rfl rfl hl.1 rfl (lv_room (Nat.le_of_ble_eq_true rfl)) md_M_bits_2 ⟨Nat.zero_le _, Nat.zero_le _⟩) (fun r_1 e_2 => ?_)
  obtain rfl : r_1 = jb (rn_in p0 4) := e_2
  refine lv_if_eq (tgt := 17) hx hb md_M_bits_5 (by decide) (fun c_3 => ?_) (fun c_3 => ?_)
  · refine lv_lconst (v := 0) hx hb md_M_bits_17 (by decide) ?_
    exact W.lret (v := 0) hx hb hr (fun t ht2 _ => ⟨⟨0, u, rfl, (by first | rfl | exact hz _ | (rw [hz]; rfl)), by show MWd D cL h0 q0 A _ t.heap; rw [ht2]; exact hM⟩, hS.F ht2⟩) hS.2.2 md_M_bits_18
  · refine lv_iload_n hx hb md_M_bits_8 rfl (lv_at hl 2 rfl) ?_
    refine lv_bipush (v := 6) hx hb md_M_bits_9 (by decide) ?_
    refine vp_callSi (W.runS (As := [.int p1, .int 6]) (rest := []) ⟨hx, hb, hml, hown, hts⟩ (mt_M_in l p1 6) (va_cwS 2 hts (gd_S tm_359 tm_360 tm_25 tm_361) rfl rfl rfl (by decide +kernel) ⟨Nat.le_of_ble_eq_true rfl, Nat.le_of_ble_eq_true rfl⟩) ⟨fb_0, fun U hU hW => ⟨rfl, trivial⟩⟩ rfl rfl hl.1 rfl (lv_room (Nat.le_of_ble_eq_true rfl)) md_M_bits_11 ⟨Nat.zero_le _, Nat.zero_le _⟩) (fun r_4 e_5 => ?_)
    obtain rfl : r_4 = jb (rn_in p1 6) := e_5
    refine lv_if_ne (tgt := 19) hx hb md_M_bits_14 (by decide) (fun c_6 => ?_) (fun c_6 => ?_)
    · refine lv_iload_n hx hb md_M_bits_19 rfl (lv_at hl 1 rfl) ?_
      refine lv_if_ne (tgt := 34) hx hb md_M_bits_20 (by decide) (fun c_7 => ?_) (fun c_7 => ?_)
      · refine lv_aload_n hx hb md_M_bits_34 rfl (lv_at hl 0 rfl) ?_
        refine va_get (D := D) (ci := 1) (v := .ref q0) (C := "NumberProbeModel") (T := TM) (N := 12) hx hb ht inM hown hK hM.1 0 rfl rfl 0 (by decide) (ht _ tm_318) (fun _ h9 => h9) rfl md_M_bits_35 ?_
        refine lv_iload_n hx hb md_M_bits_38 rfl (lv_at hl 1 rfl) ?_
        refine lv_bipush (v := 6) hx hb md_M_bits_39 (by decide) ?_
        refine lv_imul hx hb md_M_bits_41 ?_
        refine lv_iload_n hx hb md_M_bits_42 rfl (lv_at hl 2 rfl) ?_
        refine lv_iadd hx hb md_M_bits_43 ?_
        refine va_lald (D := D) hx hb hK hM.1 1 0 rfl rfl (rn_idx (jb_n0.mp c_3) (jb_n0.mp c_6)) md_M_bits_44 ?_
        exact W.lret (v := u.2 ((p0 * 6) + p1).toNatClampNeg) hx hb hr (fun t ht2 _ => ⟨⟨u.2 ((p0 * 6) + p1).toNatClampNeg, u, rfl, (by first | rfl | exact hz _ | (rw [hz]; rfl)), by show MWd D cL h0 q0 A _ t.heap; rw [ht2]; exact hM⟩, hS.F ht2⟩) hS.2.2 md_M_bits_45
      · refine lv_aload_n hx hb md_M_bits_23 rfl (lv_at hl 0 rfl) ?_
        refine va_get (D := D) (ci := 1) (v := .ref q0) (C := "NumberProbeModel") (T := TM) (N := 12) hx hb ht inM hown hK hM.1 0 rfl rfl 0 (by decide) (ht _ tm_318) (fun _ h9 => h9) rfl md_M_bits_24 ?_
        refine lv_iload_n hx hb md_M_bits_27 rfl (lv_at hl 2 rfl) ?_
        refine va_lald (D := D) hx hb hK hM.1 1 0 rfl rfl (rn_i6 (jb_n0.mp c_6)).1 md_M_bits_28 ?_
        refine lv_l2i (v := (u.2 p1.toNatClampNeg).toInt32) hx hb md_M_bits_29 rfl ?_
        refine lv_i2l (v := ((u.2 p1.toNatClampNeg).toInt32).toInt64) hx hb md_M_bits_30 rfl ?_
        refine lv_goto (tgt := 45) hx hb md_M_bits_31 (by decide) ?_
        exact W.lret (v := ((u.2 p1.toNatClampNeg).toInt32).toInt64) hx hb hr (fun t ht2 _ => ⟨⟨((u.2 p1.toNatClampNeg).toInt32).toInt64, u, rfl, (by first | rfl | exact hz _ | (rw [hz]; rfl)), by show MWd D cL h0 q0 A _ t.heap; rw [ht2]; exact hM⟩, hS.F ht2⟩) hS.2.2 md_M_bits_45
    · refine lv_lconst (v := 0) hx hb md_M_bits_17 (by decide) ?_
      exact W.lret (v := 0) hx hb hr (fun t ht2 _ => ⟨⟨0, u, rfl, (by first | rfl | exact hz _ | (rw [hz]; rfl)), by show MWd D cL h0 q0 A _ t.heap; rw [ht2]; exact hM⟩, hS.F ht2⟩) hS.2.2 md_M_bits_18
set_option maxHeartbeats 4000000 in
set_option maxRecDepth 100000 in
theorem mz_M_operate (l : Launch) (D : va_G) (cL : ClassId) (h0 q0 sz : Nat) (u : MT) (p0 : Int32) (p1 : Int32) (p2 : Int32) (p3 : Int32) (p4 : Int32) (hz : ∀ a, u.2 a = 0) : Met l my_M_operate mw_M_operate ({ frames := 6, cells := 0, slots := 0, locals := 154 } : Room) (MPc D cL h0 q0 sz u [.int p0, .int p1, .int p2, .int p3, .int p4]) (MQi D cL h0 q0 (MA h0 q0 cL u sz) (fun (r : Int32) (v : MT) => r = mz_ope p0 p1 p2 p3 p4)) 0 0 (MA h0 q0 cL u sz) := by
  refine Met.ofW (cc := mc_M_operate) (maxL := 10) (ret := (some .int)) (by decide) rfl ?_
  intro p e s m args below meth c s₁ B hml hv
  obtain ⟨rfl, hsz, hP, hK, hD0⟩ := hv
  have hx := B.exec
  have hb := B.bytes
  have hr := B.returns
  have hts := atoms_spec (ws := mw_M_operate) B.pre
  have ht : ∀ w ∈ gw_tbl, w.before _ s = true := fun w h => hts w (List.mem_cons_of_mem _ h)
  have hown : s.vm.findClass "NumberProbeModel" = some m.cls := findClass_of_methodNamed B.named
  have hlocks := B.notSynchronized
  subst hsz
  have hD : va_D (MA h0 q0 cL u s.heap.size) (mWs h0 q0 cL u) := hD0.self (sz := s.heap.size)
  generalize hAe : MA h0 q0 cL u s.heap.size = A at hD ⊢
  have hA : ∀ q : Nat, s.heap.size ≤ q → A q := fun q h => by rw [← hAe]; exact Or.inr h
  have hS : va_S A s.heap s.heap [] := va_S.rf
  have hM : MWd D cL h0 q0 A u s.heap := ⟨hP, hD⟩
  have hl := lv_entry ([.ref h0, .int p0, .int p1, .int p2, .int p3, .int p4]) (n := 10) (Nat.le_of_ble_eq_true rfl)
  rw [lg_entry_eq]
  generalize (lg_sl ([.ref h0, .int p0, .int p1, .int p2, .int p3, .int p4]) ++ List.replicate (10 - (lg_sl ([.ref h0, .int p0, .int p1, .int p2, .int p3, .int p4])).length) Slot.unset).toArray = ls at hl ⊢
  have hl : lv_has ls 10 [(0, .ref h0), (1, .int p0), (2, .int p1), (3, .int p2), (4, .int p3), (5, .int p4)] := hl
  refine lv_iload_n hx hb md_M_operate_0 rfl (lv_at hl 1 rfl) ?_
  refine lv_iconst (v := 4) hx hb md_M_operate_1 (by decide) ?_
  refine vp_callSi (W.runS (As := [.int p0, .int 4]) (rest := []) ⟨hx, hb, hml, hown, hts⟩ (mt_M_in l p0 4) (va_cwS 2 hts (gd_S tm_359 tm_360 tm_25 tm_361) rfl rfl rfl (by decide +kernel) ⟨Nat.le_of_ble_eq_true rfl, Nat.le_of_ble_eq_true rfl⟩) ⟨fb_0, fun U hU hW => ⟨rfl, trivial⟩⟩ rfl rfl hl.1 rfl (lv_room (Nat.le_of_ble_eq_true rfl)) md_M_operate_2 ⟨Nat.zero_le _, Nat.zero_le _⟩) (fun r_1 e_2 => ?_)
  obtain rfl : r_1 = jb (rn_in p0 4) := e_2
  refine lv_if_eq (tgt := 56) hx hb md_M_operate_5 (by decide) (fun c_3 => ?_) (fun c_3 => ?_)
  · refine lv_iconst (v := (-1)) hx hb md_M_operate_56 (by decide) ?_
    exact W.iret (v := (-1)) hx hb hr (fun t ht2 _ => ⟨⟨(-1), u, rfl, (by first | (simp [mz_ope, (show rn_in 3 15 = true from by decide), (show rn_in 4 15 = true from by decide), (show rn_in 3 9 = true from by decide), (show rn_in 4 9 = true from by decide), (jb_0.mp c_3)]; done) | (have f9 := (jb_0.mp c_3); simp [hz, z_isN, z_isI, z_isS, z_man, z_pow, z_pla, z_siz, z_shl, z_ush] at f9; done)), by show MWd D cL h0 q0 A _ t.heap; rw [ht2]; exact hM⟩, hS.F ht2⟩) hS.2.2 md_M_operate_57
  · refine lv_iload_n hx hb md_M_operate_8 rfl (lv_at hl 2 rfl) ?_
    refine lv_iload_n hx hb md_M_operate_9 rfl (lv_at hl 1 rfl) ?_
    refine lv_iconst (v := 2) hx hb md_M_operate_10 (by decide) ?_
    refine lv_icmp_ge (tgt := 19) hx hb md_M_operate_11 (by decide) (fun c_4 => ?_) (fun c_4 => ?_)
    · refine lv_bipush (v := 15) hx hb md_M_operate_19 (by decide) ?_
      refine vp_callSi (W.runS (As := [.int p1, .int 15]) (rest := []) ⟨hx, hb, hml, hown, hts⟩ (mt_M_in l p1 15) (va_cwS 2 hts (gd_S tm_359 tm_360 tm_25 tm_361) rfl rfl rfl (by decide +kernel) ⟨Nat.le_of_ble_eq_true rfl, Nat.le_of_ble_eq_true rfl⟩) ⟨fb_0, fun U hU hW => ⟨rfl, trivial⟩⟩ rfl rfl hl.1 rfl (lv_room (Nat.le_of_ble_eq_true rfl)) md_M_operate_21 ⟨Nat.zero_le _, Nat.zero_le _⟩) (fun r_5 e_6 => ?_)
      obtain rfl : r_5 = jb (rn_in p1 15) := e_6
      refine lv_if_eq (tgt := 56) hx hb md_M_operate_24 (by decide) (fun c_7 => ?_) (fun c_7 => ?_)
      · refine lv_iconst (v := (-1)) hx hb md_M_operate_56 (by decide) ?_
        exact W.iret (v := (-1)) hx hb hr (fun t ht2 _ => ⟨⟨(-1), u, rfl, (by first | (simp [mz_ope, (show rn_in 3 15 = true from by decide), (show rn_in 4 15 = true from by decide), (show rn_in 3 9 = true from by decide), (show rn_in 4 9 = true from by decide), (jb_n0.mp c_3), c_4, (jb_0.mp c_7)]; done) | (have f9 := (jb_n0.mp c_3); simp [hz, z_isN, z_isI, z_isS, z_man, z_pow, z_pla, z_siz, z_shl, z_ush] at f9; done) | (have f9 := c_4; simp [hz, z_isN, z_isI, z_isS, z_man, z_pow, z_pla, z_siz, z_shl, z_ush] at f9; done) | (have f9 := (jb_0.mp c_7); simp [hz, z_isN, z_isI, z_isS, z_man, z_pow, z_pla, z_siz, z_shl, z_ush] at f9; done)), by show MWd D cL h0 q0 A _ t.heap; rw [ht2]; exact hM⟩, hS.F ht2⟩) hS.2.2 md_M_operate_57
      · refine lv_iload_n hx hb md_M_operate_27 rfl (lv_at hl 3 rfl) ?_
        refine lv_bipush (v := 6) hx hb md_M_operate_28 (by decide) ?_
        refine vp_callSi (W.runS (As := [.int p2, .int 6]) (rest := []) ⟨hx, hb, hml, hown, hts⟩ (mt_M_in l p2 6) (va_cwS 2 hts (gd_S tm_359 tm_360 tm_25 tm_361) rfl rfl rfl (by decide +kernel) ⟨Nat.le_of_ble_eq_true rfl, Nat.le_of_ble_eq_true rfl⟩) ⟨fb_0, fun U hU hW => ⟨rfl, trivial⟩⟩ rfl rfl hl.1 rfl (lv_room (Nat.le_of_ble_eq_true rfl)) md_M_operate_30 ⟨Nat.zero_le _, Nat.zero_le _⟩) (fun r_8 e_9 => ?_)
        obtain rfl : r_8 = jb (rn_in p2 6) := e_9
        refine lv_if_eq (tgt := 56) hx hb md_M_operate_33 (by decide) (fun c_10 => ?_) (fun c_10 => ?_)
        · refine lv_iconst (v := (-1)) hx hb md_M_operate_56 (by decide) ?_
          exact W.iret (v := (-1)) hx hb hr (fun t ht2 _ => ⟨⟨(-1), u, rfl, (by first | (simp [mz_ope, (show rn_in 3 15 = true from by decide), (show rn_in 4 15 = true from by decide), (show rn_in 3 9 = true from by decide), (show rn_in 4 9 = true from by decide), (jb_n0.mp c_3), c_4, (jb_n0.mp c_7), (jb_0.mp c_10)]; done) | (have f9 := (jb_n0.mp c_3); simp [hz, z_isN, z_isI, z_isS, z_man, z_pow, z_pla, z_siz, z_shl, z_ush] at f9; done) | (have f9 := c_4; simp [hz, z_isN, z_isI, z_isS, z_man, z_pow, z_pla, z_siz, z_shl, z_ush] at f9; done) | (have f9 := (jb_n0.mp c_7); simp [hz, z_isN, z_isI, z_isS, z_man, z_pow, z_pla, z_siz, z_shl, z_ush] at f9; done) | (have f9 := (jb_0.mp c_10); simp [hz, z_isN, z_isI, z_isS, z_man, z_pow, z_pla, z_siz, z_shl, z_ush] at f9; done)), by show MWd D cL h0 q0 A _ t.heap; rw [ht2]; exact hM⟩, hS.F ht2⟩) hS.2.2 md_M_operate_57
        · refine lv_iload hx hb md_M_operate_36 (lv_at hl 4 rfl) ?_
          refine lv_bipush (v := 6) hx hb md_M_operate_38 (by decide) ?_
          refine vp_callSi (W.runS (As := [.int p3, .int 6]) (rest := []) ⟨hx, hb, hml, hown, hts⟩ (mt_M_in l p3 6) (va_cwS 2 hts (gd_S tm_359 tm_360 tm_25 tm_361) rfl rfl rfl (by decide +kernel) ⟨Nat.le_of_ble_eq_true rfl, Nat.le_of_ble_eq_true rfl⟩) ⟨fb_0, fun U hU hW => ⟨rfl, trivial⟩⟩ rfl rfl hl.1 rfl (lv_room (Nat.le_of_ble_eq_true rfl)) md_M_operate_40 ⟨Nat.zero_le _, Nat.zero_le _⟩) (fun r_11 e_12 => ?_)
          obtain rfl : r_11 = jb (rn_in p3 6) := e_12
          refine lv_if_eq (tgt := 56) hx hb md_M_operate_43 (by decide) (fun c_13 => ?_) (fun c_13 => ?_)
          · refine lv_iconst (v := (-1)) hx hb md_M_operate_56 (by decide) ?_
            exact W.iret (v := (-1)) hx hb hr (fun t ht2 _ => ⟨⟨(-1), u, rfl, (by first | (simp [mz_ope, (show rn_in 3 15 = true from by decide), (show rn_in 4 15 = true from by decide), (show rn_in 3 9 = true from by decide), (show rn_in 4 9 = true from by decide), (jb_n0.mp c_3), c_4, (jb_n0.mp c_7), (jb_n0.mp c_10), (jb_0.mp c_13)]; done) | (have f9 := (jb_n0.mp c_3); simp [hz, z_isN, z_isI, z_isS, z_man, z_pow, z_pla, z_siz, z_shl, z_ush] at f9; done) | (have f9 := c_4; simp [hz, z_isN, z_isI, z_isS, z_man, z_pow, z_pla, z_siz, z_shl, z_ush] at f9; done) | (have f9 := (jb_n0.mp c_7); simp [hz, z_isN, z_isI, z_isS, z_man, z_pow, z_pla, z_siz, z_shl, z_ush] at f9; done) | (have f9 := (jb_n0.mp c_10); simp [hz, z_isN, z_isI, z_isS, z_man, z_pow, z_pla, z_siz, z_shl, z_ush] at f9; done) | (have f9 := (jb_0.mp c_13); simp [hz, z_isN, z_isI, z_isS, z_man, z_pow, z_pla, z_siz, z_shl, z_ush] at f9; done)), by show MWd D cL h0 q0 A _ t.heap; rw [ht2]; exact hM⟩, hS.F ht2⟩) hS.2.2 md_M_operate_57
          · refine lv_iload hx hb md_M_operate_46 (lv_at hl 5 rfl) ?_
            refine lv_bipush (v := 6) hx hb md_M_operate_48 (by decide) ?_
            refine vp_callSi (W.runS (As := [.int p4, .int 6]) (rest := []) ⟨hx, hb, hml, hown, hts⟩ (mt_M_in l p4 6) (va_cwS 2 hts (gd_S tm_359 tm_360 tm_25 tm_361) rfl rfl rfl (by decide +kernel) ⟨Nat.le_of_ble_eq_true rfl, Nat.le_of_ble_eq_true rfl⟩) ⟨fb_0, fun U hU hW => ⟨rfl, trivial⟩⟩ rfl rfl hl.1 rfl (lv_room (Nat.le_of_ble_eq_true rfl)) md_M_operate_50 ⟨Nat.zero_le _, Nat.zero_le _⟩) (fun r_14 e_15 => ?_)
            obtain rfl : r_14 = jb (rn_in p4 6) := e_15
            refine lv_if_ne (tgt := 58) hx hb md_M_operate_53 (by decide) (fun c_16 => ?_) (fun c_16 => ?_)
            · refine lv_aload_n hx hb md_M_operate_58 rfl (lv_at hl 0 rfl) ?_
              refine va_get (D := D) (ci := 1) (v := .ref q0) (C := "NumberProbeModel") (T := TM) (N := 12) hx hb ht inM hown hK hM.1 0 rfl rfl 0 (by decide) (ht _ tm_318) (fun _ h9 => h9) rfl md_M_operate_59 ?_
              refine lv_iload_n hx hb md_M_operate_62 rfl (lv_at hl 1 rfl) ?_
              refine lv_bipush (v := 6) hx hb md_M_operate_63 (by decide) ?_
              refine lv_imul hx hb md_M_operate_65 ?_
              refine lv_iload_n hx hb md_M_operate_66 rfl (lv_at hl 3 rfl) ?_
              refine lv_iadd hx hb md_M_operate_67 ?_
              refine va_lald (D := D) hx hb hK hM.1 1 0 rfl rfl (rn_idx (jb_n0.mp c_3) (jb_n0.mp c_10)) md_M_operate_68 ?_
              refine lv_lstore (lv' := [(6, .long (u.2 ((p0 * 6) + p2).toNatClampNeg)), (0, .ref h0), (1, .int p0), (2, .int p1), (3, .int p2), (4, .int p3), (5, .int p4)]) hx hb md_M_operate_69 hl (by decide) rfl (fun ls hl => ?_)
              refine lv_aload_n hx hb md_M_operate_71 rfl (lv_at hl 1 rfl) ?_
              refine va_get (D := D) (ci := 1) (v := .ref q0) (C := "NumberProbeModel") (T := TM) (N := 12) hx hb ht inM hown hK hM.1 0 rfl rfl 0 (by decide) (ht _ tm_318) (fun _ h9 => h9) rfl md_M_operate_72 ?_
              refine lv_iload_n hx hb md_M_operate_75 rfl (lv_at hl 2 rfl) ?_
              refine lv_bipush (v := 6) hx hb md_M_operate_76 (by decide) ?_
              refine lv_imul hx hb md_M_operate_78 ?_
              refine lv_iload hx hb md_M_operate_79 (lv_at hl 5 rfl) ?_
              refine lv_iadd hx hb md_M_operate_81 ?_
              refine va_lald (D := D) hx hb hK hM.1 1 0 rfl rfl (rn_idx (jb_n0.mp c_3) (jb_n0.mp c_13)) md_M_operate_82 ?_
              refine lv_lstore (lv' := [(8, .long (u.2 ((p0 * 6) + p3).toNatClampNeg)), (6, .long (u.2 ((p0 * 6) + p2).toNatClampNeg)), (0, .ref h0), (1, .int p0), (2, .int p1), (3, .int p2), (4, .int p3), (5, .int p4)]) hx hb md_M_operate_83 hl (by decide) rfl (fun ls hl => ?_)
              refine lv_iload_n hx hb md_M_operate_85 rfl (lv_at hl 3 rfl) ?_
              refine lv_iconst (v := 1) hx hb md_M_operate_86 (by decide) ?_
              refine lv_icmp_le (tgt := 110) hx hb md_M_operate_87 (by decide) (fun c_17 => ?_) (fun c_17 => ?_)
              · refine lv_aload_n hx hb md_M_operate_110 rfl (lv_at hl 2 rfl) ?_
                refine va_get (D := D) (ci := 1) (v := .ref q0) (C := "NumberProbeModel") (T := TM) (N := 12) hx hb ht inM hown hK hM.1 0 rfl rfl 0 (by decide) (ht _ tm_318) (fun _ h9 => h9) rfl md_M_operate_111 ?_
                refine lv_iload_n hx hb md_M_operate_114 rfl (lv_at hl 3 rfl) ?_
                refine lv_bipush (v := 6) hx hb md_M_operate_115 (by decide) ?_
                refine lv_imul hx hb md_M_operate_117 ?_
                refine lv_iload hx hb md_M_operate_118 (lv_at hl 7 rfl) ?_
                refine lv_iadd hx hb md_M_operate_120 ?_
                refine lv_iload_n hx hb md_M_operate_121 rfl (lv_at hl 3 rfl) ?_
                refine lv_iconst (v := 2) hx hb md_M_operate_122 (by decide) ?_
                refine lv_icmp_ge (tgt := 139) hx hb md_M_operate_123 (by decide) (fun c_18 => ?_) (fun c_18 => ?_)
                · refine lv_iload_n hx hb md_M_operate_139 rfl (lv_at hl 3 rfl) ?_
                  refine lv_iload_n hx hb md_M_operate_140 rfl (lv_at hl 3 rfl) ?_
                  refine lv_iload_n hx hb md_M_operate_141 rfl (lv_at hl 4 rfl) ?_
                  refine lv_lload hx hb md_M_operate_142 (lv_at hl 1 rfl) ?_
                  refine lv_lload hx hb md_M_operate_144 (lv_at hl 0 rfl) ?_
                  refine vp_callSl (W.runS (As := [.int p0, .int p1, .long (u.2 ((p0 * 6) + p2).toNatClampNeg), .long (u.2 ((p0 * 6) + p3).toNatClampNeg)]) (rest := [.int p0, .int ((p0 * 6) + p4), .ref q0]) ⟨hx, hb, hml, hown, hts⟩ (mt_M_operateWhole l p0 p1 (u.2 ((p0 * 6) + p2).toNatClampNeg) (u.2 ((p0 * 6) + p3).toNatClampNeg) (fun _ => (m_kd c_17 c_18).elim)) (va_cwS 4 hts (gd_S tm_494 tm_495 tm_25 tm_496) rfl rfl rfl (by decide +kernel) ⟨Nat.le_of_ble_eq_true rfl, Nat.le_of_ble_eq_true rfl⟩) ⟨fb_0, fun U hU hW => ⟨rfl, trivial⟩⟩ rfl rfl hl.1 rfl (lv_room (Nat.le_of_ble_eq_true rfl)) md_M_operate_146 ⟨Nat.zero_le _, Nat.zero_le _⟩) (fun r_19 e_20 => ?_)
                  refine vp_callSl (W.runS (As := [.int p0, .long r_19]) (rest := [.int ((p0 * 6) + p4), .ref q0]) ⟨hx, hb, hml, hown, hts⟩ (mz_M_normal l p0 r_19) (va_cwS 2 hts (gd_S tm_362 tm_363 tm_25 tm_364) rfl rfl rfl (by decide +kernel) ⟨Nat.le_of_ble_eq_true rfl, Nat.le_of_ble_eq_true rfl⟩) ⟨fb_0, fun U hU hW => ⟨rfl, trivial⟩⟩ rfl rfl hl.1 rfl (lv_room (Nat.le_of_ble_eq_true rfl)) md_M_operate_149 ⟨Nat.zero_le _, Nat.zero_le _⟩) (fun r_21 e_22 => ?_)
                  refine m_ast hx hb hK hM hS (rn_idx (jb_n0.mp c_3) (jb_n0.mp c_16)) md_M_operate_152 (fun u_23 H_24 L_25 hM hS => ?_)
                  refine lv_iconst (v := 0) hx hb md_M_operate_153 (by decide) ?_
                  exact W.iret (v := 0) hx hb hr (fun t ht2 _ => ⟨⟨0, u_23, rfl, (by first | (simp [mz_ope, (show rn_in 3 15 = true from by decide), (show rn_in 4 15 = true from by decide), (show rn_in 3 9 = true from by decide), (show rn_in 4 9 = true from by decide), (jb_n0.mp c_3), c_4, (jb_n0.mp c_7), (jb_n0.mp c_10), (jb_n0.mp c_13), (jb_n0.mp c_16), c_17, c_18]; done) | (have f9 := (jb_n0.mp c_3); simp [hz, z_isN, z_isI, z_isS, z_man, z_pow, z_pla, z_siz, z_shl, z_ush] at f9; done) | (have f9 := c_4; simp [hz, z_isN, z_isI, z_isS, z_man, z_pow, z_pla, z_siz, z_shl, z_ush] at f9; done) | (have f9 := (jb_n0.mp c_7); simp [hz, z_isN, z_isI, z_isS, z_man, z_pow, z_pla, z_siz, z_shl, z_ush] at f9; done) | (have f9 := (jb_n0.mp c_10); simp [hz, z_isN, z_isI, z_isS, z_man, z_pow, z_pla, z_siz, z_shl, z_ush] at f9; done) | (have f9 := (jb_n0.mp c_13); simp [hz, z_isN, z_isI, z_isS, z_man, z_pow, z_pla, z_siz, z_shl, z_ush] at f9; done) | (have f9 := (jb_n0.mp c_16); simp [hz, z_isN, z_isI, z_isS, z_man, z_pow, z_pla, z_siz, z_shl, z_ush] at f9; done) | (have f9 := c_17; simp [hz, z_isN, z_isI, z_isS, z_man, z_pow, z_pla, z_siz, z_shl, z_ush] at f9; done) | (have f9 := c_18; simp [hz, z_isN, z_isI, z_isS, z_man, z_pow, z_pla, z_siz, z_shl, z_ush] at f9; done)), by show MWd D cL h0 q0 A _ t.heap; rw [ht2]; exact hM⟩, hS.F ht2⟩) hS.2.2 md_M_operate_154
                · refine lv_aload_n hx hb md_M_operate_126 rfl (lv_at hl 2 rfl) ?_
                  refine lv_iload_n hx hb md_M_operate_127 rfl (lv_at hl 3 rfl) ?_
                  refine lv_iload_n hx hb md_M_operate_128 rfl (lv_at hl 4 rfl) ?_
                  refine lv_lload hx hb md_M_operate_129 (lv_at hl 1 rfl) ?_
                  refine lv_lload hx hb md_M_operate_131 (lv_at hl 0 rfl) ?_
                  refine m_calll (va_runV (C := "NumberProbeModel") (As := [.int p0, .int p1, .long (u.2 ((p0 * 6) + p2).toNatClampNeg), .long (u.2 ((p0 * 6) + p3).toNatClampNeg)]) (rest := [.int ((p0 * 6) + p4), .ref q0]) ⟨hx, hb, hml, hown, hts⟩ (mt_M_operateReal l D cL h0 q0 _ u p0 p1 (u.2 ((p0 * 6) + p2).toNatClampNeg) (u.2 ((p0 * 6) + p3).toNatClampNeg)) (cwV 4 hts (gd_V tm_443 tm_445 tm_11 tm_25 tm_446) rfl rfl rfl (by decide +kernel) ⟨Nat.le_of_ble_eq_true rfl, Nat.le_of_ble_eq_true rfl⟩) (m_in (locs := []) hK hM) rfl rfl hl.1 rfl (lv_room (Nat.le_of_ble_eq_true rfl)) md_M_operate_133 ⟨Nat.zero_le _, Nat.zero_le _⟩) hM hS hA (fun r_26 u_28 H_29 L_30 e_27 hM hS => ?_)
                  refine lv_goto (tgt := 152) hx hb md_M_operate_136 (by decide) ?_
                  refine m_ast hx hb hK hM hS (rn_idx (jb_n0.mp c_3) (jb_n0.mp c_16)) md_M_operate_152 (fun u_31 H_32 L_33 hM hS => ?_)
                  refine lv_iconst (v := 0) hx hb md_M_operate_153 (by decide) ?_
                  exact W.iret (v := 0) hx hb hr (fun t ht2 _ => ⟨⟨0, u_31, rfl, (by first | (simp [mz_ope, (show rn_in 3 15 = true from by decide), (show rn_in 4 15 = true from by decide), (show rn_in 3 9 = true from by decide), (show rn_in 4 9 = true from by decide), (jb_n0.mp c_3), c_4, (jb_n0.mp c_7), (jb_n0.mp c_10), (jb_n0.mp c_13), (jb_n0.mp c_16), c_17, (c_18)]; done) | (have f9 := (jb_n0.mp c_3); simp [hz, z_isN, z_isI, z_isS, z_man, z_pow, z_pla, z_siz, z_shl, z_ush] at f9; done) | (have f9 := c_4; simp [hz, z_isN, z_isI, z_isS, z_man, z_pow, z_pla, z_siz, z_shl, z_ush] at f9; done) | (have f9 := (jb_n0.mp c_7); simp [hz, z_isN, z_isI, z_isS, z_man, z_pow, z_pla, z_siz, z_shl, z_ush] at f9; done) | (have f9 := (jb_n0.mp c_10); simp [hz, z_isN, z_isI, z_isS, z_man, z_pow, z_pla, z_siz, z_shl, z_ush] at f9; done) | (have f9 := (jb_n0.mp c_13); simp [hz, z_isN, z_isI, z_isS, z_man, z_pow, z_pla, z_siz, z_shl, z_ush] at f9; done) | (have f9 := (jb_n0.mp c_16); simp [hz, z_isN, z_isI, z_isS, z_man, z_pow, z_pla, z_siz, z_shl, z_ush] at f9; done) | (have f9 := c_17; simp [hz, z_isN, z_isI, z_isS, z_man, z_pow, z_pla, z_siz, z_shl, z_ush] at f9; done) | (have f9 := (c_18); simp [hz, z_isN, z_isI, z_isS, z_man, z_pow, z_pla, z_siz, z_shl, z_ush] at f9; done)), by show MWd D cL h0 q0 A _ t.heap; rw [ht2]; exact hM⟩, hS.F ht2⟩) hS.2.2 md_M_operate_154
              · refine lv_iload_n hx hb md_M_operate_90 rfl (lv_at hl 4 rfl) ?_
                refine lv_iconst (v := 3) hx hb md_M_operate_91 (by decide) ?_
                refine lv_icmp_eq (tgt := 100) hx hb md_M_operate_92 (by decide) (fun c_34 => ?_) (fun c_34 => ?_)
                · refine lv_lload hx hb md_M_operate_100 (lv_at hl 0 rfl) ?_
                  refine lv_lconst (v := 0) hx hb md_M_operate_102 (by decide) ?_
                  refine W.lcmp hx hb md_M_operate_103 ?_
                  refine lv_if_ne (tgt := 110) hx hb md_M_operate_104 (by decide) (fun c_35 => ?_) (fun c_35 => ?_)
                  · refine lv_aload_n hx hb md_M_operate_110 rfl (lv_at hl 2 rfl) ?_
                    refine va_get (D := D) (ci := 1) (v := .ref q0) (C := "NumberProbeModel") (T := TM) (N := 12) hx hb ht inM hown hK hM.1 0 rfl rfl 0 (by decide) (ht _ tm_318) (fun _ h9 => h9) rfl md_M_operate_111 ?_
                    refine lv_iload_n hx hb md_M_operate_114 rfl (lv_at hl 3 rfl) ?_
                    refine lv_bipush (v := 6) hx hb md_M_operate_115 (by decide) ?_
                    refine lv_imul hx hb md_M_operate_117 ?_
                    refine lv_iload hx hb md_M_operate_118 (lv_at hl 7 rfl) ?_
                    refine lv_iadd hx hb md_M_operate_120 ?_
                    refine lv_iload_n hx hb md_M_operate_121 rfl (lv_at hl 3 rfl) ?_
                    refine lv_iconst (v := 2) hx hb md_M_operate_122 (by decide) ?_
                    refine lv_icmp_ge (tgt := 139) hx hb md_M_operate_123 (by decide) (fun c_36 => ?_) (fun c_36 => ?_)
                    · refine lv_iload_n hx hb md_M_operate_139 rfl (lv_at hl 3 rfl) ?_
                      refine lv_iload_n hx hb md_M_operate_140 rfl (lv_at hl 3 rfl) ?_
                      refine lv_iload_n hx hb md_M_operate_141 rfl (lv_at hl 4 rfl) ?_
                      refine lv_lload hx hb md_M_operate_142 (lv_at hl 1 rfl) ?_
                      refine lv_lload hx hb md_M_operate_144 (lv_at hl 0 rfl) ?_
                      refine vp_callSl (W.runS (As := [.int p0, .int p1, .long (u.2 ((p0 * 6) + p2).toNatClampNeg), .long (u.2 ((p0 * 6) + p3).toNatClampNeg)]) (rest := [.int p0, .int ((p0 * 6) + p4), .ref q0]) ⟨hx, hb, hml, hown, hts⟩ (mt_M_operateWhole l p0 p1 (u.2 ((p0 * 6) + p2).toNatClampNeg) (u.2 ((p0 * 6) + p3).toNatClampNeg) (fun _ => (mt (lg_cmp_eq _ _).mpr c_35))) (va_cwS 4 hts (gd_S tm_494 tm_495 tm_25 tm_496) rfl rfl rfl (by decide +kernel) ⟨Nat.le_of_ble_eq_true rfl, Nat.le_of_ble_eq_true rfl⟩) ⟨fb_0, fun U hU hW => ⟨rfl, trivial⟩⟩ rfl rfl hl.1 rfl (lv_room (Nat.le_of_ble_eq_true rfl)) md_M_operate_146 ⟨Nat.zero_le _, Nat.zero_le _⟩) (fun r_37 e_38 => ?_)
                      refine vp_callSl (W.runS (As := [.int p0, .long r_37]) (rest := [.int ((p0 * 6) + p4), .ref q0]) ⟨hx, hb, hml, hown, hts⟩ (mz_M_normal l p0 r_37) (va_cwS 2 hts (gd_S tm_362 tm_363 tm_25 tm_364) rfl rfl rfl (by decide +kernel) ⟨Nat.le_of_ble_eq_true rfl, Nat.le_of_ble_eq_true rfl⟩) ⟨fb_0, fun U hU hW => ⟨rfl, trivial⟩⟩ rfl rfl hl.1 rfl (lv_room (Nat.le_of_ble_eq_true rfl)) md_M_operate_149 ⟨Nat.zero_le _, Nat.zero_le _⟩) (fun r_39 e_40 => ?_)
                      refine m_ast hx hb hK hM hS (rn_idx (jb_n0.mp c_3) (jb_n0.mp c_16)) md_M_operate_152 (fun u_41 H_42 L_43 hM hS => ?_)
                      refine lv_iconst (v := 0) hx hb md_M_operate_153 (by decide) ?_
                      exact W.iret (v := 0) hx hb hr (fun t ht2 _ => ⟨⟨0, u_41, rfl, (by first | (simp [mz_ope, (show rn_in 3 15 = true from by decide), (show rn_in 4 15 = true from by decide), (show rn_in 3 9 = true from by decide), (show rn_in 4 9 = true from by decide), (jb_n0.mp c_3), c_4, (jb_n0.mp c_7), (jb_n0.mp c_10), (jb_n0.mp c_13), (jb_n0.mp c_16), (c_17), c_34, (mt (lg_cmp_eq _ _).mpr c_35), c_36]; done) | (have f9 := (jb_n0.mp c_3); simp [hz, z_isN, z_isI, z_isS, z_man, z_pow, z_pla, z_siz, z_shl, z_ush] at f9; done) | (have f9 := c_4; simp [hz, z_isN, z_isI, z_isS, z_man, z_pow, z_pla, z_siz, z_shl, z_ush] at f9; done) | (have f9 := (jb_n0.mp c_7); simp [hz, z_isN, z_isI, z_isS, z_man, z_pow, z_pla, z_siz, z_shl, z_ush] at f9; done) | (have f9 := (jb_n0.mp c_10); simp [hz, z_isN, z_isI, z_isS, z_man, z_pow, z_pla, z_siz, z_shl, z_ush] at f9; done) | (have f9 := (jb_n0.mp c_13); simp [hz, z_isN, z_isI, z_isS, z_man, z_pow, z_pla, z_siz, z_shl, z_ush] at f9; done) | (have f9 := (jb_n0.mp c_16); simp [hz, z_isN, z_isI, z_isS, z_man, z_pow, z_pla, z_siz, z_shl, z_ush] at f9; done) | (have f9 := (c_17); simp [hz, z_isN, z_isI, z_isS, z_man, z_pow, z_pla, z_siz, z_shl, z_ush] at f9; done) | (have f9 := c_34; simp [hz, z_isN, z_isI, z_isS, z_man, z_pow, z_pla, z_siz, z_shl, z_ush] at f9; done) | (have f9 := (mt (lg_cmp_eq _ _).mpr c_35); simp [hz, z_isN, z_isI, z_isS, z_man, z_pow, z_pla, z_siz, z_shl, z_ush] at f9; done) | (have f9 := c_36; simp [hz, z_isN, z_isI, z_isS, z_man, z_pow, z_pla, z_siz, z_shl, z_ush] at f9; done)), by show MWd D cL h0 q0 A _ t.heap; rw [ht2]; exact hM⟩, hS.F ht2⟩) hS.2.2 md_M_operate_154
                    · refine lv_aload_n hx hb md_M_operate_126 rfl (lv_at hl 2 rfl) ?_
                      refine lv_iload_n hx hb md_M_operate_127 rfl (lv_at hl 3 rfl) ?_
                      refine lv_iload_n hx hb md_M_operate_128 rfl (lv_at hl 4 rfl) ?_
                      refine lv_lload hx hb md_M_operate_129 (lv_at hl 1 rfl) ?_
                      refine lv_lload hx hb md_M_operate_131 (lv_at hl 0 rfl) ?_
                      refine m_calll (va_runV (C := "NumberProbeModel") (As := [.int p0, .int p1, .long (u.2 ((p0 * 6) + p2).toNatClampNeg), .long (u.2 ((p0 * 6) + p3).toNatClampNeg)]) (rest := [.int ((p0 * 6) + p4), .ref q0]) ⟨hx, hb, hml, hown, hts⟩ (mt_M_operateReal l D cL h0 q0 _ u p0 p1 (u.2 ((p0 * 6) + p2).toNatClampNeg) (u.2 ((p0 * 6) + p3).toNatClampNeg)) (cwV 4 hts (gd_V tm_443 tm_445 tm_11 tm_25 tm_446) rfl rfl rfl (by decide +kernel) ⟨Nat.le_of_ble_eq_true rfl, Nat.le_of_ble_eq_true rfl⟩) (m_in (locs := []) hK hM) rfl rfl hl.1 rfl (lv_room (Nat.le_of_ble_eq_true rfl)) md_M_operate_133 ⟨Nat.zero_le _, Nat.zero_le _⟩) hM hS hA (fun r_44 u_46 H_47 L_48 e_45 hM hS => ?_)
                      refine lv_goto (tgt := 152) hx hb md_M_operate_136 (by decide) ?_
                      refine m_ast hx hb hK hM hS (rn_idx (jb_n0.mp c_3) (jb_n0.mp c_16)) md_M_operate_152 (fun u_49 H_50 L_51 hM hS => ?_)
                      refine lv_iconst (v := 0) hx hb md_M_operate_153 (by decide) ?_
                      exact W.iret (v := 0) hx hb hr (fun t ht2 _ => ⟨⟨0, u_49, rfl, (by first | (simp [mz_ope, (show rn_in 3 15 = true from by decide), (show rn_in 4 15 = true from by decide), (show rn_in 3 9 = true from by decide), (show rn_in 4 9 = true from by decide), (jb_n0.mp c_3), c_4, (jb_n0.mp c_7), (jb_n0.mp c_10), (jb_n0.mp c_13), (jb_n0.mp c_16), (c_17), c_34, (mt (lg_cmp_eq _ _).mpr c_35), (c_36)]; done) | (have f9 := (jb_n0.mp c_3); simp [hz, z_isN, z_isI, z_isS, z_man, z_pow, z_pla, z_siz, z_shl, z_ush] at f9; done) | (have f9 := c_4; simp [hz, z_isN, z_isI, z_isS, z_man, z_pow, z_pla, z_siz, z_shl, z_ush] at f9; done) | (have f9 := (jb_n0.mp c_7); simp [hz, z_isN, z_isI, z_isS, z_man, z_pow, z_pla, z_siz, z_shl, z_ush] at f9; done) | (have f9 := (jb_n0.mp c_10); simp [hz, z_isN, z_isI, z_isS, z_man, z_pow, z_pla, z_siz, z_shl, z_ush] at f9; done) | (have f9 := (jb_n0.mp c_13); simp [hz, z_isN, z_isI, z_isS, z_man, z_pow, z_pla, z_siz, z_shl, z_ush] at f9; done) | (have f9 := (jb_n0.mp c_16); simp [hz, z_isN, z_isI, z_isS, z_man, z_pow, z_pla, z_siz, z_shl, z_ush] at f9; done) | (have f9 := (c_17); simp [hz, z_isN, z_isI, z_isS, z_man, z_pow, z_pla, z_siz, z_shl, z_ush] at f9; done) | (have f9 := c_34; simp [hz, z_isN, z_isI, z_isS, z_man, z_pow, z_pla, z_siz, z_shl, z_ush] at f9; done) | (have f9 := (mt (lg_cmp_eq _ _).mpr c_35); simp [hz, z_isN, z_isI, z_isS, z_man, z_pow, z_pla, z_siz, z_shl, z_ush] at f9; done) | (have f9 := (c_36); simp [hz, z_isN, z_isI, z_isS, z_man, z_pow, z_pla, z_siz, z_shl, z_ush] at f9; done)), by show MWd D cL h0 q0 A _ t.heap; rw [ht2]; exact hM⟩, hS.F ht2⟩) hS.2.2 md_M_operate_154
                  · refine lv_bipush (v := (-2)) hx hb md_M_operate_107 (by decide) ?_
                    exact W.iret (v := (-2)) hx hb hr (fun t ht2 _ => ⟨⟨(-2), u, rfl, (by first | (simp [mz_ope, (show rn_in 3 15 = true from by decide), (show rn_in 4 15 = true from by decide), (show rn_in 3 9 = true from by decide), (show rn_in 4 9 = true from by decide), (jb_n0.mp c_3), c_4, (jb_n0.mp c_7), (jb_n0.mp c_10), (jb_n0.mp c_13), (jb_n0.mp c_16), (c_17), c_34, ((lg_cmp_eq _ _).mp c_35)]; done) | (have f9 := (jb_n0.mp c_3); simp [hz, z_isN, z_isI, z_isS, z_man, z_pow, z_pla, z_siz, z_shl, z_ush] at f9; done) | (have f9 := c_4; simp [hz, z_isN, z_isI, z_isS, z_man, z_pow, z_pla, z_siz, z_shl, z_ush] at f9; done) | (have f9 := (jb_n0.mp c_7); simp [hz, z_isN, z_isI, z_isS, z_man, z_pow, z_pla, z_siz, z_shl, z_ush] at f9; done) | (have f9 := (jb_n0.mp c_10); simp [hz, z_isN, z_isI, z_isS, z_man, z_pow, z_pla, z_siz, z_shl, z_ush] at f9; done) | (have f9 := (jb_n0.mp c_13); simp [hz, z_isN, z_isI, z_isS, z_man, z_pow, z_pla, z_siz, z_shl, z_ush] at f9; done) | (have f9 := (jb_n0.mp c_16); simp [hz, z_isN, z_isI, z_isS, z_man, z_pow, z_pla, z_siz, z_shl, z_ush] at f9; done) | (have f9 := (c_17); simp [hz, z_isN, z_isI, z_isS, z_man, z_pow, z_pla, z_siz, z_shl, z_ush] at f9; done) | (have f9 := c_34; simp [hz, z_isN, z_isI, z_isS, z_man, z_pow, z_pla, z_siz, z_shl, z_ush] at f9; done) | (have f9 := ((lg_cmp_eq _ _).mp c_35); simp [hz, z_isN, z_isI, z_isS, z_man, z_pow, z_pla, z_siz, z_shl, z_ush] at f9; done)), by show MWd D cL h0 q0 A _ t.heap; rw [ht2]; exact hM⟩, hS.F ht2⟩) hS.2.2 md_M_operate_109
                · refine lv_iload_n hx hb md_M_operate_95 rfl (lv_at hl 4 rfl) ?_
                  refine lv_iconst (v := 4) hx hb md_M_operate_96 (by decide) ?_
                  refine lv_icmp_ne (tgt := 110) hx hb md_M_operate_97 (by decide) (fun c_52 => ?_) (fun c_52 => ?_)
                  · refine lv_aload_n hx hb md_M_operate_110 rfl (lv_at hl 2 rfl) ?_
                    refine va_get (D := D) (ci := 1) (v := .ref q0) (C := "NumberProbeModel") (T := TM) (N := 12) hx hb ht inM hown hK hM.1 0 rfl rfl 0 (by decide) (ht _ tm_318) (fun _ h9 => h9) rfl md_M_operate_111 ?_
                    refine lv_iload_n hx hb md_M_operate_114 rfl (lv_at hl 3 rfl) ?_
                    refine lv_bipush (v := 6) hx hb md_M_operate_115 (by decide) ?_
                    refine lv_imul hx hb md_M_operate_117 ?_
                    refine lv_iload hx hb md_M_operate_118 (lv_at hl 7 rfl) ?_
                    refine lv_iadd hx hb md_M_operate_120 ?_
                    refine lv_iload_n hx hb md_M_operate_121 rfl (lv_at hl 3 rfl) ?_
                    refine lv_iconst (v := 2) hx hb md_M_operate_122 (by decide) ?_
                    refine lv_icmp_ge (tgt := 139) hx hb md_M_operate_123 (by decide) (fun c_53 => ?_) (fun c_53 => ?_)
                    · refine lv_iload_n hx hb md_M_operate_139 rfl (lv_at hl 3 rfl) ?_
                      refine lv_iload_n hx hb md_M_operate_140 rfl (lv_at hl 3 rfl) ?_
                      refine lv_iload_n hx hb md_M_operate_141 rfl (lv_at hl 4 rfl) ?_
                      refine lv_lload hx hb md_M_operate_142 (lv_at hl 1 rfl) ?_
                      refine lv_lload hx hb md_M_operate_144 (lv_at hl 0 rfl) ?_
                      refine vp_callSl (W.runS (As := [.int p0, .int p1, .long (u.2 ((p0 * 6) + p2).toNatClampNeg), .long (u.2 ((p0 * 6) + p3).toNatClampNeg)]) (rest := [.int p0, .int ((p0 * 6) + p4), .ref q0]) ⟨hx, hb, hml, hown, hts⟩ (mt_M_operateWhole l p0 p1 (u.2 ((p0 * 6) + p2).toNatClampNeg) (u.2 ((p0 * 6) + p3).toNatClampNeg) (fun q => q.elim (fun a => absurd a (c_34)) (fun a => absurd a c_52))) (va_cwS 4 hts (gd_S tm_494 tm_495 tm_25 tm_496) rfl rfl rfl (by decide +kernel) ⟨Nat.le_of_ble_eq_true rfl, Nat.le_of_ble_eq_true rfl⟩) ⟨fb_0, fun U hU hW => ⟨rfl, trivial⟩⟩ rfl rfl hl.1 rfl (lv_room (Nat.le_of_ble_eq_true rfl)) md_M_operate_146 ⟨Nat.zero_le _, Nat.zero_le _⟩) (fun r_54 e_55 => ?_)
                      refine vp_callSl (W.runS (As := [.int p0, .long r_54]) (rest := [.int ((p0 * 6) + p4), .ref q0]) ⟨hx, hb, hml, hown, hts⟩ (mz_M_normal l p0 r_54) (va_cwS 2 hts (gd_S tm_362 tm_363 tm_25 tm_364) rfl rfl rfl (by decide +kernel) ⟨Nat.le_of_ble_eq_true rfl, Nat.le_of_ble_eq_true rfl⟩) ⟨fb_0, fun U hU hW => ⟨rfl, trivial⟩⟩ rfl rfl hl.1 rfl (lv_room (Nat.le_of_ble_eq_true rfl)) md_M_operate_149 ⟨Nat.zero_le _, Nat.zero_le _⟩) (fun r_56 e_57 => ?_)
                      refine m_ast hx hb hK hM hS (rn_idx (jb_n0.mp c_3) (jb_n0.mp c_16)) md_M_operate_152 (fun u_58 H_59 L_60 hM hS => ?_)
                      refine lv_iconst (v := 0) hx hb md_M_operate_153 (by decide) ?_
                      exact W.iret (v := 0) hx hb hr (fun t ht2 _ => ⟨⟨0, u_58, rfl, (by first | (simp [mz_ope, (show rn_in 3 15 = true from by decide), (show rn_in 4 15 = true from by decide), (show rn_in 3 9 = true from by decide), (show rn_in 4 9 = true from by decide), (jb_n0.mp c_3), c_4, (jb_n0.mp c_7), (jb_n0.mp c_10), (jb_n0.mp c_13), (jb_n0.mp c_16), (c_17), (c_34), c_52, c_53]; done) | (have f9 := (jb_n0.mp c_3); simp [hz, z_isN, z_isI, z_isS, z_man, z_pow, z_pla, z_siz, z_shl, z_ush] at f9; done) | (have f9 := c_4; simp [hz, z_isN, z_isI, z_isS, z_man, z_pow, z_pla, z_siz, z_shl, z_ush] at f9; done) | (have f9 := (jb_n0.mp c_7); simp [hz, z_isN, z_isI, z_isS, z_man, z_pow, z_pla, z_siz, z_shl, z_ush] at f9; done) | (have f9 := (jb_n0.mp c_10); simp [hz, z_isN, z_isI, z_isS, z_man, z_pow, z_pla, z_siz, z_shl, z_ush] at f9; done) | (have f9 := (jb_n0.mp c_13); simp [hz, z_isN, z_isI, z_isS, z_man, z_pow, z_pla, z_siz, z_shl, z_ush] at f9; done) | (have f9 := (jb_n0.mp c_16); simp [hz, z_isN, z_isI, z_isS, z_man, z_pow, z_pla, z_siz, z_shl, z_ush] at f9; done) | (have f9 := (c_17); simp [hz, z_isN, z_isI, z_isS, z_man, z_pow, z_pla, z_siz, z_shl, z_ush] at f9; done) | (have f9 := (c_34); simp [hz, z_isN, z_isI, z_isS, z_man, z_pow, z_pla, z_siz, z_shl, z_ush] at f9; done) | (have f9 := c_52; simp [hz, z_isN, z_isI, z_isS, z_man, z_pow, z_pla, z_siz, z_shl, z_ush] at f9; done) | (have f9 := c_53; simp [hz, z_isN, z_isI, z_isS, z_man, z_pow, z_pla, z_siz, z_shl, z_ush] at f9; done)), by show MWd D cL h0 q0 A _ t.heap; rw [ht2]; exact hM⟩, hS.F ht2⟩) hS.2.2 md_M_operate_154
                    · refine lv_aload_n hx hb md_M_operate_126 rfl (lv_at hl 2 rfl) ?_
                      refine lv_iload_n hx hb md_M_operate_127 rfl (lv_at hl 3 rfl) ?_
                      refine lv_iload_n hx hb md_M_operate_128 rfl (lv_at hl 4 rfl) ?_
                      refine lv_lload hx hb md_M_operate_129 (lv_at hl 1 rfl) ?_
                      refine lv_lload hx hb md_M_operate_131 (lv_at hl 0 rfl) ?_
                      refine m_calll (va_runV (C := "NumberProbeModel") (As := [.int p0, .int p1, .long (u.2 ((p0 * 6) + p2).toNatClampNeg), .long (u.2 ((p0 * 6) + p3).toNatClampNeg)]) (rest := [.int ((p0 * 6) + p4), .ref q0]) ⟨hx, hb, hml, hown, hts⟩ (mt_M_operateReal l D cL h0 q0 _ u p0 p1 (u.2 ((p0 * 6) + p2).toNatClampNeg) (u.2 ((p0 * 6) + p3).toNatClampNeg)) (cwV 4 hts (gd_V tm_443 tm_445 tm_11 tm_25 tm_446) rfl rfl rfl (by decide +kernel) ⟨Nat.le_of_ble_eq_true rfl, Nat.le_of_ble_eq_true rfl⟩) (m_in (locs := []) hK hM) rfl rfl hl.1 rfl (lv_room (Nat.le_of_ble_eq_true rfl)) md_M_operate_133 ⟨Nat.zero_le _, Nat.zero_le _⟩) hM hS hA (fun r_61 u_63 H_64 L_65 e_62 hM hS => ?_)
                      refine lv_goto (tgt := 152) hx hb md_M_operate_136 (by decide) ?_
                      refine m_ast hx hb hK hM hS (rn_idx (jb_n0.mp c_3) (jb_n0.mp c_16)) md_M_operate_152 (fun u_66 H_67 L_68 hM hS => ?_)
                      refine lv_iconst (v := 0) hx hb md_M_operate_153 (by decide) ?_
                      exact W.iret (v := 0) hx hb hr (fun t ht2 _ => ⟨⟨0, u_66, rfl, (by first | (simp [mz_ope, (show rn_in 3 15 = true from by decide), (show rn_in 4 15 = true from by decide), (show rn_in 3 9 = true from by decide), (show rn_in 4 9 = true from by decide), (jb_n0.mp c_3), c_4, (jb_n0.mp c_7), (jb_n0.mp c_10), (jb_n0.mp c_13), (jb_n0.mp c_16), (c_17), (c_34), c_52, (c_53)]; done) | (have f9 := (jb_n0.mp c_3); simp [hz, z_isN, z_isI, z_isS, z_man, z_pow, z_pla, z_siz, z_shl, z_ush] at f9; done) | (have f9 := c_4; simp [hz, z_isN, z_isI, z_isS, z_man, z_pow, z_pla, z_siz, z_shl, z_ush] at f9; done) | (have f9 := (jb_n0.mp c_7); simp [hz, z_isN, z_isI, z_isS, z_man, z_pow, z_pla, z_siz, z_shl, z_ush] at f9; done) | (have f9 := (jb_n0.mp c_10); simp [hz, z_isN, z_isI, z_isS, z_man, z_pow, z_pla, z_siz, z_shl, z_ush] at f9; done) | (have f9 := (jb_n0.mp c_13); simp [hz, z_isN, z_isI, z_isS, z_man, z_pow, z_pla, z_siz, z_shl, z_ush] at f9; done) | (have f9 := (jb_n0.mp c_16); simp [hz, z_isN, z_isI, z_isS, z_man, z_pow, z_pla, z_siz, z_shl, z_ush] at f9; done) | (have f9 := (c_17); simp [hz, z_isN, z_isI, z_isS, z_man, z_pow, z_pla, z_siz, z_shl, z_ush] at f9; done) | (have f9 := (c_34); simp [hz, z_isN, z_isI, z_isS, z_man, z_pow, z_pla, z_siz, z_shl, z_ush] at f9; done) | (have f9 := c_52; simp [hz, z_isN, z_isI, z_isS, z_man, z_pow, z_pla, z_siz, z_shl, z_ush] at f9; done) | (have f9 := (c_53); simp [hz, z_isN, z_isI, z_isS, z_man, z_pow, z_pla, z_siz, z_shl, z_ush] at f9; done)), by show MWd D cL h0 q0 A _ t.heap; rw [ht2]; exact hM⟩, hS.F ht2⟩) hS.2.2 md_M_operate_154
                  · refine lv_lload hx hb md_M_operate_100 (lv_at hl 0 rfl) ?_
                    refine lv_lconst (v := 0) hx hb md_M_operate_102 (by decide) ?_
                    refine W.lcmp hx hb md_M_operate_103 ?_
                    refine lv_if_ne (tgt := 110) hx hb md_M_operate_104 (by decide) (fun c_69 => ?_) (fun c_69 => ?_)
                    · refine lv_aload_n hx hb md_M_operate_110 rfl (lv_at hl 2 rfl) ?_
                      refine va_get (D := D) (ci := 1) (v := .ref q0) (C := "NumberProbeModel") (T := TM) (N := 12) hx hb ht inM hown hK hM.1 0 rfl rfl 0 (by decide) (ht _ tm_318) (fun _ h9 => h9) rfl md_M_operate_111 ?_
                      refine lv_iload_n hx hb md_M_operate_114 rfl (lv_at hl 3 rfl) ?_
                      refine lv_bipush (v := 6) hx hb md_M_operate_115 (by decide) ?_
                      refine lv_imul hx hb md_M_operate_117 ?_
                      refine lv_iload hx hb md_M_operate_118 (lv_at hl 7 rfl) ?_
                      refine lv_iadd hx hb md_M_operate_120 ?_
                      refine lv_iload_n hx hb md_M_operate_121 rfl (lv_at hl 3 rfl) ?_
                      refine lv_iconst (v := 2) hx hb md_M_operate_122 (by decide) ?_
                      refine lv_icmp_ge (tgt := 139) hx hb md_M_operate_123 (by decide) (fun c_70 => ?_) (fun c_70 => ?_)
                      · refine lv_iload_n hx hb md_M_operate_139 rfl (lv_at hl 3 rfl) ?_
                        refine lv_iload_n hx hb md_M_operate_140 rfl (lv_at hl 3 rfl) ?_
                        refine lv_iload_n hx hb md_M_operate_141 rfl (lv_at hl 4 rfl) ?_
                        refine lv_lload hx hb md_M_operate_142 (lv_at hl 1 rfl) ?_
                        refine lv_lload hx hb md_M_operate_144 (lv_at hl 0 rfl) ?_
                        refine vp_callSl (W.runS (As := [.int p0, .int p1, .long (u.2 ((p0 * 6) + p2).toNatClampNeg), .long (u.2 ((p0 * 6) + p3).toNatClampNeg)]) (rest := [.int p0, .int ((p0 * 6) + p4), .ref q0]) ⟨hx, hb, hml, hown, hts⟩ (mt_M_operateWhole l p0 p1 (u.2 ((p0 * 6) + p2).toNatClampNeg) (u.2 ((p0 * 6) + p3).toNatClampNeg) (fun _ => (mt (lg_cmp_eq _ _).mpr c_69))) (va_cwS 4 hts (gd_S tm_494 tm_495 tm_25 tm_496) rfl rfl rfl (by decide +kernel) ⟨Nat.le_of_ble_eq_true rfl, Nat.le_of_ble_eq_true rfl⟩) ⟨fb_0, fun U hU hW => ⟨rfl, trivial⟩⟩ rfl rfl hl.1 rfl (lv_room (Nat.le_of_ble_eq_true rfl)) md_M_operate_146 ⟨Nat.zero_le _, Nat.zero_le _⟩) (fun r_71 e_72 => ?_)
                        refine vp_callSl (W.runS (As := [.int p0, .long r_71]) (rest := [.int ((p0 * 6) + p4), .ref q0]) ⟨hx, hb, hml, hown, hts⟩ (mz_M_normal l p0 r_71) (va_cwS 2 hts (gd_S tm_362 tm_363 tm_25 tm_364) rfl rfl rfl (by decide +kernel) ⟨Nat.le_of_ble_eq_true rfl, Nat.le_of_ble_eq_true rfl⟩) ⟨fb_0, fun U hU hW => ⟨rfl, trivial⟩⟩ rfl rfl hl.1 rfl (lv_room (Nat.le_of_ble_eq_true rfl)) md_M_operate_149 ⟨Nat.zero_le _, Nat.zero_le _⟩) (fun r_73 e_74 => ?_)
                        refine m_ast hx hb hK hM hS (rn_idx (jb_n0.mp c_3) (jb_n0.mp c_16)) md_M_operate_152 (fun u_75 H_76 L_77 hM hS => ?_)
                        refine lv_iconst (v := 0) hx hb md_M_operate_153 (by decide) ?_
                        exact W.iret (v := 0) hx hb hr (fun t ht2 _ => ⟨⟨0, u_75, rfl, (by first | (simp [mz_ope, (show rn_in 3 15 = true from by decide), (show rn_in 4 15 = true from by decide), (show rn_in 3 9 = true from by decide), (show rn_in 4 9 = true from by decide), (jb_n0.mp c_3), c_4, (jb_n0.mp c_7), (jb_n0.mp c_10), (jb_n0.mp c_13), (jb_n0.mp c_16), (c_17), (c_34), (c_52), (mt (lg_cmp_eq _ _).mpr c_69), c_70]; done) | (have f9 := (jb_n0.mp c_3); simp [hz, z_isN, z_isI, z_isS, z_man, z_pow, z_pla, z_siz, z_shl, z_ush] at f9; done) | (have f9 := c_4; simp [hz, z_isN, z_isI, z_isS, z_man, z_pow, z_pla, z_siz, z_shl, z_ush] at f9; done) | (have f9 := (jb_n0.mp c_7); simp [hz, z_isN, z_isI, z_isS, z_man, z_pow, z_pla, z_siz, z_shl, z_ush] at f9; done) | (have f9 := (jb_n0.mp c_10); simp [hz, z_isN, z_isI, z_isS, z_man, z_pow, z_pla, z_siz, z_shl, z_ush] at f9; done) | (have f9 := (jb_n0.mp c_13); simp [hz, z_isN, z_isI, z_isS, z_man, z_pow, z_pla, z_siz, z_shl, z_ush] at f9; done) | (have f9 := (jb_n0.mp c_16); simp [hz, z_isN, z_isI, z_isS, z_man, z_pow, z_pla, z_siz, z_shl, z_ush] at f9; done) | (have f9 := (c_17); simp [hz, z_isN, z_isI, z_isS, z_man, z_pow, z_pla, z_siz, z_shl, z_ush] at f9; done) | (have f9 := (c_34); simp [hz, z_isN, z_isI, z_isS, z_man, z_pow, z_pla, z_siz, z_shl, z_ush] at f9; done) | (have f9 := (c_52); simp [hz, z_isN, z_isI, z_isS, z_man, z_pow, z_pla, z_siz, z_shl, z_ush] at f9; done) | (have f9 := (mt (lg_cmp_eq _ _).mpr c_69); simp [hz, z_isN, z_isI, z_isS, z_man, z_pow, z_pla, z_siz, z_shl, z_ush] at f9; done) | (have f9 := c_70; simp [hz, z_isN, z_isI, z_isS, z_man, z_pow, z_pla, z_siz, z_shl, z_ush] at f9; done)), by show MWd D cL h0 q0 A _ t.heap; rw [ht2]; exact hM⟩, hS.F ht2⟩) hS.2.2 md_M_operate_154
                      · refine lv_aload_n hx hb md_M_operate_126 rfl (lv_at hl 2 rfl) ?_
                        refine lv_iload_n hx hb md_M_operate_127 rfl (lv_at hl 3 rfl) ?_
                        refine lv_iload_n hx hb md_M_operate_128 rfl (lv_at hl 4 rfl) ?_
                        refine lv_lload hx hb md_M_operate_129 (lv_at hl 1 rfl) ?_
                        refine lv_lload hx hb md_M_operate_131 (lv_at hl 0 rfl) ?_
                        refine m_calll (va_runV (C := "NumberProbeModel") (As := [.int p0, .int p1, .long (u.2 ((p0 * 6) + p2).toNatClampNeg), .long (u.2 ((p0 * 6) + p3).toNatClampNeg)]) (rest := [.int ((p0 * 6) + p4), .ref q0]) ⟨hx, hb, hml, hown, hts⟩ (mt_M_operateReal l D cL h0 q0 _ u p0 p1 (u.2 ((p0 * 6) + p2).toNatClampNeg) (u.2 ((p0 * 6) + p3).toNatClampNeg)) (cwV 4 hts (gd_V tm_443 tm_445 tm_11 tm_25 tm_446) rfl rfl rfl (by decide +kernel) ⟨Nat.le_of_ble_eq_true rfl, Nat.le_of_ble_eq_true rfl⟩) (m_in (locs := []) hK hM) rfl rfl hl.1 rfl (lv_room (Nat.le_of_ble_eq_true rfl)) md_M_operate_133 ⟨Nat.zero_le _, Nat.zero_le _⟩) hM hS hA (fun r_78 u_80 H_81 L_82 e_79 hM hS => ?_)
                        refine lv_goto (tgt := 152) hx hb md_M_operate_136 (by decide) ?_
                        refine m_ast hx hb hK hM hS (rn_idx (jb_n0.mp c_3) (jb_n0.mp c_16)) md_M_operate_152 (fun u_83 H_84 L_85 hM hS => ?_)
                        refine lv_iconst (v := 0) hx hb md_M_operate_153 (by decide) ?_
                        exact W.iret (v := 0) hx hb hr (fun t ht2 _ => ⟨⟨0, u_83, rfl, (by first | (simp [mz_ope, (show rn_in 3 15 = true from by decide), (show rn_in 4 15 = true from by decide), (show rn_in 3 9 = true from by decide), (show rn_in 4 9 = true from by decide), (jb_n0.mp c_3), c_4, (jb_n0.mp c_7), (jb_n0.mp c_10), (jb_n0.mp c_13), (jb_n0.mp c_16), (c_17), (c_34), (c_52), (mt (lg_cmp_eq _ _).mpr c_69), (c_70)]; done) | (have f9 := (jb_n0.mp c_3); simp [hz, z_isN, z_isI, z_isS, z_man, z_pow, z_pla, z_siz, z_shl, z_ush] at f9; done) | (have f9 := c_4; simp [hz, z_isN, z_isI, z_isS, z_man, z_pow, z_pla, z_siz, z_shl, z_ush] at f9; done) | (have f9 := (jb_n0.mp c_7); simp [hz, z_isN, z_isI, z_isS, z_man, z_pow, z_pla, z_siz, z_shl, z_ush] at f9; done) | (have f9 := (jb_n0.mp c_10); simp [hz, z_isN, z_isI, z_isS, z_man, z_pow, z_pla, z_siz, z_shl, z_ush] at f9; done) | (have f9 := (jb_n0.mp c_13); simp [hz, z_isN, z_isI, z_isS, z_man, z_pow, z_pla, z_siz, z_shl, z_ush] at f9; done) | (have f9 := (jb_n0.mp c_16); simp [hz, z_isN, z_isI, z_isS, z_man, z_pow, z_pla, z_siz, z_shl, z_ush] at f9; done) | (have f9 := (c_17); simp [hz, z_isN, z_isI, z_isS, z_man, z_pow, z_pla, z_siz, z_shl, z_ush] at f9; done) | (have f9 := (c_34); simp [hz, z_isN, z_isI, z_isS, z_man, z_pow, z_pla, z_siz, z_shl, z_ush] at f9; done) | (have f9 := (c_52); simp [hz, z_isN, z_isI, z_isS, z_man, z_pow, z_pla, z_siz, z_shl, z_ush] at f9; done) | (have f9 := (mt (lg_cmp_eq _ _).mpr c_69); simp [hz, z_isN, z_isI, z_isS, z_man, z_pow, z_pla, z_siz, z_shl, z_ush] at f9; done) | (have f9 := (c_70); simp [hz, z_isN, z_isI, z_isS, z_man, z_pow, z_pla, z_siz, z_shl, z_ush] at f9; done)), by show MWd D cL h0 q0 A _ t.heap; rw [ht2]; exact hM⟩, hS.F ht2⟩) hS.2.2 md_M_operate_154
                    · refine lv_bipush (v := (-2)) hx hb md_M_operate_107 (by decide) ?_
                      exact W.iret (v := (-2)) hx hb hr (fun t ht2 _ => ⟨⟨(-2), u, rfl, (by first | (simp [mz_ope, (show rn_in 3 15 = true from by decide), (show rn_in 4 15 = true from by decide), (show rn_in 3 9 = true from by decide), (show rn_in 4 9 = true from by decide), (jb_n0.mp c_3), c_4, (jb_n0.mp c_7), (jb_n0.mp c_10), (jb_n0.mp c_13), (jb_n0.mp c_16), (c_17), (c_34), (c_52), ((lg_cmp_eq _ _).mp c_69)]; done) | (have f9 := (jb_n0.mp c_3); simp [hz, z_isN, z_isI, z_isS, z_man, z_pow, z_pla, z_siz, z_shl, z_ush] at f9; done) | (have f9 := c_4; simp [hz, z_isN, z_isI, z_isS, z_man, z_pow, z_pla, z_siz, z_shl, z_ush] at f9; done) | (have f9 := (jb_n0.mp c_7); simp [hz, z_isN, z_isI, z_isS, z_man, z_pow, z_pla, z_siz, z_shl, z_ush] at f9; done) | (have f9 := (jb_n0.mp c_10); simp [hz, z_isN, z_isI, z_isS, z_man, z_pow, z_pla, z_siz, z_shl, z_ush] at f9; done) | (have f9 := (jb_n0.mp c_13); simp [hz, z_isN, z_isI, z_isS, z_man, z_pow, z_pla, z_siz, z_shl, z_ush] at f9; done) | (have f9 := (jb_n0.mp c_16); simp [hz, z_isN, z_isI, z_isS, z_man, z_pow, z_pla, z_siz, z_shl, z_ush] at f9; done) | (have f9 := (c_17); simp [hz, z_isN, z_isI, z_isS, z_man, z_pow, z_pla, z_siz, z_shl, z_ush] at f9; done) | (have f9 := (c_34); simp [hz, z_isN, z_isI, z_isS, z_man, z_pow, z_pla, z_siz, z_shl, z_ush] at f9; done) | (have f9 := (c_52); simp [hz, z_isN, z_isI, z_isS, z_man, z_pow, z_pla, z_siz, z_shl, z_ush] at f9; done) | (have f9 := ((lg_cmp_eq _ _).mp c_69); simp [hz, z_isN, z_isI, z_isS, z_man, z_pow, z_pla, z_siz, z_shl, z_ush] at f9; done)), by show MWd D cL h0 q0 A _ t.heap; rw [ht2]; exact hM⟩, hS.F ht2⟩) hS.2.2 md_M_operate_109
            · refine lv_iconst (v := (-1)) hx hb md_M_operate_56 (by decide) ?_
              exact W.iret (v := (-1)) hx hb hr (fun t ht2 _ => ⟨⟨(-1), u, rfl, (by first | (simp [mz_ope, (show rn_in 3 15 = true from by decide), (show rn_in 4 15 = true from by decide), (show rn_in 3 9 = true from by decide), (show rn_in 4 9 = true from by decide), (jb_n0.mp c_3), c_4, (jb_n0.mp c_7), (jb_n0.mp c_10), (jb_n0.mp c_13), (jb_0.mp c_16)]; done) | (have f9 := (jb_n0.mp c_3); simp [hz, z_isN, z_isI, z_isS, z_man, z_pow, z_pla, z_siz, z_shl, z_ush] at f9; done) | (have f9 := c_4; simp [hz, z_isN, z_isI, z_isS, z_man, z_pow, z_pla, z_siz, z_shl, z_ush] at f9; done) | (have f9 := (jb_n0.mp c_7); simp [hz, z_isN, z_isI, z_isS, z_man, z_pow, z_pla, z_siz, z_shl, z_ush] at f9; done) | (have f9 := (jb_n0.mp c_10); simp [hz, z_isN, z_isI, z_isS, z_man, z_pow, z_pla, z_siz, z_shl, z_ush] at f9; done) | (have f9 := (jb_n0.mp c_13); simp [hz, z_isN, z_isI, z_isS, z_man, z_pow, z_pla, z_siz, z_shl, z_ush] at f9; done) | (have f9 := (jb_0.mp c_16); simp [hz, z_isN, z_isI, z_isS, z_man, z_pow, z_pla, z_siz, z_shl, z_ush] at f9; done)), by show MWd D cL h0 q0 A _ t.heap; rw [ht2]; exact hM⟩, hS.F ht2⟩) hS.2.2 md_M_operate_57
    · refine lv_bipush (v := 9) hx hb md_M_operate_14 (by decide) ?_
      refine lv_goto (tgt := 21) hx hb md_M_operate_16 (by decide) ?_
      refine vp_callSi (W.runS (As := [.int p1, .int 9]) (rest := []) ⟨hx, hb, hml, hown, hts⟩ (mt_M_in l p1 9) (va_cwS 2 hts (gd_S tm_359 tm_360 tm_25 tm_361) rfl rfl rfl (by decide +kernel) ⟨Nat.le_of_ble_eq_true rfl, Nat.le_of_ble_eq_true rfl⟩) ⟨fb_0, fun U hU hW => ⟨rfl, trivial⟩⟩ rfl rfl hl.1 rfl (lv_room (Nat.le_of_ble_eq_true rfl)) md_M_operate_21 ⟨Nat.zero_le _, Nat.zero_le _⟩) (fun r_86 e_87 => ?_)
      obtain rfl : r_86 = jb (rn_in p1 9) := e_87
      refine lv_if_eq (tgt := 56) hx hb md_M_operate_24 (by decide) (fun c_88 => ?_) (fun c_88 => ?_)
      · refine lv_iconst (v := (-1)) hx hb md_M_operate_56 (by decide) ?_
        exact W.iret (v := (-1)) hx hb hr (fun t ht2 _ => ⟨⟨(-1), u, rfl, (by first | (simp [mz_ope, (show rn_in 3 15 = true from by decide), (show rn_in 4 15 = true from by decide), (show rn_in 3 9 = true from by decide), (show rn_in 4 9 = true from by decide), (jb_n0.mp c_3), (c_4), (jb_0.mp c_88)]; done) | (have f9 := (jb_n0.mp c_3); simp [hz, z_isN, z_isI, z_isS, z_man, z_pow, z_pla, z_siz, z_shl, z_ush] at f9; done) | (have f9 := (c_4); simp [hz, z_isN, z_isI, z_isS, z_man, z_pow, z_pla, z_siz, z_shl, z_ush] at f9; done) | (have f9 := (jb_0.mp c_88); simp [hz, z_isN, z_isI, z_isS, z_man, z_pow, z_pla, z_siz, z_shl, z_ush] at f9; done)), by show MWd D cL h0 q0 A _ t.heap; rw [ht2]; exact hM⟩, hS.F ht2⟩) hS.2.2 md_M_operate_57
      · refine lv_iload_n hx hb md_M_operate_27 rfl (lv_at hl 3 rfl) ?_
        refine lv_bipush (v := 6) hx hb md_M_operate_28 (by decide) ?_
        refine vp_callSi (W.runS (As := [.int p2, .int 6]) (rest := []) ⟨hx, hb, hml, hown, hts⟩ (mt_M_in l p2 6) (va_cwS 2 hts (gd_S tm_359 tm_360 tm_25 tm_361) rfl rfl rfl (by decide +kernel) ⟨Nat.le_of_ble_eq_true rfl, Nat.le_of_ble_eq_true rfl⟩) ⟨fb_0, fun U hU hW => ⟨rfl, trivial⟩⟩ rfl rfl hl.1 rfl (lv_room (Nat.le_of_ble_eq_true rfl)) md_M_operate_30 ⟨Nat.zero_le _, Nat.zero_le _⟩) (fun r_89 e_90 => ?_)
        obtain rfl : r_89 = jb (rn_in p2 6) := e_90
        refine lv_if_eq (tgt := 56) hx hb md_M_operate_33 (by decide) (fun c_91 => ?_) (fun c_91 => ?_)
        · refine lv_iconst (v := (-1)) hx hb md_M_operate_56 (by decide) ?_
          exact W.iret (v := (-1)) hx hb hr (fun t ht2 _ => ⟨⟨(-1), u, rfl, (by first | (simp [mz_ope, (show rn_in 3 15 = true from by decide), (show rn_in 4 15 = true from by decide), (show rn_in 3 9 = true from by decide), (show rn_in 4 9 = true from by decide), (jb_n0.mp c_3), (c_4), (jb_n0.mp c_88), (jb_0.mp c_91)]; done) | (have f9 := (jb_n0.mp c_3); simp [hz, z_isN, z_isI, z_isS, z_man, z_pow, z_pla, z_siz, z_shl, z_ush] at f9; done) | (have f9 := (c_4); simp [hz, z_isN, z_isI, z_isS, z_man, z_pow, z_pla, z_siz, z_shl, z_ush] at f9; done) | (have f9 := (jb_n0.mp c_88); simp [hz, z_isN, z_isI, z_isS, z_man, z_pow, z_pla, z_siz, z_shl, z_ush] at f9; done) | (have f9 := (jb_0.mp c_91); simp [hz, z_isN, z_isI, z_isS, z_man, z_pow, z_pla, z_siz, z_shl, z_ush] at f9; done)), by show MWd D cL h0 q0 A _ t.heap; rw [ht2]; exact hM⟩, hS.F ht2⟩) hS.2.2 md_M_operate_57
        · refine lv_iload hx hb md_M_operate_36 (lv_at hl 4 rfl) ?_
          refine lv_bipush (v := 6) hx hb md_M_operate_38 (by decide) ?_
          refine vp_callSi (W.runS (As := [.int p3, .int 6]) (rest := []) ⟨hx, hb, hml, hown, hts⟩ (mt_M_in l p3 6) (va_cwS 2 hts (gd_S tm_359 tm_360 tm_25 tm_361) rfl rfl rfl (by decide +kernel) ⟨Nat.le_of_ble_eq_true rfl, Nat.le_of_ble_eq_true rfl⟩) ⟨fb_0, fun U hU hW => ⟨rfl, trivial⟩⟩ rfl rfl hl.1 rfl (lv_room (Nat.le_of_ble_eq_true rfl)) md_M_operate_40 ⟨Nat.zero_le _, Nat.zero_le _⟩) (fun r_92 e_93 => ?_)
          obtain rfl : r_92 = jb (rn_in p3 6) := e_93
          refine lv_if_eq (tgt := 56) hx hb md_M_operate_43 (by decide) (fun c_94 => ?_) (fun c_94 => ?_)
          · refine lv_iconst (v := (-1)) hx hb md_M_operate_56 (by decide) ?_
            exact W.iret (v := (-1)) hx hb hr (fun t ht2 _ => ⟨⟨(-1), u, rfl, (by first | (simp [mz_ope, (show rn_in 3 15 = true from by decide), (show rn_in 4 15 = true from by decide), (show rn_in 3 9 = true from by decide), (show rn_in 4 9 = true from by decide), (jb_n0.mp c_3), (c_4), (jb_n0.mp c_88), (jb_n0.mp c_91), (jb_0.mp c_94)]; done) | (have f9 := (jb_n0.mp c_3); simp [hz, z_isN, z_isI, z_isS, z_man, z_pow, z_pla, z_siz, z_shl, z_ush] at f9; done) | (have f9 := (c_4); simp [hz, z_isN, z_isI, z_isS, z_man, z_pow, z_pla, z_siz, z_shl, z_ush] at f9; done) | (have f9 := (jb_n0.mp c_88); simp [hz, z_isN, z_isI, z_isS, z_man, z_pow, z_pla, z_siz, z_shl, z_ush] at f9; done) | (have f9 := (jb_n0.mp c_91); simp [hz, z_isN, z_isI, z_isS, z_man, z_pow, z_pla, z_siz, z_shl, z_ush] at f9; done) | (have f9 := (jb_0.mp c_94); simp [hz, z_isN, z_isI, z_isS, z_man, z_pow, z_pla, z_siz, z_shl, z_ush] at f9; done)), by show MWd D cL h0 q0 A _ t.heap; rw [ht2]; exact hM⟩, hS.F ht2⟩) hS.2.2 md_M_operate_57
          · refine lv_iload hx hb md_M_operate_46 (lv_at hl 5 rfl) ?_
            refine lv_bipush (v := 6) hx hb md_M_operate_48 (by decide) ?_
            refine vp_callSi (W.runS (As := [.int p4, .int 6]) (rest := []) ⟨hx, hb, hml, hown, hts⟩ (mt_M_in l p4 6) (va_cwS 2 hts (gd_S tm_359 tm_360 tm_25 tm_361) rfl rfl rfl (by decide +kernel) ⟨Nat.le_of_ble_eq_true rfl, Nat.le_of_ble_eq_true rfl⟩) ⟨fb_0, fun U hU hW => ⟨rfl, trivial⟩⟩ rfl rfl hl.1 rfl (lv_room (Nat.le_of_ble_eq_true rfl)) md_M_operate_50 ⟨Nat.zero_le _, Nat.zero_le _⟩) (fun r_95 e_96 => ?_)
            obtain rfl : r_95 = jb (rn_in p4 6) := e_96
            refine lv_if_ne (tgt := 58) hx hb md_M_operate_53 (by decide) (fun c_97 => ?_) (fun c_97 => ?_)
            · refine lv_aload_n hx hb md_M_operate_58 rfl (lv_at hl 0 rfl) ?_
              refine va_get (D := D) (ci := 1) (v := .ref q0) (C := "NumberProbeModel") (T := TM) (N := 12) hx hb ht inM hown hK hM.1 0 rfl rfl 0 (by decide) (ht _ tm_318) (fun _ h9 => h9) rfl md_M_operate_59 ?_
              refine lv_iload_n hx hb md_M_operate_62 rfl (lv_at hl 1 rfl) ?_
              refine lv_bipush (v := 6) hx hb md_M_operate_63 (by decide) ?_
              refine lv_imul hx hb md_M_operate_65 ?_
              refine lv_iload_n hx hb md_M_operate_66 rfl (lv_at hl 3 rfl) ?_
              refine lv_iadd hx hb md_M_operate_67 ?_
              refine va_lald (D := D) hx hb hK hM.1 1 0 rfl rfl (rn_idx (jb_n0.mp c_3) (jb_n0.mp c_91)) md_M_operate_68 ?_
              refine lv_lstore (lv' := [(6, .long (u.2 ((p0 * 6) + p2).toNatClampNeg)), (0, .ref h0), (1, .int p0), (2, .int p1), (3, .int p2), (4, .int p3), (5, .int p4)]) hx hb md_M_operate_69 hl (by decide) rfl (fun ls hl => ?_)
              refine lv_aload_n hx hb md_M_operate_71 rfl (lv_at hl 1 rfl) ?_
              refine va_get (D := D) (ci := 1) (v := .ref q0) (C := "NumberProbeModel") (T := TM) (N := 12) hx hb ht inM hown hK hM.1 0 rfl rfl 0 (by decide) (ht _ tm_318) (fun _ h9 => h9) rfl md_M_operate_72 ?_
              refine lv_iload_n hx hb md_M_operate_75 rfl (lv_at hl 2 rfl) ?_
              refine lv_bipush (v := 6) hx hb md_M_operate_76 (by decide) ?_
              refine lv_imul hx hb md_M_operate_78 ?_
              refine lv_iload hx hb md_M_operate_79 (lv_at hl 5 rfl) ?_
              refine lv_iadd hx hb md_M_operate_81 ?_
              refine va_lald (D := D) hx hb hK hM.1 1 0 rfl rfl (rn_idx (jb_n0.mp c_3) (jb_n0.mp c_94)) md_M_operate_82 ?_
              refine lv_lstore (lv' := [(8, .long (u.2 ((p0 * 6) + p3).toNatClampNeg)), (6, .long (u.2 ((p0 * 6) + p2).toNatClampNeg)), (0, .ref h0), (1, .int p0), (2, .int p1), (3, .int p2), (4, .int p3), (5, .int p4)]) hx hb md_M_operate_83 hl (by decide) rfl (fun ls hl => ?_)
              refine lv_iload_n hx hb md_M_operate_85 rfl (lv_at hl 3 rfl) ?_
              refine lv_iconst (v := 1) hx hb md_M_operate_86 (by decide) ?_
              refine lv_icmp_le (tgt := 110) hx hb md_M_operate_87 (by decide) (fun c_98 => ?_) (fun c_98 => ?_)
              · refine lv_aload_n hx hb md_M_operate_110 rfl (lv_at hl 2 rfl) ?_
                refine va_get (D := D) (ci := 1) (v := .ref q0) (C := "NumberProbeModel") (T := TM) (N := 12) hx hb ht inM hown hK hM.1 0 rfl rfl 0 (by decide) (ht _ tm_318) (fun _ h9 => h9) rfl md_M_operate_111 ?_
                refine lv_iload_n hx hb md_M_operate_114 rfl (lv_at hl 3 rfl) ?_
                refine lv_bipush (v := 6) hx hb md_M_operate_115 (by decide) ?_
                refine lv_imul hx hb md_M_operate_117 ?_
                refine lv_iload hx hb md_M_operate_118 (lv_at hl 7 rfl) ?_
                refine lv_iadd hx hb md_M_operate_120 ?_
                refine lv_iload_n hx hb md_M_operate_121 rfl (lv_at hl 3 rfl) ?_
                refine lv_iconst (v := 2) hx hb md_M_operate_122 (by decide) ?_
                refine lv_icmp_ge (tgt := 139) hx hb md_M_operate_123 (by decide) (fun c_99 => ?_) (fun c_99 => ?_)
                · refine lv_iload_n hx hb md_M_operate_139 rfl (lv_at hl 3 rfl) ?_
                  refine lv_iload_n hx hb md_M_operate_140 rfl (lv_at hl 3 rfl) ?_
                  refine lv_iload_n hx hb md_M_operate_141 rfl (lv_at hl 4 rfl) ?_
                  refine lv_lload hx hb md_M_operate_142 (lv_at hl 1 rfl) ?_
                  refine lv_lload hx hb md_M_operate_144 (lv_at hl 0 rfl) ?_
                  refine vp_callSl (W.runS (As := [.int p0, .int p1, .long (u.2 ((p0 * 6) + p2).toNatClampNeg), .long (u.2 ((p0 * 6) + p3).toNatClampNeg)]) (rest := [.int p0, .int ((p0 * 6) + p4), .ref q0]) ⟨hx, hb, hml, hown, hts⟩ (mt_M_operateWhole l p0 p1 (u.2 ((p0 * 6) + p2).toNatClampNeg) (u.2 ((p0 * 6) + p3).toNatClampNeg) (fun _ => (m_kd c_98 c_99).elim)) (va_cwS 4 hts (gd_S tm_494 tm_495 tm_25 tm_496) rfl rfl rfl (by decide +kernel) ⟨Nat.le_of_ble_eq_true rfl, Nat.le_of_ble_eq_true rfl⟩) ⟨fb_0, fun U hU hW => ⟨rfl, trivial⟩⟩ rfl rfl hl.1 rfl (lv_room (Nat.le_of_ble_eq_true rfl)) md_M_operate_146 ⟨Nat.zero_le _, Nat.zero_le _⟩) (fun r_100 e_101 => ?_)
                  refine vp_callSl (W.runS (As := [.int p0, .long r_100]) (rest := [.int ((p0 * 6) + p4), .ref q0]) ⟨hx, hb, hml, hown, hts⟩ (mz_M_normal l p0 r_100) (va_cwS 2 hts (gd_S tm_362 tm_363 tm_25 tm_364) rfl rfl rfl (by decide +kernel) ⟨Nat.le_of_ble_eq_true rfl, Nat.le_of_ble_eq_true rfl⟩) ⟨fb_0, fun U hU hW => ⟨rfl, trivial⟩⟩ rfl rfl hl.1 rfl (lv_room (Nat.le_of_ble_eq_true rfl)) md_M_operate_149 ⟨Nat.zero_le _, Nat.zero_le _⟩) (fun r_102 e_103 => ?_)
                  refine m_ast hx hb hK hM hS (rn_idx (jb_n0.mp c_3) (jb_n0.mp c_97)) md_M_operate_152 (fun u_104 H_105 L_106 hM hS => ?_)
                  refine lv_iconst (v := 0) hx hb md_M_operate_153 (by decide) ?_
                  exact W.iret (v := 0) hx hb hr (fun t ht2 _ => ⟨⟨0, u_104, rfl, (by first | (simp [mz_ope, (show rn_in 3 15 = true from by decide), (show rn_in 4 15 = true from by decide), (show rn_in 3 9 = true from by decide), (show rn_in 4 9 = true from by decide), (jb_n0.mp c_3), (c_4), (jb_n0.mp c_88), (jb_n0.mp c_91), (jb_n0.mp c_94), (jb_n0.mp c_97), c_98, c_99]; done) | (have f9 := (jb_n0.mp c_3); simp [hz, z_isN, z_isI, z_isS, z_man, z_pow, z_pla, z_siz, z_shl, z_ush] at f9; done) | (have f9 := (c_4); simp [hz, z_isN, z_isI, z_isS, z_man, z_pow, z_pla, z_siz, z_shl, z_ush] at f9; done) | (have f9 := (jb_n0.mp c_88); simp [hz, z_isN, z_isI, z_isS, z_man, z_pow, z_pla, z_siz, z_shl, z_ush] at f9; done) | (have f9 := (jb_n0.mp c_91); simp [hz, z_isN, z_isI, z_isS, z_man, z_pow, z_pla, z_siz, z_shl, z_ush] at f9; done) | (have f9 := (jb_n0.mp c_94); simp [hz, z_isN, z_isI, z_isS, z_man, z_pow, z_pla, z_siz, z_shl, z_ush] at f9; done) | (have f9 := (jb_n0.mp c_97); simp [hz, z_isN, z_isI, z_isS, z_man, z_pow, z_pla, z_siz, z_shl, z_ush] at f9; done) | (have f9 := c_98; simp [hz, z_isN, z_isI, z_isS, z_man, z_pow, z_pla, z_siz, z_shl, z_ush] at f9; done) | (have f9 := c_99; simp [hz, z_isN, z_isI, z_isS, z_man, z_pow, z_pla, z_siz, z_shl, z_ush] at f9; done)), by show MWd D cL h0 q0 A _ t.heap; rw [ht2]; exact hM⟩, hS.F ht2⟩) hS.2.2 md_M_operate_154
                · refine lv_aload_n hx hb md_M_operate_126 rfl (lv_at hl 2 rfl) ?_
                  refine lv_iload_n hx hb md_M_operate_127 rfl (lv_at hl 3 rfl) ?_
                  refine lv_iload_n hx hb md_M_operate_128 rfl (lv_at hl 4 rfl) ?_
                  refine lv_lload hx hb md_M_operate_129 (lv_at hl 1 rfl) ?_
                  refine lv_lload hx hb md_M_operate_131 (lv_at hl 0 rfl) ?_
                  refine m_calll (va_runV (C := "NumberProbeModel") (As := [.int p0, .int p1, .long (u.2 ((p0 * 6) + p2).toNatClampNeg), .long (u.2 ((p0 * 6) + p3).toNatClampNeg)]) (rest := [.int ((p0 * 6) + p4), .ref q0]) ⟨hx, hb, hml, hown, hts⟩ (mt_M_operateReal l D cL h0 q0 _ u p0 p1 (u.2 ((p0 * 6) + p2).toNatClampNeg) (u.2 ((p0 * 6) + p3).toNatClampNeg)) (cwV 4 hts (gd_V tm_443 tm_445 tm_11 tm_25 tm_446) rfl rfl rfl (by decide +kernel) ⟨Nat.le_of_ble_eq_true rfl, Nat.le_of_ble_eq_true rfl⟩) (m_in (locs := []) hK hM) rfl rfl hl.1 rfl (lv_room (Nat.le_of_ble_eq_true rfl)) md_M_operate_133 ⟨Nat.zero_le _, Nat.zero_le _⟩) hM hS hA (fun r_107 u_109 H_110 L_111 e_108 hM hS => ?_)
                  refine lv_goto (tgt := 152) hx hb md_M_operate_136 (by decide) ?_
                  refine m_ast hx hb hK hM hS (rn_idx (jb_n0.mp c_3) (jb_n0.mp c_97)) md_M_operate_152 (fun u_112 H_113 L_114 hM hS => ?_)
                  refine lv_iconst (v := 0) hx hb md_M_operate_153 (by decide) ?_
                  exact W.iret (v := 0) hx hb hr (fun t ht2 _ => ⟨⟨0, u_112, rfl, (by first | (simp [mz_ope, (show rn_in 3 15 = true from by decide), (show rn_in 4 15 = true from by decide), (show rn_in 3 9 = true from by decide), (show rn_in 4 9 = true from by decide), (jb_n0.mp c_3), (c_4), (jb_n0.mp c_88), (jb_n0.mp c_91), (jb_n0.mp c_94), (jb_n0.mp c_97), c_98, (c_99)]; done) | (have f9 := (jb_n0.mp c_3); simp [hz, z_isN, z_isI, z_isS, z_man, z_pow, z_pla, z_siz, z_shl, z_ush] at f9; done) | (have f9 := (c_4); simp [hz, z_isN, z_isI, z_isS, z_man, z_pow, z_pla, z_siz, z_shl, z_ush] at f9; done) | (have f9 := (jb_n0.mp c_88); simp [hz, z_isN, z_isI, z_isS, z_man, z_pow, z_pla, z_siz, z_shl, z_ush] at f9; done) | (have f9 := (jb_n0.mp c_91); simp [hz, z_isN, z_isI, z_isS, z_man, z_pow, z_pla, z_siz, z_shl, z_ush] at f9; done) | (have f9 := (jb_n0.mp c_94); simp [hz, z_isN, z_isI, z_isS, z_man, z_pow, z_pla, z_siz, z_shl, z_ush] at f9; done) | (have f9 := (jb_n0.mp c_97); simp [hz, z_isN, z_isI, z_isS, z_man, z_pow, z_pla, z_siz, z_shl, z_ush] at f9; done) | (have f9 := c_98; simp [hz, z_isN, z_isI, z_isS, z_man, z_pow, z_pla, z_siz, z_shl, z_ush] at f9; done) | (have f9 := (c_99); simp [hz, z_isN, z_isI, z_isS, z_man, z_pow, z_pla, z_siz, z_shl, z_ush] at f9; done)), by show MWd D cL h0 q0 A _ t.heap; rw [ht2]; exact hM⟩, hS.F ht2⟩) hS.2.2 md_M_operate_154
              · refine lv_iload_n hx hb md_M_operate_90 rfl (lv_at hl 4 rfl) ?_
                refine lv_iconst (v := 3) hx hb md_M_operate_91 (by decide) ?_
                refine lv_icmp_eq (tgt := 100) hx hb md_M_operate_92 (by decide) (fun c_115 => ?_) (fun c_115 => ?_)
                · refine lv_lload hx hb md_M_operate_100 (lv_at hl 0 rfl) ?_
                  refine lv_lconst (v := 0) hx hb md_M_operate_102 (by decide) ?_
                  refine W.lcmp hx hb md_M_operate_103 ?_
                  refine lv_if_ne (tgt := 110) hx hb md_M_operate_104 (by decide) (fun c_116 => ?_) (fun c_116 => ?_)
                  · refine lv_aload_n hx hb md_M_operate_110 rfl (lv_at hl 2 rfl) ?_
                    refine va_get (D := D) (ci := 1) (v := .ref q0) (C := "NumberProbeModel") (T := TM) (N := 12) hx hb ht inM hown hK hM.1 0 rfl rfl 0 (by decide) (ht _ tm_318) (fun _ h9 => h9) rfl md_M_operate_111 ?_
                    refine lv_iload_n hx hb md_M_operate_114 rfl (lv_at hl 3 rfl) ?_
                    refine lv_bipush (v := 6) hx hb md_M_operate_115 (by decide) ?_
                    refine lv_imul hx hb md_M_operate_117 ?_
                    refine lv_iload hx hb md_M_operate_118 (lv_at hl 7 rfl) ?_
                    refine lv_iadd hx hb md_M_operate_120 ?_
                    refine lv_iload_n hx hb md_M_operate_121 rfl (lv_at hl 3 rfl) ?_
                    refine lv_iconst (v := 2) hx hb md_M_operate_122 (by decide) ?_
                    refine lv_icmp_ge (tgt := 139) hx hb md_M_operate_123 (by decide) (fun c_117 => ?_) (fun c_117 => ?_)
                    · refine lv_iload_n hx hb md_M_operate_139 rfl (lv_at hl 3 rfl) ?_
                      refine lv_iload_n hx hb md_M_operate_140 rfl (lv_at hl 3 rfl) ?_
                      refine lv_iload_n hx hb md_M_operate_141 rfl (lv_at hl 4 rfl) ?_
                      refine lv_lload hx hb md_M_operate_142 (lv_at hl 1 rfl) ?_
                      refine lv_lload hx hb md_M_operate_144 (lv_at hl 0 rfl) ?_
                      refine vp_callSl (W.runS (As := [.int p0, .int p1, .long (u.2 ((p0 * 6) + p2).toNatClampNeg), .long (u.2 ((p0 * 6) + p3).toNatClampNeg)]) (rest := [.int p0, .int ((p0 * 6) + p4), .ref q0]) ⟨hx, hb, hml, hown, hts⟩ (mt_M_operateWhole l p0 p1 (u.2 ((p0 * 6) + p2).toNatClampNeg) (u.2 ((p0 * 6) + p3).toNatClampNeg) (fun _ => (mt (lg_cmp_eq _ _).mpr c_116))) (va_cwS 4 hts (gd_S tm_494 tm_495 tm_25 tm_496) rfl rfl rfl (by decide +kernel) ⟨Nat.le_of_ble_eq_true rfl, Nat.le_of_ble_eq_true rfl⟩) ⟨fb_0, fun U hU hW => ⟨rfl, trivial⟩⟩ rfl rfl hl.1 rfl (lv_room (Nat.le_of_ble_eq_true rfl)) md_M_operate_146 ⟨Nat.zero_le _, Nat.zero_le _⟩) (fun r_118 e_119 => ?_)
                      refine vp_callSl (W.runS (As := [.int p0, .long r_118]) (rest := [.int ((p0 * 6) + p4), .ref q0]) ⟨hx, hb, hml, hown, hts⟩ (mz_M_normal l p0 r_118) (va_cwS 2 hts (gd_S tm_362 tm_363 tm_25 tm_364) rfl rfl rfl (by decide +kernel) ⟨Nat.le_of_ble_eq_true rfl, Nat.le_of_ble_eq_true rfl⟩) ⟨fb_0, fun U hU hW => ⟨rfl, trivial⟩⟩ rfl rfl hl.1 rfl (lv_room (Nat.le_of_ble_eq_true rfl)) md_M_operate_149 ⟨Nat.zero_le _, Nat.zero_le _⟩) (fun r_120 e_121 => ?_)
                      refine m_ast hx hb hK hM hS (rn_idx (jb_n0.mp c_3) (jb_n0.mp c_97)) md_M_operate_152 (fun u_122 H_123 L_124 hM hS => ?_)
                      refine lv_iconst (v := 0) hx hb md_M_operate_153 (by decide) ?_
                      exact W.iret (v := 0) hx hb hr (fun t ht2 _ => ⟨⟨0, u_122, rfl, (by first | (simp [mz_ope, (show rn_in 3 15 = true from by decide), (show rn_in 4 15 = true from by decide), (show rn_in 3 9 = true from by decide), (show rn_in 4 9 = true from by decide), (jb_n0.mp c_3), (c_4), (jb_n0.mp c_88), (jb_n0.mp c_91), (jb_n0.mp c_94), (jb_n0.mp c_97), (c_98), c_115, (mt (lg_cmp_eq _ _).mpr c_116), c_117]; done) | (have f9 := (jb_n0.mp c_3); simp [hz, z_isN, z_isI, z_isS, z_man, z_pow, z_pla, z_siz, z_shl, z_ush] at f9; done) | (have f9 := (c_4); simp [hz, z_isN, z_isI, z_isS, z_man, z_pow, z_pla, z_siz, z_shl, z_ush] at f9; done) | (have f9 := (jb_n0.mp c_88); simp [hz, z_isN, z_isI, z_isS, z_man, z_pow, z_pla, z_siz, z_shl, z_ush] at f9; done) | (have f9 := (jb_n0.mp c_91); simp [hz, z_isN, z_isI, z_isS, z_man, z_pow, z_pla, z_siz, z_shl, z_ush] at f9; done) | (have f9 := (jb_n0.mp c_94); simp [hz, z_isN, z_isI, z_isS, z_man, z_pow, z_pla, z_siz, z_shl, z_ush] at f9; done) | (have f9 := (jb_n0.mp c_97); simp [hz, z_isN, z_isI, z_isS, z_man, z_pow, z_pla, z_siz, z_shl, z_ush] at f9; done) | (have f9 := (c_98); simp [hz, z_isN, z_isI, z_isS, z_man, z_pow, z_pla, z_siz, z_shl, z_ush] at f9; done) | (have f9 := c_115; simp [hz, z_isN, z_isI, z_isS, z_man, z_pow, z_pla, z_siz, z_shl, z_ush] at f9; done) | (have f9 := (mt (lg_cmp_eq _ _).mpr c_116); simp [hz, z_isN, z_isI, z_isS, z_man, z_pow, z_pla, z_siz, z_shl, z_ush] at f9; done) | (have f9 := c_117; simp [hz, z_isN, z_isI, z_isS, z_man, z_pow, z_pla, z_siz, z_shl, z_ush] at f9; done)), by show MWd D cL h0 q0 A _ t.heap; rw [ht2]; exact hM⟩, hS.F ht2⟩) hS.2.2 md_M_operate_154
                    · refine lv_aload_n hx hb md_M_operate_126 rfl (lv_at hl 2 rfl) ?_
                      refine lv_iload_n hx hb md_M_operate_127 rfl (lv_at hl 3 rfl) ?_
                      refine lv_iload_n hx hb md_M_operate_128 rfl (lv_at hl 4 rfl) ?_
                      refine lv_lload hx hb md_M_operate_129 (lv_at hl 1 rfl) ?_
                      refine lv_lload hx hb md_M_operate_131 (lv_at hl 0 rfl) ?_
                      refine m_calll (va_runV (C := "NumberProbeModel") (As := [.int p0, .int p1, .long (u.2 ((p0 * 6) + p2).toNatClampNeg), .long (u.2 ((p0 * 6) + p3).toNatClampNeg)]) (rest := [.int ((p0 * 6) + p4), .ref q0]) ⟨hx, hb, hml, hown, hts⟩ (mt_M_operateReal l D cL h0 q0 _ u p0 p1 (u.2 ((p0 * 6) + p2).toNatClampNeg) (u.2 ((p0 * 6) + p3).toNatClampNeg)) (cwV 4 hts (gd_V tm_443 tm_445 tm_11 tm_25 tm_446) rfl rfl rfl (by decide +kernel) ⟨Nat.le_of_ble_eq_true rfl, Nat.le_of_ble_eq_true rfl⟩) (m_in (locs := []) hK hM) rfl rfl hl.1 rfl (lv_room (Nat.le_of_ble_eq_true rfl)) md_M_operate_133 ⟨Nat.zero_le _, Nat.zero_le _⟩) hM hS hA (fun r_125 u_127 H_128 L_129 e_126 hM hS => ?_)
                      refine lv_goto (tgt := 152) hx hb md_M_operate_136 (by decide) ?_
                      refine m_ast hx hb hK hM hS (rn_idx (jb_n0.mp c_3) (jb_n0.mp c_97)) md_M_operate_152 (fun u_130 H_131 L_132 hM hS => ?_)
                      refine lv_iconst (v := 0) hx hb md_M_operate_153 (by decide) ?_
                      exact W.iret (v := 0) hx hb hr (fun t ht2 _ => ⟨⟨0, u_130, rfl, (by first | (simp [mz_ope, (show rn_in 3 15 = true from by decide), (show rn_in 4 15 = true from by decide), (show rn_in 3 9 = true from by decide), (show rn_in 4 9 = true from by decide), (jb_n0.mp c_3), (c_4), (jb_n0.mp c_88), (jb_n0.mp c_91), (jb_n0.mp c_94), (jb_n0.mp c_97), (c_98), c_115, (mt (lg_cmp_eq _ _).mpr c_116), (c_117)]; done) | (have f9 := (jb_n0.mp c_3); simp [hz, z_isN, z_isI, z_isS, z_man, z_pow, z_pla, z_siz, z_shl, z_ush] at f9; done) | (have f9 := (c_4); simp [hz, z_isN, z_isI, z_isS, z_man, z_pow, z_pla, z_siz, z_shl, z_ush] at f9; done) | (have f9 := (jb_n0.mp c_88); simp [hz, z_isN, z_isI, z_isS, z_man, z_pow, z_pla, z_siz, z_shl, z_ush] at f9; done) | (have f9 := (jb_n0.mp c_91); simp [hz, z_isN, z_isI, z_isS, z_man, z_pow, z_pla, z_siz, z_shl, z_ush] at f9; done) | (have f9 := (jb_n0.mp c_94); simp [hz, z_isN, z_isI, z_isS, z_man, z_pow, z_pla, z_siz, z_shl, z_ush] at f9; done) | (have f9 := (jb_n0.mp c_97); simp [hz, z_isN, z_isI, z_isS, z_man, z_pow, z_pla, z_siz, z_shl, z_ush] at f9; done) | (have f9 := (c_98); simp [hz, z_isN, z_isI, z_isS, z_man, z_pow, z_pla, z_siz, z_shl, z_ush] at f9; done) | (have f9 := c_115; simp [hz, z_isN, z_isI, z_isS, z_man, z_pow, z_pla, z_siz, z_shl, z_ush] at f9; done) | (have f9 := (mt (lg_cmp_eq _ _).mpr c_116); simp [hz, z_isN, z_isI, z_isS, z_man, z_pow, z_pla, z_siz, z_shl, z_ush] at f9; done) | (have f9 := (c_117); simp [hz, z_isN, z_isI, z_isS, z_man, z_pow, z_pla, z_siz, z_shl, z_ush] at f9; done)), by show MWd D cL h0 q0 A _ t.heap; rw [ht2]; exact hM⟩, hS.F ht2⟩) hS.2.2 md_M_operate_154
                  · refine lv_bipush (v := (-2)) hx hb md_M_operate_107 (by decide) ?_
                    exact W.iret (v := (-2)) hx hb hr (fun t ht2 _ => ⟨⟨(-2), u, rfl, (by first | (simp [mz_ope, (show rn_in 3 15 = true from by decide), (show rn_in 4 15 = true from by decide), (show rn_in 3 9 = true from by decide), (show rn_in 4 9 = true from by decide), (jb_n0.mp c_3), (c_4), (jb_n0.mp c_88), (jb_n0.mp c_91), (jb_n0.mp c_94), (jb_n0.mp c_97), (c_98), c_115, ((lg_cmp_eq _ _).mp c_116)]; done) | (have f9 := (jb_n0.mp c_3); simp [hz, z_isN, z_isI, z_isS, z_man, z_pow, z_pla, z_siz, z_shl, z_ush] at f9; done) | (have f9 := (c_4); simp [hz, z_isN, z_isI, z_isS, z_man, z_pow, z_pla, z_siz, z_shl, z_ush] at f9; done) | (have f9 := (jb_n0.mp c_88); simp [hz, z_isN, z_isI, z_isS, z_man, z_pow, z_pla, z_siz, z_shl, z_ush] at f9; done) | (have f9 := (jb_n0.mp c_91); simp [hz, z_isN, z_isI, z_isS, z_man, z_pow, z_pla, z_siz, z_shl, z_ush] at f9; done) | (have f9 := (jb_n0.mp c_94); simp [hz, z_isN, z_isI, z_isS, z_man, z_pow, z_pla, z_siz, z_shl, z_ush] at f9; done) | (have f9 := (jb_n0.mp c_97); simp [hz, z_isN, z_isI, z_isS, z_man, z_pow, z_pla, z_siz, z_shl, z_ush] at f9; done) | (have f9 := (c_98); simp [hz, z_isN, z_isI, z_isS, z_man, z_pow, z_pla, z_siz, z_shl, z_ush] at f9; done) | (have f9 := c_115; simp [hz, z_isN, z_isI, z_isS, z_man, z_pow, z_pla, z_siz, z_shl, z_ush] at f9; done) | (have f9 := ((lg_cmp_eq _ _).mp c_116); simp [hz, z_isN, z_isI, z_isS, z_man, z_pow, z_pla, z_siz, z_shl, z_ush] at f9; done)), by show MWd D cL h0 q0 A _ t.heap; rw [ht2]; exact hM⟩, hS.F ht2⟩) hS.2.2 md_M_operate_109
                · refine lv_iload_n hx hb md_M_operate_95 rfl (lv_at hl 4 rfl) ?_
                  refine lv_iconst (v := 4) hx hb md_M_operate_96 (by decide) ?_
                  refine lv_icmp_ne (tgt := 110) hx hb md_M_operate_97 (by decide) (fun c_133 => ?_) (fun c_133 => ?_)
                  · refine lv_aload_n hx hb md_M_operate_110 rfl (lv_at hl 2 rfl) ?_
                    refine va_get (D := D) (ci := 1) (v := .ref q0) (C := "NumberProbeModel") (T := TM) (N := 12) hx hb ht inM hown hK hM.1 0 rfl rfl 0 (by decide) (ht _ tm_318) (fun _ h9 => h9) rfl md_M_operate_111 ?_
                    refine lv_iload_n hx hb md_M_operate_114 rfl (lv_at hl 3 rfl) ?_
                    refine lv_bipush (v := 6) hx hb md_M_operate_115 (by decide) ?_
                    refine lv_imul hx hb md_M_operate_117 ?_
                    refine lv_iload hx hb md_M_operate_118 (lv_at hl 7 rfl) ?_
                    refine lv_iadd hx hb md_M_operate_120 ?_
                    refine lv_iload_n hx hb md_M_operate_121 rfl (lv_at hl 3 rfl) ?_
                    refine lv_iconst (v := 2) hx hb md_M_operate_122 (by decide) ?_
                    refine lv_icmp_ge (tgt := 139) hx hb md_M_operate_123 (by decide) (fun c_134 => ?_) (fun c_134 => ?_)
                    · refine lv_iload_n hx hb md_M_operate_139 rfl (lv_at hl 3 rfl) ?_
                      refine lv_iload_n hx hb md_M_operate_140 rfl (lv_at hl 3 rfl) ?_
                      refine lv_iload_n hx hb md_M_operate_141 rfl (lv_at hl 4 rfl) ?_
                      refine lv_lload hx hb md_M_operate_142 (lv_at hl 1 rfl) ?_
                      refine lv_lload hx hb md_M_operate_144 (lv_at hl 0 rfl) ?_
                      refine vp_callSl (W.runS (As := [.int p0, .int p1, .long (u.2 ((p0 * 6) + p2).toNatClampNeg), .long (u.2 ((p0 * 6) + p3).toNatClampNeg)]) (rest := [.int p0, .int ((p0 * 6) + p4), .ref q0]) ⟨hx, hb, hml, hown, hts⟩ (mt_M_operateWhole l p0 p1 (u.2 ((p0 * 6) + p2).toNatClampNeg) (u.2 ((p0 * 6) + p3).toNatClampNeg) (fun q => q.elim (fun a => absurd a (c_115)) (fun a => absurd a c_133))) (va_cwS 4 hts (gd_S tm_494 tm_495 tm_25 tm_496) rfl rfl rfl (by decide +kernel) ⟨Nat.le_of_ble_eq_true rfl, Nat.le_of_ble_eq_true rfl⟩) ⟨fb_0, fun U hU hW => ⟨rfl, trivial⟩⟩ rfl rfl hl.1 rfl (lv_room (Nat.le_of_ble_eq_true rfl)) md_M_operate_146 ⟨Nat.zero_le _, Nat.zero_le _⟩) (fun r_135 e_136 => ?_)
                      refine vp_callSl (W.runS (As := [.int p0, .long r_135]) (rest := [.int ((p0 * 6) + p4), .ref q0]) ⟨hx, hb, hml, hown, hts⟩ (mz_M_normal l p0 r_135) (va_cwS 2 hts (gd_S tm_362 tm_363 tm_25 tm_364) rfl rfl rfl (by decide +kernel) ⟨Nat.le_of_ble_eq_true rfl, Nat.le_of_ble_eq_true rfl⟩) ⟨fb_0, fun U hU hW => ⟨rfl, trivial⟩⟩ rfl rfl hl.1 rfl (lv_room (Nat.le_of_ble_eq_true rfl)) md_M_operate_149 ⟨Nat.zero_le _, Nat.zero_le _⟩) (fun r_137 e_138 => ?_)
                      refine m_ast hx hb hK hM hS (rn_idx (jb_n0.mp c_3) (jb_n0.mp c_97)) md_M_operate_152 (fun u_139 H_140 L_141 hM hS => ?_)
                      refine lv_iconst (v := 0) hx hb md_M_operate_153 (by decide) ?_
                      exact W.iret (v := 0) hx hb hr (fun t ht2 _ => ⟨⟨0, u_139, rfl, (by first | (simp [mz_ope, (show rn_in 3 15 = true from by decide), (show rn_in 4 15 = true from by decide), (show rn_in 3 9 = true from by decide), (show rn_in 4 9 = true from by decide), (jb_n0.mp c_3), (c_4), (jb_n0.mp c_88), (jb_n0.mp c_91), (jb_n0.mp c_94), (jb_n0.mp c_97), (c_98), (c_115), c_133, c_134]; done) | (have f9 := (jb_n0.mp c_3); simp [hz, z_isN, z_isI, z_isS, z_man, z_pow, z_pla, z_siz, z_shl, z_ush] at f9; done) | (have f9 := (c_4); simp [hz, z_isN, z_isI, z_isS, z_man, z_pow, z_pla, z_siz, z_shl, z_ush] at f9; done) | (have f9 := (jb_n0.mp c_88); simp [hz, z_isN, z_isI, z_isS, z_man, z_pow, z_pla, z_siz, z_shl, z_ush] at f9; done) | (have f9 := (jb_n0.mp c_91); simp [hz, z_isN, z_isI, z_isS, z_man, z_pow, z_pla, z_siz, z_shl, z_ush] at f9; done) | (have f9 := (jb_n0.mp c_94); simp [hz, z_isN, z_isI, z_isS, z_man, z_pow, z_pla, z_siz, z_shl, z_ush] at f9; done) | (have f9 := (jb_n0.mp c_97); simp [hz, z_isN, z_isI, z_isS, z_man, z_pow, z_pla, z_siz, z_shl, z_ush] at f9; done) | (have f9 := (c_98); simp [hz, z_isN, z_isI, z_isS, z_man, z_pow, z_pla, z_siz, z_shl, z_ush] at f9; done) | (have f9 := (c_115); simp [hz, z_isN, z_isI, z_isS, z_man, z_pow, z_pla, z_siz, z_shl, z_ush] at f9; done) | (have f9 := c_133; simp [hz, z_isN, z_isI, z_isS, z_man, z_pow, z_pla, z_siz, z_shl, z_ush] at f9; done) | (have f9 := c_134; simp [hz, z_isN, z_isI, z_isS, z_man, z_pow, z_pla, z_siz, z_shl, z_ush] at f9; done)), by show MWd D cL h0 q0 A _ t.heap; rw [ht2]; exact hM⟩, hS.F ht2⟩) hS.2.2 md_M_operate_154
                    · refine lv_aload_n hx hb md_M_operate_126 rfl (lv_at hl 2 rfl) ?_
                      refine lv_iload_n hx hb md_M_operate_127 rfl (lv_at hl 3 rfl) ?_
                      refine lv_iload_n hx hb md_M_operate_128 rfl (lv_at hl 4 rfl) ?_
                      refine lv_lload hx hb md_M_operate_129 (lv_at hl 1 rfl) ?_
                      refine lv_lload hx hb md_M_operate_131 (lv_at hl 0 rfl) ?_
                      refine m_calll (va_runV (C := "NumberProbeModel") (As := [.int p0, .int p1, .long (u.2 ((p0 * 6) + p2).toNatClampNeg), .long (u.2 ((p0 * 6) + p3).toNatClampNeg)]) (rest := [.int ((p0 * 6) + p4), .ref q0]) ⟨hx, hb, hml, hown, hts⟩ (mt_M_operateReal l D cL h0 q0 _ u p0 p1 (u.2 ((p0 * 6) + p2).toNatClampNeg) (u.2 ((p0 * 6) + p3).toNatClampNeg)) (cwV 4 hts (gd_V tm_443 tm_445 tm_11 tm_25 tm_446) rfl rfl rfl (by decide +kernel) ⟨Nat.le_of_ble_eq_true rfl, Nat.le_of_ble_eq_true rfl⟩) (m_in (locs := []) hK hM) rfl rfl hl.1 rfl (lv_room (Nat.le_of_ble_eq_true rfl)) md_M_operate_133 ⟨Nat.zero_le _, Nat.zero_le _⟩) hM hS hA (fun r_142 u_144 H_145 L_146 e_143 hM hS => ?_)
                      refine lv_goto (tgt := 152) hx hb md_M_operate_136 (by decide) ?_
                      refine m_ast hx hb hK hM hS (rn_idx (jb_n0.mp c_3) (jb_n0.mp c_97)) md_M_operate_152 (fun u_147 H_148 L_149 hM hS => ?_)
                      refine lv_iconst (v := 0) hx hb md_M_operate_153 (by decide) ?_
                      exact W.iret (v := 0) hx hb hr (fun t ht2 _ => ⟨⟨0, u_147, rfl, (by first | (simp [mz_ope, (show rn_in 3 15 = true from by decide), (show rn_in 4 15 = true from by decide), (show rn_in 3 9 = true from by decide), (show rn_in 4 9 = true from by decide), (jb_n0.mp c_3), (c_4), (jb_n0.mp c_88), (jb_n0.mp c_91), (jb_n0.mp c_94), (jb_n0.mp c_97), (c_98), (c_115), c_133, (c_134)]; done) | (have f9 := (jb_n0.mp c_3); simp [hz, z_isN, z_isI, z_isS, z_man, z_pow, z_pla, z_siz, z_shl, z_ush] at f9; done) | (have f9 := (c_4); simp [hz, z_isN, z_isI, z_isS, z_man, z_pow, z_pla, z_siz, z_shl, z_ush] at f9; done) | (have f9 := (jb_n0.mp c_88); simp [hz, z_isN, z_isI, z_isS, z_man, z_pow, z_pla, z_siz, z_shl, z_ush] at f9; done) | (have f9 := (jb_n0.mp c_91); simp [hz, z_isN, z_isI, z_isS, z_man, z_pow, z_pla, z_siz, z_shl, z_ush] at f9; done) | (have f9 := (jb_n0.mp c_94); simp [hz, z_isN, z_isI, z_isS, z_man, z_pow, z_pla, z_siz, z_shl, z_ush] at f9; done) | (have f9 := (jb_n0.mp c_97); simp [hz, z_isN, z_isI, z_isS, z_man, z_pow, z_pla, z_siz, z_shl, z_ush] at f9; done) | (have f9 := (c_98); simp [hz, z_isN, z_isI, z_isS, z_man, z_pow, z_pla, z_siz, z_shl, z_ush] at f9; done) | (have f9 := (c_115); simp [hz, z_isN, z_isI, z_isS, z_man, z_pow, z_pla, z_siz, z_shl, z_ush] at f9; done) | (have f9 := c_133; simp [hz, z_isN, z_isI, z_isS, z_man, z_pow, z_pla, z_siz, z_shl, z_ush] at f9; done) | (have f9 := (c_134); simp [hz, z_isN, z_isI, z_isS, z_man, z_pow, z_pla, z_siz, z_shl, z_ush] at f9; done)), by show MWd D cL h0 q0 A _ t.heap; rw [ht2]; exact hM⟩, hS.F ht2⟩) hS.2.2 md_M_operate_154
                  · refine lv_lload hx hb md_M_operate_100 (lv_at hl 0 rfl) ?_
                    refine lv_lconst (v := 0) hx hb md_M_operate_102 (by decide) ?_
                    refine W.lcmp hx hb md_M_operate_103 ?_
                    refine lv_if_ne (tgt := 110) hx hb md_M_operate_104 (by decide) (fun c_150 => ?_) (fun c_150 => ?_)
                    · refine lv_aload_n hx hb md_M_operate_110 rfl (lv_at hl 2 rfl) ?_
                      refine va_get (D := D) (ci := 1) (v := .ref q0) (C := "NumberProbeModel") (T := TM) (N := 12) hx hb ht inM hown hK hM.1 0 rfl rfl 0 (by decide) (ht _ tm_318) (fun _ h9 => h9) rfl md_M_operate_111 ?_
                      refine lv_iload_n hx hb md_M_operate_114 rfl (lv_at hl 3 rfl) ?_
                      refine lv_bipush (v := 6) hx hb md_M_operate_115 (by decide) ?_
                      refine lv_imul hx hb md_M_operate_117 ?_
                      refine lv_iload hx hb md_M_operate_118 (lv_at hl 7 rfl) ?_
                      refine lv_iadd hx hb md_M_operate_120 ?_
                      refine lv_iload_n hx hb md_M_operate_121 rfl (lv_at hl 3 rfl) ?_
                      refine lv_iconst (v := 2) hx hb md_M_operate_122 (by decide) ?_
                      refine lv_icmp_ge (tgt := 139) hx hb md_M_operate_123 (by decide) (fun c_151 => ?_) (fun c_151 => ?_)
                      · refine lv_iload_n hx hb md_M_operate_139 rfl (lv_at hl 3 rfl) ?_
                        refine lv_iload_n hx hb md_M_operate_140 rfl (lv_at hl 3 rfl) ?_
                        refine lv_iload_n hx hb md_M_operate_141 rfl (lv_at hl 4 rfl) ?_
                        refine lv_lload hx hb md_M_operate_142 (lv_at hl 1 rfl) ?_
                        refine lv_lload hx hb md_M_operate_144 (lv_at hl 0 rfl) ?_
                        refine vp_callSl (W.runS (As := [.int p0, .int p1, .long (u.2 ((p0 * 6) + p2).toNatClampNeg), .long (u.2 ((p0 * 6) + p3).toNatClampNeg)]) (rest := [.int p0, .int ((p0 * 6) + p4), .ref q0]) ⟨hx, hb, hml, hown, hts⟩ (mt_M_operateWhole l p0 p1 (u.2 ((p0 * 6) + p2).toNatClampNeg) (u.2 ((p0 * 6) + p3).toNatClampNeg) (fun _ => (mt (lg_cmp_eq _ _).mpr c_150))) (va_cwS 4 hts (gd_S tm_494 tm_495 tm_25 tm_496) rfl rfl rfl (by decide +kernel) ⟨Nat.le_of_ble_eq_true rfl, Nat.le_of_ble_eq_true rfl⟩) ⟨fb_0, fun U hU hW => ⟨rfl, trivial⟩⟩ rfl rfl hl.1 rfl (lv_room (Nat.le_of_ble_eq_true rfl)) md_M_operate_146 ⟨Nat.zero_le _, Nat.zero_le _⟩) (fun r_152 e_153 => ?_)
                        refine vp_callSl (W.runS (As := [.int p0, .long r_152]) (rest := [.int ((p0 * 6) + p4), .ref q0]) ⟨hx, hb, hml, hown, hts⟩ (mz_M_normal l p0 r_152) (va_cwS 2 hts (gd_S tm_362 tm_363 tm_25 tm_364) rfl rfl rfl (by decide +kernel) ⟨Nat.le_of_ble_eq_true rfl, Nat.le_of_ble_eq_true rfl⟩) ⟨fb_0, fun U hU hW => ⟨rfl, trivial⟩⟩ rfl rfl hl.1 rfl (lv_room (Nat.le_of_ble_eq_true rfl)) md_M_operate_149 ⟨Nat.zero_le _, Nat.zero_le _⟩) (fun r_154 e_155 => ?_)
                        refine m_ast hx hb hK hM hS (rn_idx (jb_n0.mp c_3) (jb_n0.mp c_97)) md_M_operate_152 (fun u_156 H_157 L_158 hM hS => ?_)
                        refine lv_iconst (v := 0) hx hb md_M_operate_153 (by decide) ?_
                        exact W.iret (v := 0) hx hb hr (fun t ht2 _ => ⟨⟨0, u_156, rfl, (by first | (simp [mz_ope, (show rn_in 3 15 = true from by decide), (show rn_in 4 15 = true from by decide), (show rn_in 3 9 = true from by decide), (show rn_in 4 9 = true from by decide), (jb_n0.mp c_3), (c_4), (jb_n0.mp c_88), (jb_n0.mp c_91), (jb_n0.mp c_94), (jb_n0.mp c_97), (c_98), (c_115), (c_133), (mt (lg_cmp_eq _ _).mpr c_150), c_151]; done) | (have f9 := (jb_n0.mp c_3); simp [hz, z_isN, z_isI, z_isS, z_man, z_pow, z_pla, z_siz, z_shl, z_ush] at f9; done) | (have f9 := (c_4); simp [hz, z_isN, z_isI, z_isS, z_man, z_pow, z_pla, z_siz, z_shl, z_ush] at f9; done) | (have f9 := (jb_n0.mp c_88); simp [hz, z_isN, z_isI, z_isS, z_man, z_pow, z_pla, z_siz, z_shl, z_ush] at f9; done) | (have f9 := (jb_n0.mp c_91); simp [hz, z_isN, z_isI, z_isS, z_man, z_pow, z_pla, z_siz, z_shl, z_ush] at f9; done) | (have f9 := (jb_n0.mp c_94); simp [hz, z_isN, z_isI, z_isS, z_man, z_pow, z_pla, z_siz, z_shl, z_ush] at f9; done) | (have f9 := (jb_n0.mp c_97); simp [hz, z_isN, z_isI, z_isS, z_man, z_pow, z_pla, z_siz, z_shl, z_ush] at f9; done) | (have f9 := (c_98); simp [hz, z_isN, z_isI, z_isS, z_man, z_pow, z_pla, z_siz, z_shl, z_ush] at f9; done) | (have f9 := (c_115); simp [hz, z_isN, z_isI, z_isS, z_man, z_pow, z_pla, z_siz, z_shl, z_ush] at f9; done) | (have f9 := (c_133); simp [hz, z_isN, z_isI, z_isS, z_man, z_pow, z_pla, z_siz, z_shl, z_ush] at f9; done) | (have f9 := (mt (lg_cmp_eq _ _).mpr c_150); simp [hz, z_isN, z_isI, z_isS, z_man, z_pow, z_pla, z_siz, z_shl, z_ush] at f9; done) | (have f9 := c_151; simp [hz, z_isN, z_isI, z_isS, z_man, z_pow, z_pla, z_siz, z_shl, z_ush] at f9; done)), by show MWd D cL h0 q0 A _ t.heap; rw [ht2]; exact hM⟩, hS.F ht2⟩) hS.2.2 md_M_operate_154
                      · refine lv_aload_n hx hb md_M_operate_126 rfl (lv_at hl 2 rfl) ?_
                        refine lv_iload_n hx hb md_M_operate_127 rfl (lv_at hl 3 rfl) ?_
                        refine lv_iload_n hx hb md_M_operate_128 rfl (lv_at hl 4 rfl) ?_
                        refine lv_lload hx hb md_M_operate_129 (lv_at hl 1 rfl) ?_
                        refine lv_lload hx hb md_M_operate_131 (lv_at hl 0 rfl) ?_
                        refine m_calll (va_runV (C := "NumberProbeModel") (As := [.int p0, .int p1, .long (u.2 ((p0 * 6) + p2).toNatClampNeg), .long (u.2 ((p0 * 6) + p3).toNatClampNeg)]) (rest := [.int ((p0 * 6) + p4), .ref q0]) ⟨hx, hb, hml, hown, hts⟩ (mt_M_operateReal l D cL h0 q0 _ u p0 p1 (u.2 ((p0 * 6) + p2).toNatClampNeg) (u.2 ((p0 * 6) + p3).toNatClampNeg)) (cwV 4 hts (gd_V tm_443 tm_445 tm_11 tm_25 tm_446) rfl rfl rfl (by decide +kernel) ⟨Nat.le_of_ble_eq_true rfl, Nat.le_of_ble_eq_true rfl⟩) (m_in (locs := []) hK hM) rfl rfl hl.1 rfl (lv_room (Nat.le_of_ble_eq_true rfl)) md_M_operate_133 ⟨Nat.zero_le _, Nat.zero_le _⟩) hM hS hA (fun r_159 u_161 H_162 L_163 e_160 hM hS => ?_)
                        refine lv_goto (tgt := 152) hx hb md_M_operate_136 (by decide) ?_
                        refine m_ast hx hb hK hM hS (rn_idx (jb_n0.mp c_3) (jb_n0.mp c_97)) md_M_operate_152 (fun u_164 H_165 L_166 hM hS => ?_)
                        refine lv_iconst (v := 0) hx hb md_M_operate_153 (by decide) ?_
                        exact W.iret (v := 0) hx hb hr (fun t ht2 _ => ⟨⟨0, u_164, rfl, (by first | (simp [mz_ope, (show rn_in 3 15 = true from by decide), (show rn_in 4 15 = true from by decide), (show rn_in 3 9 = true from by decide), (show rn_in 4 9 = true from by decide), (jb_n0.mp c_3), (c_4), (jb_n0.mp c_88), (jb_n0.mp c_91), (jb_n0.mp c_94), (jb_n0.mp c_97), (c_98), (c_115), (c_133), (mt (lg_cmp_eq _ _).mpr c_150), (c_151)]; done) | (have f9 := (jb_n0.mp c_3); simp [hz, z_isN, z_isI, z_isS, z_man, z_pow, z_pla, z_siz, z_shl, z_ush] at f9; done) | (have f9 := (c_4); simp [hz, z_isN, z_isI, z_isS, z_man, z_pow, z_pla, z_siz, z_shl, z_ush] at f9; done) | (have f9 := (jb_n0.mp c_88); simp [hz, z_isN, z_isI, z_isS, z_man, z_pow, z_pla, z_siz, z_shl, z_ush] at f9; done) | (have f9 := (jb_n0.mp c_91); simp [hz, z_isN, z_isI, z_isS, z_man, z_pow, z_pla, z_siz, z_shl, z_ush] at f9; done) | (have f9 := (jb_n0.mp c_94); simp [hz, z_isN, z_isI, z_isS, z_man, z_pow, z_pla, z_siz, z_shl, z_ush] at f9; done) | (have f9 := (jb_n0.mp c_97); simp [hz, z_isN, z_isI, z_isS, z_man, z_pow, z_pla, z_siz, z_shl, z_ush] at f9; done) | (have f9 := (c_98); simp [hz, z_isN, z_isI, z_isS, z_man, z_pow, z_pla, z_siz, z_shl, z_ush] at f9; done) | (have f9 := (c_115); simp [hz, z_isN, z_isI, z_isS, z_man, z_pow, z_pla, z_siz, z_shl, z_ush] at f9; done) | (have f9 := (c_133); simp [hz, z_isN, z_isI, z_isS, z_man, z_pow, z_pla, z_siz, z_shl, z_ush] at f9; done) | (have f9 := (mt (lg_cmp_eq _ _).mpr c_150); simp [hz, z_isN, z_isI, z_isS, z_man, z_pow, z_pla, z_siz, z_shl, z_ush] at f9; done) | (have f9 := (c_151); simp [hz, z_isN, z_isI, z_isS, z_man, z_pow, z_pla, z_siz, z_shl, z_ush] at f9; done)), by show MWd D cL h0 q0 A _ t.heap; rw [ht2]; exact hM⟩, hS.F ht2⟩) hS.2.2 md_M_operate_154
                    · refine lv_bipush (v := (-2)) hx hb md_M_operate_107 (by decide) ?_
                      exact W.iret (v := (-2)) hx hb hr (fun t ht2 _ => ⟨⟨(-2), u, rfl, (by first | (simp [mz_ope, (show rn_in 3 15 = true from by decide), (show rn_in 4 15 = true from by decide), (show rn_in 3 9 = true from by decide), (show rn_in 4 9 = true from by decide), (jb_n0.mp c_3), (c_4), (jb_n0.mp c_88), (jb_n0.mp c_91), (jb_n0.mp c_94), (jb_n0.mp c_97), (c_98), (c_115), (c_133), ((lg_cmp_eq _ _).mp c_150)]; done) | (have f9 := (jb_n0.mp c_3); simp [hz, z_isN, z_isI, z_isS, z_man, z_pow, z_pla, z_siz, z_shl, z_ush] at f9; done) | (have f9 := (c_4); simp [hz, z_isN, z_isI, z_isS, z_man, z_pow, z_pla, z_siz, z_shl, z_ush] at f9; done) | (have f9 := (jb_n0.mp c_88); simp [hz, z_isN, z_isI, z_isS, z_man, z_pow, z_pla, z_siz, z_shl, z_ush] at f9; done) | (have f9 := (jb_n0.mp c_91); simp [hz, z_isN, z_isI, z_isS, z_man, z_pow, z_pla, z_siz, z_shl, z_ush] at f9; done) | (have f9 := (jb_n0.mp c_94); simp [hz, z_isN, z_isI, z_isS, z_man, z_pow, z_pla, z_siz, z_shl, z_ush] at f9; done) | (have f9 := (jb_n0.mp c_97); simp [hz, z_isN, z_isI, z_isS, z_man, z_pow, z_pla, z_siz, z_shl, z_ush] at f9; done) | (have f9 := (c_98); simp [hz, z_isN, z_isI, z_isS, z_man, z_pow, z_pla, z_siz, z_shl, z_ush] at f9; done) | (have f9 := (c_115); simp [hz, z_isN, z_isI, z_isS, z_man, z_pow, z_pla, z_siz, z_shl, z_ush] at f9; done) | (have f9 := (c_133); simp [hz, z_isN, z_isI, z_isS, z_man, z_pow, z_pla, z_siz, z_shl, z_ush] at f9; done) | (have f9 := ((lg_cmp_eq _ _).mp c_150); simp [hz, z_isN, z_isI, z_isS, z_man, z_pow, z_pla, z_siz, z_shl, z_ush] at f9; done)), by show MWd D cL h0 q0 A _ t.heap; rw [ht2]; exact hM⟩, hS.F ht2⟩) hS.2.2 md_M_operate_109
            · refine lv_iconst (v := (-1)) hx hb md_M_operate_56 (by decide) ?_
              exact W.iret (v := (-1)) hx hb hr (fun t ht2 _ => ⟨⟨(-1), u, rfl, (by first | (simp [mz_ope, (show rn_in 3 15 = true from by decide), (show rn_in 4 15 = true from by decide), (show rn_in 3 9 = true from by decide), (show rn_in 4 9 = true from by decide), (jb_n0.mp c_3), (c_4), (jb_n0.mp c_88), (jb_n0.mp c_91), (jb_n0.mp c_94), (jb_0.mp c_97)]; done) | (have f9 := (jb_n0.mp c_3); simp [hz, z_isN, z_isI, z_isS, z_man, z_pow, z_pla, z_siz, z_shl, z_ush] at f9; done) | (have f9 := (c_4); simp [hz, z_isN, z_isI, z_isS, z_man, z_pow, z_pla, z_siz, z_shl, z_ush] at f9; done) | (have f9 := (jb_n0.mp c_88); simp [hz, z_isN, z_isI, z_isS, z_man, z_pow, z_pla, z_siz, z_shl, z_ush] at f9; done) | (have f9 := (jb_n0.mp c_91); simp [hz, z_isN, z_isI, z_isS, z_man, z_pow, z_pla, z_siz, z_shl, z_ush] at f9; done) | (have f9 := (jb_n0.mp c_94); simp [hz, z_isN, z_isI, z_isS, z_man, z_pow, z_pla, z_siz, z_shl, z_ush] at f9; done) | (have f9 := (jb_0.mp c_97); simp [hz, z_isN, z_isI, z_isS, z_man, z_pow, z_pla, z_siz, z_shl, z_ush] at f9; done)), by show MWd D cL h0 q0 A _ t.heap; rw [ht2]; exact hM⟩, hS.F ht2⟩) hS.2.2 md_M_operate_57
