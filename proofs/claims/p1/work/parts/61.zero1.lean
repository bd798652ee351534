set_option maxHeartbeats 4000000 in
set_option maxRecDepth 100000 in
theorem mz_JL_compare (l : Launch) (p0 : Int64) (p1 : Int64) : Met l my_JL_compare mw_JL_compare ({ frames := 0, cells := 0, slots := 0, locals := 0 } : Room) (va_Pc [.long p0, .long p1] (fun _ => True)) (vp_Si (fun r => r = jd_cmp p0 p1)) 0 0 (fun _ => False) := by
  refine Met.ofW (cc := mc_JL_compare) (maxL := 4) (ret := (some .int)) (by decide) rfl ?_
  intro p e s m args below meth c s₁ B hml hv
  obtain ⟨rfl, -⟩ := hv
  have hx := B.exec
  have hb := B.bytes
  have hr := B.returns
  have hts := atoms_spec (ws := mw_JL_compare) B.pre
  have ht : ∀ w ∈ gw_tbl, w.before _ s = true := fun w h => hts w (List.mem_cons_of_mem _ h)
  have hown : s.vm.findClass "java/lang/Long" = some m.cls := findClass_of_methodNamed B.named
  have hlocks := B.notSynchronized
  have hl := lv_entry ([.long p0, .long p1]) (n := 4) (Nat.le_of_ble_eq_true rfl)
  rw [lg_entry_eq]
  generalize (lg_sl ([.long p0, .long p1]) ++ List.replicate (4 - (lg_sl ([.long p0, .long p1])).length) Slot.unset).toArray = ls at hl ⊢
  have hl : lv_has ls 4 [(0, .long p0), (2, .long p1)] := hl
  refine lv_lload_n hx hb md_JL_compare_0 rfl (lv_at hl 0 rfl) ?_
  refine lv_lload_n hx hb md_JL_compare_1 rfl (lv_at hl 1 rfl) ?_
  refine W.lcmp hx hb md_JL_compare_2 ?_
  refine lv_if_ge (tgt := 10) hx hb md_JL_compare_3 (by decide) (fun c_1 => ?_) (fun c_1 => ?_)
  · refine lv_lload_n hx hb md_JL_compare_10 rfl (lv_at hl 0 rfl) ?_
    refine lv_lload_n hx hb md_JL_compare_11 rfl (lv_at hl 1 rfl) ?_
    refine W.lcmp hx hb md_JL_compare_12 ?_
    refine lv_if_ne (tgt := 20) hx hb md_JL_compare_13 (by decide) (fun c_2 => ?_) (fun c_2 => ?_)
    · refine lv_iconst (v := 1) hx hb md_JL_compare_20 (by decide) ?_
      have hq : 1 = jd_cmp p0 p1 := by simp [jd_cmp, ((lg_cmp_ge _ _).mp c_1), (mt (lg_cmp_eq _ _).mpr c_2)]
      exact W.iret (v := 1) hx hb hr (fun t ht2 _ => ⟨1, rfl, hq, ht2⟩) (fun q h => by cases h) md_JL_compare_21
    · refine lv_iconst (v := 0) hx hb md_JL_compare_16 (by decide) ?_
      refine lv_goto (tgt := 21) hx hb md_JL_compare_17 (by decide) ?_
      have hq : 0 = jd_cmp p0 p1 := by simp [jd_cmp, ((lg_cmp_ge _ _).mp c_1), ((lg_cmp_eq _ _).mp c_2)]
      exact W.iret (v := 0) hx hb hr (fun t ht2 _ => ⟨0, rfl, hq, ht2⟩) (fun q h => by cases h) md_JL_compare_21
  · refine lv_iconst (v := (-1)) hx hb md_JL_compare_6 (by decide) ?_
    refine lv_goto (tgt := 21) hx hb md_JL_compare_7 (by decide) ?_
    have hq : (-1) = jd_cmp p0 p1 := by simp [jd_cmp, (mt (lg_cmp_ge _ _).mpr c_1)]
    exact W.iret (v := (-1)) hx hb hr (fun t ht2 _ => ⟨(-1), rfl, hq, ht2⟩) (fun q h => by cases h) md_JL_compare_21
set_option maxHeartbeats 4000000 in
set_option maxRecDepth 100000 in
theorem mz_F_traits (l : Launch) (ad : Nat → Nat) (k : Nat) (hk : k < 2) (p0 : Int64) : Met l my_F_traits mw_F_traits ({ frames := 3, cells := 0, slots := 0, locals := 68 } : Room) (va_Pc [.ref (ad k), .long p0] (fun U => FW ad (fun _ => False) U U.heap)) (vp_Si (fun r => p0 = 0 → r = 76)) 0 0 (fun _ => False) := by
  refine Met.ofW (cc := mc_F_traits) (maxL := 4) (ret := (some .int)) (by decide) rfl ?_
  intro p e s m args below meth c s₁ B hml hv
  obtain ⟨rfl, hE⟩ := hv
  have hx := B.exec
  have hb := B.bytes
  have hr := B.returns
  have hts := atoms_spec (ws := mw_F_traits) B.pre
  have ht : ∀ w ∈ gw_tbl, w.before _ s = true := fun w h => hts w (List.mem_cons_of_mem _ h)
  have hown : s.vm.findClass "NumberProbe$Format" = some m.cls := findClass_of_methodNamed B.named
  have hlocks := B.notSynchronized
  have hS : va_S (fun _ => False) s.heap s.heap [] := va_S.rf
  have hl := lv_entry ([.ref (ad k), .long p0]) (n := 4) (Nat.le_of_ble_eq_true rfl)
  rw [lg_entry_eq]
  generalize (lg_sl ([.ref (ad k), .long p0]) ++ List.replicate (4 - (lg_sl ([.ref (ad k), .long p0])).length) Slot.unset).toArray = ls at hl ⊢
  have hl : lv_has ls 4 [(0, .ref (ad k)), (1, .long p0)] := hl
  refine lv_aload_n hx hb md_F_traits_0 rfl (lv_at hl 0 rfl) ?_
  refine lv_lload_n hx hb md_F_traits_1 rfl (lv_at hl 1 rfl) ?_
  refine vp_callSi (W.runV (C := "NumberProbe$Format") (As := [.long p0]) (rest := []) ⟨hx, hb, hml, hown, hts⟩ (mt_F_isNaN l ad k hk p0) (cwV 1 hts (gd_V tm_67 tm_68 tm_69 tm_27 tm_70) rfl rfl rfl (by decide +kernel) ⟨Nat.le_of_ble_eq_true rfl, Nat.le_of_ble_eq_true rfl⟩) ⟨fb_E, fw_recv hE hk hS, fun U hU hW => ⟨rfl, fw_use hE hS hU hW⟩⟩ rfl rfl hl.1 rfl (lv_room (Nat.le_of_ble_eq_true rfl)) md_F_traits_2 ⟨Nat.zero_le _, Nat.zero_le _⟩) (fun r_1 e_2 => ?_)
  obtain rfl : r_1 = jb (cf_nan k p0) := e_2
  refine lv_if_eq (tgt := 10) hx hb md_F_traits_5 (by decide) (fun c_3 => ?_) (fun c_3 => ?_)
  · refine lv_lload_n hx hb md_F_traits_10 rfl (lv_at hl 1 rfl) ?_
    refine lv_lconst (v := 0) hx hb md_F_traits_11 (by decide) ?_
    refine W.lcmp hx hb md_F_traits_12 ?_
    refine lv_if_ge (tgt := 21) hx hb md_F_traits_13 (by decide) (fun c_4 => ?_) (fun c_4 => ?_)
    · refine lv_iconst (v := 0) hx hb md_F_traits_21 (by decide) ?_
      refine lv_istore_n (lv' := [(3, .int 0), (0, .ref (ad k)), (1, .long p0)]) hx hb md_F_traits_22 rfl hl (by decide) rfl (fun ls hl => ?_)
      refine lv_aload_n hx hb md_F_traits_23 rfl (lv_at hl 1 rfl) ?_
      refine lv_lload_n hx hb md_F_traits_24 rfl (lv_at hl 2 rfl) ?_
      refine vp_callSi (W.runV (C := "NumberProbe$Format") (As := [.long p0]) (rest := []) ⟨hx, hb, hml, hown, hts⟩ (mt_F_isInfinite l ad k hk p0) (cwV 1 hts (gd_V tm_123 tm_125 tm_1 tm_27 tm_126) rfl rfl rfl (by decide +kernel) ⟨Nat.le_of_ble_eq_true rfl, Nat.le_of_ble_eq_true rfl⟩) ⟨fb_E, fw_recv hE hk hS, fun U hU hW => ⟨rfl, fw_use hE hS hU hW⟩⟩ rfl rfl hl.1 rfl (lv_room (Nat.le_of_ble_eq_true rfl)) md_F_traits_25 ⟨Nat.zero_le _, Nat.zero_le _⟩) (fun r_5 e_6 => ?_)
      obtain rfl : r_5 = jb (cf_inf k p0) := e_6
      refine lv_if_eq (tgt := 35) hx hb md_F_traits_28 (by decide) (fun c_7 => ?_) (fun c_7 => ?_)
      · refine lv_aload_n hx hb md_F_traits_35 rfl (lv_at hl 1 rfl) ?_
        refine lv_lload_n hx hb md_F_traits_36 rfl (lv_at hl 2 rfl) ?_
        refine vp_callSi (W.runV (C := "NumberProbe$Format") (As := [.long p0]) (rest := []) ⟨hx, hb, hml, hown, hts⟩ (mt_F_isZero l ad k hk p0) (cwV 1 hts (gd_V tm_174 tm_176 tm_7 tm_27 tm_177) rfl rfl rfl (by decide +kernel) ⟨Nat.le_of_ble_eq_true rfl, Nat.le_of_ble_eq_true rfl⟩) ⟨fb_E, fw_recv hE hk hS, fun U hU hW => ⟨rfl, fw_use hE hS hU hW⟩⟩ rfl rfl hl.1 rfl (lv_room (Nat.le_of_ble_eq_true rfl)) md_F_traits_37 ⟨Nat.zero_le _, Nat.zero_le _⟩) (fun r_8 e_9 => ?_)
        obtain rfl : r_8 = jb (cf_zer k p0) := e_9
        refine lv_if_eq (tgt := 53) hx hb md_F_traits_40 (by decide) (fun c_10 => ?_) (fun c_10 => ?_)
        · refine lv_iload_n hx hb md_F_traits_53 rfl (lv_at hl 0 rfl) ?_
          refine lv_iconst (v := 4) hx hb md_F_traits_54 (by decide) ?_
          refine lv_ior hx hb md_F_traits_55 ?_
          refine lv_aload_n hx hb md_F_traits_56 rfl (lv_at hl 1 rfl) ?_
          refine lv_lload_n hx hb md_F_traits_57 rfl (lv_at hl 2 rfl) ?_
          refine vp_callSi (W.runV (C := "NumberProbe$Format") (As := [.long p0]) (rest := [.int (0 ||| 4)]) ⟨hx, hb, hml, hown, hts⟩ (mt_F_exponentField l ad k hk p0) (cwV 1 hts (gd_V tm_135 tm_137 tm_4 tm_27 tm_138) rfl rfl rfl (by decide +kernel) ⟨Nat.le_of_ble_eq_true rfl, Nat.le_of_ble_eq_true rfl⟩) ⟨fb_E, fw_recv hE hk hS, fun U hU hW => ⟨rfl, fw_use hE hS hU hW⟩⟩ rfl rfl hl.1 rfl (lv_room (Nat.le_of_ble_eq_true rfl)) md_F_traits_58 ⟨Nat.zero_le _, Nat.zero_le _⟩) (fun r_11 e_12 => ?_)
          obtain rfl : r_11 = cf_fld k p0 := e_12
          refine lv_if_ne (tgt := 69) hx hb md_F_traits_61 (by decide) (fun c_13 => ?_) (fun c_13 => ?_)
          · refine lv_iconst (v := 0) hx hb md_F_traits_69 (by decide) ?_
            refine lv_ior hx hb md_F_traits_70 ?_
            refine lv_aload_n hx hb md_F_traits_71 rfl (lv_at hl 1 rfl) ?_
            refine lv_lload_n hx hb md_F_traits_72 rfl (lv_at hl 2 rfl) ?_
            refine vp_callSi (W.runV (C := "NumberProbe$Format") (As := [.long p0]) (rest := [.int ((0 ||| 4) ||| 0)]) ⟨hx, hb, hml, hown, hts⟩ (mt_F_isWhole l ad k hk p0) (cwV 1 hts (gd_V tm_288 tm_290 tm_10 tm_27 tm_291) rfl rfl rfl (by decide +kernel) ⟨Nat.le_of_ble_eq_true rfl, Nat.le_of_ble_eq_true rfl⟩) ⟨fb_E, fw_recv hE hk hS, fun U hU hW => ⟨rfl, fw_use hE hS hU hW⟩⟩ rfl rfl hl.1 rfl (lv_room (Nat.le_of_ble_eq_true rfl)) md_F_traits_73 ⟨Nat.zero_le _, Nat.zero_le _⟩) (fun r_14 e_15 => ?_)
            obtain ⟨b_16, rfl⟩ : ∃ b : Bool, r_14 = jb b := e_15
            refine lv_if_eq (tgt := 84) hx hb md_F_traits_76 (by decide) (fun c_17 => ?_) (fun c_17 => ?_)
            · refine lv_iconst (v := 0) hx hb md_F_traits_84 (by decide) ?_
              refine lv_ior hx hb md_F_traits_85 ?_
              refine lv_lload_n hx hb md_F_traits_86 rfl (lv_at hl 2 rfl) ?_
              refine lv_lconst (v := 0) hx hb md_F_traits_87 (by decide) ?_
              refine W.lcmp hx hb md_F_traits_88 ?_
              refine lv_if_le (tgt := 110) hx hb md_F_traits_89 (by decide) (fun c_18 => ?_) (fun c_18 => ?_)
              · refine lv_iconst (v := 0) hx hb md_F_traits_110 (by decide) ?_
                refine lv_ior hx hb md_F_traits_111 ?_
                exact W.iret (v := (((0 ||| 4) ||| 0) ||| 0) ||| 0) hx hb hr (fun t ht2 _ => ⟨((((0 ||| 4) ||| 0) ||| 0) ||| 0), rfl, (by intro hz; subst hz; rcases pf_2 hk with rfl | rfl <;> first | rfl | decide | (exfalso; revert c_3 c_4 c_7 c_10 c_13 c_18; decide)), ht2⟩) (fun q h => by cases h) md_F_traits_112
              · refine lv_aload_n hx hb md_F_traits_92 rfl (lv_at hl 1 rfl) ?_
                refine lv_lload_n hx hb md_F_traits_93 rfl (lv_at hl 2 rfl) ?_
                refine vp_callSl (W.runV (C := "NumberProbe$Format") (As := [.long p0]) (rest := [.int (((0 ||| 4) ||| 0) ||| 0)]) ⟨hx, hb, hml, hown, hts⟩ (mt_F_significandOf l ad k hk p0) (cwV 1 hts (gd_V tm_142 tm_144 tm_5 tm_27 tm_145) rfl rfl rfl (by decide +kernel) ⟨Nat.le_of_ble_eq_true rfl, Nat.le_of_ble_eq_true rfl⟩) ⟨fb_E, fw_recv hE hk hS, fun U hU hW => ⟨rfl, fw_use hE hS hU hW⟩⟩ rfl rfl hl.1 rfl (lv_room (Nat.le_of_ble_eq_true rfl)) md_F_traits_94 ⟨Nat.zero_le _, Nat.zero_le _⟩) (fun r_19 e_20 => ?_)
                obtain rfl : r_19 = cf_sig k p0 := e_20
                refine vp_callSi (W.runS (As := [.long (cf_sig k p0)]) (rest := [.int (((0 ||| 4) ||| 0) ||| 0)]) ⟨hx, hb, hml, hown, hts⟩ (mt_JL_bitCount l (cf_sig k p0)) (va_cwS 1 hts (gd_S tm_298 tm_299 tm_29 tm_300) rfl rfl rfl (by decide +kernel) ⟨Nat.le_of_ble_eq_true rfl, Nat.le_of_ble_eq_true rfl⟩) ⟨fb_0, fun U hU hW => ⟨rfl, trivial⟩⟩ rfl rfl hl.1 rfl (lv_room (Nat.le_of_ble_eq_true rfl)) md_F_traits_97 ⟨Nat.zero_le _, Nat.zero_le _⟩) (fun r_21 e_22 => ?_)
                refine lv_iconst (v := 1) hx hb md_F_traits_100 (by decide) ?_
                refine lv_icmp_ne (tgt := 110) hx hb md_F_traits_101 (by decide) (fun c_23 => ?_) (fun c_23 => ?_)
                · refine lv_iconst (v := 0) hx hb md_F_traits_110 (by decide) ?_
                  refine lv_ior hx hb md_F_traits_111 ?_
                  exact W.iret (v := (((0 ||| 4) ||| 0) ||| 0) ||| 0) hx hb hr (fun t ht2 _ => ⟨((((0 ||| 4) ||| 0) ||| 0) ||| 0), rfl, (by intro hz; subst hz; rcases pf_2 hk with rfl | rfl <;> first | rfl | decide | (exfalso; revert c_3 c_4 c_7 c_10 c_13 c_18; decide)), ht2⟩) (fun q h => by cases h) md_F_traits_112
                · refine lv_sipush (v := 128) hx hb md_F_traits_104 (by decide) ?_
                  refine lv_goto (tgt := 111) hx hb md_F_traits_107 (by decide) ?_
                  refine lv_ior hx hb md_F_traits_111 ?_
                  exact W.iret (v := (((0 ||| 4) ||| 0) ||| 0) ||| 128) hx hb hr (fun t ht2 _ => ⟨((((0 ||| 4) ||| 0) ||| 0) ||| 128), rfl, (by intro hz; subst hz; rcases pf_2 hk with rfl | rfl <;> first | rfl | decide | (exfalso; revert c_3 c_4 c_7 c_10 c_13 c_18; decide)), ht2⟩) (fun q h => by cases h) md_F_traits_112
            · refine lv_bipush (v := 64) hx hb md_F_traits_79 (by decide) ?_
              refine lv_goto (tgt := 85) hx hb md_F_traits_81 (by decide) ?_
              refine lv_ior hx hb md_F_traits_85 ?_
              refine lv_lload_n hx hb md_F_traits_86 rfl (lv_at hl 2 rfl) ?_
              refine lv_lconst (v := 0) hx hb md_F_traits_87 (by decide) ?_
              refine W.lcmp hx hb md_F_traits_88 ?_
              refine lv_if_le (tgt := 110) hx hb md_F_traits_89 (by decide) (fun c_24 => ?_) (fun c_24 => ?_)
              · refine lv_iconst (v := 0) hx hb md_F_traits_110 (by decide) ?_
                refine lv_ior hx hb md_F_traits_111 ?_
                exact W.iret (v := (((0 ||| 4) ||| 0) ||| 64) ||| 0) hx hb hr (fun t ht2 _ => ⟨((((0 ||| 4) ||| 0) ||| 64) ||| 0), rfl, (by intro hz; subst hz; rcases pf_2 hk with rfl | rfl <;> first | rfl | decide | (exfalso; revert c_3 c_4 c_7 c_10 c_13 c_24; decide)), ht2⟩) (fun q h => by cases h) md_F_traits_112
              · refine lv_aload_n hx hb md_F_traits_92 rfl (lv_at hl 1 rfl) ?_
                refine lv_lload_n hx hb md_F_traits_93 rfl (lv_at hl 2 rfl) ?_
                refine vp_callSl (W.runV (C := "NumberProbe$Format") (As := [.long p0]) (rest := [.int (((0 ||| 4) ||| 0) ||| 64)]) ⟨hx, hb, hml, hown, hts⟩ (mt_F_significandOf l ad k hk p0) (cwV 1 hts (gd_V tm_142 tm_144 tm_5 tm_27 tm_145) rfl rfl rfl (by decide +kernel) ⟨Nat.le_of_ble_eq_true rfl, Nat.le_of_ble_eq_true rfl⟩) ⟨fb_E, fw_recv hE hk hS, fun U hU hW => ⟨rfl, fw_use hE hS hU hW⟩⟩ rfl rfl hl.1 rfl (lv_room (Nat.le_of_ble_eq_true rfl)) md_F_traits_94 ⟨Nat.zero_le _, Nat.zero_le _⟩) (fun r_25 e_26 => ?_)
                obtain rfl : r_25 = cf_sig k p0 := e_26
                refine vp_callSi (W.runS (As := [.long (cf_sig k p0)]) (rest := [.int (((0 ||| 4) ||| 0) ||| 64)]) ⟨hx, hb, hml, hown, hts⟩ (mt_JL_bitCount l (cf_sig k p0)) (va_cwS 1 hts (gd_S tm_298 tm_299 tm_29 tm_300) rfl rfl rfl (by decide +kernel) ⟨Nat.le_of_ble_eq_true rfl, Nat.le_of_ble_eq_true rfl⟩) ⟨fb_0, fun U hU hW => ⟨rfl, trivial⟩⟩ rfl rfl hl.1 rfl (lv_room (Nat.le_of_ble_eq_true rfl)) md_F_traits_97 ⟨Nat.zero_le _, Nat.zero_le _⟩) (fun r_27 e_28 => ?_)
                refine lv_iconst (v := 1) hx hb md_F_traits_100 (by decide) ?_
                refine lv_icmp_ne (tgt := 110) hx hb md_F_traits_101 (by decide) (fun c_29 => ?_) (fun c_29 => ?_)
                · refine lv_iconst (v := 0) hx hb md_F_traits_110 (by decide) ?_
                  refine lv_ior hx hb md_F_traits_111 ?_
                  exact W.iret (v := (((0 ||| 4) ||| 0) ||| 64) ||| 0) hx hb hr (fun t ht2 _ => ⟨((((0 ||| 4) ||| 0) ||| 64) ||| 0), rfl, (by intro hz; subst hz; rcases pf_2 hk with rfl | rfl <;> first | rfl | decide | (exfalso; revert c_3 c_4 c_7 c_10 c_13 c_24; decide)), ht2⟩) (fun q h => by cases h) md_F_traits_112
                · refine lv_sipush (v := 128) hx hb md_F_traits_104 (by decide) ?_
                  refine lv_goto (tgt := 111) hx hb md_F_traits_107 (by decide) ?_
                  refine lv_ior hx hb md_F_traits_111 ?_
                  exact W.iret (v := (((0 ||| 4) ||| 0) ||| 64) ||| 128) hx hb hr (fun t ht2 _ => ⟨((((0 ||| 4) ||| 0) ||| 64) ||| 128), rfl, (by intro hz; subst hz; rcases pf_2 hk with rfl | rfl <;> first | rfl | decide | (exfalso; revert c_3 c_4 c_7 c_10 c_13 c_24; decide)), ht2⟩) (fun q h => by cases h) md_F_traits_112
          · refine lv_bipush (v := 16) hx hb md_F_traits_64 (by decide) ?_
            refine lv_goto (tgt := 70) hx hb md_F_traits_66 (by decide) ?_
            refine lv_ior hx hb md_F_traits_70 ?_
            refine lv_aload_n hx hb md_F_traits_71 rfl (lv_at hl 1 rfl) ?_
            refine lv_lload_n hx hb md_F_traits_72 rfl (lv_at hl 2 rfl) ?_
            refine vp_callSi (W.runV (C := "NumberProbe$Format") (As := [.long p0]) (rest := [.int ((0 ||| 4) ||| 16)]) ⟨hx, hb, hml, hown, hts⟩ (mt_F_isWhole l ad k hk p0) (cwV 1 hts (gd_V tm_288 tm_290 tm_10 tm_27 tm_291) rfl rfl rfl (by decide +kernel) ⟨Nat.le_of_ble_eq_true rfl, Nat.le_of_ble_eq_true rfl⟩) ⟨fb_E, fw_recv hE hk hS, fun U hU hW => ⟨rfl, fw_use hE hS hU hW⟩⟩ rfl rfl hl.1 rfl (lv_room (Nat.le_of_ble_eq_true rfl)) md_F_traits_73 ⟨Nat.zero_le _, Nat.zero_le _⟩) (fun r_30 e_31 => ?_)
            obtain ⟨b_32, rfl⟩ : ∃ b : Bool, r_30 = jb b := e_31
            refine lv_if_eq (tgt := 84) hx hb md_F_traits_76 (by decide) (fun c_33 => ?_) (fun c_33 => ?_)
            · refine lv_iconst (v := 0) hx hb md_F_traits_84 (by decide) ?_
              refine lv_ior hx hb md_F_traits_85 ?_
              refine lv_lload_n hx hb md_F_traits_86 rfl (lv_at hl 2 rfl) ?_
              refine lv_lconst (v := 0) hx hb md_F_traits_87 (by decide) ?_
              refine W.lcmp hx hb md_F_traits_88 ?_
              refine lv_if_le (tgt := 110) hx hb md_F_traits_89 (by decide) (fun c_34 => ?_) (fun c_34 => ?_)
              · refine lv_iconst (v := 0) hx hb md_F_traits_110 (by decide) ?_
                refine lv_ior hx hb md_F_traits_111 ?_
                exact W.iret (v := (((0 ||| 4) ||| 16) ||| 0) ||| 0) hx hb hr (fun t ht2 _ => ⟨((((0 ||| 4) ||| 16) ||| 0) ||| 0), rfl, (by intro hz; subst hz; rcases pf_2 hk with rfl | rfl <;> first | rfl | decide | (exfalso; revert c_3 c_4 c_7 c_10 c_13 c_34; decide)), ht2⟩) (fun q h => by cases h) md_F_traits_112
              · refine lv_aload_n hx hb md_F_traits_92 rfl (lv_at hl 1 rfl) ?_
                refine lv_lload_n hx hb md_F_traits_93 rfl (lv_at hl 2 rfl) ?_
                refine vp_callSl (W.runV (C := "NumberProbe$Format") (As := [.long p0]) (rest := [.int (((0 ||| 4) ||| 16) ||| 0)]) ⟨hx, hb, hml, hown, hts⟩ (mt_F_significandOf l ad k hk p0) (cwV 1 hts (gd_V tm_142 tm_144 tm_5 tm_27 tm_145) rfl rfl rfl (by decide +kernel) ⟨Nat.le_of_ble_eq_true rfl, Nat.le_of_ble_eq_true rfl⟩) ⟨fb_E, fw_recv hE hk hS, fun U hU hW => ⟨rfl, fw_use hE hS hU hW⟩⟩ rfl rfl hl.1 rfl (lv_room (Nat.le_of_ble_eq_true rfl)) md_F_traits_94 ⟨Nat.zero_le _, Nat.zero_le _⟩) (fun r_35 e_36 => ?_)
                obtain rfl : r_35 = cf_sig k p0 := e_36
                refine vp_callSi (W.runS (As := [.long (cf_sig k p0)]) (rest := [.int (((0 ||| 4) ||| 16) ||| 0)]) ⟨hx, hb, hml, hown, hts⟩ (mt_JL_bitCount l (cf_sig k p0)) (va_cwS 1 hts (gd_S tm_298 tm_299 tm_29 tm_300) rfl rfl rfl (by decide +kernel) ⟨Nat.le_of_ble_eq_true rfl, Nat.le_of_ble_eq_true rfl⟩) ⟨fb_0, fun U hU hW => ⟨rfl, trivial⟩⟩ rfl rfl hl.1 rfl (lv_room (Nat.le_of_ble_eq_true rfl)) md_F_traits_97 ⟨Nat.zero_le _, Nat.zero_le _⟩) (fun r_37 e_38 => ?_)
                refine lv_iconst (v := 1) hx hb md_F_traits_100 (by decide) ?_
                refine lv_icmp_ne (tgt := 110) hx hb md_F_traits_101 (by decide) (fun c_39 => ?_) (fun c_39 => ?_)
                · refine lv_iconst (v := 0) hx hb md_F_traits_110 (by decide) ?_
                  refine lv_ior hx hb md_F_traits_111 ?_
                  exact W.iret (v := (((0 ||| 4) ||| 16) ||| 0) ||| 0) hx hb hr (fun t ht2 _ => ⟨((((0 ||| 4) ||| 16) ||| 0) ||| 0), rfl, (by intro hz; subst hz; rcases pf_2 hk with rfl | rfl <;> first | rfl | decide | (exfalso; revert c_3 c_4 c_7 c_10 c_13 c_34; decide)), ht2⟩) (fun q h => by cases h) md_F_traits_112
                · refine lv_sipush (v := 128) hx hb md_F_traits_104 (by decide) ?_
                  refine lv_goto (tgt := 111) hx hb md_F_traits_107 (by decide) ?_
                  refine lv_ior hx hb md_F_traits_111 ?_
                  exact W.iret (v := (((0 ||| 4) ||| 16) ||| 0) ||| 128) hx hb hr (fun t ht2 _ => ⟨((((0 ||| 4) ||| 16) ||| 0) ||| 128), rfl, (by intro hz; subst hz; rcases pf_2 hk with rfl | rfl <;> first | rfl | decide | (exfalso; revert c_3 c_4 c_7 c_10 c_13 c_34; decide)), ht2⟩) (fun q h => by cases h) md_F_traits_112
            · refine lv_bipush (v := 64) hx hb md_F_traits_79 (by decide) ?_
              refine lv_goto (tgt := 85) hx hb md_F_traits_81 (by decide) ?_
              refine lv_ior hx hb md_F_traits_85 ?_
              refine lv_lload_n hx hb md_F_traits_86 rfl (lv_at hl 2 rfl) ?_
              refine lv_lconst (v := 0) hx hb md_F_traits_87 (by decide) ?_
              refine W.lcmp hx hb md_F_traits_88 ?_
              refine lv_if_le (tgt := 110) hx hb md_F_traits_89 (by decide) (fun c_40 => ?_) (fun c_40 => ?_)
              · refine lv_iconst (v := 0) hx hb md_F_traits_110 (by decide) ?_
                refine lv_ior hx hb md_F_traits_111 ?_
                exact W.iret (v := (((0 ||| 4) ||| 16) ||| 64) ||| 0) hx hb hr (fun t ht2 _ => ⟨((((0 ||| 4) ||| 16) ||| 64) ||| 0), rfl, (by intro hz; subst hz; rcases pf_2 hk with rfl | rfl <;> first | rfl | decide | (exfalso; revert c_3 c_4 c_7 c_10 c_13 c_40; decide)), ht2⟩) (fun q h => by cases h) md_F_traits_112
              · refine lv_aload_n hx hb md_F_traits_92 rfl (lv_at hl 1 rfl) ?_
                refine lv_lload_n hx hb md_F_traits_93 rfl (lv_at hl 2 rfl) ?_
                refine vp_callSl (W.runV (C := "NumberProbe$Format") (As := [.long p0]) (rest := [.int (((0 ||| 4) ||| 16) ||| 64)]) ⟨hx, hb, hml, hown, hts⟩ (mt_F_significandOf l ad k hk p0) (cwV 1 hts (gd_V tm_142 tm_144 tm_5 tm_27 tm_145) rfl rfl rfl (by decide +kernel) ⟨Nat.le_of_ble_eq_true rfl, Nat.le_of_ble_eq_true rfl⟩) ⟨fb_E, fw_recv hE hk hS, fun U hU hW => ⟨rfl, fw_use hE hS hU hW⟩⟩ rfl rfl hl.1 rfl (lv_room (Nat.le_of_ble_eq_true rfl)) md_F_traits_94 ⟨Nat.zero_le _, Nat.zero_le _⟩) (fun r_41 e_42 => ?_)
                obtain rfl : r_41 = cf_sig k p0 := e_42
                refine vp_callSi (W.runS (As := [.long (cf_sig k p0)]) (rest := [.int (((0 ||| 4) ||| 16) ||| 64)]) ⟨hx, hb, hml, hown, hts⟩ (mt_JL_bitCount l (cf_sig k p0)) (va_cwS 1 hts (gd_S tm_298 tm_299 tm_29 tm_300) rfl rfl rfl (by decide +kernel) ⟨Nat.le_of_ble_eq_true rfl, Nat.le_of_ble_eq_true rfl⟩) ⟨fb_0, fun U hU hW => ⟨rfl, trivial⟩⟩ rfl rfl hl.1 rfl (lv_room (Nat.le_of_ble_eq_true rfl)) md_F_traits_97 ⟨Nat.zero_le _, Nat.zero_le _⟩) (fun r_43 e_44 => ?_)
                refine lv_iconst (v := 1) hx hb md_F_traits_100 (by decide) ?_
                refine lv_icmp_ne (tgt := 110) hx hb md_F_traits_101 (by decide) (fun c_45 => ?_) (fun c_45 => ?_)
                · refine lv_iconst (v := 0) hx hb md_F_traits_110 (by decide) ?_
                  refine lv_ior hx hb md_F_traits_111 ?_
                  exact W.iret (v := (((0 ||| 4) ||| 16) ||| 64) ||| 0) hx hb hr (fun t ht2 _ => ⟨((((0 ||| 4) ||| 16) ||| 64) ||| 0), rfl, (by intro hz; subst hz; rcases pf_2 hk with rfl | rfl <;> first | rfl | decide | (exfalso; revert c_3 c_4 c_7 c_10 c_13 c_40; decide)), ht2⟩) (fun q h => by cases h) md_F_traits_112
                · refine lv_sipush (v := 128) hx hb md_F_traits_104 (by decide) ?_
                  refine lv_goto (tgt := 111) hx hb md_F_traits_107 (by decide) ?_
                  refine lv_ior hx hb md_F_traits_111 ?_
                  exact W.iret (v := (((0 ||| 4) ||| 16) ||| 64) ||| 128) hx hb hr (fun t ht2 _ => ⟨((((0 ||| 4) ||| 16) ||| 64) ||| 128), rfl, (by intro hz; subst hz; rcases pf_2 hk with rfl | rfl <;> first | rfl | decide | (exfalso; revert c_3 c_4 c_7 c_10 c_13 c_40; decide)), ht2⟩) (fun q h => by cases h) md_F_traits_112
        · refine lv_iload_n hx hb md_F_traits_43 rfl (lv_at hl 0 rfl) ?_
          refine lv_iconst (v := 4) hx hb md_F_traits_44 (by decide) ?_
          refine lv_ior hx hb md_F_traits_45 ?_
          refine lv_bipush (v := 8) hx hb md_F_traits_46 (by decide) ?_
          refine lv_ior hx hb md_F_traits_48 ?_
          refine lv_bipush (v := 64) hx hb md_F_traits_49 (by decide) ?_
          refine lv_ior hx hb md_F_traits_51 ?_
          exact W.iret (v := ((0 ||| 4) ||| 8) ||| 64) hx hb hr (fun t ht2 _ => ⟨(((0 ||| 4) ||| 8) ||| 64), rfl, (by intro hz; subst hz; rcases pf_2 hk with rfl | rfl <;> first | rfl | decide | (exfalso; revert c_3 c_4 c_7 c_10; decide)), ht2⟩) (fun q h => by cases h) md_F_traits_52
      · refine lv_iload_n hx hb md_F_traits_31 rfl (lv_at hl 0 rfl) ?_
        refine lv_iconst (v := 2) hx hb md_F_traits_32 (by decide) ?_
        refine lv_ior hx hb md_F_traits_33 ?_
        exact W.iret (v := 0 ||| 2) hx hb hr (fun t ht2 _ => ⟨(0 ||| 2), rfl, (by intro hz; subst hz; rcases pf_2 hk with rfl | rfl <;> first | rfl | decide | (exfalso; revert c_3 c_4 c_7; decide)), ht2⟩) (fun q h => by cases h) md_F_traits_34
    · refine lv_bipush (v := 32) hx hb md_F_traits_16 (by decide) ?_
      refine lv_goto (tgt := 22) hx hb md_F_traits_18 (by decide) ?_
      refine lv_istore_n (lv' := [(3, .int 32), (0, .ref (ad k)), (1, .long p0)]) hx hb md_F_traits_22 rfl hl (by decide) rfl (fun ls hl => ?_)
      refine lv_aload_n hx hb md_F_traits_23 rfl (lv_at hl 1 rfl) ?_
      refine lv_lload_n hx hb md_F_traits_24 rfl (lv_at hl 2 rfl) ?_
      refine vp_callSi (W.runV (C := "NumberProbe$Format") (As := [.long p0]) (rest := []) ⟨hx, hb, hml, hown, hts⟩ (mt_F_isInfinite l ad k hk p0) (cwV 1 hts (gd_V tm_123 tm_125 tm_1 tm_27 tm_126) rfl rfl rfl (by decide +kernel) ⟨Nat.le_of_ble_eq_true rfl, Nat.le_of_ble_eq_true rfl⟩) ⟨fb_E, fw_recv hE hk hS, fun U hU hW => ⟨rfl, fw_use hE hS hU hW⟩⟩ rfl rfl hl.1 rfl (lv_room (Nat.le_of_ble_eq_true rfl)) md_F_traits_25 ⟨Nat.zero_le _, Nat.zero_le _⟩) (fun r_46 e_47 => ?_)
      obtain rfl : r_46 = jb (cf_inf k p0) := e_47
      refine lv_if_eq (tgt := 35) hx hb md_F_traits_28 (by decide) (fun c_48 => ?_) (fun c_48 => ?_)
      · refine lv_aload_n hx hb md_F_traits_35 rfl (lv_at hl 1 rfl) ?_
        refine lv_lload_n hx hb md_F_traits_36 rfl (lv_at hl 2 rfl) ?_
        refine vp_callSi (W.runV (C := "NumberProbe$Format") (As := [.long p0]) (rest := []) ⟨hx, hb, hml, hown, hts⟩ (mt_F_isZero l ad k hk p0) (cwV 1 hts (gd_V tm_174 tm_176 tm_7 tm_27 tm_177) rfl rfl rfl (by decide +kernel) ⟨Nat.le_of_ble_eq_true rfl, Nat.le_of_ble_eq_true rfl⟩) ⟨fb_E, fw_recv hE hk hS, fun U hU hW => ⟨rfl, fw_use hE hS hU hW⟩⟩ rfl rfl hl.1 rfl (lv_room (Nat.le_of_ble_eq_true rfl)) md_F_traits_37 ⟨Nat.zero_le _, Nat.zero_le _⟩) (fun r_49 e_50 => ?_)
        obtain rfl : r_49 = jb (cf_zer k p0) := e_50
        refine lv_if_eq (tgt := 53) hx hb md_F_traits_40 (by decide) (fun c_51 => ?_) (fun c_51 => ?_)
        · refine lv_iload_n hx hb md_F_traits_53 rfl (lv_at hl 0 rfl) ?_
          refine lv_iconst (v := 4) hx hb md_F_traits_54 (by decide) ?_
          refine lv_ior hx hb md_F_traits_55 ?_
          refine lv_aload_n hx hb md_F_traits_56 rfl (lv_at hl 1 rfl) ?_
          refine lv_lload_n hx hb md_F_traits_57 rfl (lv_at hl 2 rfl) ?_
          refine vp_callSi (W.runV (C := "NumberProbe$Format") (As := [.long p0]) (rest := [.int (32 ||| 4)]) ⟨hx, hb, hml, hown, hts⟩ (mt_F_exponentField l ad k hk p0) (cwV 1 hts (gd_V tm_135 tm_137 tm_4 tm_27 tm_138) rfl rfl rfl (by decide +kernel) ⟨Nat.le_of_ble_eq_true rfl, Nat.le_of_ble_eq_true rfl⟩) ⟨fb_E, fw_recv hE hk hS, fun U hU hW => ⟨rfl, fw_use hE hS hU hW⟩⟩ rfl rfl hl.1 rfl (lv_room (Nat.le_of_ble_eq_true rfl)) md_F_traits_58 ⟨Nat.zero_le _, Nat.zero_le _⟩) (fun r_52 e_53 => ?_)
          obtain rfl : r_52 = cf_fld k p0 := e_53
          refine lv_if_ne (tgt := 69) hx hb md_F_traits_61 (by decide) (fun c_54 => ?_) (fun c_54 => ?_)
          · refine lv_iconst (v := 0) hx hb md_F_traits_69 (by decide) ?_
            refine lv_ior hx hb md_F_traits_70 ?_
            refine lv_aload_n hx hb md_F_traits_71 rfl (lv_at hl 1 rfl) ?_
            refine lv_lload_n hx hb md_F_traits_72 rfl (lv_at hl 2 rfl) ?_
            refine vp_callSi (W.runV (C := "NumberProbe$Format") (As := [.long p0]) (rest := [.int ((32 ||| 4) ||| 0)]) ⟨hx, hb, hml, hown, hts⟩ (mt_F_isWhole l ad k hk p0) (cwV 1 hts (gd_V tm_288 tm_290 tm_10 tm_27 tm_291) rfl rfl rfl (by decide +kernel) ⟨Nat.le_of_ble_eq_true rfl, Nat.le_of_ble_eq_true rfl⟩) ⟨fb_E, fw_recv hE hk hS, fun U hU hW => ⟨rfl, fw_use hE hS hU hW⟩⟩ rfl rfl hl.1 rfl (lv_room (Nat.le_of_ble_eq_true rfl)) md_F_traits_73 ⟨Nat.zero_le _, Nat.zero_le _⟩) (fun r_55 e_56 => ?_)
            obtain ⟨b_57, rfl⟩ : ∃ b : Bool, r_55 = jb b := e_56
            refine lv_if_eq (tgt := 84) hx hb md_F_traits_76 (by decide) (fun c_58 => ?_) (fun c_58 => ?_)
            · refine lv_iconst (v := 0) hx hb md_F_traits_84 (by decide) ?_
              refine lv_ior hx hb md_F_traits_85 ?_
              refine lv_lload_n hx hb md_F_traits_86 rfl (lv_at hl 2 rfl) ?_
              refine lv_lconst (v := 0) hx hb md_F_traits_87 (by decide) ?_
              refine W.lcmp hx hb md_F_traits_88 ?_
              refine lv_if_le (tgt := 110) hx hb md_F_traits_89 (by decide) (fun c_59 => ?_) (fun c_59 => ?_)
              · refine lv_iconst (v := 0) hx hb md_F_traits_110 (by decide) ?_
                refine lv_ior hx hb md_F_traits_111 ?_
                exact W.iret (v := (((32 ||| 4) ||| 0) ||| 0) ||| 0) hx hb hr (fun t ht2 _ => ⟨((((32 ||| 4) ||| 0) ||| 0) ||| 0), rfl, (by intro hz; subst hz; rcases pf_2 hk with rfl | rfl <;> first | rfl | decide | (exfalso; revert c_3 c_4 c_48 c_51 c_54 c_59; decide)), ht2⟩) (fun q h => by cases h) md_F_traits_112
              · refine lv_aload_n hx hb md_F_traits_92 rfl (lv_at hl 1 rfl) ?_
                refine lv_lload_n hx hb md_F_traits_93 rfl (lv_at hl 2 rfl) ?_
                refine vp_callSl (W.runV (C := "NumberProbe$Format") (As := [.long p0]) (rest := [.int (((32 ||| 4) ||| 0) ||| 0)]) ⟨hx, hb, hml, hown, hts⟩ (mt_F_significandOf l ad k hk p0) (cwV 1 hts (gd_V tm_142 tm_144 tm_5 tm_27 tm_145) rfl rfl rfl (by decide +kernel) ⟨Nat.le_of_ble_eq_true rfl, Nat.le_of_ble_eq_true rfl⟩) ⟨fb_E, fw_recv hE hk hS, fun U hU hW => ⟨rfl, fw_use hE hS hU hW⟩⟩ rfl rfl hl.1 rfl (lv_room (Nat.le_of_ble_eq_true rfl)) md_F_traits_94 ⟨Nat.zero_le _, Nat.zero_le _⟩) (fun r_60 e_61 => ?_)
                obtain rfl : r_60 = cf_sig k p0 := e_61
                refine vp_callSi (W.runS (As := [.long (cf_sig k p0)]) (rest := [.int (((32 ||| 4) ||| 0) ||| 0)]) ⟨hx, hb, hml, hown, hts⟩ (mt_JL_bitCount l (cf_sig k p0)) (va_cwS 1 hts (gd_S tm_298 tm_299 tm_29 tm_300) rfl rfl rfl (by decide +kernel) ⟨Nat.le_of_ble_eq_true rfl, Nat.le_of_ble_eq_true rfl⟩) ⟨fb_0, fun U hU hW => ⟨rfl, trivial⟩⟩ rfl rfl hl.1 rfl (lv_room (Nat.le_of_ble_eq_true rfl)) md_F_traits_97 ⟨Nat.zero_le _, Nat.zero_le _⟩) (fun r_62 e_63 => ?_)
                refine lv_iconst (v := 1) hx hb md_F_traits_100 (by decide) ?_
                refine lv_icmp_ne (tgt := 110) hx hb md_F_traits_101 (by decide) (fun c_64 => ?_) (fun c_64 => ?_)
                · refine lv_iconst (v := 0) hx hb md_F_traits_110 (by decide) ?_
                  refine lv_ior hx hb md_F_traits_111 ?_
                  exact W.iret (v := (((32 ||| 4) ||| 0) ||| 0) ||| 0) hx hb hr (fun t ht2 _ => ⟨((((32 ||| 4) ||| 0) ||| 0) ||| 0), rfl, (by intro hz; subst hz; rcases pf_2 hk with rfl | rfl <;> first | rfl | decide | (exfalso; revert c_3 c_4 c_48 c_51 c_54 c_59; decide)), ht2⟩) (fun q h => by cases h) md_F_traits_112
                · refine lv_sipush (v := 128) hx hb md_F_traits_104 (by decide) ?_
                  refine lv_goto (tgt := 111) hx hb md_F_traits_107 (by decide) ?_
                  refine lv_ior hx hb md_F_traits_111 ?_
                  exact W.iret (v := (((32 ||| 4) ||| 0) ||| 0) ||| 128) hx hb hr (fun t ht2 _ => ⟨((((32 ||| 4) ||| 0) ||| 0) ||| 128), rfl, (by intro hz; subst hz; rcases pf_2 hk with rfl | rfl <;> first | rfl | decide | (exfalso; revert c_3 c_4 c_48 c_51 c_54 c_59; decide)), ht2⟩) (fun q h => by cases h) md_F_traits_112
            · refine lv_bipush (v := 64) hx hb md_F_traits_79 (by decide) ?_
              refine lv_goto (tgt := 85) hx hb md_F_traits_81 (by decide) ?_
              refine lv_ior hx hb md_F_traits_85 ?_
              refine lv_lload_n hx hb md_F_traits_86 rfl (lv_at hl 2 rfl) ?_
              refine lv_lconst (v := 0) hx hb md_F_traits_87 (by decide) ?_
              refine W.lcmp hx hb md_F_traits_88 ?_
              refine lv_if_le (tgt := 110) hx hb md_F_traits_89 (by decide) (fun c_65 => ?_) (fun c_65 => ?_)
              · refine lv_iconst (v := 0) hx hb md_F_traits_110 (by decide) ?_
                refine lv_ior hx hb md_F_traits_111 ?_
                exact W.iret (v := (((32 ||| 4) ||| 0) ||| 64) ||| 0) hx hb hr (fun t ht2 _ => ⟨((((32 ||| 4) ||| 0) ||| 64) ||| 0), rfl, (by intro hz; subst hz; rcases pf_2 hk with rfl | rfl <;> first | rfl | decide | (exfalso; revert c_3 c_4 c_48 c_51 c_54 c_65; decide)), ht2⟩) (fun q h => by cases h) md_F_traits_112
              · refine lv_aload_n hx hb md_F_traits_92 rfl (lv_at hl 1 rfl) ?_
                refine lv_lload_n hx hb md_F_traits_93 rfl (lv_at hl 2 rfl) ?_
                refine vp_callSl (W.runV (C := "NumberProbe$Format") (As := [.long p0]) (rest := [.int (((32 ||| 4) ||| 0) ||| 64)]) ⟨hx, hb, hml, hown, hts⟩ (mt_F_significandOf l ad k hk p0) (cwV 1 hts (gd_V tm_142 tm_144 tm_5 tm_27 tm_145) rfl rfl rfl (by decide +kernel) ⟨Nat.le_of_ble_eq_true rfl, Nat.le_of_ble_eq_true rfl⟩) ⟨fb_E, fw_recv hE hk hS, fun U hU hW => ⟨rfl, fw_use hE hS hU hW⟩⟩ rfl rfl hl.1 rfl (lv_room (Nat.le_of_ble_eq_true rfl)) md_F_traits_94 ⟨Nat.zero_le _, Nat.zero_le _⟩) (fun r_66 e_67 => ?_)
                obtain rfl : r_66 = cf_sig k p0 := e_67
                refine vp_callSi (W.runS (As := [.long (cf_sig k p0)]) (rest := [.int (((32 ||| 4) ||| 0) ||| 64)]) ⟨hx, hb, hml, hown, hts⟩ (mt_JL_bitCount l (cf_sig k p0)) (va_cwS 1 hts (gd_S tm_298 tm_299 tm_29 tm_300) rfl rfl rfl (by decide +kernel) ⟨Nat.le_of_ble_eq_true rfl, Nat.le_of_ble_eq_true rfl⟩) ⟨fb_0, fun U hU hW => ⟨rfl, trivial⟩⟩ rfl rfl hl.1 rfl (lv_room (Nat.le_of_ble_eq_true rfl)) md_F_traits_97 ⟨Nat.zero_le _, Nat.zero_le _⟩) (fun r_68 e_69 => ?_)
                refine lv_iconst (v := 1) hx hb md_F_traits_100 (by decide) ?_
                refine lv_icmp_ne (tgt := 110) hx hb md_F_traits_101 (by decide) (fun c_70 => ?_) (fun c_70 => ?_)
                · refine lv_iconst (v := 0) hx hb md_F_traits_110 (by decide) ?_
                  refine lv_ior hx hb md_F_traits_111 ?_
                  exact W.iret (v := (((32 ||| 4) ||| 0) ||| 64) ||| 0) hx hb hr (fun t ht2 _ => ⟨((((32 ||| 4) ||| 0) ||| 64) ||| 0), rfl, (by intro hz; subst hz; rcases pf_2 hk with rfl | rfl <;> first | rfl | decide | (exfalso; revert c_3 c_4 c_48 c_51 c_54 c_65; decide)), ht2⟩) (fun q h => by cases h) md_F_traits_112
                · refine lv_sipush (v := 128) hx hb md_F_traits_104 (by decide) ?_
                  refine lv_goto (tgt := 111) hx hb md_F_traits_107 (by decide) ?_
                  refine lv_ior hx hb md_F_traits_111 ?_
                  exact W.iret (v := (((32 ||| 4) ||| 0) ||| 64) ||| 128) hx hb hr (fun t ht2 _ => ⟨((((32 ||| 4) ||| 0) ||| 64) ||| 128), rfl, (by intro hz; subst hz; rcases pf_2 hk with rfl | rfl <;> first | rfl | decide | (exfalso; revert c_3 c_4 c_48 c_51 c_54 c_65; decide)), ht2⟩) (fun q h => by cases h) md_F_traits_112
          · refine lv_bipush (v := 16) hx hb md_F_traits_64 (by decide) ?_
            refine lv_goto (tgt := 70) hx hb md_F_traits_66 (by decide) ?_
            refine lv_ior hx hb md_F_traits_70 ?_
            refine lv_aload_n hx hb md_F_traits_71 rfl (lv_at hl 1 rfl) ?_
            refine lv_lload_n hx hb md_F_traits_72 rfl (lv_at hl 2 rfl) ?_
            refine vp_callSi (W.runV (C := "NumberProbe$Format") (As := [.long p0]) (rest := [.int ((32 ||| 4) ||| 16)]) ⟨hx, hb, hml, hown, hts⟩ (mt_F_isWhole l ad k hk p0) (cwV 1 hts (gd_V tm_288 tm_290 tm_10 tm_27 tm_291) rfl rfl rfl (by decide +kernel) ⟨Nat.le_of_ble_eq_true rfl, Nat.le_of_ble_eq_true rfl⟩) ⟨fb_E, fw_recv hE hk hS, fun U hU hW => ⟨rfl, fw_use hE hS hU hW⟩⟩ rfl rfl hl.1 rfl (lv_room (Nat.le_of_ble_eq_true rfl)) md_F_traits_73 ⟨Nat.zero_le _, Nat.zero_le _⟩) (fun r_71 e_72 => ?_)
            obtain ⟨b_73, rfl⟩ : ∃ b : Bool, r_71 = jb b := e_72
            refine lv_if_eq (tgt := 84) hx hb md_F_traits_76 (by decide) (fun c_74 => ?_) (fun c_74 => ?_)
            · refine lv_iconst (v := 0) hx hb md_F_traits_84 (by decide) ?_
              refine lv_ior hx hb md_F_traits_85 ?_
              refine lv_lload_n hx hb md_F_traits_86 rfl (lv_at hl 2 rfl) ?_
              refine lv_lconst (v := 0) hx hb md_F_traits_87 (by decide) ?_
              refine W.lcmp hx hb md_F_traits_88 ?_
              refine lv_if_le (tgt := 110) hx hb md_F_traits_89 (by decide) (fun c_75 => ?_) (fun c_75 => ?_)
              · refine lv_iconst (v := 0) hx hb md_F_traits_110 (by decide) ?_
                refine lv_ior hx hb md_F_traits_111 ?_
                exact W.iret (v := (((32 ||| 4) ||| 16) ||| 0) ||| 0) hx hb hr (fun t ht2 _ => ⟨((((32 ||| 4) ||| 16) ||| 0) ||| 0), rfl, (by intro hz; subst hz; rcases pf_2 hk with rfl | rfl <;> first | rfl | decide | (exfalso; revert c_3 c_4 c_48 c_51 c_54 c_75; decide)), ht2⟩) (fun q h => by cases h) md_F_traits_112
              · refine lv_aload_n hx hb md_F_traits_92 rfl (lv_at hl 1 rfl) ?_
                refine lv_lload_n hx hb md_F_traits_93 rfl (lv_at hl 2 rfl) ?_
                refine vp_callSl (W.runV (C := "NumberProbe$Format") (As := [.long p0]) (rest := [.int (((32 ||| 4) ||| 16) ||| 0)]) ⟨hx, hb, hml, hown, hts⟩ (mt_F_significandOf l ad k hk p0) (cwV 1 hts (gd_V tm_142 tm_144 tm_5 tm_27 tm_145) rfl rfl rfl (by decide +kernel) ⟨Nat.le_of_ble_eq_true rfl, Nat.le_of_ble_eq_true rfl⟩) ⟨fb_E, fw_recv hE hk hS, fun U hU hW => ⟨rfl, fw_use hE hS hU hW⟩⟩ rfl rfl hl.1 rfl (lv_room (Nat.le_of_ble_eq_true rfl)) md_F_traits_94 ⟨Nat.zero_le _, Nat.zero_le _⟩) (fun r_76 e_77 => ?_)
                obtain rfl : r_76 = cf_sig k p0 := e_77
                refine vp_callSi (W.runS (As := [.long (cf_sig k p0)]) (rest := [.int (((32 ||| 4) ||| 16) ||| 0)]) ⟨hx, hb, hml, hown, hts⟩ (mt_JL_bitCount l (cf_sig k p0)) (va_cwS 1 hts (gd_S tm_298 tm_299 tm_29 tm_300) rfl rfl rfl (by decide +kernel) ⟨Nat.le_of_ble_eq_true rfl, Nat.le_of_ble_eq_true rfl⟩) ⟨fb_0, fun U hU hW => ⟨rfl, trivial⟩⟩ rfl rfl hl.1 rfl (lv_room (Nat.le_of_ble_eq_true rfl)) md_F_traits_97 ⟨Nat.zero_le _, Nat.zero_le _⟩) (fun r_78 e_79 => ?_)
                refine lv_iconst (v := 1) hx hb md_F_traits_100 (by decide) ?_
                refine lv_icmp_ne (tgt := 110) hx hb md_F_traits_101 (by decide) (fun c_80 => ?_) (fun c_80 => ?_)
                · refine lv_iconst (v := 0) hx hb md_F_traits_110 (by decide) ?_
                  refine lv_ior hx hb md_F_traits_111 ?_
                  exact W.iret (v := (((32 ||| 4) ||| 16) ||| 0) ||| 0) hx hb hr (fun t ht2 _ => ⟨((((32 ||| 4) ||| 16) ||| 0) ||| 0), rfl, (by intro hz; subst hz; rcases pf_2 hk with rfl | rfl <;> first | rfl | decide | (exfalso; revert c_3 c_4 c_48 c_51 c_54 c_75; decide)), ht2⟩) (fun q h => by cases h) md_F_traits_112
                · refine lv_sipush (v := 128) hx hb md_F_traits_104 (by decide) ?_
                  refine lv_goto (tgt := 111) hx hb md_F_traits_107 (by decide) ?_
                  refine lv_ior hx hb md_F_traits_111 ?_
                  exact W.iret (v := (((32 ||| 4) ||| 16) ||| 0) ||| 128) hx hb hr (fun t ht2 _ => ⟨((((32 ||| 4) ||| 16) ||| 0) ||| 128), rfl, (by intro hz; subst hz; rcases pf_2 hk with rfl | rfl <;> first | rfl | decide | (exfalso; revert c_3 c_4 c_48 c_51 c_54 c_75; decide)), ht2⟩) (fun q h => by cases h) md_F_traits_112
            · refine lv_bipush (v := 64) hx hb md_F_traits_79 (by decide) ?_
              refine lv_goto (tgt := 85) hx hb md_F_traits_81 (by decide) ?_
              refine lv_ior hx hb md_F_traits_85 ?_
              refine lv_lload_n hx hb md_F_traits_86 rfl (lv_at hl 2 rfl) ?_
              refine lv_lconst (v := 0) hx hb md_F_traits_87 (by decide) ?_
              refine W.lcmp hx hb md_F_traits_88 ?_
              refine lv_if_le (tgt := 110) hx hb md_F_traits_89 (by decide) (fun c_81 => ?_) (fun c_81 => ?_)
              · refine lv_iconst (v := 0) hx hb md_F_traits_110 (by decide) ?_
                refine lv_ior hx hb md_F_traits_111 ?_
                exact W.iret (v := (((32 ||| 4) ||| 16) ||| 64) ||| 0) hx hb hr (fun t ht2 _ => ⟨((((32 ||| 4) ||| 16) ||| 64) ||| 0), rfl, (by intro hz; subst hz; rcases pf_2 hk with rfl | rfl <;> first | rfl | decide | (exfalso; revert c_3 c_4 c_48 c_51 c_54 c_81; decide)), ht2⟩) (fun q h => by cases h) md_F_traits_112
              · refine lv_aload_n hx hb md_F_traits_92 rfl (lv_at hl 1 rfl) ?_
                refine lv_lload_n hx hb md_F_traits_93 rfl (lv_at hl 2 rfl) ?_
                refine vp_callSl (W.runV (C := "NumberProbe$Format") (As := [.long p0]) (rest := [.int (((32 ||| 4) ||| 16) ||| 64)]) ⟨hx, hb, hml, hown, hts⟩ (mt_F_significandOf l ad k hk p0) (cwV 1 hts (gd_V tm_142 tm_144 tm_5 tm_27 tm_145) rfl rfl rfl (by decide +kernel) ⟨Nat.le_of_ble_eq_true rfl, Nat.le_of_ble_eq_true rfl⟩) ⟨fb_E, fw_recv hE hk hS, fun U hU hW => ⟨rfl, fw_use hE hS hU hW⟩⟩ rfl rfl hl.1 rfl (lv_room (Nat.le_of_ble_eq_true rfl)) md_F_traits_94 ⟨Nat.zero_le _, Nat.zero_le _⟩) (fun r_82 e_83 => ?_)
                obtain rfl : r_82 = cf_sig k p0 := e_83
                refine vp_callSi (W.runS (As := [.long (cf_sig k p0)]) (rest := [.int (((32 ||| 4) ||| 16) ||| 64)]) ⟨hx, hb, hml, hown, hts⟩ (mt_JL_bitCount l (cf_sig k p0)) (va_cwS 1 hts (gd_S tm_298 tm_299 tm_29 tm_300) rfl rfl rfl (by decide +kernel) ⟨Nat.le_of_ble_eq_true rfl, Nat.le_of_ble_eq_true rfl⟩) ⟨fb_0, fun U hU hW => ⟨rfl, trivial⟩⟩ rfl rfl hl.1 rfl (lv_room (Nat.le_of_ble_eq_true rfl)) md_F_traits_97 ⟨Nat.zero_le _, Nat.zero_le _⟩) (fun r_84 e_85 => ?_)
                refine lv_iconst (v := 1) hx hb md_F_traits_100 (by decide) ?_
                refine lv_icmp_ne (tgt := 110) hx hb md_F_traits_101 (by decide) (fun c_86 => ?_) (fun c_86 => ?_)
                · refine lv_iconst (v := 0) hx hb md_F_traits_110 (by decide) ?_
                  refine lv_ior hx hb md_F_traits_111 ?_
                  exact W.iret (v := (((32 ||| 4) ||| 16) ||| 64) ||| 0) hx hb hr (fun t ht2 _ => ⟨((((32 ||| 4) ||| 16) ||| 64) ||| 0), rfl, (by intro hz; subst hz; rcases pf_2 hk with rfl | rfl <;> first | rfl | decide | (exfalso; revert c_3 c_4 c_48 c_51 c_54 c_81; decide)), ht2⟩) (fun q h => by cases h) md_F_traits_112
                · refine lv_sipush (v := 128) hx hb md_F_traits_104 (by decide) ?_
                  refine lv_goto (tgt := 111) hx hb md_F_traits_107 (by decide) ?_
                  refine lv_ior hx hb md_F_traits_111 ?_
                  exact W.iret (v := (((32 ||| 4) ||| 16) ||| 64) ||| 128) hx hb hr (fun t ht2 _ => ⟨((((32 ||| 4) ||| 16) ||| 64) ||| 128), rfl, (by intro hz; subst hz; rcases pf_2 hk with rfl | rfl <;> first | rfl | decide | (exfalso; revert c_3 c_4 c_48 c_51 c_54 c_81; decide)), ht2⟩) (fun q h => by cases h) md_F_traits_112
        · refine lv_iload_n hx hb md_F_traits_43 rfl (lv_at hl 0 rfl) ?_
          refine lv_iconst (v := 4) hx hb md_F_traits_44 (by decide) ?_
          refine lv_ior hx hb md_F_traits_45 ?_
          refine lv_bipush (v := 8) hx hb md_F_traits_46 (by decide) ?_
          refine lv_ior hx hb md_F_traits_48 ?_
          refine lv_bipush (v := 64) hx hb md_F_traits_49 (by decide) ?_
          refine lv_ior hx hb md_F_traits_51 ?_
          exact W.iret (v := ((32 ||| 4) ||| 8) ||| 64) hx hb hr (fun t ht2 _ => ⟨(((32 ||| 4) ||| 8) ||| 64), rfl, (by intro hz; subst hz; rcases pf_2 hk with rfl | rfl <;> first | rfl | decide | (exfalso; revert c_3 c_4 c_48 c_51; decide)), ht2⟩) (fun q h => by cases h) md_F_traits_52
      · refine lv_iload_n hx hb md_F_traits_31 rfl (lv_at hl 0 rfl) ?_
        refine lv_iconst (v := 2) hx hb md_F_traits_32 (by decide) ?_
        refine lv_ior hx hb md_F_traits_33 ?_
        exact W.iret (v := 32 ||| 2) hx hb hr (fun t ht2 _ => ⟨(32 ||| 2), rfl, (by intro hz; subst hz; rcases pf_2 hk with rfl | rfl <;> first | rfl | decide | (exfalso; revert c_3 c_4 c_48; decide)), ht2⟩) (fun q h => by cases h) md_F_traits_34
  · refine lv_iconst (v := 1) hx hb md_F_traits_8 (by decide) ?_
    exact W.iret (v := 1) hx hb hr (fun t ht2 _ => ⟨1, rfl, (by intro hz; subst hz; rcases pf_2 hk with rfl | rfl <;> first | rfl | decide | (exfalso; revert c_3; decide)), ht2⟩) (fun q h => by cases h) md_F_traits_9
set_option maxHeartbeats 4000000 in
set_option maxRecDepth 100000 in
theorem mz_F_towardsZero (l : Launch) (ad : Nat → Nat) (k : Nat) (hk : k < 2) (p0 : Int64) : Met l my_F_towardsZero mw_F_towardsZero ({ frames := 2, cells := 0, slots := 0, locals := 46 } : Room) (va_Pc [.ref (ad k), .long p0] (fun U => FW ad (fun _ => False) U U.heap)) (vp_Sl (fun r => p0 = 0 → r = 0)) 0 0 (fun _ => False) := by
  refine Met.ofW (cc := mc_F_towardsZero) (maxL := 8) (ret := (some .long)) (by decide) rfl ?_
  intro p e s m args below meth c s₁ B hml hv
  obtain ⟨rfl, hE⟩ := hv
  have hx := B.exec
  have hb := B.bytes
  have hr := B.returns
  have hts := atoms_spec (ws := mw_F_towardsZero) B.pre
  have ht : ∀ w ∈ gw_tbl, w.before _ s = true := fun w h => hts w (List.mem_cons_of_mem _ h)
  have hown : s.vm.findClass "NumberProbe$Format" = some m.cls := findClass_of_methodNamed B.named
  have hlocks := B.notSynchronized
  have hS : va_S (fun _ => False) s.heap s.heap [] := va_S.rf
  have hl := lv_entry ([.ref (ad k), .long p0]) (n := 8) (Nat.le_of_ble_eq_true rfl)
  rw [lg_entry_eq]
  generalize (lg_sl ([.ref (ad k), .long p0]) ++ List.replicate (8 - (lg_sl ([.ref (ad k), .long p0])).length) Slot.unset).toArray = ls at hl ⊢
  have hl : lv_has ls 8 [(0, .ref (ad k)), (1, .long p0)] := hl
  refine lv_aload_n hx hb md_F_towardsZero_0 rfl (lv_at hl 0 rfl) ?_
  refine lv_lload_n hx hb md_F_towardsZero_1 rfl (lv_at hl 1 rfl) ?_
  refine vp_callSi (W.runV (C := "NumberProbe$Format") (As := [.long p0]) (rest := []) ⟨hx, hb, hml, hown, hts⟩ (mt_F_isNaN l ad k hk p0) (cwV 1 hts (gd_V tm_67 tm_68 tm_69 tm_27 tm_70) rfl rfl rfl (by decide +kernel) ⟨Nat.le_of_ble_eq_true rfl, Nat.le_of_ble_eq_true rfl⟩) ⟨fb_E, fw_recv hE hk hS, fun U hU hW => ⟨rfl, fw_use hE hS hU hW⟩⟩ rfl rfl hl.1 rfl (lv_room (Nat.le_of_ble_eq_true rfl)) md_F_towardsZero_2 ⟨Nat.zero_le _, Nat.zero_le _⟩) (fun r_1 e_2 => ?_)
  obtain rfl : r_1 = jb (cf_nan k p0) := e_2
  refine lv_if_eq (tgt := 10) hx hb md_F_towardsZero_5 (by decide) (fun c_3 => ?_) (fun c_3 => ?_)
  · refine lv_aload_n hx hb md_F_towardsZero_10 rfl (lv_at hl 0 rfl) ?_
    refine lv_lload_n hx hb md_F_towardsZero_11 rfl (lv_at hl 1 rfl) ?_
    refine vp_callSl (W.runV (C := "NumberProbe$Format") (As := [.long p0]) (rest := []) ⟨hx, hb, hml, hown, hts⟩ (mt_F_significandOf l ad k hk p0) (cwV 1 hts (gd_V tm_142 tm_144 tm_5 tm_27 tm_145) rfl rfl rfl (by decide +kernel) ⟨Nat.le_of_ble_eq_true rfl, Nat.le_of_ble_eq_true rfl⟩) ⟨fb_E, fw_recv hE hk hS, fun U hU hW => ⟨rfl, fw_use hE hS hU hW⟩⟩ rfl rfl hl.1 rfl (lv_room (Nat.le_of_ble_eq_true rfl)) md_F_towardsZero_12 ⟨Nat.zero_le _, Nat.zero_le _⟩) (fun r_4 e_5 => ?_)
    obtain rfl : r_4 = cf_sig k p0 := e_5
    refine lv_lstore_n (lv' := [(3, .long (cf_sig k p0)), (0, .ref (ad k)), (1, .long p0)]) hx hb md_F_towardsZero_15 rfl hl (by decide) rfl (fun ls hl => ?_)
    refine lv_aload_n hx hb md_F_towardsZero_16 rfl (lv_at hl 1 rfl) ?_
    refine lv_lload_n hx hb md_F_towardsZero_17 rfl (lv_at hl 2 rfl) ?_
    refine vp_callSi (W.runV (C := "NumberProbe$Format") (As := [.long p0]) (rest := []) ⟨hx, hb, hml, hown, hts⟩ (mt_F_exponentOf l ad k hk p0) (cwV 1 hts (gd_V tm_131 tm_133 tm_3 tm_27 tm_134) rfl rfl rfl (by decide +kernel) ⟨Nat.le_of_ble_eq_true rfl, Nat.le_of_ble_eq_true rfl⟩) ⟨fb_E, fw_recv hE hk hS, fun U hU hW => ⟨rfl, fw_use hE hS hU hW⟩⟩ rfl rfl hl.1 rfl (lv_room (Nat.le_of_ble_eq_true rfl)) md_F_towardsZero_18 ⟨Nat.zero_le _, Nat.zero_le _⟩) (fun r_6 e_7 => ?_)
    obtain rfl : r_6 = cf_exp k p0 := e_7
    refine lv_istore (lv' := [(5, .int (cf_exp k p0)), (3, .long (cf_sig k p0)), (0, .ref (ad k)), (1, .long p0)]) hx hb md_F_towardsZero_21 hl (by decide) rfl (fun ls hl => ?_)
    refine lv_iload hx hb md_F_towardsZero_23 (lv_at hl 0 rfl) ?_
    refine lv_lload_n hx hb md_F_towardsZero_25 rfl (lv_at hl 1 rfl) ?_
    refine vp_callSi (W.runS (As := [.long (cf_sig k p0)]) (rest := [.int (cf_exp k p0)]) ⟨hx, hb, hml, hown, hts⟩ (mt_JL_numberOfLeadingZeros l (cf_sig k p0)) (va_cwS 1 hts (gd_S tm_156 tm_157 tm_29 tm_158) rfl rfl rfl (by decide +kernel) ⟨Nat.le_of_ble_eq_true rfl, Nat.le_of_ble_eq_true rfl⟩) ⟨fb_0, fun U hU hW => ⟨rfl, trivial⟩⟩ rfl rfl hl.1 rfl (lv_room (Nat.le_of_ble_eq_true rfl)) md_F_towardsZero_26 ⟨Nat.zero_le _, Nat.zero_le _⟩) (fun r_8 e_9 => ?_)
    obtain rfl : r_8 = jd_nlz (cf_sig k p0) := e_9
    refine lv_icmp_lt (tgt := 48) hx hb md_F_towardsZero_29 (by decide) (fun c_10 => ?_) (fun c_10 => ?_)
    · refine lv_iload hx hb md_F_towardsZero_48 (lv_at hl 0 rfl) ?_
      refine lv_if_lt (tgt := 62) hx hb md_F_towardsZero_50 (by decide) (fun c_11 => ?_) (fun c_11 => ?_)
      · refine lv_iload hx hb md_F_towardsZero_62 (lv_at hl 0 rfl) ?_
        refine lv_bipush (v := (-64)) hx hb md_F_towardsZero_64 (by decide) ?_
        refine lv_icmp_le (tgt := 77) hx hb md_F_towardsZero_66 (by decide) (fun c_12 => ?_) (fun c_12 => ?_)
        · refine lv_lconst (v := 0) hx hb md_F_towardsZero_77 (by decide) ?_
          refine lv_lstore (lv' := [(6, .long 0), (5, .int (cf_exp k p0)), (3, .long (cf_sig k p0)), (0, .ref (ad k)), (1, .long p0)]) hx hb md_F_towardsZero_78 hl (by decide) rfl (fun ls hl => ?_)
          refine lv_lload_n hx hb md_F_towardsZero_80 rfl (lv_at hl 4 rfl) ?_
          refine lv_lconst (v := 0) hx hb md_F_towardsZero_81 (by decide) ?_
          refine W.lcmp hx hb md_F_towardsZero_82 ?_
          refine lv_if_ge (tgt := 92) hx hb md_F_towardsZero_83 (by decide) (fun c_13 => ?_) (fun c_13 => ?_)
          · refine lv_lload hx hb md_F_towardsZero_92 (lv_at hl 0 rfl) ?_
            exact W.lret (v := 0) hx hb hr (fun t ht2 _ => ⟨0, rfl, (by intro hz; subst hz; rcases pf_2 hk with rfl | rfl <;> first | rfl | decide | (exfalso; revert c_3 c_10 c_11 c_12 c_13; decide)), ht2⟩) (fun q h => by cases h) md_F_towardsZero_94
          · refine lv_lload hx hb md_F_towardsZero_86 (lv_at hl 0 rfl) ?_
            refine lv_lneg hx hb md_F_towardsZero_88 ?_
            refine lv_goto (tgt := 94) hx hb md_F_towardsZero_89 (by decide) ?_
            exact W.lret (v := -0) hx hb hr (fun t ht2 _ => ⟨(-0), rfl, (by intro hz; subst hz; rcases pf_2 hk with rfl | rfl <;> first | rfl | decide | (exfalso; revert c_3 c_10 c_11 c_12 c_13; decide)), ht2⟩) (fun q h => by cases h) md_F_towardsZero_94
        · refine lv_lload_n hx hb md_F_towardsZero_69 rfl (lv_at hl 1 rfl) ?_
          refine lv_iload hx hb md_F_towardsZero_70 (lv_at hl 0 rfl) ?_
          refine lv_ineg hx hb md_F_towardsZero_72 ?_
          refine lv_lushr (v := jl_ush (cf_sig k p0) (-(cf_exp k p0))) hx hb md_F_towardsZero_73 rfl ?_
          refine lv_goto (tgt := 78) hx hb md_F_towardsZero_74 (by decide) ?_
          refine lv_lstore (lv' := [(6, .long (jl_ush (cf_sig k p0) (-(cf_exp k p0)))), (5, .int (cf_exp k p0)), (3, .long (cf_sig k p0)), (0, .ref (ad k)), (1, .long p0)]) hx hb md_F_towardsZero_78 hl (by decide) rfl (fun ls hl => ?_)
          refine lv_lload_n hx hb md_F_towardsZero_80 rfl (lv_at hl 4 rfl) ?_
          refine lv_lconst (v := 0) hx hb md_F_towardsZero_81 (by decide) ?_
          refine W.lcmp hx hb md_F_towardsZero_82 ?_
          refine lv_if_ge (tgt := 92) hx hb md_F_towardsZero_83 (by decide) (fun c_14 => ?_) (fun c_14 => ?_)
          · refine lv_lload hx hb md_F_towardsZero_92 (lv_at hl 0 rfl) ?_
            exact W.lret (v := jl_ush (cf_sig k p0) (-(cf_exp k p0))) hx hb hr (fun t ht2 _ => ⟨(jl_ush (cf_sig k p0) (-(cf_exp k p0))), rfl, (by intro hz; subst hz; rcases pf_2 hk with rfl | rfl <;> first | rfl | decide | (exfalso; revert c_3 c_10 c_11 c_12 c_14; decide)), ht2⟩) (fun q h => by cases h) md_F_towardsZero_94
          · refine lv_lload hx hb md_F_towardsZero_86 (lv_at hl 0 rfl) ?_
            refine lv_lneg hx hb md_F_towardsZero_88 ?_
            refine lv_goto (tgt := 94) hx hb md_F_towardsZero_89 (by decide) ?_
            exact W.lret (v := -(jl_ush (cf_sig k p0) (-(cf_exp k p0)))) hx hb hr (fun t ht2 _ => ⟨(-(jl_ush (cf_sig k p0) (-(cf_exp k p0)))), rfl, (by intro hz; subst hz; rcases pf_2 hk with rfl | rfl <;> first | rfl | decide | (exfalso; revert c_3 c_10 c_11 c_12 c_14; decide)), ht2⟩) (fun q h => by cases h) md_F_towardsZero_94
      · refine lv_lload_n hx hb md_F_towardsZero_53 rfl (lv_at hl 1 rfl) ?_
        refine lv_iload hx hb md_F_towardsZero_54 (lv_at hl 0 rfl) ?_
        refine lv_lshl (v := jl_shl (cf_sig k p0) (cf_exp k p0)) hx hb md_F_towardsZero_56 rfl ?_
        refine lv_lstore (lv' := [(6, .long (jl_shl (cf_sig k p0) (cf_exp k p0))), (5, .int (cf_exp k p0)), (3, .long (cf_sig k p0)), (0, .ref (ad k)), (1, .long p0)]) hx hb md_F_towardsZero_57 hl (by decide) rfl (fun ls hl => ?_)
        refine lv_goto (tgt := 80) hx hb md_F_towardsZero_59 (by decide) ?_
        refine lv_lload_n hx hb md_F_towardsZero_80 rfl (lv_at hl 4 rfl) ?_
        refine lv_lconst (v := 0) hx hb md_F_towardsZero_81 (by decide) ?_
        refine W.lcmp hx hb md_F_towardsZero_82 ?_
        refine lv_if_ge (tgt := 92) hx hb md_F_towardsZero_83 (by decide) (fun c_15 => ?_) (fun c_15 => ?_)
        · refine lv_lload hx hb md_F_towardsZero_92 (lv_at hl 0 rfl) ?_
          exact W.lret (v := jl_shl (cf_sig k p0) (cf_exp k p0)) hx hb hr (fun t ht2 _ => ⟨(jl_shl (cf_sig k p0) (cf_exp k p0)), rfl, (by intro hz; subst hz; rcases pf_2 hk with rfl | rfl <;> first | rfl | decide | (exfalso; revert c_3 c_10 c_11 c_15; decide)), ht2⟩) (fun q h => by cases h) md_F_towardsZero_94
        · refine lv_lload hx hb md_F_towardsZero_86 (lv_at hl 0 rfl) ?_
          refine lv_lneg hx hb md_F_towardsZero_88 ?_
          refine lv_goto (tgt := 94) hx hb md_F_towardsZero_89 (by decide) ?_
          exact W.lret (v := -(jl_shl (cf_sig k p0) (cf_exp k p0))) hx hb hr (fun t ht2 _ => ⟨(-(jl_shl (cf_sig k p0) (cf_exp k p0))), rfl, (by intro hz; subst hz; rcases pf_2 hk with rfl | rfl <;> first | rfl | decide | (exfalso; revert c_3 c_10 c_11 c_15; decide)), ht2⟩) (fun q h => by cases h) md_F_towardsZero_94
    · refine lv_lload_n hx hb md_F_towardsZero_32 rfl (lv_at hl 3 rfl) ?_
      refine lv_lconst (v := 0) hx hb md_F_towardsZero_33 (by decide) ?_
      refine W.lcmp hx hb md_F_towardsZero_34 ?_
      refine lv_if_ge (tgt := 44) hx hb md_F_towardsZero_35 (by decide) (fun c_16 => ?_) (fun c_16 => ?_)
      · refine lv_ldc2 (v := 9223372036854775807) hx hb hown (ht _ tm_252) md_F_towardsZero_44 ?_
        exact W.lret (v := 9223372036854775807) hx hb hr (fun t ht2 _ => ⟨9223372036854775807, rfl, (by intro hz; subst hz; rcases pf_2 hk with rfl | rfl <;> first | rfl | decide | (exfalso; revert c_3 c_10 c_16; decide)), ht2⟩) (fun q h => by cases h) md_F_towardsZero_47
      · refine lv_ldc2 (v := (-9223372036854775808)) hx hb hown (ht _ tm_251) md_F_towardsZero_38 ?_
        refine lv_goto (tgt := 47) hx hb md_F_towardsZero_41 (by decide) ?_
        exact W.lret (v := (-9223372036854775808)) hx hb hr (fun t ht2 _ => ⟨(-9223372036854775808), rfl, (by intro hz; subst hz; rcases pf_2 hk with rfl | rfl <;> first | rfl | decide | (exfalso; revert c_3 c_10 c_16; decide)), ht2⟩) (fun q h => by cases h) md_F_towardsZero_47
  · refine lv_lconst (v := 0) hx hb md_F_towardsZero_8 (by decide) ?_
    exact W.lret (v := 0) hx hb hr (fun t ht2 _ => ⟨0, rfl, (by intro hz; subst hz; rcases pf_2 hk with rfl | rfl <;> first | rfl | decide | (exfalso; revert c_3; decide)), ht2⟩) (fun q h => by cases h) md_F_towardsZero_9
set_option maxHeartbeats 4000000 in
set_option maxRecDepth 100000 in
theorem mz_N_converted (l : Launch) (ad : Nat → Nat) (p0 : Int32) (p1 : Int64) (p2 : Int32) : Met l my_N_converted mw_N_converted ({ frames := 4, cells := 0, slots := 0, locals := 97 } : Room) (va_Pc [.int p0, .long p1, .int p2] (fun U => FW ad (fun _ => False) U U.heap)) (vp_Sl (fun r => p1 = 0 → cn_flt p2 = false → r = 0)) 0 0 (fun _ => False) := by
  refine Met.ofW (cc := mc_N_converted) (maxL := 6) (ret := (some .long)) (by decide) rfl ?_
  intro p e s m args below meth c s₁ B hml hv
  obtain ⟨rfl, hE⟩ := hv
  have hx := B.exec
  have hb := B.bytes
  have hr := B.returns
  have hts := atoms_spec (ws := mw_N_converted) B.pre
  have ht : ∀ w ∈ gw_tbl, w.before _ s = true := fun w h => hts w (List.mem_cons_of_mem _ h)
  have hown : s.vm.findClass "NumberProbe" = some m.cls := findClass_of_methodNamed B.named
  have hlocks := B.notSynchronized
  have hS : va_S (fun _ => False) s.heap s.heap [] := va_S.rf
  have hl := lv_entry ([.int p0, .long p1, .int p2]) (n := 6) (Nat.le_of_ble_eq_true rfl)
  rw [lg_entry_eq]
  generalize (lg_sl ([.int p0, .long p1, .int p2]) ++ List.replicate (6 - (lg_sl ([.int p0, .long p1, .int p2])).length) Slot.unset).toArray = ls at hl ⊢
  have hl : lv_has ls 6 [(0, .int p0), (1, .long p1), (3, .int p2)] := hl
  refine lv_iload_n hx hb md_N_converted_0 rfl (lv_at hl 2 rfl) ?_
  refine vp_callSi (W.runS (As := [.int p2]) (rest := []) ⟨hx, hb, hml, hown, hts⟩ (mt_N_isFloating l p2) (va_cwS 1 hts (gd_S tm_53 tm_54 tm_24 tm_55) rfl rfl rfl (by decide +kernel) ⟨Nat.le_of_ble_eq_true rfl, Nat.le_of_ble_eq_true rfl⟩) ⟨fb_0, fun U hU hW => ⟨rfl, trivial⟩⟩ rfl rfl hl.1 rfl (lv_room (Nat.le_of_ble_eq_true rfl)) md_N_converted_1 ⟨Nat.zero_le _, Nat.zero_le _⟩) (fun r_1 e_2 => ?_)
  obtain rfl : r_1 = jb (cn_flt p2) := e_2
  refine lv_if_eq (tgt := 38) hx hb md_N_converted_4 (by decide) (fun c_3 => ?_) (fun c_3 => ?_)
  · refine lv_iload_n hx hb md_N_converted_38 rfl (lv_at hl 0 rfl) ?_
    refine vp_callSi (W.runS (As := [.int p0]) (rest := []) ⟨hx, hb, hml, hown, hts⟩ (mt_N_isFloating l p0) (va_cwS 1 hts (gd_S tm_53 tm_54 tm_24 tm_55) rfl rfl rfl (by decide +kernel) ⟨Nat.le_of_ble_eq_true rfl, Nat.le_of_ble_eq_true rfl⟩) ⟨fb_0, fun U hU hW => ⟨rfl, trivial⟩⟩ rfl rfl hl.1 rfl (lv_room (Nat.le_of_ble_eq_true rfl)) md_N_converted_39 ⟨Nat.zero_le _, Nat.zero_le _⟩) (fun r_4 e_5 => ?_)
    obtain rfl : r_4 = jb (cn_flt p0) := e_5
    refine lv_if_ne (tgt := 51) hx hb md_N_converted_42 (by decide) (fun c_6 => ?_) (fun c_6 => ?_)
    · refine lv_iload_n hx hb md_N_converted_51 rfl (lv_at hl 0 rfl) ?_
      refine va_csr (W.runS (As := [.int p0]) (rest := []) ⟨hx, hb, hml, hown, hts⟩ (mt_N_formatOf l ad p0) (va_cwS 1 hts (gd_S tm_56 tm_57 tm_24 tm_58) rfl rfl rfl (by decide +kernel) ⟨Nat.le_of_ble_eq_true rfl, Nat.le_of_ble_eq_true rfl⟩) ⟨fb_E, fun U hU hW => ⟨rfl, fw_use hE hS hU hW⟩⟩ rfl rfl hl.1 rfl (lv_room (Nat.le_of_ble_eq_true rfl)) md_N_converted_52 ⟨Nat.zero_le _, Nat.zero_le _⟩) (fun r_7 e_8 => ?_)
      have hr_7 : r_7 < 2 := e_8.1
      refine lv_lload_n hx hb md_N_converted_55 rfl (lv_at hl 1 rfl) ?_
      refine vp_callSl (W.runV (C := "NumberProbe$Format") (As := [.long p1]) (rest := []) ⟨hx, hb, hml, hown, hts⟩ (mz_F_towardsZero l ad r_7 hr_7 p1) (cwV 1 hts (gd_V tm_247 tm_248 tm_249 tm_27 tm_250) rfl rfl rfl (by decide +kernel) ⟨Nat.le_of_ble_eq_true rfl, Nat.le_of_ble_eq_true rfl⟩) ⟨fb_E, fw_recv hE hr_7 hS, fun U hU hW => ⟨rfl, fw_use hE hS hU hW⟩⟩ rfl rfl hl.1 rfl (lv_room (Nat.le_of_ble_eq_true rfl)) md_N_converted_56 ⟨Nat.zero_le _, Nat.zero_le _⟩) (fun r_9 e_10 => ?_)
      refine lv_lstore (lv' := [(4, .long r_9), (0, .int p0), (1, .long p1), (3, .int p2)]) hx hb md_N_converted_59 hl (by decide) rfl (fun ls hl => ?_)
      refine lv_iload_n hx hb md_N_converted_61 rfl (lv_at hl 3 rfl) ?_
      refine lv_iconst (v := 3) hx hb md_N_converted_62 (by decide) ?_
      refine lv_icmp_ne (tgt := 71) hx hb md_N_converted_63 (by decide) (fun c_11 => ?_) (fun c_11 => ?_)
      · refine lv_ldc2 (v := (-2147483648)) hx hb hown (ht _ tm_253) md_N_converted_71 ?_
        refine lv_ldc2 (v := 2147483647) hx hb hown (ht _ tm_254) md_N_converted_74 ?_
        refine lv_lload hx hb md_N_converted_77 (lv_at hl 0 rfl) ?_
        refine va_mmin_long hx hb (by rw [hml]; exact hl.1.symm) hown (ht _ tm_223) (ht _ tm_224) (ht _ tm_28) (ht _ tm_225) (Nat.le_of_ble_eq_true rfl) (Nat.le_of_ble_eq_true rfl) (Nat.zero_le _) (Nat.zero_le _) md_N_converted_79 ?_
        refine va_mmax_long hx hb (by rw [hml]; exact hl.1.symm) hown (ht _ tm_226) (ht _ tm_227) (ht _ tm_28) (ht _ tm_228) (Nat.le_of_ble_eq_true rfl) (Nat.le_of_ble_eq_true rfl) (Nat.zero_le _) (Nat.zero_le _) md_N_converted_82 ?_
        exact W.lret (v := (if (if r_9 < 2147483647 then r_9 else 2147483647) < (-2147483648) then (-2147483648) else (if r_9 < 2147483647 then r_9 else 2147483647))) hx hb hr (fun t ht2 _ => ⟨(if (if r_9 < 2147483647 then r_9 else 2147483647) < (-2147483648) then (-2147483648) else (if r_9 < 2147483647 then r_9 else 2147483647)), rfl, (fun hz _ => by rw [e_10 hz]; decide), ht2⟩) (fun q h => by cases h) md_N_converted_85
      · refine lv_lload hx hb md_N_converted_66 (lv_at hl 0 rfl) ?_
        refine lv_goto (tgt := 85) hx hb md_N_converted_68 (by decide) ?_
        exact W.lret (v := r_9) hx hb hr (fun t ht2 _ => ⟨r_9, rfl, (fun hz _ => e_10 hz), ht2⟩) (fun q h => by cases h) md_N_converted_85
    · refine lv_iload_n hx hb md_N_converted_45 rfl (lv_at hl 2 rfl) ?_
      refine lv_lload_n hx hb md_N_converted_46 rfl (lv_at hl 1 rfl) ?_
      refine vp_callSl (W.runS (As := [.int p2, .long p1]) (rest := []) ⟨hx, hb, hml, hown, hts⟩ (mt_N_fitted l p2 p1) (va_cwS 2 hts (gd_S tm_81 tm_82 tm_24 tm_83) rfl rfl rfl (by decide +kernel) ⟨Nat.le_of_ble_eq_true rfl, Nat.le_of_ble_eq_true rfl⟩) ⟨fb_0, fun U hU hW => ⟨rfl, trivial⟩⟩ rfl rfl hl.1 rfl (lv_room (Nat.le_of_ble_eq_true rfl)) md_N_converted_47 ⟨Nat.zero_le _, Nat.zero_le _⟩) (fun r_12 e_13 => ?_)
      obtain rfl : r_12 = cn_fit p2 p1 := e_13
      exact W.lret (v := cn_fit p2 p1) hx hb hr (fun t ht2 _ => ⟨(cn_fit p2 p1), rfl, (fun hz _ => by rw [hz]; simp [cn_fit]), ht2⟩) (fun q h => by cases h) md_N_converted_50
  · refine lv_iload_n hx hb md_N_converted_7 rfl (lv_at hl 0 rfl) ?_
    refine vp_callSi (W.runS (As := [.int p0]) (rest := []) ⟨hx, hb, hml, hown, hts⟩ (mt_N_isFloating l p0) (va_cwS 1 hts (gd_S tm_53 tm_54 tm_24 tm_55) rfl rfl rfl (by decide +kernel) ⟨Nat.le_of_ble_eq_true rfl, Nat.le_of_ble_eq_true rfl⟩) ⟨fb_0, fun U hU hW => ⟨rfl, trivial⟩⟩ rfl rfl hl.1 rfl (lv_room (Nat.le_of_ble_eq_true rfl)) md_N_converted_8 ⟨Nat.zero_le _, Nat.zero_le _⟩) (fun r_14 e_15 => ?_)
    obtain rfl : r_14 = jb (cn_flt p0) := e_15
    refine lv_if_eq (tgt := 29) hx hb md_N_converted_11 (by decide) (fun c_16 => ?_) (fun c_16 => ?_)
    · refine lv_iload_n hx hb md_N_converted_29 rfl (lv_at hl 2 rfl) ?_
      refine va_csr (W.runS (As := [.int p2]) (rest := []) ⟨hx, hb, hml, hown, hts⟩ (mt_N_formatOf l ad p2) (va_cwS 1 hts (gd_S tm_56 tm_57 tm_24 tm_58) rfl rfl rfl (by decide +kernel) ⟨Nat.le_of_ble_eq_true rfl, Nat.le_of_ble_eq_true rfl⟩) ⟨fb_E, fun U hU hW => ⟨rfl, fw_use hE hS hU hW⟩⟩ rfl rfl hl.1 rfl (lv_room (Nat.le_of_ble_eq_true rfl)) md_N_converted_30 ⟨Nat.zero_le _, Nat.zero_le _⟩) (fun r_17 e_18 => ?_)
      have hr_17 : r_17 < 2 := e_18.1
      refine lv_lload_n hx hb md_N_converted_33 rfl (lv_at hl 1 rfl) ?_
      refine vp_callSl (W.runV (C := "NumberProbe$Format") (As := [.long p1]) (rest := []) ⟨hx, hb, hml, hown, hts⟩ (mt_F_nearestToWhole l ad r_17 hr_17 p1) (cwV 1 hts (gd_V tm_243 tm_244 tm_245 tm_27 tm_246) rfl rfl rfl (by decide +kernel) ⟨Nat.le_of_ble_eq_true rfl, Nat.le_of_ble_eq_true rfl⟩) ⟨fb_E, fw_recv hE hr_17 hS, fun U hU hW => ⟨rfl, fw_use hE hS hU hW⟩⟩ rfl rfl hl.1 rfl (lv_room (Nat.le_of_ble_eq_true rfl)) md_N_converted_34 ⟨Nat.zero_le _, Nat.zero_le _⟩) (fun r_19 e_20 => ?_)
      exact W.lret (v := r_19) hx hb hr (fun t ht2 _ => ⟨r_19, rfl, (fun _ h9 => absurd (h9.symm.trans (jb_n0.mp c_3)) (by decide)), ht2⟩) (fun q h => by cases h) md_N_converted_37
    · refine lv_iload_n hx hb md_N_converted_14 rfl (lv_at hl 2 rfl) ?_
      refine va_csr (W.runS (As := [.int p2]) (rest := []) ⟨hx, hb, hml, hown, hts⟩ (mt_N_formatOf l ad p2) (va_cwS 1 hts (gd_S tm_56 tm_57 tm_24 tm_58) rfl rfl rfl (by decide +kernel) ⟨Nat.le_of_ble_eq_true rfl, Nat.le_of_ble_eq_true rfl⟩) ⟨fb_E, fun U hU hW => ⟨rfl, fw_use hE hS hU hW⟩⟩ rfl rfl hl.1 rfl (lv_room (Nat.le_of_ble_eq_true rfl)) md_N_converted_15 ⟨Nat.zero_le _, Nat.zero_le _⟩) (fun r_21 e_22 => ?_)
      have hr_21 : r_21 < 2 := e_22.1
      refine lv_iload_n hx hb md_N_converted_18 rfl (lv_at hl 0 rfl) ?_
      refine va_csr (W.runS (As := [.int p0]) (rest := [.ref (ad r_21)]) ⟨hx, hb, hml, hown, hts⟩ (mt_N_formatOf l ad p0) (va_cwS 1 hts (gd_S tm_56 tm_57 tm_24 tm_58) rfl rfl rfl (by decide +kernel) ⟨Nat.le_of_ble_eq_true rfl, Nat.le_of_ble_eq_true rfl⟩) ⟨fb_E, fun U hU hW => ⟨rfl, fw_use hE hS hU hW⟩⟩ rfl rfl hl.1 rfl (lv_room (Nat.le_of_ble_eq_true rfl)) md_N_converted_19 ⟨Nat.zero_le _, Nat.zero_le _⟩) (fun r_23 e_24 => ?_)
      have hr_23 : r_23 < 2 := e_24.1
      refine lv_lload_n hx hb md_N_converted_22 rfl (lv_at hl 1 rfl) ?_
      refine vp_callSl (W.runV (C := "NumberProbe$Format") (As := [.ref (ad r_23), .long p1]) (rest := []) ⟨hx, hb, hml, hown, hts⟩ (mt_F_nearestTo l ad r_21 hr_21 r_23 hr_23 p1) (cwV 2 hts (gd_V tm_239 tm_240 tm_241 tm_27 tm_242) rfl rfl rfl (by decide +kernel) ⟨Nat.le_of_ble_eq_true rfl, Nat.le_of_ble_eq_true rfl⟩) ⟨fb_E, fw_recv hE hr_21 hS, fun U hU hW => ⟨rfl, fw_use hE hS hU hW⟩⟩ rfl rfl hl.1 rfl (lv_room (Nat.le_of_ble_eq_true rfl)) md_N_converted_23 ⟨Nat.zero_le _, Nat.zero_le _⟩) (fun r_25 e_26 => ?_)
      refine lv_goto (tgt := 37) hx hb md_N_converted_26 (by decide) ?_
      exact W.lret (v := r_25) hx hb hr (fun t ht2 _ => ⟨r_25, rfl, (fun _ h9 => absurd (h9.symm.trans (jb_n0.mp c_3)) (by decide)), ht2⟩) (fun q h => by cases h) md_N_converted_37
set_option maxHeartbeats 4000000 in
set_option maxRecDepth 100000 in
theorem mz_M_length (l : Launch) (p0 : Int64) : Met l my_M_length mw_M_length ({ frames := 0, cells := 0, slots := 0, locals := 0 } : Room) (va_Pc [.long p0] (fun _ => True)) (vp_Si (fun r => p0 = 0 → r = 0)) 0 0 (fun _ => False) := by
  refine Met.ofW (cc := mc_M_length) (maxL := 4) (ret := (some .int)) (by decide) rfl ?_
  intro p e s m args below meth c s₁ B hml hv
  obtain ⟨rfl, -⟩ := hv
  have hx := B.exec
  have hb := B.bytes
  have hr := B.returns
  have hts := atoms_spec (ws := mw_M_length) B.pre
  have ht : ∀ w ∈ gw_tbl, w.before _ s = true := fun w h => hts w (List.mem_cons_of_mem _ h)
  have hown : s.vm.findClass "NumberProbeModel" = some m.cls := findClass_of_methodNamed B.named
  have hlocks := B.notSynchronized
  have hl := lv_entry ([.long p0]) (n := 4) (Nat.le_of_ble_eq_true rfl)
  rw [lg_entry_eq]
  generalize (lg_sl ([.long p0]) ++ List.replicate (4 - (lg_sl ([.long p0])).length) Slot.unset).toArray = ls at hl ⊢
  have hl : lv_has ls 4 [(0, .long p0)] := hl
  refine lv_iconst (v := 0) hx hb md_M_length_0 (by decide) ?_
  refine lv_istore_n (lv' := [(2, .int 0), (0, .long p0)]) hx hb md_M_length_1 rfl hl (by decide) rfl (fun ls hl => ?_)
  refine lv_bipush (v := 32) hx hb md_M_length_2 (by decide) ?_
  refine lv_istore_n (lv' := [(3, .int 32), (2, .int 0), (0, .long p0)]) hx hb md_M_length_4 rfl hl (by decide) rfl (fun ls hl => ?_)
  have L_1 : ∀ (n : Nat) (z_2 : Int32) (z_3 : Int32) (ls : Array Slot), z_2.toInt.toNat ≤ n → lv_has ls 4 [(3, .int z_2), (2, .int z_3), (0, .long p0)] → WP p l e mw_M_length ({ frames := 0, cells := 0, slots := 0, locals := 0 } : Room) s m [.long p0] below meth c (vp_Si (fun r => p0 = 0 → r = 0)) (F0 m 5 ls []) := by
    intro n
    induction n with
    | zero =>
      intro z_2 z_3 ls hn hl
      refine lv_iload_n hx hb md_M_length_5 rfl (lv_at hl 0 rfl) ?_
      refine lv_if_le (tgt := 30) hx hb md_M_length_6 (by decide) (fun c_4 => ?_) (fun c_4 => ?_)
      · refine lv_lload_n hx hb md_M_length_30 rfl (lv_at hl 2 rfl) ?_
        refine lv_lconst (v := 0) hx hb md_M_length_31 (by decide) ?_
        refine W.lcmp hx hb md_M_length_32 ?_
        refine lv_if_ne (tgt := 40) hx hb md_M_length_33 (by decide) (fun c_5 => ?_) (fun c_5 => ?_)
        · refine lv_iload_n hx hb md_M_length_40 rfl (lv_at hl 1 rfl) ?_
          refine lv_iconst (v := 1) hx hb md_M_length_41 (by decide) ?_
          refine lv_iadd hx hb md_M_length_42 ?_
          exact W.iret (v := z_3 + 1) hx hb hr (fun t ht2 _ => ⟨(z_3 + 1), rfl, (fun hz => absurd hz (mt (lg_cmp_eq _ _).mpr c_5)), ht2⟩) (fun q h => by cases h) md_M_length_43
        · refine lv_iconst (v := 0) hx hb md_M_length_36 (by decide) ?_
          refine lv_goto (tgt := 43) hx hb md_M_length_37 (by decide) ?_
          exact W.iret (v := 0) hx hb hr (fun t ht2 _ => ⟨0, rfl, (fun _ => rfl), ht2⟩) (fun q h => by cases h) md_M_length_43
      · exact (ld_0 (Int32.not_le.mp c_4) hn).elim
    | succ n ih =>
      intro z_2 z_3 ls hn hl
      refine lv_iload_n hx hb md_M_length_5 rfl (lv_at hl 0 rfl) ?_
      refine lv_if_le (tgt := 30) hx hb md_M_length_6 (by decide) (fun c_6 => ?_) (fun c_6 => ?_)
      · refine lv_lload_n hx hb md_M_length_30 rfl (lv_at hl 2 rfl) ?_
        refine lv_lconst (v := 0) hx hb md_M_length_31 (by decide) ?_
        refine W.lcmp hx hb md_M_length_32 ?_
        refine lv_if_ne (tgt := 40) hx hb md_M_length_33 (by decide) (fun c_7 => ?_) (fun c_7 => ?_)
        · refine lv_iload_n hx hb md_M_length_40 rfl (lv_at hl 1 rfl) ?_
          refine lv_iconst (v := 1) hx hb md_M_length_41 (by decide) ?_
          refine lv_iadd hx hb md_M_length_42 ?_
          exact W.iret (v := z_3 + 1) hx hb hr (fun t ht2 _ => ⟨(z_3 + 1), rfl, (fun hz => absurd hz (mt (lg_cmp_eq _ _).mpr c_7)), ht2⟩) (fun q h => by cases h) md_M_length_43
        · refine lv_iconst (v := 0) hx hb md_M_length_36 (by decide) ?_
          refine lv_goto (tgt := 43) hx hb md_M_length_37 (by decide) ?_
          exact W.iret (v := 0) hx hb hr (fun t ht2 _ => ⟨0, rfl, (fun _ => rfl), ht2⟩) (fun q h => by cases h) md_M_length_43
      · refine lv_lload_n hx hb md_M_length_9 rfl (lv_at hl 2 rfl) ?_
        refine lv_iload_n hx hb md_M_length_10 rfl (lv_at hl 1 rfl) ?_
        refine lv_iload_n hx hb md_M_length_11 rfl (lv_at hl 0 rfl) ?_
        refine lv_iadd hx hb md_M_length_12 ?_
        refine lv_lushr (v := jl_ush p0 (z_3 + z_2)) hx hb md_M_length_13 rfl ?_
        refine lv_lconst (v := 0) hx hb md_M_length_14 (by decide) ?_
        refine W.lcmp hx hb md_M_length_15 ?_
        refine lv_if_eq (tgt := 23) hx hb md_M_length_16 (by decide) (fun c_8 => ?_) (fun c_8 => ?_)
        · refine lv_iload_n hx hb md_M_length_23 rfl (lv_at hl 0 rfl) ?_
          refine lv_iconst (v := 2) hx hb md_M_length_24 (by decide) ?_
          refine lv_idiv hx hb md_M_length_25 (by decide) ?_
          refine lv_istore_n (lv' := [(3, .int (z_2 / 2)), (2, .int z_3), (0, .long p0)]) hx hb md_M_length_26 rfl hl (by decide) rfl (fun ls hl => ?_)
          refine lv_goto (tgt := 5) hx hb md_M_length_27 (by decide) ?_
          exact ih (z_2 / 2) z_3 ls (lh_s (Int32.not_le.mp c_6) hn) (lv_sub hl [0, 1, 2] rfl)
        · refine lv_iload_n hx hb md_M_length_19 rfl (lv_at hl 1 rfl) ?_
          refine lv_iload_n hx hb md_M_length_20 rfl (lv_at hl 0 rfl) ?_
          refine lv_iadd hx hb md_M_length_21 ?_
          refine lv_istore_n (lv' := [(2, .int (z_3 + z_2)), (3, .int z_2), (0, .long p0)]) hx hb md_M_length_22 rfl hl (by decide) rfl (fun ls hl => ?_)
          refine lv_iload_n hx hb md_M_length_23 rfl (lv_at hl 1 rfl) ?_
          refine lv_iconst (v := 2) hx hb md_M_length_24 (by decide) ?_
          refine lv_idiv hx hb md_M_length_25 (by decide) ?_
          refine lv_istore_n (lv' := [(3, .int (z_2 / 2)), (2, .int (z_3 + z_2)), (0, .long p0)]) hx hb md_M_length_26 rfl hl (by decide) rfl (fun ls hl => ?_)
          refine lv_goto (tgt := 5) hx hb md_M_length_27 (by decide) ?_
          exact ih (z_2 / 2) (z_3 + z_2) ls (lh_s (Int32.not_le.mp c_6) hn) (lv_sub hl [0, 1, 2] rfl)
  exact L_1 _ 32 0 ls (Nat.le_refl _) (lv_sub hl [0, 1, 2] rfl)
set_option maxHeartbeats 4000000 in
set_option maxRecDepth 100000 in
theorem mz_M_normal (l : Launch) (p0 : Int32) (p1 : Int64) : Met l my_M_normal mw_M_normal ({ frames := 3, cells := 0, slots := 0, locals := 64 } : Room) (va_Pc [.int p0, .long p1] (fun _ => True)) (vp_Sl (fun r => p1 = 0 → r = 0)) 0 0 (fun _ => False) := by
  refine Met.ofW (cc := mc_M_normal) (maxL := 5) (ret := (some .long)) (by decide) rfl ?_
  intro p e s m args below meth c s₁ B hml hv
  obtain ⟨rfl, -⟩ := hv
  have hx := B.exec
  have hb := B.bytes
  have hr := B.returns
  have hts := atoms_spec (ws := mw_M_normal) B.pre
  have ht : ∀ w ∈ gw_tbl, w.before _ s = true := fun w h => hts w (List.mem_cons_of_mem _ h)
  have hown : s.vm.findClass "NumberProbeModel" = some m.cls := findClass_of_methodNamed B.named
  have hlocks := B.notSynchronized
  have hl := lv_entry ([.int p0, .long p1]) (n := 5) (Nat.le_of_ble_eq_true rfl)
  rw [lg_entry_eq]
  generalize (lg_sl ([.int p0, .long p1]) ++ List.replicate (5 - (lg_sl ([.int p0, .long p1])).length) Slot.unset).toArray = ls at hl ⊢
  have hl : lv_has ls 5 [(0, .int p0), (1, .long p1)] := hl
  refine lv_iload_n hx hb md_M_normal_0 rfl (lv_at hl 0 rfl) ?_
  refine lv_iconst (v := 3) hx hb md_M_normal_1 (by decide) ?_
  refine lv_icmp_ne (tgt := 7) hx hb md_M_normal_2 (by decide) (fun c_1 => ?_) (fun c_1 => ?_)
  · refine lv_iload_n hx hb md_M_normal_7 rfl (lv_at hl 0 rfl) ?_
    refine lv_iconst (v := 2) hx hb md_M_normal_8 (by decide) ?_
    refine lv_icmp_ne (tgt := 16) hx hb md_M_normal_9 (by decide) (fun c_2 => ?_) (fun c_2 => ?_)
    · refine lv_iload_n hx hb md_M_normal_16 rfl (lv_at hl 0 rfl) ?_
      refine lv_if_ne (tgt := 28) hx hb md_M_normal_17 (by decide) (fun c_3 => ?_) (fun c_3 => ?_)
      · refine lv_lload_n hx hb md_M_normal_28 rfl (lv_at hl 1 rfl) ?_
        refine lv_lstore_n (lv' := [(3, .long p1), (0, .int p0), (1, .long p1)]) hx hb md_M_normal_29 rfl hl (by decide) rfl (fun ls hl => ?_)
        refine lv_iload_n hx hb md_M_normal_30 rfl (lv_at hl 1 rfl) ?_
        refine lv_lload_n hx hb md_M_normal_31 rfl (lv_at hl 0 rfl) ?_
        refine vp_callSi (W.runS (As := [.int p0, .long p1]) (rest := []) ⟨hx, hb, hml, hown, hts⟩ (mt_M_isNan l p0 p1) (va_cwS 2 hts (gd_S tm_366 tm_367 tm_25 tm_368) rfl rfl rfl (by decide +kernel) ⟨Nat.le_of_ble_eq_true rfl, Nat.le_of_ble_eq_true rfl⟩) ⟨fb_0, fun U hU hW => ⟨rfl, trivial⟩⟩ rfl rfl hl.1 rfl (lv_room (Nat.le_of_ble_eq_true rfl)) md_M_normal_32 ⟨Nat.zero_le _, Nat.zero_le _⟩) (fun r_4 e_5 => ?_)
        obtain rfl : r_4 = jb (rf_isN p0 p1) := e_5
        refine lv_if_eq (tgt := 45) hx hb md_M_normal_35 (by decide) (fun c_6 => ?_) (fun c_6 => ?_)
        · refine lv_lload_n hx hb md_M_normal_45 rfl (lv_at hl 0 rfl) ?_
          exact W.lret (v := p1) hx hb hr (fun t ht2 _ => ⟨p1, rfl, (fun hz => by first | exact hz | (rw [hz]; rfl) | (rw [hz]; decide) | (have f9 := (jb_0.mp c_6); rw [hz] at f9; simp [z_isN] at f9; done)), ht2⟩) (fun q h => by cases h) md_M_normal_46
        · refine lv_iload_n hx hb md_M_normal_38 rfl (lv_at hl 1 rfl) ?_
          refine vp_callSl (W.runS (As := [.int p0]) (rest := []) ⟨hx, hb, hml, hown, hts⟩ (mt_M_nan l p0) (va_cwS 1 hts (gd_S tm_382 tm_383 tm_25 tm_384) rfl rfl rfl (by decide +kernel) ⟨Nat.le_of_ble_eq_true rfl, Nat.le_of_ble_eq_true rfl⟩) ⟨fb_0, fun U hU hW => ⟨rfl, trivial⟩⟩ rfl rfl hl.1 rfl (lv_room (Nat.le_of_ble_eq_true rfl)) md_M_normal_39 ⟨Nat.zero_le _, Nat.zero_le _⟩) (fun r_7 e_8 => ?_)
          obtain rfl : r_7 = rf_na p0 := e_8
          refine lv_goto (tgt := 46) hx hb md_M_normal_42 (by decide) ?_
          exact W.lret (v := rf_na p0) hx hb hr (fun t ht2 _ => ⟨(rf_na p0), rfl, (fun hz => by first | exact hz | (rw [hz]; rfl) | (rw [hz]; decide) | (have f9 := (jb_n0.mp c_6); rw [hz] at f9; simp [z_isN] at f9; done)), ht2⟩) (fun q h => by cases h) md_M_normal_46
      · refine lv_lload_n hx hb md_M_normal_20 rfl (lv_at hl 1 rfl) ?_
        refine lv_ldc2 (v := 4294967295) hx hb hown (ht _ tm_365) md_M_normal_21 ?_
        refine lv_land hx hb md_M_normal_24 ?_
        refine lv_goto (tgt := 29) hx hb md_M_normal_25 (by decide) ?_
        refine lv_lstore_n (lv' := [(3, .long (p1 &&& 4294967295)), (0, .int p0), (1, .long p1)]) hx hb md_M_normal_29 rfl hl (by decide) rfl (fun ls hl => ?_)
        refine lv_iload_n hx hb md_M_normal_30 rfl (lv_at hl 1 rfl) ?_
        refine lv_lload_n hx hb md_M_normal_31 rfl (lv_at hl 0 rfl) ?_
        refine vp_callSi (W.runS (As := [.int p0, .long (p1 &&& 4294967295)]) (rest := []) ⟨hx, hb, hml, hown, hts⟩ (mt_M_isNan l p0 (p1 &&& 4294967295)) (va_cwS 2 hts (gd_S tm_366 tm_367 tm_25 tm_368) rfl rfl rfl (by decide +kernel) ⟨Nat.le_of_ble_eq_true rfl, Nat.le_of_ble_eq_true rfl⟩) ⟨fb_0, fun U hU hW => ⟨rfl, trivial⟩⟩ rfl rfl hl.1 rfl (lv_room (Nat.le_of_ble_eq_true rfl)) md_M_normal_32 ⟨Nat.zero_le _, Nat.zero_le _⟩) (fun r_9 e_10 => ?_)
        obtain rfl : r_9 = jb (rf_isN p0 (p1 &&& 4294967295)) := e_10
        refine lv_if_eq (tgt := 45) hx hb md_M_normal_35 (by decide) (fun c_11 => ?_) (fun c_11 => ?_)
        · refine lv_lload_n hx hb md_M_normal_45 rfl (lv_at hl 0 rfl) ?_
          exact W.lret (v := p1 &&& 4294967295) hx hb hr (fun t ht2 _ => ⟨(p1 &&& 4294967295), rfl, (fun hz => by first | exact hz | (rw [hz]; rfl) | (rw [hz]; decide) | (have f9 := (jb_0.mp c_11); rw [hz] at f9; simp [z_isN] at f9; done)), ht2⟩) (fun q h => by cases h) md_M_normal_46
        · refine lv_iload_n hx hb md_M_normal_38 rfl (lv_at hl 1 rfl) ?_
          refine vp_callSl (W.runS (As := [.int p0]) (rest := []) ⟨hx, hb, hml, hown, hts⟩ (mt_M_nan l p0) (va_cwS 1 hts (gd_S tm_382 tm_383 tm_25 tm_384) rfl rfl rfl (by decide +kernel) ⟨Nat.le_of_ble_eq_true rfl, Nat.le_of_ble_eq_true rfl⟩) ⟨fb_0, fun U hU hW => ⟨rfl, trivial⟩⟩ rfl rfl hl.1 rfl (lv_room (Nat.le_of_ble_eq_true rfl)) md_M_normal_39 ⟨Nat.zero_le _, Nat.zero_le _⟩) (fun r_12 e_13 => ?_)
          obtain rfl : r_12 = rf_na p0 := e_13
          refine lv_goto (tgt := 46) hx hb md_M_normal_42 (by decide) ?_
          exact W.lret (v := rf_na p0) hx hb hr (fun t ht2 _ => ⟨(rf_na p0), rfl, (fun hz => by first | exact hz | (rw [hz]; rfl) | (rw [hz]; decide) | (have f9 := (jb_n0.mp c_11); rw [hz] at f9; simp [z_isN] at f9; done)), ht2⟩) (fun q h => by cases h) md_M_normal_46
    · refine lv_lload_n hx hb md_M_normal_12 rfl (lv_at hl 1 rfl) ?_
      refine lv_l2i (v := p1.toInt32) hx hb md_M_normal_13 rfl ?_
      refine lv_i2l (v := p1.toInt32.toInt64) hx hb md_M_normal_14 rfl ?_
      exact W.lret (v := p1.toInt32.toInt64) hx hb hr (fun t ht2 _ => ⟨p1.toInt32.toInt64, rfl, (fun hz => by first | exact hz | (rw [hz]; rfl) | (rw [hz]; decide)), ht2⟩) (fun q h => by cases h) md_M_normal_15
  · refine lv_lload_n hx hb md_M_normal_5 rfl (lv_at hl 1 rfl) ?_
    exact W.lret (v := p1) hx hb hr (fun t ht2 _ => ⟨p1, rfl, (fun hz => by first | exact hz | (rw [hz]; rfl) | (rw [hz]; decide)), ht2⟩) (fun q h => by cases h) md_M_normal_6
set_option maxHeartbeats 4000000 in
set_option maxRecDepth 100000 in
theorem mz_M_bounded (l : Launch) (p0 : Int64) : Met l my_M_bounded mw_M_bounded ({ frames := 0, cells := 0, slots := 0, locals := 0 } : Room) (va_Pc [.long p0] (fun _ => True)) (vp_Sl (fun r => p0 = 0 → r = 0)) 0 0 (fun _ => False) := by
  refine Met.ofW (cc := mc_M_bounded) (maxL := 2) (ret := (some .long)) (by decide) rfl ?_
  intro p e s m args below meth c s₁ B hml hv
  obtain ⟨rfl, -⟩ := hv
  have hx := B.exec
  have hb := B.bytes
  have hr := B.returns
  have hts := atoms_spec (ws := mw_M_bounded) B.pre
  have ht : ∀ w ∈ gw_tbl, w.before _ s = true := fun w h => hts w (List.mem_cons_of_mem _ h)
  have hown : s.vm.findClass "NumberProbeModel" = some m.cls := findClass_of_methodNamed B.named
  have hlocks := B.notSynchronized
  have hl := lv_entry ([.long p0]) (n := 2) (Nat.le_of_ble_eq_true rfl)
  rw [lg_entry_eq]
  generalize (lg_sl ([.long p0]) ++ List.replicate (2 - (lg_sl ([.long p0])).length) Slot.unset).toArray = ls at hl ⊢
  have hl : lv_has ls 2 [(0, .long p0)] := hl
  refine lv_lload_n hx hb md_M_bounded_0 rfl (lv_at hl 0 rfl) ?_
  refine lv_ldc2 (v := 2147483647) hx hb hown (ht _ tm_416) md_M_bounded_1 ?_
  refine W.lcmp hx hb md_M_bounded_4 ?_
  refine lv_if_le (tgt := 14) hx hb md_M_bounded_5 (by decide) (fun c_1 => ?_) (fun c_1 => ?_)
  · refine lv_lload_n hx hb md_M_bounded_14 rfl (lv_at hl 0 rfl) ?_
    refine lv_ldc2 (v := (-2147483648)) hx hb hown (ht _ tm_415) md_M_bounded_15 ?_
    refine W.lcmp hx hb md_M_bounded_18 ?_
    refine lv_if_ge (tgt := 28) hx hb md_M_bounded_19 (by decide) (fun c_2 => ?_) (fun c_2 => ?_)
    · refine lv_lload_n hx hb md_M_bounded_28 rfl (lv_at hl 0 rfl) ?_
      exact W.lret (v := p0) hx hb hr (fun t ht2 _ => ⟨p0, rfl, (fun hz => by subst hz; first | rfl | (exfalso; revert c_1 c_2; decide)), ht2⟩) (fun q h => by cases h) md_M_bounded_29
    · refine lv_ldc2 (v := (-2147483648)) hx hb hown (ht _ tm_415) md_M_bounded_22 ?_
      refine lv_goto (tgt := 29) hx hb md_M_bounded_25 (by decide) ?_
      exact W.lret (v := (-2147483648)) hx hb hr (fun t ht2 _ => ⟨(-2147483648), rfl, (fun hz => by subst hz; first | rfl | (exfalso; revert c_1 c_2; decide)), ht2⟩) (fun q h => by cases h) md_M_bounded_29
  · refine lv_ldc2 (v := 2147483647) hx hb hown (ht _ tm_416) md_M_bounded_8 ?_
    refine lv_goto (tgt := 29) hx hb md_M_bounded_11 (by decide) ?_
    exact W.lret (v := 2147483647) hx hb hr (fun t ht2 _ => ⟨2147483647, rfl, (fun hz => by subst hz; first | rfl | (exfalso; revert c_1; decide)), ht2⟩) (fun q h => by cases h) md_M_bounded_29
set_option maxHeartbeats 4000000 in
set_option maxRecDepth 100000 in
theorem mz_M_rank (l : Launch) (p0 : Int32) : Met l my_M_rank mw_M_rank ({ frames := 0, cells := 0, slots := 0, locals := 0 } : Room) (va_Pc [.int p0] (fun _ => True)) (vp_Si (fun r => r = rf_rk p0)) 0 0 (fun _ => False) := by
  refine Met.ofW (cc := mc_M_rank) (maxL := 1) (ret := (some .int)) (by decide) rfl ?_
  intro p e s m args below meth c s₁ B hml hv
  obtain ⟨rfl, -⟩ := hv
  have hx := B.exec
  have hb := B.bytes
  have hr := B.returns
  have hts := atoms_spec (ws := mw_M_rank) B.pre
  have ht : ∀ w ∈ gw_tbl, w.before _ s = true := fun w h => hts w (List.mem_cons_of_mem _ h)
  have hown : s.vm.findClass "NumberProbeModel" = some m.cls := findClass_of_methodNamed B.named
  have hlocks := B.notSynchronized
  have hl := lv_entry ([.int p0]) (n := 1) (Nat.le_of_ble_eq_true rfl)
  rw [lg_entry_eq]
  generalize (lg_sl ([.int p0]) ++ List.replicate (1 - (lg_sl ([.int p0])).length) Slot.unset).toArray = ls at hl ⊢
  have hl : lv_has ls 1 [(0, .int p0)] := hl
  refine lv_iload_n hx hb md_M_rank_0 rfl (lv_at hl 0 rfl) ?_
  refine lv_iconst (v := 2) hx hb md_M_rank_1 (by decide) ?_
  refine lv_iadd hx hb md_M_rank_2 ?_
  refine lv_iconst (v := 4) hx hb md_M_rank_3 (by decide) ?_
  refine lv_irem hx hb md_M_rank_4 (by decide) ?_
  have hq : (p0 + 2) - (p0 + 2) / 4 * 4 = rf_rk p0 := by simp [rf_rk]
  exact W.iret (v := (p0 + 2) - (p0 + 2) / 4 * 4) hx hb hr (fun t ht2 _ => ⟨((p0 + 2) - (p0 + 2) / 4 * 4), rfl, hq, ht2⟩) (fun q h => by cases h) md_M_rank_5
