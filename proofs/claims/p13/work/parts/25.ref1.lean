def rn_in (v n : Int32) : Bool := decide (¬ v < 0 ∧ ¬ n ≤ v)
set_option maxHeartbeats 4000000 in
set_option maxRecDepth 100000 in
theorem mt_M_in (l : Launch) (p0 : Int32) (p1 : Int32) : Met l my_M_in mw_M_in ({ frames := 0, cells := 0, slots := 0, locals := 0 } : Room) (va_Pc [.int p0, .int p1] (fun _ => True)) (vp_Si (fun r => r = jb (rn_in p0 p1))) 0 0 (fun _ => False) := by
  refine Met.ofW (cc := mc_M_in) (maxL := 2) (ret := (some .boolean)) (by decide) rfl ?_
  intro p e s m args below meth c s₁ B hml hv
  obtain ⟨rfl, -⟩ := hv
  have hx := B.exec
  have hb := B.bytes
  have hr := B.returns
  have hts := atoms_spec (ws := mw_M_in) B.pre
  have ht : ∀ w ∈ gw_tbl, w.before _ s = true := fun w h => hts w (List.mem_cons_of_mem _ h)
  have hown : s.vm.findClass "NumberProbeModel" = some m.cls := findClass_of_methodNamed B.named
  have hlocks := B.notSynchronized
  have hl := lv_entry ([.int p0, .int p1]) (n := 2) (Nat.le_of_ble_eq_true rfl)
  rw [lg_entry_eq]
  generalize (lg_sl ([.int p0, .int p1]) ++ List.replicate (2 - (lg_sl ([.int p0, .int p1])).length) Slot.unset).toArray = ls at hl ⊢
  have hl : lv_has ls 2 [(0, .int p0), (1, .int p1)] := hl
  refine lv_iload_n hx hb md_M_in_0 rfl (lv_at hl 0 rfl) ?_
  refine lv_if_lt (tgt := 13) hx hb md_M_in_1 (by decide) (fun c_1 => ?_) (fun c_1 => ?_)
  · refine lv_iconst (v := 0) hx hb md_M_in_13 (by decide) ?_
    have hq : 0 = jb (rn_in p0 p1) := by simp [rn_in, jb, c_1]
    exact W.zret (v := 0) (ty := .boolean) hx hb hr (by rw [hq]; cases (rn_in p0 p1) <;> rfl) (fun t ht2 _ => ⟨0, rfl, hq, ht2⟩) (fun q h => by cases h) md_M_in_14
  · refine lv_iload_n hx hb md_M_in_4 rfl (lv_at hl 0 rfl) ?_
    refine lv_iload_n hx hb md_M_in_5 rfl (lv_at hl 1 rfl) ?_
    refine lv_icmp_ge (tgt := 13) hx hb md_M_in_6 (by decide) (fun c_2 => ?_) (fun c_2 => ?_)
    · refine lv_iconst (v := 0) hx hb md_M_in_13 (by decide) ?_
      have hq : 0 = jb (rn_in p0 p1) := by simp [rn_in, jb, c_1, c_2]
      exact W.zret (v := 0) (ty := .boolean) hx hb hr (by rw [hq]; cases (rn_in p0 p1) <;> rfl) (fun t ht2 _ => ⟨0, rfl, hq, ht2⟩) (fun q h => by cases h) md_M_in_14
    · refine lv_iconst (v := 1) hx hb md_M_in_9 (by decide) ?_
      refine lv_goto (tgt := 14) hx hb md_M_in_10 (by decide) ?_
      have hq : 1 = jb (rn_in p0 p1) := by simp [rn_in, jb, c_1, c_2]
      exact W.zret (v := 1) (ty := .boolean) hx hb hr (by rw [hq]; cases (rn_in p0 p1) <;> rfl) (fun t ht2 _ => ⟨1, rfl, hq, ht2⟩) (fun q h => by cases h) md_M_in_14
set_option maxHeartbeats 4000000 in
set_option maxRecDepth 100000 in
theorem mt_M_fraction (l : Launch) (p0 : Int32) : Met l my_M_fraction mw_M_fraction ({ frames := 0, cells := 0, slots := 0, locals := 0 } : Room) (va_Pc [.int p0] (fun _ => True)) (vp_Si (fun r => r = rf_fr p0)) 0 0 (fun _ => False) := by
  refine Met.ofW (cc := mc_M_fraction) (maxL := 1) (ret := (some .int)) (by decide) rfl ?_
  intro p e s m args below meth c s₁ B hml hv
  obtain ⟨rfl, -⟩ := hv
  have hx := B.exec
  have hb := B.bytes
  have hr := B.returns
  have hts := atoms_spec (ws := mw_M_fraction) B.pre
  have ht : ∀ w ∈ gw_tbl, w.before _ s = true := fun w h => hts w (List.mem_cons_of_mem _ h)
  have hown : s.vm.findClass "NumberProbeModel" = some m.cls := findClass_of_methodNamed B.named
  have hlocks := B.notSynchronized
  have hl := lv_entry ([.int p0]) (n := 1) (Nat.le_of_ble_eq_true rfl)
  rw [lg_entry_eq]
  generalize (lg_sl ([.int p0]) ++ List.replicate (1 - (lg_sl ([.int p0])).length) Slot.unset).toArray = ls at hl ⊢
  have hl : lv_has ls 1 [(0, .int p0)] := hl
  refine lv_iload_n hx hb md_M_fraction_0 rfl (lv_at hl 0 rfl) ?_
  refine lv_if_ne (tgt := 9) hx hb md_M_fraction_1 (by decide) (fun c_1 => ?_) (fun c_1 => ?_)
  · refine lv_bipush (v := 52) hx hb md_M_fraction_9 (by decide) ?_
    have hq : 52 = rf_fr p0 := by simp [rf_fr, c_1]
    exact W.iret (v := 52) hx hb hr (fun t ht2 _ => ⟨52, rfl, hq, ht2⟩) (fun q h => by cases h) md_M_fraction_11
  · refine lv_bipush (v := 23) hx hb md_M_fraction_4 (by decide) ?_
    refine lv_goto (tgt := 11) hx hb md_M_fraction_6 (by decide) ?_
    have hq : 23 = rf_fr p0 := by simp [rf_fr, c_1]
    exact W.iret (v := 23) hx hb hr (fun t ht2 _ => ⟨23, rfl, hq, ht2⟩) (fun q h => by cases h) md_M_fraction_11
set_option maxHeartbeats 4000000 in
set_option maxRecDepth 100000 in
theorem mt_M_least (l : Launch) (p0 : Int32) : Met l my_M_least mw_M_least ({ frames := 0, cells := 0, slots := 0, locals := 0 } : Room) (va_Pc [.int p0] (fun _ => True)) (vp_Si (fun r => r = rf_le p0)) 0 0 (fun _ => False) := by
  refine Met.ofW (cc := mc_M_least) (maxL := 1) (ret := (some .int)) (by decide) rfl ?_
  intro p e s m args below meth c s₁ B hml hv
  obtain ⟨rfl, -⟩ := hv
  have hx := B.exec
  have hb := B.bytes
  have hr := B.returns
  have hts := atoms_spec (ws := mw_M_least) B.pre
  have ht : ∀ w ∈ gw_tbl, w.before _ s = true := fun w h => hts w (List.mem_cons_of_mem _ h)
  have hown : s.vm.findClass "NumberProbeModel" = some m.cls := findClass_of_methodNamed B.named
  have hlocks := B.notSynchronized
  have hl := lv_entry ([.int p0]) (n := 1) (Nat.le_of_ble_eq_true rfl)
  rw [lg_entry_eq]
  generalize (lg_sl ([.int p0]) ++ List.replicate (1 - (lg_sl ([.int p0])).length) Slot.unset).toArray = ls at hl ⊢
  have hl : lv_has ls 1 [(0, .int p0)] := hl
  refine lv_iload_n hx hb md_M_least_0 rfl (lv_at hl 0 rfl) ?_
  refine lv_if_ne (tgt := 10) hx hb md_M_least_1 (by decide) (fun c_1 => ?_) (fun c_1 => ?_)
  · refine lv_sipush (v := (-1074)) hx hb md_M_least_10 (by decide) ?_
    have hq : (-1074) = rf_le p0 := by simp [rf_le, c_1]
    exact W.iret (v := (-1074)) hx hb hr (fun t ht2 _ => ⟨(-1074), rfl, hq, ht2⟩) (fun q h => by cases h) md_M_least_13
  · refine lv_sipush (v := (-149)) hx hb md_M_least_4 (by decide) ?_
    refine lv_goto (tgt := 13) hx hb md_M_least_7 (by decide) ?_
    have hq : (-149) = rf_le p0 := by simp [rf_le, c_1]
    exact W.iret (v := (-149)) hx hb hr (fun t ht2 _ => ⟨(-149), rfl, hq, ht2⟩) (fun q h => by cases h) md_M_least_13
set_option maxHeartbeats 4000000 in
set_option maxRecDepth 100000 in
theorem mt_M_signBit (l : Launch) (p0 : Int32) : Met l my_M_signBit mw_M_signBit ({ frames := 0, cells := 0, slots := 0, locals := 0 } : Room) (va_Pc [.int p0] (fun _ => True)) (vp_Sl (fun r => r = rf_sb p0)) 0 0 (fun _ => False) := by
  refine Met.ofW (cc := mc_M_signBit) (maxL := 1) (ret := (some .long)) (by decide) rfl ?_
  intro p e s m args below meth c s₁ B hml hv
  obtain ⟨rfl, -⟩ := hv
  have hx := B.exec
  have hb := B.bytes
  have hr := B.returns
  have hts := atoms_spec (ws := mw_M_signBit) B.pre
  have ht : ∀ w ∈ gw_tbl, w.before _ s = true := fun w h => hts w (List.mem_cons_of_mem _ h)
  have hown : s.vm.findClass "NumberProbeModel" = some m.cls := findClass_of_methodNamed B.named
  have hlocks := B.notSynchronized
  have hl := lv_entry ([.int p0]) (n := 1) (Nat.le_of_ble_eq_true rfl)
  rw [lg_entry_eq]
  generalize (lg_sl ([.int p0]) ++ List.replicate (1 - (lg_sl ([.int p0])).length) Slot.unset).toArray = ls at hl ⊢
  have hl : lv_has ls 1 [(0, .int p0)] := hl
  refine lv_iload_n hx hb md_M_signBit_0 rfl (lv_at hl 0 rfl) ?_
  refine lv_if_ne (tgt := 10) hx hb md_M_signBit_1 (by decide) (fun c_1 => ?_) (fun c_1 => ?_)
  · refine lv_ldc2 (v := (-9223372036854775808)) hx hb hown (ht _ tm_376) md_M_signBit_10 ?_
    have hq : (-9223372036854775808) = rf_sb p0 := by simp [rf_sb, c_1]
    exact W.lret (v := (-9223372036854775808)) hx hb hr (fun t ht2 _ => ⟨(-9223372036854775808), rfl, hq, ht2⟩) (fun q h => by cases h) md_M_signBit_13
  · refine lv_ldc2 (v := 2147483648) hx hb hown (ht _ tm_375) md_M_signBit_4 ?_
    refine lv_goto (tgt := 13) hx hb md_M_signBit_7 (by decide) ?_
    have hq : 2147483648 = rf_sb p0 := by simp [rf_sb, c_1]
    exact W.lret (v := 2147483648) hx hb hr (fun t ht2 _ => ⟨2147483648, rfl, hq, ht2⟩) (fun q h => by cases h) md_M_signBit_13
set_option maxHeartbeats 4000000 in
set_option maxRecDepth 100000 in
theorem mt_M_infinity (l : Launch) (p0 : Int32) : Met l my_M_infinity mw_M_infinity ({ frames := 0, cells := 0, slots := 0, locals := 0 } : Room) (va_Pc [.int p0] (fun _ => True)) (vp_Sl (fun r => r = rf_if p0)) 0 0 (fun _ => False) := by
  refine Met.ofW (cc := mc_M_infinity) (maxL := 1) (ret := (some .long)) (by decide) rfl ?_
  intro p e s m args below meth c s₁ B hml hv
  obtain ⟨rfl, -⟩ := hv
  have hx := B.exec
  have hb := B.bytes
  have hr := B.returns
  have hts := atoms_spec (ws := mw_M_infinity) B.pre
  have ht : ∀ w ∈ gw_tbl, w.before _ s = true := fun w h => hts w (List.mem_cons_of_mem _ h)
  have hown : s.vm.findClass "NumberProbeModel" = some m.cls := findClass_of_methodNamed B.named
  have hlocks := B.notSynchronized
  have hl := lv_entry ([.int p0]) (n := 1) (Nat.le_of_ble_eq_true rfl)
  rw [lg_entry_eq]
  generalize (lg_sl ([.int p0]) ++ List.replicate (1 - (lg_sl ([.int p0])).length) Slot.unset).toArray = ls at hl ⊢
  have hl : lv_has ls 1 [(0, .int p0)] := hl
  refine lv_iload_n hx hb md_M_infinity_0 rfl (lv_at hl 0 rfl) ?_
  refine lv_if_ne (tgt := 10) hx hb md_M_infinity_1 (by decide) (fun c_1 => ?_) (fun c_1 => ?_)
  · refine lv_ldc2 (v := 9218868437227405312) hx hb hown (ht _ tm_381) md_M_infinity_10 ?_
    have hq : 9218868437227405312 = rf_if p0 := by simp [rf_if, c_1]
    exact W.lret (v := 9218868437227405312) hx hb hr (fun t ht2 _ => ⟨9218868437227405312, rfl, hq, ht2⟩) (fun q h => by cases h) md_M_infinity_13
  · refine lv_ldc2 (v := 2139095040) hx hb hown (ht _ tm_380) md_M_infinity_4 ?_
    refine lv_goto (tgt := 13) hx hb md_M_infinity_7 (by decide) ?_
    have hq : 2139095040 = rf_if p0 := by simp [rf_if, c_1]
    exact W.lret (v := 2139095040) hx hb hr (fun t ht2 _ => ⟨2139095040, rfl, hq, ht2⟩) (fun q h => by cases h) md_M_infinity_13
set_option maxHeartbeats 4000000 in
set_option maxRecDepth 100000 in
theorem mt_M_nan (l : Launch) (p0 : Int32) : Met l my_M_nan mw_M_nan ({ frames := 0, cells := 0, slots := 0, locals := 0 } : Room) (va_Pc [.int p0] (fun _ => True)) (vp_Sl (fun r => r = rf_na p0)) 0 0 (fun _ => False) := by
  refine Met.ofW (cc := mc_M_nan) (maxL := 1) (ret := (some .long)) (by decide) rfl ?_
  intro p e s m args below meth c s₁ B hml hv
  obtain ⟨rfl, -⟩ := hv
  have hx := B.exec
  have hb := B.bytes
  have hr := B.returns
  have hts := atoms_spec (ws := mw_M_nan) B.pre
  have ht : ∀ w ∈ gw_tbl, w.before _ s = true := fun w h => hts w (List.mem_cons_of_mem _ h)
  have hown : s.vm.findClass "NumberProbeModel" = some m.cls := findClass_of_methodNamed B.named
  have hlocks := B.notSynchronized
  have hl := lv_entry ([.int p0]) (n := 1) (Nat.le_of_ble_eq_true rfl)
  rw [lg_entry_eq]
  generalize (lg_sl ([.int p0]) ++ List.replicate (1 - (lg_sl ([.int p0])).length) Slot.unset).toArray = ls at hl ⊢
  have hl : lv_has ls 1 [(0, .int p0)] := hl
  refine lv_iload_n hx hb md_M_nan_0 rfl (lv_at hl 0 rfl) ?_
  refine lv_if_ne (tgt := 10) hx hb md_M_nan_1 (by decide) (fun c_1 => ?_) (fun c_1 => ?_)
  · refine lv_ldc2 (v := 9221120237041090560) hx hb hown (ht _ tm_386) md_M_nan_10 ?_
    have hq : 9221120237041090560 = rf_na p0 := by simp [rf_na, c_1]
    exact W.lret (v := 9221120237041090560) hx hb hr (fun t ht2 _ => ⟨9221120237041090560, rfl, hq, ht2⟩) (fun q h => by cases h) md_M_nan_13
  · refine lv_ldc2 (v := 2143289344) hx hb hown (ht _ tm_385) md_M_nan_4 ?_
    refine lv_goto (tgt := 13) hx hb md_M_nan_7 (by decide) ?_
    have hq : 2143289344 = rf_na p0 := by simp [rf_na, c_1]
    exact W.lret (v := 2143289344) hx hb hr (fun t ht2 _ => ⟨2143289344, rfl, hq, ht2⟩) (fun q h => by cases h) md_M_nan_13
set_option maxHeartbeats 4000000 in
set_option maxRecDepth 100000 in
theorem mt_M_isSign (l : Launch) (p0 : Int32) (p1 : Int64) : Met l my_M_isSign mw_M_isSign ({ frames := 1, cells := 0, slots := 0, locals := 20 } : Room) (va_Pc [.int p0, .long p1] (fun _ => True)) (vp_Si (fun r => r = jb (rf_isS p0 p1))) 0 0 (fun _ => False) := by
  refine Met.ofW (cc := mc_M_isSign) (maxL := 3) (ret := (some .boolean)) (by decide) rfl ?_
  intro p e s m args below meth c s₁ B hml hv
  obtain ⟨rfl, -⟩ := hv
  have hx := B.exec
  have hb := B.bytes
  have hr := B.returns
  have hts := atoms_spec (ws := mw_M_isSign) B.pre
  have ht : ∀ w ∈ gw_tbl, w.before _ s = true := fun w h => hts w (List.mem_cons_of_mem _ h)
  have hown : s.vm.findClass "NumberProbeModel" = some m.cls := findClass_of_methodNamed B.named
  have hlocks := B.notSynchronized
  have hl := lv_entry ([.int p0, .long p1]) (n := 3) (Nat.le_of_ble_eq_true rfl)
  rw [lg_entry_eq]
  generalize (lg_sl ([.int p0, .long p1]) ++ List.replicate (3 - (lg_sl ([.int p0, .long p1])).length) Slot.unset).toArray = ls at hl ⊢
  have hl : lv_has ls 3 [(0, .int p0), (1, .long p1)] := hl
  refine lv_lload_n hx hb md_M_isSign_0 rfl (lv_at hl 1 rfl) ?_
  refine lv_iload_n hx hb md_M_isSign_1 rfl (lv_at hl 0 rfl) ?_
  refine vp_callSl (W.runS (As := [.int p0]) (rest := [.long p1]) ⟨hx, hb, hml, hown, hts⟩ (mt_M_signBit l p0) (va_cwS 1 hts (gd_S tm_372 tm_373 tm_25 tm_374) rfl rfl rfl (by decide +kernel) ⟨Nat.le_of_ble_eq_true rfl, Nat.le_of_ble_eq_true rfl⟩) ⟨fb_0, fun U hU hW => ⟨rfl, trivial⟩⟩ rfl rfl hl.1 rfl (lv_room (Nat.le_of_ble_eq_true rfl)) md_M_isSign_2 ⟨Nat.zero_le _, Nat.zero_le _⟩) (fun r_1 e_2 => ?_)
  obtain rfl : r_1 = rf_sb p0 := e_2
  refine lv_land hx hb md_M_isSign_5 ?_
  refine lv_lconst (v := 0) hx hb md_M_isSign_6 (by decide) ?_
  refine W.lcmp hx hb md_M_isSign_7 ?_
  refine lv_if_eq (tgt := 15) hx hb md_M_isSign_8 (by decide) (fun c_3 => ?_) (fun c_3 => ?_)
  · refine lv_iconst (v := 0) hx hb md_M_isSign_15 (by decide) ?_
    have hq : 0 = jb (rf_isS p0 p1) := by simp [rf_isS, jb, ((lg_cmp_eq _ _).mp c_3)]
    exact W.zret (v := 0) (ty := .boolean) hx hb hr (by rw [hq]; cases (rf_isS p0 p1) <;> rfl) (fun t ht2 _ => ⟨0, rfl, hq, ht2⟩) (fun q h => by cases h) md_M_isSign_16
  · refine lv_iconst (v := 1) hx hb md_M_isSign_11 (by decide) ?_
    refine lv_goto (tgt := 16) hx hb md_M_isSign_12 (by decide) ?_
    have hq : 1 = jb (rf_isS p0 p1) := by simp [rf_isS, jb, (mt (lg_cmp_eq _ _).mpr c_3)]
    exact W.zret (v := 1) (ty := .boolean) hx hb hr (by rw [hq]; cases (rf_isS p0 p1) <;> rfl) (fun t ht2 _ => ⟨1, rfl, hq, ht2⟩) (fun q h => by cases h) md_M_isSign_16
set_option maxHeartbeats 4000000 in
set_option maxRecDepth 100000 in
theorem mt_M_size (l : Launch) (p0 : Int32) (p1 : Int64) : Met l my_M_size mw_M_size ({ frames := 1, cells := 0, slots := 0, locals := 20 } : Room) (va_Pc [.int p0, .long p1] (fun _ => True)) (vp_Sl (fun r => r = rf_siz p0 p1)) 0 0 (fun _ => False) := by
  refine Met.ofW (cc := mc_M_size) (maxL := 3) (ret := (some .long)) (by decide) rfl ?_
  intro p e s m args below meth c s₁ B hml hv
  obtain ⟨rfl, -⟩ := hv
  have hx := B.exec
  have hb := B.bytes
  have hr := B.returns
  have hts := atoms_spec (ws := mw_M_size) B.pre
  have ht : ∀ w ∈ gw_tbl, w.before _ s = true := fun w h => hts w (List.mem_cons_of_mem _ h)
  have hown : s.vm.findClass "NumberProbeModel" = some m.cls := findClass_of_methodNamed B.named
  have hlocks := B.notSynchronized
  have hl := lv_entry ([.int p0, .long p1]) (n := 3) (Nat.le_of_ble_eq_true rfl)
  rw [lg_entry_eq]
  generalize (lg_sl ([.int p0, .long p1]) ++ List.replicate (3 - (lg_sl ([.int p0, .long p1])).length) Slot.unset).toArray = ls at hl ⊢
  have hl : lv_has ls 3 [(0, .int p0), (1, .long p1)] := hl
  refine lv_lload_n hx hb md_M_size_0 rfl (lv_at hl 1 rfl) ?_
  refine lv_iload_n hx hb md_M_size_1 rfl (lv_at hl 0 rfl) ?_
  refine vp_callSl (W.runS (As := [.int p0]) (rest := [.long p1]) ⟨hx, hb, hml, hown, hts⟩ (mt_M_signBit l p0) (va_cwS 1 hts (gd_S tm_372 tm_373 tm_25 tm_374) rfl rfl rfl (by decide +kernel) ⟨Nat.le_of_ble_eq_true rfl, Nat.le_of_ble_eq_true rfl⟩) ⟨fb_0, fun U hU hW => ⟨rfl, trivial⟩⟩ rfl rfl hl.1 rfl (lv_room (Nat.le_of_ble_eq_true rfl)) md_M_size_2 ⟨Nat.zero_le _, Nat.zero_le _⟩) (fun r_1 e_2 => ?_)
  obtain rfl : r_1 = rf_sb p0 := e_2
  refine lv_lconst (v := 1) hx hb md_M_size_5 (by decide) ?_
  refine lv_lsub hx hb md_M_size_6 ?_
  refine lv_land hx hb md_M_size_7 ?_
  have hq : p1 &&& ((rf_sb p0) - 1) = rf_siz p0 p1 := by simp [rf_siz]
  exact W.lret (v := p1 &&& ((rf_sb p0) - 1)) hx hb hr (fun t ht2 _ => ⟨(p1 &&& ((rf_sb p0) - 1)), rfl, hq, ht2⟩) (fun q h => by cases h) md_M_size_8
set_option maxHeartbeats 4000000 in
set_option maxRecDepth 100000 in
theorem mt_M_isNan (l : Launch) (p0 : Int32) (p1 : Int64) : Met l my_M_isNan mw_M_isNan ({ frames := 2, cells := 0, slots := 0, locals := 42 } : Room) (va_Pc [.int p0, .long p1] (fun _ => True)) (vp_Si (fun r => r = jb (rf_isN p0 p1))) 0 0 (fun _ => False) := by
  refine Met.ofW (cc := mc_M_isNan) (maxL := 3) (ret := (some .boolean)) (by decide) rfl ?_
  intro p e s m args below meth c s₁ B hml hv
  obtain ⟨rfl, -⟩ := hv
  have hx := B.exec
  have hb := B.bytes
  have hr := B.returns
  have hts := atoms_spec (ws := mw_M_isNan) B.pre
  have ht : ∀ w ∈ gw_tbl, w.before _ s = true := fun w h => hts w (List.mem_cons_of_mem _ h)
  have hown : s.vm.findClass "NumberProbeModel" = some m.cls := findClass_of_methodNamed B.named
  have hlocks := B.notSynchronized
  have hl := lv_entry ([.int p0, .long p1]) (n := 3) (Nat.le_of_ble_eq_true rfl)
  rw [lg_entry_eq]
  generalize (lg_sl ([.int p0, .long p1]) ++ List.replicate (3 - (lg_sl ([.int p0, .long p1])).length) Slot.unset).toArray = ls at hl ⊢
  have hl : lv_has ls 3 [(0, .int p0), (1, .long p1)] := hl
  refine lv_iload_n hx hb md_M_isNan_0 rfl (lv_at hl 0 rfl) ?_
  refine lv_lload_n hx hb md_M_isNan_1 rfl (lv_at hl 1 rfl) ?_
  refine vp_callSl (W.runS (As := [.int p0, .long p1]) (rest := []) ⟨hx, hb, hml, hown, hts⟩ (mt_M_size l p0 p1) (va_cwS 2 hts (gd_S tm_369 tm_370 tm_25 tm_371) rfl rfl rfl (by decide +kernel) ⟨Nat.le_of_ble_eq_true rfl, Nat.le_of_ble_eq_true rfl⟩) ⟨fb_0, fun U hU hW => ⟨rfl, trivial⟩⟩ rfl rfl hl.1 rfl (lv_room (Nat.le_of_ble_eq_true rfl)) md_M_isNan_2 ⟨Nat.zero_le _, Nat.zero_le _⟩) (fun r_1 e_2 => ?_)
  obtain rfl : r_1 = rf_siz p0 p1 := e_2
  refine lv_iload_n hx hb md_M_isNan_5 rfl (lv_at hl 0 rfl) ?_
  refine vp_callSl (W.runS (As := [.int p0]) (rest := [.long (rf_siz p0 p1)]) ⟨hx, hb, hml, hown, hts⟩ (mt_M_infinity l p0) (va_cwS 1 hts (gd_S tm_377 tm_378 tm_25 tm_379) rfl rfl rfl (by decide +kernel) ⟨Nat.le_of_ble_eq_true rfl, Nat.le_of_ble_eq_true rfl⟩) ⟨fb_0, fun U hU hW => ⟨rfl, trivial⟩⟩ rfl rfl hl.1 rfl (lv_room (Nat.le_of_ble_eq_true rfl)) md_M_isNan_6 ⟨Nat.zero_le _, Nat.zero_le _⟩) (fun r_3 e_4 => ?_)
  obtain rfl : r_3 = rf_if p0 := e_4
  refine W.lcmp hx hb md_M_isNan_9 ?_
  refine lv_if_le (tgt := 17) hx hb md_M_isNan_10 (by decide) (fun c_5 => ?_) (fun c_5 => ?_)
  · refine lv_iconst (v := 0) hx hb md_M_isNan_17 (by decide) ?_
    have hq : 0 = jb (rf_isN p0 p1) := by simp [rf_isN, jb, ((lg_cmp_le _ _).mp c_5)]
    exact W.zret (v := 0) (ty := .boolean) hx hb hr (by rw [hq]; cases (rf_isN p0 p1) <;> rfl) (fun t ht2 _ => ⟨0, rfl, hq, ht2⟩) (fun q h => by cases h) md_M_isNan_18
  · refine lv_iconst (v := 1) hx hb md_M_isNan_13 (by decide) ?_
    refine lv_goto (tgt := 18) hx hb md_M_isNan_14 (by decide) ?_
    have hq : 1 = jb (rf_isN p0 p1) := by simp [rf_isN, jb, (mt (lg_cmp_le _ _).mpr c_5)]
    exact W.zret (v := 1) (ty := .boolean) hx hb hr (by rw [hq]; cases (rf_isN p0 p1) <;> rfl) (fun t ht2 _ => ⟨1, rfl, hq, ht2⟩) (fun q h => by cases h) md_M_isNan_18
set_option maxHeartbeats 4000000 in
set_option maxRecDepth 100000 in
theorem mt_M_length (l : Launch) (p0 : Int64) : Met l my_M_length mw_M_length ({ frames := 0, cells := 0, slots := 0, locals := 0 } : Room) (va_Pc [.long p0] (fun _ => True)) (vp_Si (fun _ => True)) 0 0 (fun _ => False) := by
  refine Met.ofW (cc := mc_M_length) (maxL := 4) (ret := (some .int)) (by decide) rfl ?_
  intro p e s m args below meth c s₁ B hml hv
  obtain ⟨rfl, -⟩ := hv
  have hx := B.exec
  have hb := B.bytes
  have hr := B.returns
  have hts := atoms_spec (ws := mw_M_length) B.pre
  have ht : ∀ w ∈ gw_tbl, w.before _ s = true := fun w h => hts w (List.mem_cons_of_mem _ h)
  have hown : s.vm.findClass "NumberProbeModel" = some m.cls := findClass_of_methodNamed B.named
  have hlocks := B.notSynchronized
  have hl := lv_entry ([.long p0]) (n := 4) (Nat.le_of_ble_eq_true rfl)
  rw [lg_entry_eq]
  generalize (lg_sl ([.long p0]) ++ List.replicate (4 - (lg_sl ([.long p0])).length) Slot.unset).toArray = ls at hl ⊢
  have hl : lv_has ls 4 [(0, .long p0)] := hl
  refine lv_iconst (v := 0) hx hb md_M_length_0 (by decide) ?_
  refine lv_istore_n (lv' := [(2, .int 0), (0, .long p0)]) hx hb md_M_length_1 rfl hl (by decide) rfl (fun ls hl => ?_)
  refine lv_bipush (v := 32) hx hb md_M_length_2 (by decide) ?_
  refine lv_istore_n (lv' := [(3, .int 32), (2, .int 0), (0, .long p0)]) hx hb md_M_length_4 rfl hl (by decide) rfl (fun ls hl => ?_)
  have L_1 : ∀ (n : Nat) (z_2 : Int32) (z_3 : Int32) (ls : Array Slot), z_2.toInt.toNat ≤ n → lv_has ls 4 [(3, .int z_2), (2, .int z_3), (0, .long p0)] → WP p l e mw_M_length ({ frames := 0, cells := 0, slots := 0, locals := 0 } : Room) s m [.long p0] below meth c (vp_Si (fun _ => True)) (F0 m 5 ls []) := by
    intro n
    induction n with
    | zero =>
      intro z_2 z_3 ls hn hl
      refine lv_iload_n hx hb md_M_length_5 rfl (lv_at hl 0 rfl) ?_
      refine lv_if_le (tgt := 30) hx hb md_M_length_6 (by decide) (fun c_4 => ?_) (fun c_4 => ?_)
      · refine lv_lload_n hx hb md_M_length_30 rfl (lv_at hl 2 rfl) ?_
        refine lv_lconst (v := 0) hx hb md_M_length_31 (by decide) ?_
        refine W.lcmp hx hb md_M_length_32 ?_
        have J_6 : ∀ (z_7 : Int32) (ls : Array Slot), lv_has ls 4 [(3, .int z_2), (2, .int z_3), (0, .long p0)] → WP p l e mw_M_length ({ frames := 0, cells := 0, slots := 0, locals := 0 } : Room) s m [.long p0] below meth c (vp_Si (fun _ => True)) (F0 m 43 ls [.int z_7]) := by
          intro z_7 ls hl
          exact W.iret (v := z_7) hx hb hr (fun t ht2 _ => ⟨z_7, rfl, trivial, ht2⟩) (fun q h => by cases h) md_M_length_43
        refine lv_if_ne (tgt := 40) hx hb md_M_length_33 (by decide) (fun c_5 => ?_) (fun c_5 => ?_)
        · refine lv_iload_n hx hb md_M_length_40 rfl (lv_at hl 1 rfl) ?_
          refine lv_iconst (v := 1) hx hb md_M_length_41 (by decide) ?_
          refine lv_iadd hx hb md_M_length_42 ?_
          exact J_6 (z_3 + 1) ls (lv_sub hl [0, 1, 2] rfl)
        · refine lv_iconst (v := 0) hx hb md_M_length_36 (by decide) ?_
          refine lv_goto (tgt := 43) hx hb md_M_length_37 (by decide) ?_
          exact J_6 0 ls (lv_sub hl [0, 1, 2] rfl)
      · exact (ld_0 (Int32.not_le.mp c_4) hn).elim
    | succ n ih =>
      intro z_2 z_3 ls hn hl
      refine lv_iload_n hx hb md_M_length_5 rfl (lv_at hl 0 rfl) ?_
      refine lv_if_le (tgt := 30) hx hb md_M_length_6 (by decide) (fun c_8 => ?_) (fun c_8 => ?_)
      · refine lv_lload_n hx hb md_M_length_30 rfl (lv_at hl 2 rfl) ?_
        refine lv_lconst (v := 0) hx hb md_M_length_31 (by decide) ?_
        refine W.lcmp hx hb md_M_length_32 ?_
        have J_10 : ∀ (z_11 : Int32) (ls : Array Slot), lv_has ls 4 [(3, .int z_2), (2, .int z_3), (0, .long p0)] → WP p l e mw_M_length ({ frames := 0, cells := 0, slots := 0, locals := 0 } : Room) s m [.long p0] below meth c (vp_Si (fun _ => True)) (F0 m 43 ls [.int z_11]) := by
          intro z_11 ls hl
          exact W.iret (v := z_11) hx hb hr (fun t ht2 _ => ⟨z_11, rfl, trivial, ht2⟩) (fun q h => by cases h) md_M_length_43
        refine lv_if_ne (tgt := 40) hx hb md_M_length_33 (by decide) (fun c_9 => ?_) (fun c_9 => ?_)
        · refine lv_iload_n hx hb md_M_length_40 rfl (lv_at hl 1 rfl) ?_
          refine lv_iconst (v := 1) hx hb md_M_length_41 (by decide) ?_
          refine lv_iadd hx hb md_M_length_42 ?_
          exact J_10 (z_3 + 1) ls (lv_sub hl [0, 1, 2] rfl)
        · refine lv_iconst (v := 0) hx hb md_M_length_36 (by decide) ?_
          refine lv_goto (tgt := 43) hx hb md_M_length_37 (by decide) ?_
          exact J_10 0 ls (lv_sub hl [0, 1, 2] rfl)
      · refine lv_lload_n hx hb md_M_length_9 rfl (lv_at hl 2 rfl) ?_
        refine lv_iload_n hx hb md_M_length_10 rfl (lv_at hl 1 rfl) ?_
        refine lv_iload_n hx hb md_M_length_11 rfl (lv_at hl 0 rfl) ?_
        refine lv_iadd hx hb md_M_length_12 ?_
        refine lv_lushr (v := jl_ush p0 (z_3 + z_2)) hx hb md_M_length_13 rfl ?_
        refine lv_lconst (v := 0) hx hb md_M_length_14 (by decide) ?_
        refine W.lcmp hx hb md_M_length_15 ?_
        have J_13 : ∀ (z_14 : Int32) (ls : Array Slot), lv_has ls 4 [(3, .int z_2), (2, .int z_14), (0, .long p0)] → WP p l e mw_M_length ({ frames := 0, cells := 0, slots := 0, locals := 0 } : Room) s m [.long p0] below meth c (vp_Si (fun _ => True)) (F0 m 23 ls []) := by
          intro z_14 ls hl
          refine lv_iload_n hx hb md_M_length_23 rfl (lv_at hl 0 rfl) ?_
          refine lv_iconst (v := 2) hx hb md_M_length_24 (by decide) ?_
          refine lv_idiv hx hb md_M_length_25 (by decide) ?_
          refine lv_istore_n (lv' := [(3, .int (z_2 / 2)), (2, .int z_14), (0, .long p0)]) hx hb md_M_length_26 rfl hl (by decide) rfl (fun ls hl => ?_)
          refine lv_goto (tgt := 5) hx hb md_M_length_27 (by decide) ?_
          exact ih (z_2 / 2) z_14 ls (lh_s (Int32.not_le.mp c_8) hn) (lv_sub hl [0, 1, 2] rfl)
        refine lv_if_eq (tgt := 23) hx hb md_M_length_16 (by decide) (fun c_12 => ?_) (fun c_12 => ?_)
        · exact J_13 z_3 ls (lv_sub hl [0, 1, 2] rfl)
        · refine lv_iload_n hx hb md_M_length_19 rfl (lv_at hl 1 rfl) ?_
          refine lv_iload_n hx hb md_M_length_20 rfl (lv_at hl 0 rfl) ?_
          refine lv_iadd hx hb md_M_length_21 ?_
          refine lv_istore_n (lv' := [(2, .int (z_3 + z_2)), (3, .int z_2), (0, .long p0)]) hx hb md_M_length_22 rfl hl (by decide) rfl (fun ls hl => ?_)
          exact J_13 (z_3 + z_2) ls (lv_sub hl [1, 0, 2] rfl)
  exact L_1 _ 32 0 ls (Nat.le_refl _) (lv_sub hl [0, 1, 2] rfl)
set_option maxHeartbeats 4000000 in
set_option maxRecDepth 100000 in
theorem mt_M_signed (l : Launch) (p0 : Int32) (p1 : Bool) (p2 : Int64) : Met l my_M_signed mw_M_signed ({ frames := 1, cells := 0, slots := 0, locals := 20 } : Room) (va_Pc [.int p0, .int (jb p1), .long p2] (fun _ => True)) (vp_Sl (fun _ => True)) 0 0 (fun _ => False) := by
  refine Met.ofW (cc := mc_M_signed) (maxL := 4) (ret := (some .long)) (by decide) rfl ?_
  intro p e s m args below meth c s₁ B hml hv
  obtain ⟨rfl, -⟩ := hv
  have hx := B.exec
  have hb := B.bytes
  have hr := B.returns
  have hts := atoms_spec (ws := mw_M_signed) B.pre
  have ht : ∀ w ∈ gw_tbl, w.before _ s = true := fun w h => hts w (List.mem_cons_of_mem _ h)
  have hown : s.vm.findClass "NumberProbeModel" = some m.cls := findClass_of_methodNamed B.named
  have hlocks := B.notSynchronized
  have hl := lv_entry ([.int p0, .int (jb p1), .long p2]) (n := 4) (Nat.le_of_ble_eq_true rfl)
  rw [lg_entry_eq]
  generalize (lg_sl ([.int p0, .int (jb p1), .long p2]) ++ List.replicate (4 - (lg_sl ([.int p0, .int (jb p1), .long p2])).length) Slot.unset).toArray = ls at hl ⊢
  have hl : lv_has ls 4 [(0, .int p0), (1, .int (jb p1)), (2, .long p2)] := hl
  refine lv_iload_n hx hb md_M_signed_0 rfl (lv_at hl 1 rfl) ?_
  have J_4 : ∀ (z_5 : Int64) (ls : Array Slot), lv_has ls 4 [(0, .int p0), (1, .int (jb p1)), (2, .long p2)] → WP p l e mw_M_signed ({ frames := 1, cells := 0, slots := 0, locals := 20 } : Room) s m [.int p0, .int (jb p1), .long p2] below meth c (vp_Sl (fun _ => True)) (F0 m 14 ls [.long z_5]) := by
    intro z_5 ls hl
    exact W.lret (v := z_5) hx hb hr (fun t ht2 _ => ⟨z_5, rfl, trivial, ht2⟩) (fun q h => by cases h) md_M_signed_14
  refine lv_if_eq (tgt := 13) hx hb md_M_signed_1 (by decide) (fun c_1 => ?_) (fun c_1 => ?_)
  · refine lv_lload_n hx hb md_M_signed_13 rfl (lv_at hl 2 rfl) ?_
    exact J_4 p2 ls (lv_sub hl [0, 1, 2] rfl)
  · refine lv_lload_n hx hb md_M_signed_4 rfl (lv_at hl 2 rfl) ?_
    refine lv_iload_n hx hb md_M_signed_5 rfl (lv_at hl 0 rfl) ?_
    refine vp_callSl (W.runS (As := [.int p0]) (rest := [.long p2]) ⟨hx, hb, hml, hown, hts⟩ (mt_M_signBit l p0) (va_cwS 1 hts (gd_S tm_372 tm_373 tm_25 tm_374) rfl rfl rfl (by decide +kernel) ⟨Nat.le_of_ble_eq_true rfl, Nat.le_of_ble_eq_true rfl⟩) ⟨fb_0, fun U hU hW => ⟨rfl, trivial⟩⟩ rfl rfl hl.1 rfl (lv_room (Nat.le_of_ble_eq_true rfl)) md_M_signed_6 ⟨Nat.zero_le _, Nat.zero_le _⟩) (fun r_6 e_7 => ?_)
    obtain rfl : r_6 = rf_sb p0 := e_7
    refine lv_lor hx hb md_M_signed_9 ?_
    refine lv_goto (tgt := 14) hx hb md_M_signed_10 (by decide) ?_
    exact J_4 (p2 ||| (rf_sb p0)) ls (lv_sub hl [0, 1, 2] rfl)
set_option maxHeartbeats 4000000 in
set_option maxRecDepth 100000 in
theorem mt_M_mantissa (l : Launch) (p0 : Int32) (p1 : Int64) : Met l my_M_mantissa mw_M_mantissa ({ frames := 2, cells := 0, slots := 0, locals := 42 } : Room) (va_Pc [.int p0, .long p1] (fun _ => True)) (vp_Sl (fun r => r = rf_man p0 p1)) 0 0 (fun _ => False) := by
  refine Met.ofW (cc := mc_M_mantissa) (maxL := 7) (ret := (some .long)) (by decide) rfl ?_
  intro p e s m args below meth c s₁ B hml hv
  obtain ⟨rfl, -⟩ := hv
  have hx := B.exec
  have hb := B.bytes
  have hr := B.returns
  have hts := atoms_spec (ws := mw_M_mantissa) B.pre
  have ht : ∀ w ∈ gw_tbl, w.before _ s = true := fun w h => hts w (List.mem_cons_of_mem _ h)
  have hown : s.vm.findClass "NumberProbeModel" = some m.cls := findClass_of_methodNamed B.named
  have hlocks := B.notSynchronized
  have hl := lv_entry ([.int p0, .long p1]) (n := 7) (Nat.le_of_ble_eq_true rfl)
  rw [lg_entry_eq]
  generalize (lg_sl ([.int p0, .long p1]) ++ List.replicate (7 - (lg_sl ([.int p0, .long p1])).length) Slot.unset).toArray = ls at hl ⊢
  have hl : lv_has ls 7 [(0, .int p0), (1, .long p1)] := hl
  refine lv_lconst (v := 1) hx hb md_M_mantissa_0 (by decide) ?_
  refine lv_iload_n hx hb md_M_mantissa_1 rfl (lv_at hl 0 rfl) ?_
  refine vp_callSi (W.runS (As := [.int p0]) (rest := [.long 1]) ⟨hx, hb, hml, hown, hts⟩ (mt_M_fraction l p0) (va_cwS 1 hts (gd_S tm_407 tm_408 tm_25 tm_409) rfl rfl rfl (by decide +kernel) ⟨Nat.le_of_ble_eq_true rfl, Nat.le_of_ble_eq_true rfl⟩) ⟨fb_0, fun U hU hW => ⟨rfl, trivial⟩⟩ rfl rfl hl.1 rfl (lv_room (Nat.le_of_ble_eq_true rfl)) md_M_mantissa_2 ⟨Nat.zero_le _, Nat.zero_le _⟩) (fun r_1 e_2 => ?_)
  obtain rfl : r_1 = rf_fr p0 := e_2
  refine lv_lshl (v := jl_shl 1 (rf_fr p0)) hx hb md_M_mantissa_5 rfl ?_
  refine lv_lstore_n (lv' := [(3, .long (jl_shl 1 (rf_fr p0))), (0, .int p0), (1, .long p1)]) hx hb md_M_mantissa_6 rfl hl (by decide) rfl (fun ls hl => ?_)
  refine lv_iload_n hx hb md_M_mantissa_7 rfl (lv_at hl 1 rfl) ?_
  refine lv_lload_n hx hb md_M_mantissa_8 rfl (lv_at hl 2 rfl) ?_
  refine vp_callSl (W.runS (As := [.int p0, .long p1]) (rest := []) ⟨hx, hb, hml, hown, hts⟩ (mt_M_size l p0 p1) (va_cwS 2 hts (gd_S tm_369 tm_370 tm_25 tm_371) rfl rfl rfl (by decide +kernel) ⟨Nat.le_of_ble_eq_true rfl, Nat.le_of_ble_eq_true rfl⟩) ⟨fb_0, fun U hU hW => ⟨rfl, trivial⟩⟩ rfl rfl hl.1 rfl (lv_room (Nat.le_of_ble_eq_true rfl)) md_M_mantissa_9 ⟨Nat.zero_le _, Nat.zero_le _⟩) (fun r_3 e_4 => ?_)
  obtain rfl : r_3 = rf_siz p0 p1 := e_4
  refine lv_lstore (lv' := [(5, .long (rf_siz p0 p1)), (3, .long (jl_shl 1 (rf_fr p0))), (0, .int p0), (1, .long p1)]) hx hb md_M_mantissa_12 hl (by decide) rfl (fun ls hl => ?_)
  refine lv_lload hx hb md_M_mantissa_14 (lv_at hl 0 rfl) ?_
  refine lv_lload_n hx hb md_M_mantissa_16 rfl (lv_at hl 1 rfl) ?_
  refine W.lcmp hx hb md_M_mantissa_17 ?_
  refine lv_if_ge (tgt := 26) hx hb md_M_mantissa_18 (by decide) (fun c_5 => ?_) (fun c_5 => ?_)
  · refine lv_lload hx hb md_M_mantissa_26 (lv_at hl 0 rfl) ?_
    refine lv_lload_n hx hb md_M_mantissa_28 rfl (lv_at hl 1 rfl) ?_
    refine lv_lconst (v := 1) hx hb md_M_mantissa_29 (by decide) ?_
    refine lv_lsub hx hb md_M_mantissa_30 ?_
    refine lv_land hx hb md_M_mantissa_31 ?_
    refine lv_lload_n hx hb md_M_mantissa_32 rfl (lv_at hl 1 rfl) ?_
    refine lv_lor hx hb md_M_mantissa_33 ?_
    have hq : ((rf_siz p0 p1) &&& ((jl_shl 1 (rf_fr p0)) - 1)) ||| (jl_shl 1 (rf_fr p0)) = rf_man p0 p1 := by simp [rf_man, ((lg_cmp_ge _ _).mp c_5)]
    exact W.lret (v := ((rf_siz p0 p1) &&& ((jl_shl 1 (rf_fr p0)) - 1)) ||| (jl_shl 1 (rf_fr p0))) hx hb hr (fun t ht2 _ => ⟨(((rf_siz p0 p1) &&& ((jl_shl 1 (rf_fr p0)) - 1)) ||| (jl_shl 1 (rf_fr p0))), rfl, hq, ht2⟩) (fun q h => by cases h) md_M_mantissa_34
  · refine lv_lload hx hb md_M_mantissa_21 (lv_at hl 0 rfl) ?_
    refine lv_goto (tgt := 34) hx hb md_M_mantissa_23 (by decide) ?_
    have hq : rf_siz p0 p1 = rf_man p0 p1 := by simp [rf_man, (mt (lg_cmp_ge _ _).mpr c_5)]
    exact W.lret (v := rf_siz p0 p1) hx hb hr (fun t ht2 _ => ⟨(rf_siz p0 p1), rfl, hq, ht2⟩) (fun q h => by cases h) md_M_mantissa_34
set_option maxHeartbeats 4000000 in
set_option maxRecDepth 100000 in
theorem mt_M_power (l : Launch) (p0 : Int32) (p1 : Int64) : Met l my_M_power mw_M_power ({ frames := 2, cells := 0, slots := 0, locals := 42 } : Room) (va_Pc [.int p0, .long p1] (fun _ => True)) (vp_Si (fun r => r = rf_pow p0 p1)) 0 0 (fun _ => False) := by
  refine Met.ofW (cc := mc_M_power) (maxL := 4) (ret := (some .int)) (by decide) rfl ?_
  intro p e s m args below meth c s₁ B hml hv
  obtain ⟨rfl, -⟩ := hv
  have hx := B.exec
  have hb := B.bytes
  have hr := B.returns
  have hts := atoms_spec (ws := mw_M_power) B.pre
  have ht : ∀ w ∈ gw_tbl, w.before _ s = true := fun w h => hts w (List.mem_cons_of_mem _ h)
  have hown : s.vm.findClass "NumberProbeModel" = some m.cls := findClass_of_methodNamed B.named
  have hlocks := B.notSynchronized
  have hl := lv_entry ([.int p0, .long p1]) (n := 4) (Nat.le_of_ble_eq_true rfl)
  rw [lg_entry_eq]
  generalize (lg_sl ([.int p0, .long p1]) ++ List.replicate (4 - (lg_sl ([.int p0, .long p1])).length) Slot.unset).toArray = ls at hl ⊢
  have hl : lv_has ls 4 [(0, .int p0), (1, .long p1)] := hl
  refine lv_iload_n hx hb md_M_power_0 rfl (lv_at hl 0 rfl) ?_
  refine lv_lload_n hx hb md_M_power_1 rfl (lv_at hl 1 rfl) ?_
  refine vp_callSl (W.runS (As := [.int p0, .long p1]) (rest := []) ⟨hx, hb, hml, hown, hts⟩ (mt_M_size l p0 p1) (va_cwS 2 hts (gd_S tm_369 tm_370 tm_25 tm_371) rfl rfl rfl (by decide +kernel) ⟨Nat.le_of_ble_eq_true rfl, Nat.le_of_ble_eq_true rfl⟩) ⟨fb_0, fun U hU hW => ⟨rfl, trivial⟩⟩ rfl rfl hl.1 rfl (lv_room (Nat.le_of_ble_eq_true rfl)) md_M_power_2 ⟨Nat.zero_le _, Nat.zero_le _⟩) (fun r_1 e_2 => ?_)
  obtain rfl : r_1 = rf_siz p0 p1 := e_2
  refine lv_iload_n hx hb md_M_power_5 rfl (lv_at hl 0 rfl) ?_
  refine vp_callSi (W.runS (As := [.int p0]) (rest := [.long (rf_siz p0 p1)]) ⟨hx, hb, hml, hown, hts⟩ (mt_M_fraction l p0) (va_cwS 1 hts (gd_S tm_407 tm_408 tm_25 tm_409) rfl rfl rfl (by decide +kernel) ⟨Nat.le_of_ble_eq_true rfl, Nat.le_of_ble_eq_true rfl⟩) ⟨fb_0, fun U hU hW => ⟨rfl, trivial⟩⟩ rfl rfl hl.1 rfl (lv_room (Nat.le_of_ble_eq_true rfl)) md_M_power_6 ⟨Nat.zero_le _, Nat.zero_le _⟩) (fun r_3 e_4 => ?_)
  obtain rfl : r_3 = rf_fr p0 := e_4
  refine lv_lushr (v := jl_ush (rf_siz p0 p1) (rf_fr p0)) hx hb md_M_power_9 rfl ?_
  refine lv_l2i (v := (jl_ush (rf_siz p0 p1) (rf_fr p0)).toInt32) hx hb md_M_power_10 rfl ?_
  refine lv_istore_n (lv' := [(3, .int ((jl_ush (rf_siz p0 p1) (rf_fr p0)).toInt32)), (0, .int p0), (1, .long p1)]) hx hb md_M_power_11 rfl hl (by decide) rfl (fun ls hl => ?_)
  refine lv_iload_n hx hb md_M_power_12 rfl (lv_at hl 1 rfl) ?_
  refine vp_callSi (W.runS (As := [.int p0]) (rest := []) ⟨hx, hb, hml, hown, hts⟩ (mt_M_least l p0) (va_cwS 1 hts (gd_S tm_410 tm_411 tm_25 tm_412) rfl rfl rfl (by decide +kernel) ⟨Nat.le_of_ble_eq_true rfl, Nat.le_of_ble_eq_true rfl⟩) ⟨fb_0, fun U hU hW => ⟨rfl, trivial⟩⟩ rfl rfl hl.1 rfl (lv_room (Nat.le_of_ble_eq_true rfl)) md_M_power_13 ⟨Nat.zero_le _, Nat.zero_le _⟩) (fun r_5 e_6 => ?_)
  obtain rfl : r_5 = rf_le p0 := e_6
  refine lv_iload_n hx hb md_M_power_16 rfl (lv_at hl 0 rfl) ?_
  refine lv_if_ne (tgt := 24) hx hb md_M_power_17 (by decide) (fun c_7 => ?_) (fun c_7 => ?_)
  · refine lv_iload_n hx hb md_M_power_24 rfl (lv_at hl 0 rfl) ?_
    refine lv_iconst (v := 1) hx hb md_M_power_25 (by decide) ?_
    refine lv_isub hx hb md_M_power_26 ?_
    refine lv_iadd hx hb md_M_power_27 ?_
    have hq : (rf_le p0) + (((jl_ush (rf_siz p0 p1) (rf_fr p0)).toInt32) - 1) = rf_pow p0 p1 := by simp [rf_pow, c_7]
    exact W.iret (v := (rf_le p0) + (((jl_ush (rf_siz p0 p1) (rf_fr p0)).toInt32) - 1)) hx hb hr (fun t ht2 _ => ⟨((rf_le p0) + (((jl_ush (rf_siz p0 p1) (rf_fr p0)).toInt32) - 1)), rfl, hq, ht2⟩) (fun q h => by cases h) md_M_power_28
  · refine lv_iconst (v := 0) hx hb md_M_power_20 (by decide) ?_
    refine lv_goto (tgt := 27) hx hb md_M_power_21 (by decide) ?_
    refine lv_iadd hx hb md_M_power_27 ?_
    have hq : (rf_le p0) + 0 = rf_pow p0 p1 := by simp [rf_pow, c_7]
    exact W.iret (v := (rf_le p0) + 0) hx hb hr (fun t ht2 _ => ⟨((rf_le p0) + 0), rfl, hq, ht2⟩) (fun q h => by cases h) md_M_power_28
set_option maxHeartbeats 4000000 in
set_option maxRecDepth 100000 in
theorem mt_M_round (l : Launch) (p0 : Int32) (p1 : Bool) (p2 : Int64) (p3 : Int32) : Met l my_M_round mw_M_round ({ frames := 2, cells := 0, slots := 0, locals := 43 } : Room) (va_Pc [.int p0, .int (jb p1), .long p2, .int p3] (fun _ => True)) (vp_Sl (fun _ => True)) 0 0 (fun _ => False) := by
  refine Met.ofW (cc := mc_M_round) (maxL := 13) (ret := (some .long)) (by decide) rfl ?_
  intro p e s m args below meth c s₁ B hml hv
  obtain ⟨rfl, -⟩ := hv
  have hx := B.exec
  have hb := B.bytes
  have hr := B.returns
  have hts := atoms_spec (ws := mw_M_round) B.pre
  have ht : ∀ w ∈ gw_tbl, w.before _ s = true := fun w h => hts w (List.mem_cons_of_mem _ h)
  have hown : s.vm.findClass "NumberProbeModel" = some m.cls := findClass_of_methodNamed B.named
  have hlocks := B.notSynchronized
  have hl := lv_entry ([.int p0, .int (jb p1), .long p2, .int p3]) (n := 13) (Nat.le_of_ble_eq_true rfl)
  rw [lg_entry_eq]
  generalize (lg_sl ([.int p0, .int (jb p1), .long p2, .int p3]) ++ List.replicate (13 - (lg_sl ([.int p0, .int (jb p1), .long p2, .int p3])).length) Slot.unset).toArray = ls at hl ⊢
  have hl : lv_has ls 13 [(0, .int p0), (1, .int (jb p1)), (2, .long p2), (4, .int p3)] := hl
  refine lv_lload_n hx hb md_M_round_0 rfl (lv_at hl 2 rfl) ?_
  refine lv_lconst (v := 0) hx hb md_M_round_1 (by decide) ?_
  refine W.lcmp hx hb md_M_round_2 ?_
  refine lv_if_ne (tgt := 13) hx hb md_M_round_3 (by decide) (fun c_1 => ?_) (fun c_1 => ?_)
  · refine lv_lload_n hx hb md_M_round_13 rfl (lv_at hl 2 rfl) ?_
    refine vp_callSi (W.runS (As := [.long p2]) (rest := []) ⟨hx, hb, hml, hown, hts⟩ (mt_M_length l p2) (va_cwS 1 hts (gd_S tm_404 tm_405 tm_25 tm_406) rfl rfl rfl (by decide +kernel) ⟨Nat.le_of_ble_eq_true rfl, Nat.le_of_ble_eq_true rfl⟩) ⟨fb_0, fun U hU hW => ⟨rfl, trivial⟩⟩ rfl rfl hl.1 rfl (lv_room (Nat.le_of_ble_eq_true rfl)) md_M_round_14 ⟨Nat.zero_le _, Nat.zero_le _⟩) (fun r_2 e_3 => ?_)
    refine lv_iload_n hx hb md_M_round_17 rfl (lv_at hl 0 rfl) ?_
    refine vp_callSi (W.runS (As := [.int p0]) (rest := [.int r_2]) ⟨hx, hb, hml, hown, hts⟩ (mt_M_fraction l p0) (va_cwS 1 hts (gd_S tm_407 tm_408 tm_25 tm_409) rfl rfl rfl (by decide +kernel) ⟨Nat.le_of_ble_eq_true rfl, Nat.le_of_ble_eq_true rfl⟩) ⟨fb_0, fun U hU hW => ⟨rfl, trivial⟩⟩ rfl rfl hl.1 rfl (lv_room (Nat.le_of_ble_eq_true rfl)) md_M_round_18 ⟨Nat.zero_le _, Nat.zero_le _⟩) (fun r_4 e_5 => ?_)
    obtain rfl : r_4 = rf_fr p0 := e_5
    refine lv_isub hx hb md_M_round_21 ?_
    refine lv_iconst (v := 1) hx hb md_M_round_22 (by decide) ?_
    refine lv_isub hx hb md_M_round_23 ?_
    refine lv_istore (lv' := [(5, .int ((r_2 - (rf_fr p0)) - 1)), (0, .int p0), (1, .int (jb p1)), (2, .long p2), (4, .int p3)]) hx hb md_M_round_24 hl (by decide) rfl (fun ls hl => ?_)
    refine lv_iload hx hb md_M_round_26 (lv_at hl 0 rfl) ?_
    refine lv_iload_n hx hb md_M_round_28 rfl (lv_at hl 1 rfl) ?_
    refine vp_callSi (W.runS (As := [.int p0]) (rest := [.int ((r_2 - (rf_fr p0)) - 1)]) ⟨hx, hb, hml, hown, hts⟩ (mt_M_least l p0) (va_cwS 1 hts (gd_S tm_410 tm_411 tm_25 tm_412) rfl rfl rfl (by decide +kernel) ⟨Nat.le_of_ble_eq_true rfl, Nat.le_of_ble_eq_true rfl⟩) ⟨fb_0, fun U hU hW => ⟨rfl, trivial⟩⟩ rfl rfl hl.1 rfl (lv_room (Nat.le_of_ble_eq_true rfl)) md_M_round_29 ⟨Nat.zero_le _, Nat.zero_le _⟩) (fun r_6 e_7 => ?_)
    obtain rfl : r_6 = rf_le p0 := e_7
    refine lv_iload hx hb md_M_round_32 (lv_at hl 4 rfl) ?_
    refine lv_isub hx hb md_M_round_34 ?_
    have J_11 : ∀ (z_12 : Int32) (ls : Array Slot), lv_has ls 13 [(5, .int z_12), (0, .int p0), (1, .int (jb p1)), (2, .long p2), (4, .int p3)] → WP p l e mw_M_round ({ frames := 2, cells := 0, slots := 0, locals := 43 } : Room) s m [.int p0, .int (jb p1), .long p2, .int p3] below meth c (vp_Sl (fun _ => True)) (F0 m 47 ls []) := by
      intro z_12 ls hl
      refine lv_iload hx hb md_M_round_47 (lv_at hl 0 rfl) ?_
      refine lv_bipush (v := 63) hx hb md_M_round_49 (by decide) ?_
      refine lv_icmp_le (tgt := 61) hx hb md_M_round_51 (by decide) (fun c_13 => ?_) (fun c_13 => ?_)
      · refine lv_lload_n hx hb md_M_round_61 rfl (lv_at hl 3 rfl) ?_
        refine lv_lstore (lv' := [(6, .long p2), (5, .int z_12), (0, .int p0), (1, .int (jb p1)), (2, .long p2), (4, .int p3)]) hx hb md_M_round_62 hl (by decide) rfl (fun ls hl => ?_)
        refine lv_iload hx hb md_M_round_64 (lv_at hl 1 rfl) ?_
        have J_36 : ∀ (z_37 : Int64) (ls : Array Slot), lv_has ls 13 [(6, .long z_37), (5, .int z_12), (0, .int p0), (1, .int (jb p1)), (2, .long p2), (4, .int p3)] → WP p l e mw_M_round ({ frames := 2, cells := 0, slots := 0, locals := 43 } : Room) s m [.int p0, .int (jb p1), .long p2, .int p3] below meth c (vp_Sl (fun _ => True)) (F0 m 133 ls []) := by
          intro z_37 ls hl
          refine lv_iload hx hb md_M_round_133 (lv_at hl 5 rfl) ?_
          refine lv_iload hx hb md_M_round_135 (lv_at hl 1 rfl) ?_
          refine lv_iadd hx hb md_M_round_137 ?_
          refine lv_iload_n hx hb md_M_round_138 rfl (lv_at hl 2 rfl) ?_
          refine vp_callSi (W.runS (As := [.int p0]) (rest := [.int (p3 + z_12)]) ⟨hx, hb, hml, hown, hts⟩ (mt_M_least l p0) (va_cwS 1 hts (gd_S tm_410 tm_411 tm_25 tm_412) rfl rfl rfl (by decide +kernel) ⟨Nat.le_of_ble_eq_true rfl, Nat.le_of_ble_eq_true rfl⟩) ⟨fb_0, fun U hU hW => ⟨rfl, trivial⟩⟩ rfl rfl hl.1 rfl (lv_room (Nat.le_of_ble_eq_true rfl)) md_M_round_139 ⟨Nat.zero_le _, Nat.zero_le _⟩) (fun r_38 e_39 => ?_)
          obtain rfl : r_38 = rf_le p0 := e_39
          refine lv_isub hx hb md_M_round_142 ?_
          refine lv_istore (lv' := [(8, .int ((p3 + z_12) - (rf_le p0))), (6, .long z_37), (5, .int z_12), (0, .int p0), (1, .int (jb p1)), (2, .long p2), (4, .int p3)]) hx hb md_M_round_143 hl (by decide) rfl (fun ls hl => ?_)
          refine lv_iload hx hb md_M_round_145 (lv_at hl 0 rfl) ?_
          refine lv_sipush (v := 3000) hx hb md_M_round_147 (by decide) ?_
          refine lv_icmp_le (tgt := 163) hx hb md_M_round_150 (by decide) (fun c_40 => ?_) (fun c_40 => ?_)
          · refine lv_iload_n hx hb md_M_round_163 rfl (lv_at hl 3 rfl) ?_
            refine vp_callSl (W.runS (As := [.int p0]) (rest := []) ⟨hx, hb, hml, hown, hts⟩ (mt_M_infinity l p0) (va_cwS 1 hts (gd_S tm_377 tm_378 tm_25 tm_379) rfl rfl rfl (by decide +kernel) ⟨Nat.le_of_ble_eq_true rfl, Nat.le_of_ble_eq_true rfl⟩) ⟨fb_0, fun U hU hW => ⟨rfl, trivial⟩⟩ rfl rfl hl.1 rfl (lv_room (Nat.le_of_ble_eq_true rfl)) md_M_round_164 ⟨Nat.zero_le _, Nat.zero_le _⟩) (fun r_41 e_42 => ?_)
            obtain rfl : r_41 = rf_if p0 := e_42
            refine lv_iload_n hx hb md_M_round_167 rfl (lv_at hl 3 rfl) ?_
            refine vp_callSi (W.runS (As := [.int p0]) (rest := [.long (rf_if p0)]) ⟨hx, hb, hml, hown, hts⟩ (mt_M_fraction l p0) (va_cwS 1 hts (gd_S tm_407 tm_408 tm_25 tm_409) rfl rfl rfl (by decide +kernel) ⟨Nat.le_of_ble_eq_true rfl, Nat.le_of_ble_eq_true rfl⟩) ⟨fb_0, fun U hU hW => ⟨rfl, trivial⟩⟩ rfl rfl hl.1 rfl (lv_room (Nat.le_of_ble_eq_true rfl)) md_M_round_168 ⟨Nat.zero_le _, Nat.zero_le _⟩) (fun r_43 e_44 => ?_)
            obtain rfl : r_43 = rf_fr p0 := e_44
            refine lv_lushr (v := jl_ush (rf_if p0) (rf_fr p0)) hx hb md_M_round_171 rfl ?_
            refine lv_lstore (lv' := [(9, .long (jl_ush (rf_if p0) (rf_fr p0))), (8, .int ((p3 + z_12) - (rf_le p0))), (6, .long z_37), (5, .int z_12), (0, .int p0), (1, .int (jb p1)), (2, .long p2), (4, .int p3)]) hx hb md_M_round_172 hl (by decide) rfl (fun ls hl => ?_)
            refine lv_iload hx hb md_M_round_174 (lv_at hl 1 rfl) ?_
            refine lv_i2l (v := ((p3 + z_12) - (rf_le p0)).toInt64) hx hb md_M_round_176 rfl ?_
            refine lv_lload hx hb md_M_round_177 (lv_at hl 0 rfl) ?_
            refine W.lcmp hx hb md_M_round_179 ?_
            refine lv_if_lt (tgt := 193) hx hb md_M_round_180 (by decide) (fun c_45 => ?_) (fun c_45 => ?_)
            · refine lv_iload hx hb md_M_round_193 (lv_at hl 1 rfl) ?_
              refine lv_i2l (v := ((p3 + z_12) - (rf_le p0)).toInt64) hx hb md_M_round_195 rfl ?_
              refine lv_iload_n hx hb md_M_round_196 rfl (lv_at hl 4 rfl) ?_
              refine vp_callSi (W.runS (As := [.int p0]) (rest := [.long (((p3 + z_12) - (rf_le p0)).toInt64)]) ⟨hx, hb, hml, hown, hts⟩ (mt_M_fraction l p0) (va_cwS 1 hts (gd_S tm_407 tm_408 tm_25 tm_409) rfl rfl rfl (by decide +kernel) ⟨Nat.le_of_ble_eq_true rfl, Nat.le_of_ble_eq_true rfl⟩) ⟨fb_0, fun U hU hW => ⟨rfl, trivial⟩⟩ rfl rfl hl.1 rfl (lv_room (Nat.le_of_ble_eq_true rfl)) md_M_round_197 ⟨Nat.zero_le _, Nat.zero_le _⟩) (fun r_46 e_47 => ?_)
              obtain rfl : r_46 = rf_fr p0 := e_47
              refine lv_lshl (v := jl_shl (((p3 + z_12) - (rf_le p0)).toInt64) (rf_fr p0)) hx hb md_M_round_200 rfl ?_
              refine lv_lload hx hb md_M_round_201 (lv_at hl 2 rfl) ?_
              refine lv_ladd hx hb md_M_round_203 ?_
              refine lv_lstore (lv' := [(11, .long ((jl_shl (((p3 + z_12) - (rf_le p0)).toInt64) (rf_fr p0)) + z_37)), (9, .long (jl_ush (rf_if p0) (rf_fr p0))), (8, .int ((p3 + z_12) - (rf_le p0))), (6, .long z_37), (5, .int z_12), (0, .int p0), (1, .int (jb p1)), (2, .long p2), (4, .int p3)]) hx hb md_M_round_204 hl (by decide) rfl (fun ls hl => ?_)
              refine lv_iload_n hx hb md_M_round_206 rfl (lv_at hl 5 rfl) ?_
              refine lv_iload_n hx hb md_M_round_207 rfl (lv_at hl 6 rfl) ?_
              refine lv_lload hx hb md_M_round_208 (lv_at hl 0 rfl) ?_
              refine lv_iload_n hx hb md_M_round_210 rfl (lv_at hl 5 rfl) ?_
              refine vp_callSl (W.runS (As := [.int p0]) (rest := [.long ((jl_shl (((p3 + z_12) - (rf_le p0)).toInt64) (rf_fr p0)) + z_37), .int (jb p1), .int p0]) ⟨hx, hb, hml, hown, hts⟩ (mt_M_infinity l p0) (va_cwS 1 hts (gd_S tm_377 tm_378 tm_25 tm_379) rfl rfl rfl (by decide +kernel) ⟨Nat.le_of_ble_eq_true rfl, Nat.le_of_ble_eq_true rfl⟩) ⟨fb_0, fun U hU hW => ⟨rfl, trivial⟩⟩ rfl rfl hl.1 rfl (lv_room (Nat.le_of_ble_eq_true rfl)) md_M_round_211 ⟨Nat.zero_le _, Nat.zero_le _⟩) (fun r_48 e_49 => ?_)
              obtain rfl : r_48 = rf_if p0 := e_49
              refine W.lcmp hx hb md_M_round_214 ?_
              have J_53 : ∀ (z_54 : Int64) (ls : Array Slot), lv_has ls 13 [(11, .long ((jl_shl (((p3 + z_12) - (rf_le p0)).toInt64) (rf_fr p0)) + z_37)), (9, .long (jl_ush (rf_if p0) (rf_fr p0))), (8, .int ((p3 + z_12) - (rf_le p0))), (6, .long z_37), (5, .int z_12), (0, .int p0), (1, .int (jb p1)), (2, .long p2), (4, .int p3)] → WP p l e mw_M_round ({ frames := 2, cells := 0, slots := 0, locals := 43 } : Room) s m [.int p0, .int (jb p1), .long p2, .int p3] below meth c (vp_Sl (fun _ => True)) (F0 m 227 ls [.long z_54, .int (jb p1), .int p0]) := by
                intro z_54 ls hl
                refine vp_callSl (W.runS (As := [.int p0, .int (jb p1), .long z_54]) (rest := []) ⟨hx, hb, hml, hown, hts⟩ (mt_M_signed l p0 p1 z_54) (va_cwS 3 hts (gd_S tm_401 tm_402 tm_25 tm_403) rfl rfl rfl (by decide +kernel) ⟨Nat.le_of_ble_eq_true rfl, Nat.le_of_ble_eq_true rfl⟩) ⟨fb_0, fun U hU hW => ⟨rfl, trivial⟩⟩ rfl rfl hl.1 rfl (lv_room (Nat.le_of_ble_eq_true rfl)) md_M_round_227 ⟨Nat.zero_le _, Nat.zero_le _⟩) (fun r_55 e_56 => ?_)
                exact W.lret (v := r_55) hx hb hr (fun t ht2 _ => ⟨r_55, rfl, trivial, ht2⟩) (fun q h => by cases h) md_M_round_230
              refine lv_if_le (tgt := 225) hx hb md_M_round_215 (by decide) (fun c_50 => ?_) (fun c_50 => ?_)
              · refine lv_lload hx hb md_M_round_225 (lv_at hl 0 rfl) ?_
                exact J_53 ((jl_shl (((p3 + z_12) - (rf_le p0)).toInt64) (rf_fr p0)) + z_37) ls (lv_sub hl [0, 1, 2, 3, 4, 5, 6, 7, 8] rfl)
              · refine lv_iload_n hx hb md_M_round_218 rfl (lv_at hl 5 rfl) ?_
                refine vp_callSl (W.runS (As := [.int p0]) (rest := [.int (jb p1), .int p0]) ⟨hx, hb, hml, hown, hts⟩ (mt_M_infinity l p0) (va_cwS 1 hts (gd_S tm_377 tm_378 tm_25 tm_379) rfl rfl rfl (by decide +kernel) ⟨Nat.le_of_ble_eq_true rfl, Nat.le_of_ble_eq_true rfl⟩) ⟨fb_0, fun U hU hW => ⟨rfl, trivial⟩⟩ rfl rfl hl.1 rfl (lv_room (Nat.le_of_ble_eq_true rfl)) md_M_round_219 ⟨Nat.zero_le _, Nat.zero_le _⟩) (fun r_57 e_58 => ?_)
                obtain rfl : r_57 = rf_if p0 := e_58
                refine lv_goto (tgt := 227) hx hb md_M_round_222 (by decide) ?_
                exact J_53 (rf_if p0) ls (lv_sub hl [0, 1, 2, 3, 4, 5, 6, 7, 8] rfl)
            · refine lv_iload_n hx hb md_M_round_183 rfl (lv_at hl 4 rfl) ?_
              refine lv_iload_n hx hb md_M_round_184 rfl (lv_at hl 5 rfl) ?_
              refine lv_iload_n hx hb md_M_round_185 rfl (lv_at hl 4 rfl) ?_
              refine vp_callSl (W.runS (As := [.int p0]) (rest := [.int (jb p1), .int p0]) ⟨hx, hb, hml, hown, hts⟩ (mt_M_infinity l p0) (va_cwS 1 hts (gd_S tm_377 tm_378 tm_25 tm_379) rfl rfl rfl (by decide +kernel) ⟨Nat.le_of_ble_eq_true rfl, Nat.le_of_ble_eq_true rfl⟩) ⟨fb_0, fun U hU hW => ⟨rfl, trivial⟩⟩ rfl rfl hl.1 rfl (lv_room (Nat.le_of_ble_eq_true rfl)) md_M_round_186 ⟨Nat.zero_le _, Nat.zero_le _⟩) (fun r_59 e_60 => ?_)
              obtain rfl : r_59 = rf_if p0 := e_60
              refine vp_callSl (W.runS (As := [.int p0, .int (jb p1), .long (rf_if p0)]) (rest := []) ⟨hx, hb, hml, hown, hts⟩ (mt_M_signed l p0 p1 (rf_if p0)) (va_cwS 3 hts (gd_S tm_401 tm_402 tm_25 tm_403) rfl rfl rfl (by decide +kernel) ⟨Nat.le_of_ble_eq_true rfl, Nat.le_of_ble_eq_true rfl⟩) ⟨fb_0, fun U hU hW => ⟨rfl, trivial⟩⟩ rfl rfl hl.1 rfl (lv_room (Nat.le_of_ble_eq_true rfl)) md_M_round_189 ⟨Nat.zero_le _, Nat.zero_le _⟩) (fun r_61 e_62 => ?_)
              exact W.lret (v := r_61) hx hb hr (fun t ht2 _ => ⟨r_61, rfl, trivial, ht2⟩) (fun q h => by cases h) md_M_round_192
          · refine lv_iload_n hx hb md_M_round_153 rfl (lv_at hl 3 rfl) ?_
            refine lv_iload_n hx hb md_M_round_154 rfl (lv_at hl 4 rfl) ?_
            refine lv_iload_n hx hb md_M_round_155 rfl (lv_at hl 3 rfl) ?_
            refine vp_callSl (W.runS (As := [.int p0]) (rest := [.int (jb p1), .int p0]) ⟨hx, hb, hml, hown, hts⟩ (mt_M_infinity l p0) (va_cwS 1 hts (gd_S tm_377 tm_378 tm_25 tm_379) rfl rfl rfl (by decide +kernel) ⟨Nat.le_of_ble_eq_true rfl, Nat.le_of_ble_eq_true rfl⟩) ⟨fb_0, fun U hU hW => ⟨rfl, trivial⟩⟩ rfl rfl hl.1 rfl (lv_room (Nat.le_of_ble_eq_true rfl)) md_M_round_156 ⟨Nat.zero_le _, Nat.zero_le _⟩) (fun r_63 e_64 => ?_)
            obtain rfl : r_63 = rf_if p0 := e_64
            refine vp_callSl (W.runS (As := [.int p0, .int (jb p1), .long (rf_if p0)]) (rest := []) ⟨hx, hb, hml, hown, hts⟩ (mt_M_signed l p0 p1 (rf_if p0)) (va_cwS 3 hts (gd_S tm_401 tm_402 tm_25 tm_403) rfl rfl rfl (by decide +kernel) ⟨Nat.le_of_ble_eq_true rfl, Nat.le_of_ble_eq_true rfl⟩) ⟨fb_0, fun U hU hW => ⟨rfl, trivial⟩⟩ rfl rfl hl.1 rfl (lv_room (Nat.le_of_ble_eq_true rfl)) md_M_round_159 ⟨Nat.zero_le _, Nat.zero_le _⟩) (fun r_65 e_66 => ?_)
            exact W.lret (v := r_65) hx hb hr (fun t ht2 _ => ⟨r_65, rfl, trivial, ht2⟩) (fun q h => by cases h) md_M_round_162
        refine lv_if_gt (tgt := 79) hx hb md_M_round_66 (by decide) (fun c_14 => ?_) (fun c_14 => ?_)
        · refine lv_lload_n hx hb md_M_round_79 rfl (lv_at hl 4 rfl) ?_
          refine lv_iload hx hb md_M_round_80 (lv_at hl 1 rfl) ?_
          refine lv_lushr (v := jl_ush p2 z_12) hx hb md_M_round_82 rfl ?_
          refine lv_lstore (lv' := [(6, .long (jl_ush p2 z_12)), (5, .int z_12), (0, .int p0), (1, .int (jb p1)), (2, .long p2), (4, .int p3)]) hx hb md_M_round_83 hl (by decide) rfl (fun ls hl => ?_)
          refine lv_lload_n hx hb md_M_round_85 rfl (lv_at hl 4 rfl) ?_
          refine lv_lload hx hb md_M_round_86 (lv_at hl 0 rfl) ?_
          refine lv_iload hx hb md_M_round_88 (lv_at hl 1 rfl) ?_
          refine lv_lshl (v := jl_shl (jl_ush p2 z_12) z_12) hx hb md_M_round_90 rfl ?_
          refine lv_lsub hx hb md_M_round_91 ?_
          refine lv_lstore (lv' := [(8, .long (p2 - (jl_shl (jl_ush p2 z_12) z_12))), (6, .long (jl_ush p2 z_12)), (5, .int z_12), (0, .int p0), (1, .int (jb p1)), (2, .long p2), (4, .int p3)]) hx hb md_M_round_92 hl (by decide) rfl (fun ls hl => ?_)
          refine lv_lconst (v := 1) hx hb md_M_round_94 (by decide) ?_
          refine lv_iload hx hb md_M_round_95 (lv_at hl 2 rfl) ?_
          refine lv_iconst (v := 1) hx hb md_M_round_97 (by decide) ?_
          refine lv_isub hx hb md_M_round_98 ?_
          refine lv_lshl (v := jl_shl 1 (z_12 - 1)) hx hb md_M_round_99 rfl ?_
          refine lv_lstore (lv' := [(10, .long (jl_shl 1 (z_12 - 1))), (8, .long (p2 - (jl_shl (jl_ush p2 z_12) z_12))), (6, .long (jl_ush p2 z_12)), (5, .int z_12), (0, .int p0), (1, .int (jb p1)), (2, .long p2), (4, .int p3)]) hx hb md_M_round_100 hl (by decide) rfl (fun ls hl => ?_)
          refine lv_lload hx hb md_M_round_102 (lv_at hl 1 rfl) ?_
          refine lv_lload hx hb md_M_round_104 (lv_at hl 0 rfl) ?_
          refine W.lcmp hx hb md_M_round_106 ?_
          have J_77 : ∀ (z_78 : Int64) (ls : Array Slot), lv_has ls 13 [(6, .long z_78), (10, .long (jl_shl 1 (z_12 - 1))), (8, .long (p2 - (jl_shl (jl_ush p2 z_12) z_12))), (5, .int z_12), (0, .int p0), (1, .int (jb p1)), (2, .long p2), (4, .int p3)] → WP p l e mw_M_round ({ frames := 2, cells := 0, slots := 0, locals := 43 } : Room) s m [.int p0, .int (jb p1), .long p2, .int p3] below meth c (vp_Sl (fun _ => True)) (F0 m 133 ls []) := by
            intro z_78 ls hl
            exact J_36 z_78 ls (lv_sub hl [0, 3, 4, 5, 6, 7] rfl)
          refine lv_if_gt (tgt := 127) hx hb md_M_round_107 (by decide) (fun c_67 => ?_) (fun c_67 => ?_)
          · refine lv_lload hx hb md_M_round_127 (lv_at hl 2 rfl) ?_
            refine lv_lconst (v := 1) hx hb md_M_round_129 (by decide) ?_
            refine lv_ladd hx hb md_M_round_130 ?_
            refine lv_lstore (lv' := [(6, .long ((jl_ush p2 z_12) + 1)), (10, .long (jl_shl 1 (z_12 - 1))), (8, .long (p2 - (jl_shl (jl_ush p2 z_12) z_12))), (5, .int z_12), (0, .int p0), (1, .int (jb p1)), (2, .long p2), (4, .int p3)]) hx hb md_M_round_131 hl (by decide) rfl (fun ls hl => ?_)
            exact J_77 ((jl_ush p2 z_12) + 1) ls (lv_sub hl [0, 1, 2, 3, 4, 5, 6, 7] rfl)
          · refine lv_lload hx hb md_M_round_110 (lv_at hl 1 rfl) ?_
            refine lv_lload hx hb md_M_round_112 (lv_at hl 0 rfl) ?_
            refine W.lcmp hx hb md_M_round_114 ?_
            have J_83 : ∀ (z_84 : Int64) (ls : Array Slot), lv_has ls 13 [(10, .long (jl_shl 1 (z_12 - 1))), (8, .long (p2 - (jl_shl (jl_ush p2 z_12) z_12))), (6, .long z_84), (5, .int z_12), (0, .int p0), (1, .int (jb p1)), (2, .long p2), (4, .int p3)] → WP p l e mw_M_round ({ frames := 2, cells := 0, slots := 0, locals := 43 } : Room) s m [.int p0, .int (jb p1), .long p2, .int p3] below meth c (vp_Sl (fun _ => True)) (F0 m 133 ls []) := by
              intro z_84 ls hl
              exact J_77 z_84 ls (lv_sub hl [2, 0, 1, 3, 4, 5, 6, 7] rfl)
            refine lv_if_ne (tgt := 133) hx hb md_M_round_115 (by decide) (fun c_79 => ?_) (fun c_79 => ?_)
            · exact J_83 (jl_ush p2 z_12) ls (lv_sub hl [0, 1, 2, 3, 4, 5, 6, 7] rfl)
            · refine lv_lload hx hb md_M_round_118 (lv_at hl 2 rfl) ?_
              refine lv_lconst (v := 1) hx hb md_M_round_120 (by decide) ?_
              refine lv_land hx hb md_M_round_121 ?_
              refine lv_lconst (v := 0) hx hb md_M_round_122 (by decide) ?_
              refine W.lcmp hx hb md_M_round_123 ?_
              have J_86 : ∀ (z_87 : Int64) (ls : Array Slot), lv_has ls 13 [(10, .long (jl_shl 1 (z_12 - 1))), (8, .long (p2 - (jl_shl (jl_ush p2 z_12) z_12))), (6, .long z_87), (5, .int z_12), (0, .int p0), (1, .int (jb p1)), (2, .long p2), (4, .int p3)] → WP p l e mw_M_round ({ frames := 2, cells := 0, slots := 0, locals := 43 } : Room) s m [.int p0, .int (jb p1), .long p2, .int p3] below meth c (vp_Sl (fun _ => True)) (F0 m 133 ls []) := by
                intro z_87 ls hl
                exact J_83 z_87 ls (lv_sub hl [0, 1, 2, 3, 4, 5, 6, 7] rfl)
              refine lv_if_eq (tgt := 133) hx hb md_M_round_124 (by decide) (fun c_85 => ?_) (fun c_85 => ?_)
              · exact J_86 (jl_ush p2 z_12) ls (lv_sub hl [0, 1, 2, 3, 4, 5, 6, 7] rfl)
              · refine lv_lload hx hb md_M_round_127 (lv_at hl 2 rfl) ?_
                refine lv_lconst (v := 1) hx hb md_M_round_129 (by decide) ?_
                refine lv_ladd hx hb md_M_round_130 ?_
                refine lv_lstore (lv' := [(6, .long ((jl_ush p2 z_12) + 1)), (10, .long (jl_shl 1 (z_12 - 1))), (8, .long (p2 - (jl_shl (jl_ush p2 z_12) z_12))), (5, .int z_12), (0, .int p0), (1, .int (jb p1)), (2, .long p2), (4, .int p3)]) hx hb md_M_round_131 hl (by decide) rfl (fun ls hl => ?_)
                exact J_86 ((jl_ush p2 z_12) + 1) ls (lv_sub hl [1, 2, 0, 3, 4, 5, 6, 7] rfl)
        · refine lv_lload_n hx hb md_M_round_69 rfl (lv_at hl 4 rfl) ?_
          refine lv_iload hx hb md_M_round_70 (lv_at hl 1 rfl) ?_
          refine lv_ineg hx hb md_M_round_72 ?_
          refine lv_lshl (v := jl_shl p2 (-z_12)) hx hb md_M_round_73 rfl ?_
          refine lv_lstore (lv' := [(6, .long (jl_shl p2 (-z_12))), (5, .int z_12), (0, .int p0), (1, .int (jb p1)), (2, .long p2), (4, .int p3)]) hx hb md_M_round_74 hl (by decide) rfl (fun ls hl => ?_)
          refine lv_goto (tgt := 133) hx hb md_M_round_76 (by decide) ?_
          exact J_36 (jl_shl p2 (-z_12)) ls (lv_sub hl [0, 1, 2, 3, 4, 5] rfl)
      · refine lv_iload_n hx hb md_M_round_54 rfl (lv_at hl 1 rfl) ?_
        refine lv_iload_n hx hb md_M_round_55 rfl (lv_at hl 2 rfl) ?_
        refine lv_lconst (v := 0) hx hb md_M_round_56 (by decide) ?_
        refine vp_callSl (W.runS (As := [.int p0, .int (jb p1), .long 0]) (rest := []) ⟨hx, hb, hml, hown, hts⟩ (mt_M_signed l p0 p1 0) (va_cwS 3 hts (gd_S tm_401 tm_402 tm_25 tm_403) rfl rfl rfl (by decide +kernel) ⟨Nat.le_of_ble_eq_true rfl, Nat.le_of_ble_eq_true rfl⟩) ⟨fb_0, fun U hU hW => ⟨rfl, trivial⟩⟩ rfl rfl hl.1 rfl (lv_room (Nat.le_of_ble_eq_true rfl)) md_M_round_57 ⟨Nat.zero_le _, Nat.zero_le _⟩) (fun r_88 e_89 => ?_)
        exact W.lret (v := r_88) hx hb hr (fun t ht2 _ => ⟨r_88, rfl, trivial, ht2⟩) (fun q h => by cases h) md_M_round_60
    refine lv_icmp_ge (tgt := 47) hx hb md_M_round_35 (by decide) (fun c_8 => ?_) (fun c_8 => ?_)
    · exact J_11 ((r_2 - (rf_fr p0)) - 1) ls (lv_sub hl [0, 1, 2, 3, 4] rfl)
    · refine lv_iload_n hx hb md_M_round_38 rfl (lv_at hl 1 rfl) ?_
      refine vp_callSi (W.runS (As := [.int p0]) (rest := []) ⟨hx, hb, hml, hown, hts⟩ (mt_M_least l p0) (va_cwS 1 hts (gd_S tm_410 tm_411 tm_25 tm_412) rfl rfl rfl (by decide +kernel) ⟨Nat.le_of_ble_eq_true rfl, Nat.le_of_ble_eq_true rfl⟩) ⟨fb_0, fun U hU hW => ⟨rfl, trivial⟩⟩ rfl rfl hl.1 rfl (lv_room (Nat.le_of_ble_eq_true rfl)) md_M_round_39 ⟨Nat.zero_le _, Nat.zero_le _⟩) (fun r_90 e_91 => ?_)
      obtain rfl : r_90 = rf_le p0 := e_91
      refine lv_iload hx hb md_M_round_42 (lv_at hl 4 rfl) ?_
      refine lv_isub hx hb md_M_round_44 ?_
      refine lv_istore (lv' := [(5, .int ((rf_le p0) - p3)), (0, .int p0), (1, .int (jb p1)), (2, .long p2), (4, .int p3)]) hx hb md_M_round_45 hl (by decide) rfl (fun ls hl => ?_)
      exact J_11 ((rf_le p0) - p3) ls (lv_sub hl [0, 1, 2, 3, 4] rfl)
  · refine lv_iload_n hx hb md_M_round_6 rfl (lv_at hl 0 rfl) ?_
    refine lv_iload_n hx hb md_M_round_7 rfl (lv_at hl 1 rfl) ?_
    refine lv_lconst (v := 0) hx hb md_M_round_8 (by decide) ?_
    refine vp_callSl (W.runS (As := [.int p0, .int (jb p1), .long 0]) (rest := []) ⟨hx, hb, hml, hown, hts⟩ (mt_M_signed l p0 p1 0) (va_cwS 3 hts (gd_S tm_401 tm_402 tm_25 tm_403) rfl rfl rfl (by decide +kernel) ⟨Nat.le_of_ble_eq_true rfl, Nat.le_of_ble_eq_true rfl⟩) ⟨fb_0, fun U hU hW => ⟨rfl, trivial⟩⟩ rfl rfl hl.1 rfl (lv_room (Nat.le_of_ble_eq_true rfl)) md_M_round_9 ⟨Nat.zero_le _, Nat.zero_le _⟩) (fun r_92 e_93 => ?_)
    exact W.lret (v := r_92) hx hb hr (fun t ht2 _ => ⟨r_92, rfl, trivial, ht2⟩) (fun q h => by cases h) md_M_round_12
set_option maxHeartbeats 4000000 in
set_option maxRecDepth 100000 in
theorem mt_M_shiftedDown (l : Launch) (p0 : Int64) (p1 : Int32) : Met l my_M_shiftedDown mw_M_shiftedDown ({ frames := 0, cells := 0, slots := 0, locals := 0 } : Room) (va_Pc [.long p0, .int p1] (fun _ => True)) (vp_Sl (fun _ => True)) 0 0 (fun _ => False) := by
  refine Met.ofW (cc := mc_M_shiftedDown) (maxL := 5) (ret := (some .long)) (by decide) rfl ?_
  intro p e s m args below meth c s₁ B hml hv
  obtain ⟨rfl, -⟩ := hv
  have hx := B.exec
  have hb := B.bytes
  have hr := B.returns
  have hts := atoms_spec (ws := mw_M_shiftedDown) B.pre
  have ht : ∀ w ∈ gw_tbl, w.before _ s = true := fun w h => hts w (List.mem_cons_of_mem _ h)
  have hown : s.vm.findClass "NumberProbeModel" = some m.cls := findClass_of_methodNamed B.named
  have hlocks := B.notSynchronized
  have hl := lv_entry ([.long p0, .int p1]) (n := 5) (Nat.le_of_ble_eq_true rfl)
  rw [lg_entry_eq]
  generalize (lg_sl ([.long p0, .int p1]) ++ List.replicate (5 - (lg_sl ([.long p0, .int p1])).length) Slot.unset).toArray = ls at hl ⊢
  have hl : lv_has ls 5 [(0, .long p0), (2, .int p1)] := hl
  refine lv_iload_n hx hb md_M_shiftedDown_0 rfl (lv_at hl 1 rfl) ?_
  refine lv_bipush (v := 62) hx hb md_M_shiftedDown_1 (by decide) ?_
  refine lv_icmp_le (tgt := 18) hx hb md_M_shiftedDown_3 (by decide) (fun c_1 => ?_) (fun c_1 => ?_)
  · refine lv_lload_n hx hb md_M_shiftedDown_18 rfl (lv_at hl 0 rfl) ?_
    refine lv_iload_n hx hb md_M_shiftedDown_19 rfl (lv_at hl 1 rfl) ?_
    refine lv_lushr (v := jl_ush p0 p1) hx hb md_M_shiftedDown_20 rfl ?_
    refine lv_lstore_n (lv' := [(3, .long (jl_ush p0 p1)), (0, .long p0), (2, .int p1)]) hx hb md_M_shiftedDown_21 rfl hl (by decide) rfl (fun ls hl => ?_)
    refine lv_lload_n hx hb md_M_shiftedDown_22 rfl (lv_at hl 0 rfl) ?_
    refine lv_iload_n hx hb md_M_shiftedDown_23 rfl (lv_at hl 2 rfl) ?_
    refine lv_lshl (v := jl_shl (jl_ush p0 p1) p1) hx hb md_M_shiftedDown_24 rfl ?_
    refine lv_lload_n hx hb md_M_shiftedDown_25 rfl (lv_at hl 1 rfl) ?_
    refine W.lcmp hx hb md_M_shiftedDown_26 ?_
    have J_3 : ∀ (z_4 : Int64) (ls : Array Slot), lv_has ls 5 [(3, .long (jl_ush p0 p1)), (0, .long p0), (2, .int p1)] → WP p l e mw_M_shiftedDown ({ frames := 0, cells := 0, slots := 0, locals := 0 } : Room) s m [.long p0, .int p1] below meth c (vp_Sl (fun _ => True)) (F0 m 37 ls [.long z_4]) := by
      intro z_4 ls hl
      exact W.lret (v := z_4) hx hb hr (fun t ht2 _ => ⟨z_4, rfl, trivial, ht2⟩) (fun q h => by cases h) md_M_shiftedDown_37
    refine lv_if_ne (tgt := 34) hx hb md_M_shiftedDown_27 (by decide) (fun c_2 => ?_) (fun c_2 => ?_)
    · refine lv_lload_n hx hb md_M_shiftedDown_34 rfl (lv_at hl 0 rfl) ?_
      refine lv_lconst (v := 1) hx hb md_M_shiftedDown_35 (by decide) ?_
      refine lv_lor hx hb md_M_shiftedDown_36 ?_
      exact J_3 ((jl_ush p0 p1) ||| 1) ls (lv_sub hl [0, 1, 2] rfl)
    · refine lv_lload_n hx hb md_M_shiftedDown_30 rfl (lv_at hl 0 rfl) ?_
      refine lv_goto (tgt := 37) hx hb md_M_shiftedDown_31 (by decide) ?_
      exact J_3 (jl_ush p0 p1) ls (lv_sub hl [0, 1, 2] rfl)
  · refine lv_lload_n hx hb md_M_shiftedDown_6 rfl (lv_at hl 0 rfl) ?_
    refine lv_lconst (v := 0) hx hb md_M_shiftedDown_7 (by decide) ?_
    refine W.lcmp hx hb md_M_shiftedDown_8 ?_
    have J_6 : ∀ (z_7 : Int64) (ls : Array Slot), lv_has ls 5 [(0, .long p0), (2, .int p1)] → WP p l e mw_M_shiftedDown ({ frames := 0, cells := 0, slots := 0, locals := 0 } : Room) s m [.long p0, .int p1] below meth c (vp_Sl (fun _ => True)) (F0 m 17 ls [.long z_7]) := by
      intro z_7 ls hl
      exact W.lret (v := z_7) hx hb hr (fun t ht2 _ => ⟨z_7, rfl, trivial, ht2⟩) (fun q h => by cases h) md_M_shiftedDown_17
    refine lv_if_ne (tgt := 16) hx hb md_M_shiftedDown_9 (by decide) (fun c_5 => ?_) (fun c_5 => ?_)
    · refine lv_lconst (v := 1) hx hb md_M_shiftedDown_16 (by decide) ?_
      exact J_6 1 ls (lv_sub hl [0, 1] rfl)
    · refine lv_lconst (v := 0) hx hb md_M_shiftedDown_12 (by decide) ?_
      refine lv_goto (tgt := 17) hx hb md_M_shiftedDown_13 (by decide) ?_
      exact J_6 0 ls (lv_sub hl [0, 1] rfl)
set_option maxHeartbeats 4000000 in
set_option maxRecDepth 100000 in
theorem mt_M_place (l : Launch) (p0 : Int32) (p1 : Int64) : Met l my_M_place mw_M_place ({ frames := 3, cells := 0, slots := 0, locals := 64 } : Room) (va_Pc [.int p0, .long p1] (fun _ => True)) (vp_Sl (fun r => r = rf_pla p0 p1)) 0 0 (fun _ => False) := by
  refine Met.ofW (cc := mc_M_place) (maxL := 3) (ret := (some .long)) (by decide) rfl ?_
  intro p e s m args below meth c s₁ B hml hv
  obtain ⟨rfl, -⟩ := hv
  have hx := B.exec
  have hb := B.bytes
  have hr := B.returns
  have hts := atoms_spec (ws := mw_M_place) B.pre
  have ht : ∀ w ∈ gw_tbl, w.before _ s = true := fun w h => hts w (List.mem_cons_of_mem _ h)
  have hown : s.vm.findClass "NumberProbeModel" = some m.cls := findClass_of_methodNamed B.named
  have hlocks := B.notSynchronized
  have hl := lv_entry ([.int p0, .long p1]) (n := 3) (Nat.le_of_ble_eq_true rfl)
  rw [lg_entry_eq]
  generalize (lg_sl ([.int p0, .long p1]) ++ List.replicate (3 - (lg_sl ([.int p0, .long p1])).length) Slot.unset).toArray = ls at hl ⊢
  have hl : lv_has ls 3 [(0, .int p0), (1, .long p1)] := hl
  refine lv_iload_n hx hb md_M_place_0 rfl (lv_at hl 0 rfl) ?_
  refine lv_lload_n hx hb md_M_place_1 rfl (lv_at hl 1 rfl) ?_
  refine vp_callSi (W.runS (As := [.int p0, .long p1]) (rest := []) ⟨hx, hb, hml, hown, hts⟩ (mt_M_isNan l p0 p1) (va_cwS 2 hts (gd_S tm_366 tm_367 tm_25 tm_368) rfl rfl rfl (by decide +kernel) ⟨Nat.le_of_ble_eq_true rfl, Nat.le_of_ble_eq_true rfl⟩) ⟨fb_0, fun U hU hW => ⟨rfl, trivial⟩⟩ rfl rfl hl.1 rfl (lv_room (Nat.le_of_ble_eq_true rfl)) md_M_place_2 ⟨Nat.zero_le _, Nat.zero_le _⟩) (fun r_1 e_2 => ?_)
  obtain rfl : r_1 = jb (rf_isN p0 p1) := e_2
  refine lv_if_eq (tgt := 13) hx hb md_M_place_5 (by decide) (fun c_3 => ?_) (fun c_3 => ?_)
  · refine lv_iload_n hx hb md_M_place_13 rfl (lv_at hl 0 rfl) ?_
    refine lv_lload_n hx hb md_M_place_14 rfl (lv_at hl 1 rfl) ?_
    refine vp_callSi (W.runS (As := [.int p0, .long p1]) (rest := []) ⟨hx, hb, hml, hown, hts⟩ (mt_M_isSign l p0 p1) (va_cwS 2 hts (gd_S tm_455 tm_456 tm_25 tm_457) rfl rfl rfl (by decide +kernel) ⟨Nat.le_of_ble_eq_true rfl, Nat.le_of_ble_eq_true rfl⟩) ⟨fb_0, fun U hU hW => ⟨rfl, trivial⟩⟩ rfl rfl hl.1 rfl (lv_room (Nat.le_of_ble_eq_true rfl)) md_M_place_15 ⟨Nat.zero_le _, Nat.zero_le _⟩) (fun r_4 e_5 => ?_)
    obtain rfl : r_4 = jb (rf_isS p0 p1) := e_5
    refine lv_if_eq (tgt := 33) hx hb md_M_place_18 (by decide) (fun c_6 => ?_) (fun c_6 => ?_)
    · refine lv_iload_n hx hb md_M_place_33 rfl (lv_at hl 0 rfl) ?_
      refine lv_lload_n hx hb md_M_place_34 rfl (lv_at hl 1 rfl) ?_
      refine vp_callSl (W.runS (As := [.int p0, .long p1]) (rest := []) ⟨hx, hb, hml, hown, hts⟩ (mt_M_size l p0 p1) (va_cwS 2 hts (gd_S tm_369 tm_370 tm_25 tm_371) rfl rfl rfl (by decide +kernel) ⟨Nat.le_of_ble_eq_true rfl, Nat.le_of_ble_eq_true rfl⟩) ⟨fb_0, fun U hU hW => ⟨rfl, trivial⟩⟩ rfl rfl hl.1 rfl (lv_room (Nat.le_of_ble_eq_true rfl)) md_M_place_35 ⟨Nat.zero_le _, Nat.zero_le _⟩) (fun r_7 e_8 => ?_)
      obtain rfl : r_7 = rf_siz p0 p1 := e_8
      have hq : rf_siz p0 p1 = rf_pla p0 p1 := by simp [rf_pla, (jb_0.mp c_3), (jb_0.mp c_6)]
      exact W.lret (v := rf_siz p0 p1) hx hb hr (fun t ht2 _ => ⟨(rf_siz p0 p1), rfl, hq, ht2⟩) (fun q h => by cases h) md_M_place_38
    · refine lv_ldc2 (v := (-1)) hx hb hown (ht _ tm_421) md_M_place_21 ?_
      refine lv_iload_n hx hb md_M_place_24 rfl (lv_at hl 0 rfl) ?_
      refine lv_lload_n hx hb md_M_place_25 rfl (lv_at hl 1 rfl) ?_
      refine vp_callSl (W.runS (As := [.int p0, .long p1]) (rest := [.long (-1)]) ⟨hx, hb, hml, hown, hts⟩ (mt_M_size l p0 p1) (va_cwS 2 hts (gd_S tm_369 tm_370 tm_25 tm_371) rfl rfl rfl (by decide +kernel) ⟨Nat.le_of_ble_eq_true rfl, Nat.le_of_ble_eq_true rfl⟩) ⟨fb_0, fun U hU hW => ⟨rfl, trivial⟩⟩ rfl rfl hl.1 rfl (lv_room (Nat.le_of_ble_eq_true rfl)) md_M_place_26 ⟨Nat.zero_le _, Nat.zero_le _⟩) (fun r_9 e_10 => ?_)
      obtain rfl : r_9 = rf_siz p0 p1 := e_10
      refine lv_lsub hx hb md_M_place_29 ?_
      refine lv_goto (tgt := 38) hx hb md_M_place_30 (by decide) ?_
      have hq : (-1) - (rf_siz p0 p1) = rf_pla p0 p1 := by simp [rf_pla, (jb_0.mp c_3), (jb_n0.mp c_6)]
      exact W.lret (v := (-1) - (rf_siz p0 p1)) hx hb hr (fun t ht2 _ => ⟨((-1) - (rf_siz p0 p1)), rfl, hq, ht2⟩) (fun q h => by cases h) md_M_place_38
  · refine lv_iconst (v := 1) hx hb md_M_place_8 (by decide) ?_
    refine vp_callSl (W.runS (As := [.int 1]) (rest := []) ⟨hx, hb, hml, hown, hts⟩ (mt_M_nan l 1) (va_cwS 1 hts (gd_S tm_382 tm_383 tm_25 tm_384) rfl rfl rfl (by decide +kernel) ⟨Nat.le_of_ble_eq_true rfl, Nat.le_of_ble_eq_true rfl⟩) ⟨fb_0, fun U hU hW => ⟨rfl, trivial⟩⟩ rfl rfl hl.1 rfl (lv_room (Nat.le_of_ble_eq_true rfl)) md_M_place_9 ⟨Nat.zero_le _, Nat.zero_le _⟩) (fun r_11 e_12 => ?_)
    obtain rfl : r_11 = rf_na 1 := e_12
    have hq : rf_na 1 = rf_pla p0 p1 := by simp [rf_pla, (jb_n0.mp c_3)]
    exact W.lret (v := rf_na 1) hx hb hr (fun t ht2 _ => ⟨(rf_na 1), rfl, hq, ht2⟩) (fun q h => by cases h) md_M_place_12
set_option maxHeartbeats 4000000 in
set_option maxRecDepth 100000 in
theorem mt_M_operateWhole (l : Launch) (p0 : Int32) (p1 : Int32) (p2 : Int64) (p3 : Int64) (hd : p1 = 3 ∨ p1 = 4 → ¬ p3 = 0) : Met l my_M_operateWhole mw_M_operateWhole ({ frames := 0, cells := 0, slots := 0, locals := 0 } : Room) (va_Pc [.int p0, .int p1, .long p2, .long p3] (fun _ => True)) (vp_Sl (fun _ => True)) 0 0 (fun _ => False) := by
  refine Met.ofW (cc := mc_M_operateWhole) (maxL := 8) (ret := (some .long)) (by decide) rfl ?_
  intro p e s m args below meth c s₁ B hml hv
  obtain ⟨rfl, -⟩ := hv
  have hx := B.exec
  have hb := B.bytes
  have hr := B.returns
  have hts := atoms_spec (ws := mw_M_operateWhole) B.pre
  have ht : ∀ w ∈ gw_tbl, w.before _ s = true := fun w h => hts w (List.mem_cons_of_mem _ h)
  have hown : s.vm.findClass "NumberProbeModel" = some m.cls := findClass_of_methodNamed B.named
  have hlocks := B.notSynchronized
  have hl := lv_entry ([.int p0, .int p1, .long p2, .long p3]) (n := 8) (Nat.le_of_ble_eq_true rfl)
  rw [lg_entry_eq]
  generalize (lg_sl ([.int p0, .int p1, .long p2, .long p3]) ++ List.replicate (8 - (lg_sl ([.int p0, .int p1, .long p2, .long p3])).length) Slot.unset).toArray = ls at hl ⊢
  have hl : lv_has ls 8 [(0, .int p0), (1, .int p1), (2, .long p2), (4, .long p3)] := hl
  refine lv_iload_n hx hb md_M_operateWhole_0 rfl (lv_at hl 0 rfl) ?_
  refine lv_iconst (v := 3) hx hb md_M_operateWhole_1 (by decide) ?_
  have J_2 : ∀ (z_3 : Bool) (ls : Array Slot), lv_has ls 8 [(0, .int p0), (1, .int p1), (2, .long p2), (4, .long p3)] → WP p l e mw_M_operateWhole ({ frames := 0, cells := 0, slots := 0, locals := 0 } : Room) s m [.int p0, .int p1, .long p2, .long p3] below meth c (vp_Sl (fun _ => True)) (F0 m 10 ls [.int (jb z_3)]) := by
    intro z_3 ls hl
    refine lv_istore (lv' := [(6, .int (jb z_3)), (0, .int p0), (1, .int p1), (2, .long p2), (4, .long p3)]) hx hb md_M_operateWhole_10 hl (by decide) rfl (fun ls hl => ?_)
    refine lv_lload hx hb md_M_operateWhole_12 (lv_at hl 4 rfl) ?_
    refine lv_l2i (v := p3.toInt32) hx hb md_M_operateWhole_14 rfl ?_
    refine lv_iload hx hb md_M_operateWhole_15 (lv_at hl 0 rfl) ?_
    have J_5 : ∀ (z_6 : Int32) (ls : Array Slot), lv_has ls 8 [(6, .int (jb z_3)), (0, .int p0), (1, .int p1), (2, .long p2), (4, .long p3)] → WP p l e mw_M_operateWhole ({ frames := 0, cells := 0, slots := 0, locals := 0 } : Room) s m [.int p0, .int p1, .long p2, .long p3] below meth c (vp_Sl (fun _ => True)) (F0 m 27 ls [.int z_6, .int p3.toInt32]) := by
      intro z_6 ls hl
      refine lv_iand hx hb md_M_operateWhole_27 ?_
      refine lv_istore (lv' := [(7, .int (p3.toInt32 &&& z_6)), (6, .int (jb z_3)), (0, .int p0), (1, .int p1), (2, .long p2), (4, .long p3)]) hx hb md_M_operateWhole_28 hl (by decide) rfl (fun ls hl => ?_)
      refine lv_iload_n hx hb md_M_operateWhole_30 rfl (lv_at hl 3 rfl) ?_
      by_cases k_7 : p1 = 0
      · refine lv_tableIn (off := 69) (tgt := 100) hx hb md_M_operateWhole_31 (by rw [k_7]; decide) (by rw [k_7]; decide) (by rw [k_7]; rfl) (by decide) ?_
        refine lv_lload_n hx hb md_M_operateWhole_100 rfl (lv_at hl 4 rfl) ?_
        refine lv_lload hx hb md_M_operateWhole_101 (lv_at hl 5 rfl) ?_
        refine lv_ladd hx hb md_M_operateWhole_103 ?_
        exact W.lret (v := p2 + p3) hx hb hr (fun t ht2 _ => ⟨(p2 + p3), rfl, trivial, ht2⟩) (fun q h => by cases h) md_M_operateWhole_104
      by_cases k_8 : p1 = 1
      · refine lv_tableIn (off := 74) (tgt := 105) hx hb md_M_operateWhole_31 (by rw [k_8]; decide) (by rw [k_8]; decide) (by rw [k_8]; rfl) (by decide) ?_
        refine lv_lload_n hx hb md_M_operateWhole_105 rfl (lv_at hl 4 rfl) ?_
        refine lv_lload hx hb md_M_operateWhole_106 (lv_at hl 5 rfl) ?_
        refine lv_lsub hx hb md_M_operateWhole_108 ?_
        exact W.lret (v := p2 - p3) hx hb hr (fun t ht2 _ => ⟨(p2 - p3), rfl, trivial, ht2⟩) (fun q h => by cases h) md_M_operateWhole_109
      by_cases k_9 : p1 = 2
      · refine lv_tableIn (off := 79) (tgt := 110) hx hb md_M_operateWhole_31 (by rw [k_9]; decide) (by rw [k_9]; decide) (by rw [k_9]; rfl) (by decide) ?_
        refine lv_lload_n hx hb md_M_operateWhole_110 rfl (lv_at hl 4 rfl) ?_
        refine lv_lload hx hb md_M_operateWhole_111 (lv_at hl 5 rfl) ?_
        refine lv_lmul hx hb md_M_operateWhole_113 ?_
        exact W.lret (v := p2 * p3) hx hb hr (fun t ht2 _ => ⟨(p2 * p3), rfl, trivial, ht2⟩) (fun q h => by cases h) md_M_operateWhole_114
      by_cases k_10 : p1 = 3
      · refine lv_tableIn (off := 84) (tgt := 115) hx hb md_M_operateWhole_31 (by rw [k_10]; decide) (by rw [k_10]; decide) (by rw [k_10]; rfl) (by decide) ?_
        refine lv_lload_n hx hb md_M_operateWhole_115 rfl (lv_at hl 4 rfl) ?_
        refine lv_lload hx hb md_M_operateWhole_116 (lv_at hl 5 rfl) ?_
        refine lv_ldiv hx hb md_M_operateWhole_118 (hd (Or.inl k_10)) ?_
        exact W.lret (v := p2 / p3) hx hb hr (fun t ht2 _ => ⟨(p2 / p3), rfl, trivial, ht2⟩) (fun q h => by cases h) md_M_operateWhole_119
      by_cases k_11 : p1 = 4
      · refine lv_tableIn (off := 89) (tgt := 120) hx hb md_M_operateWhole_31 (by rw [k_11]; decide) (by rw [k_11]; decide) (by rw [k_11]; rfl) (by decide) ?_
        refine lv_lload_n hx hb md_M_operateWhole_120 rfl (lv_at hl 4 rfl) ?_
        refine lv_lload hx hb md_M_operateWhole_121 (lv_at hl 5 rfl) ?_
        refine lv_lrem hx hb md_M_operateWhole_123 (hd (Or.inr k_11)) ?_
        exact W.lret (v := p2 - p2 / p3 * p3) hx hb hr (fun t ht2 _ => ⟨(p2 - p2 / p3 * p3), rfl, trivial, ht2⟩) (fun q h => by cases h) md_M_operateWhole_124
      by_cases k_12 : p1 = 5
      · refine lv_tableIn (off := 94) (tgt := 125) hx hb md_M_operateWhole_31 (by rw [k_12]; decide) (by rw [k_12]; decide) (by rw [k_12]; rfl) (by decide) ?_
        refine lv_lload_n hx hb md_M_operateWhole_125 rfl (lv_at hl 4 rfl) ?_
        refine lv_lload hx hb md_M_operateWhole_126 (lv_at hl 5 rfl) ?_
        refine W.lcmp hx hb md_M_operateWhole_128 ?_
        have J_14 : ∀ (z_15 : Int64) (ls : Array Slot), lv_has ls 8 [(7, .int (p3.toInt32 &&& z_6)), (6, .int (jb z_3)), (0, .int p0), (1, .int p1), (2, .long p2), (4, .long p3)] → WP p l e mw_M_operateWhole ({ frames := 0, cells := 0, slots := 0, locals := 0 } : Room) s m [.int p0, .int p1, .long p2, .long p3] below meth c (vp_Sl (fun _ => True)) (F0 m 138 ls [.long z_15]) := by
          intro z_15 ls hl
          exact W.lret (v := z_15) hx hb hr (fun t ht2 _ => ⟨z_15, rfl, trivial, ht2⟩) (fun q h => by cases h) md_M_operateWhole_138
        refine lv_if_ge (tgt := 136) hx hb md_M_operateWhole_129 (by decide) (fun c_13 => ?_) (fun c_13 => ?_)
        · refine lv_lload hx hb md_M_operateWhole_136 (lv_at hl 5 rfl) ?_
          exact J_14 p3 ls (lv_sub hl [0, 1, 2, 3, 4, 5] rfl)
        · refine lv_lload_n hx hb md_M_operateWhole_132 rfl (lv_at hl 4 rfl) ?_
          refine lv_goto (tgt := 138) hx hb md_M_operateWhole_133 (by decide) ?_
          exact J_14 p2 ls (lv_sub hl [0, 1, 2, 3, 4, 5] rfl)
      by_cases k_16 : p1 = 6
      · refine lv_tableIn (off := 108) (tgt := 139) hx hb md_M_operateWhole_31 (by rw [k_16]; decide) (by rw [k_16]; decide) (by rw [k_16]; rfl) (by decide) ?_
        refine lv_lload_n hx hb md_M_operateWhole_139 rfl (lv_at hl 4 rfl) ?_
        refine lv_lload hx hb md_M_operateWhole_140 (lv_at hl 5 rfl) ?_
        refine W.lcmp hx hb md_M_operateWhole_142 ?_
        have J_18 : ∀ (z_19 : Int64) (ls : Array Slot), lv_has ls 8 [(7, .int (p3.toInt32 &&& z_6)), (6, .int (jb z_3)), (0, .int p0), (1, .int p1), (2, .long p2), (4, .long p3)] → WP p l e mw_M_operateWhole ({ frames := 0, cells := 0, slots := 0, locals := 0 } : Room) s m [.int p0, .int p1, .long p2, .long p3] below meth c (vp_Sl (fun _ => True)) (F0 m 152 ls [.long z_19]) := by
          intro z_19 ls hl
          exact W.lret (v := z_19) hx hb hr (fun t ht2 _ => ⟨z_19, rfl, trivial, ht2⟩) (fun q h => by cases h) md_M_operateWhole_152
        refine lv_if_le (tgt := 150) hx hb md_M_operateWhole_143 (by decide) (fun c_17 => ?_) (fun c_17 => ?_)
        · refine lv_lload hx hb md_M_operateWhole_150 (lv_at hl 5 rfl) ?_
          exact J_18 p3 ls (lv_sub hl [0, 1, 2, 3, 4, 5] rfl)
        · refine lv_lload_n hx hb md_M_operateWhole_146 rfl (lv_at hl 4 rfl) ?_
          refine lv_goto (tgt := 152) hx hb md_M_operateWhole_147 (by decide) ?_
          exact J_18 p2 ls (lv_sub hl [0, 1, 2, 3, 4, 5] rfl)
      by_cases k_20 : p1 = 7
      · refine lv_tableIn (off := 122) (tgt := 153) hx hb md_M_operateWhole_31 (by rw [k_20]; decide) (by rw [k_20]; decide) (by rw [k_20]; rfl) (by decide) ?_
        refine lv_lload_n hx hb md_M_operateWhole_153 rfl (lv_at hl 4 rfl) ?_
        refine lv_lneg hx hb md_M_operateWhole_154 ?_
        exact W.lret (v := -p2) hx hb hr (fun t ht2 _ => ⟨(-p2), rfl, trivial, ht2⟩) (fun q h => by cases h) md_M_operateWhole_155
      by_cases k_21 : p1 = 8
      · refine lv_tableIn (off := 125) (tgt := 156) hx hb md_M_operateWhole_31 (by rw [k_21]; decide) (by rw [k_21]; decide) (by rw [k_21]; rfl) (by decide) ?_
        refine lv_lload_n hx hb md_M_operateWhole_156 rfl (lv_at hl 4 rfl) ?_
        refine lv_lconst (v := 0) hx hb md_M_operateWhole_157 (by decide) ?_
        refine W.lcmp hx hb md_M_operateWhole_158 ?_
        have J_23 : ∀ (z_24 : Int64) (ls : Array Slot), lv_has ls 8 [(7, .int (p3.toInt32 &&& z_6)), (6, .int (jb z_3)), (0, .int p0), (1, .int p1), (2, .long p2), (4, .long p3)] → WP p l e mw_M_operateWhole ({ frames := 0, cells := 0, slots := 0, locals := 0 } : Room) s m [.int p0, .int p1, .long p2, .long p3] below meth c (vp_Sl (fun _ => True)) (F0 m 168 ls [.long z_24]) := by
          intro z_24 ls hl
          exact W.lret (v := z_24) hx hb hr (fun t ht2 _ => ⟨z_24, rfl, trivial, ht2⟩) (fun q h => by cases h) md_M_operateWhole_168
        refine lv_if_ge (tgt := 167) hx hb md_M_operateWhole_159 (by decide) (fun c_22 => ?_) (fun c_22 => ?_)
        · refine lv_lload_n hx hb md_M_operateWhole_167 rfl (lv_at hl 4 rfl) ?_
          exact J_23 p2 ls (lv_sub hl [0, 1, 2, 3, 4, 5] rfl)
        · refine lv_lload_n hx hb md_M_operateWhole_162 rfl (lv_at hl 4 rfl) ?_
          refine lv_lneg hx hb md_M_operateWhole_163 ?_
          refine lv_goto (tgt := 168) hx hb md_M_operateWhole_164 (by decide) ?_
          exact J_23 (-p2) ls (lv_sub hl [0, 1, 2, 3, 4, 5] rfl)
      by_cases k_25 : p1 = 9
      · refine lv_tableIn (off := 138) (tgt := 169) hx hb md_M_operateWhole_31 (by rw [k_25]; decide) (by rw [k_25]; decide) (by rw [k_25]; rfl) (by decide) ?_
        refine lv_lload_n hx hb md_M_operateWhole_169 rfl (lv_at hl 4 rfl) ?_
        refine lv_iload hx hb md_M_operateWhole_170 (lv_at hl 0 rfl) ?_
        refine lv_lshl (v := jl_shl p2 (p3.toInt32 &&& z_6)) hx hb md_M_operateWhole_172 rfl ?_
        exact W.lret (v := jl_shl p2 (p3.toInt32 &&& z_6)) hx hb hr (fun t ht2 _ => ⟨(jl_shl p2 (p3.toInt32 &&& z_6)), rfl, trivial, ht2⟩) (fun q h => by cases h) md_M_operateWhole_173
      by_cases k_26 : p1 = 10
      · refine lv_tableIn (off := 143) (tgt := 174) hx hb md_M_operateWhole_31 (by rw [k_26]; decide) (by rw [k_26]; decide) (by rw [k_26]; rfl) (by decide) ?_
        refine lv_lload_n hx hb md_M_operateWhole_174 rfl (lv_at hl 4 rfl) ?_
        refine lv_iload hx hb md_M_operateWhole_175 (lv_at hl 0 rfl) ?_
        refine lv_lshr (v := jl_shr p2 (p3.toInt32 &&& z_6)) hx hb md_M_operateWhole_177 rfl ?_
        exact W.lret (v := jl_shr p2 (p3.toInt32 &&& z_6)) hx hb hr (fun t ht2 _ => ⟨(jl_shr p2 (p3.toInt32 &&& z_6)), rfl, trivial, ht2⟩) (fun q h => by cases h) md_M_operateWhole_178
      by_cases k_27 : p1 = 11
      · refine lv_tableIn (off := 148) (tgt := 179) hx hb md_M_operateWhole_31 (by rw [k_27]; decide) (by rw [k_27]; decide) (by rw [k_27]; rfl) (by decide) ?_
        refine lv_iload hx hb md_M_operateWhole_179 (lv_at hl 1 rfl) ?_
        have J_29 : ∀ (z_30 : Int64) (ls : Array Slot), lv_has ls 8 [(7, .int (p3.toInt32 &&& z_6)), (6, .int (jb z_3)), (0, .int p0), (1, .int p1), (2, .long p2), (4, .long p3)] → WP p l e mw_M_operateWhole ({ frames := 0, cells := 0, slots := 0, locals := 0 } : Room) s m [.int p0, .int p1, .long p2, .long p3] below meth c (vp_Sl (fun _ => True)) (F0 m 199 ls [.long z_30]) := by
          intro z_30 ls hl
          exact W.lret (v := z_30) hx hb hr (fun t ht2 _ => ⟨z_30, rfl, trivial, ht2⟩) (fun q h => by cases h) md_M_operateWhole_199
        refine lv_if_eq (tgt := 191) hx hb md_M_operateWhole_181 (by decide) (fun c_28 => ?_) (fun c_28 => ?_)
        · refine lv_lload_n hx hb md_M_operateWhole_191 rfl (lv_at hl 4 rfl) ?_
          refine lv_ldc2 (v := 4294967295) hx hb hown (ht _ tm_365) md_M_operateWhole_192 ?_
          refine lv_land hx hb md_M_operateWhole_195 ?_
          refine lv_iload hx hb md_M_operateWhole_196 (lv_at hl 0 rfl) ?_
          refine lv_lushr (v := jl_ush (p2 &&& 4294967295) (p3.toInt32 &&& z_6)) hx hb md_M_operateWhole_198 rfl ?_
          exact J_29 (jl_ush (p2 &&& 4294967295) (p3.toInt32 &&& z_6)) ls (lv_sub hl [0, 1, 2, 3, 4, 5] rfl)
        · refine lv_lload_n hx hb md_M_operateWhole_184 rfl (lv_at hl 4 rfl) ?_
          refine lv_iload hx hb md_M_operateWhole_185 (lv_at hl 0 rfl) ?_
          refine lv_lushr (v := jl_ush p2 (p3.toInt32 &&& z_6)) hx hb md_M_operateWhole_187 rfl ?_
          refine lv_goto (tgt := 199) hx hb md_M_operateWhole_188 (by decide) ?_
          exact J_29 (jl_ush p2 (p3.toInt32 &&& z_6)) ls (lv_sub hl [0, 1, 2, 3, 4, 5] rfl)
      by_cases k_31 : p1 = 12
      · refine lv_tableIn (off := 169) (tgt := 200) hx hb md_M_operateWhole_31 (by rw [k_31]; decide) (by rw [k_31]; decide) (by rw [k_31]; rfl) (by decide) ?_
        refine lv_lload_n hx hb md_M_operateWhole_200 rfl (lv_at hl 4 rfl) ?_
        refine lv_lload hx hb md_M_operateWhole_201 (lv_at hl 5 rfl) ?_
        refine lv_land hx hb md_M_operateWhole_203 ?_
        exact W.lret (v := p2 &&& p3) hx hb hr (fun t ht2 _ => ⟨(p2 &&& p3), rfl, trivial, ht2⟩) (fun q h => by cases h) md_M_operateWhole_204
      by_cases k_32 : p1 = 13
      · refine lv_tableIn (off := 174) (tgt := 205) hx hb md_M_operateWhole_31 (by rw [k_32]; decide) (by rw [k_32]; decide) (by rw [k_32]; rfl) (by decide) ?_
        refine lv_lload_n hx hb md_M_operateWhole_205 rfl (lv_at hl 4 rfl) ?_
        refine lv_lload hx hb md_M_operateWhole_206 (lv_at hl 5 rfl) ?_
        refine lv_lor hx hb md_M_operateWhole_208 ?_
        exact W.lret (v := p2 ||| p3) hx hb hr (fun t ht2 _ => ⟨(p2 ||| p3), rfl, trivial, ht2⟩) (fun q h => by cases h) md_M_operateWhole_209
      refine lv_tableOut (tgt := 210) hx hb md_M_operateWhole_31 (by have := lv_neT k_7 (a := 0) rfl; have := lv_neT k_8 (a := 1) rfl; have := lv_neT k_9 (a := 2) rfl; have := lv_neT k_10 (a := 3) rfl; have := lv_neT k_11 (a := 4) rfl; have := lv_neT k_12 (a := 5) rfl; have := lv_neT k_16 (a := 6) rfl; have := lv_neT k_20 (a := 7) rfl; have := lv_neT k_21 (a := 8) rfl; have := lv_neT k_25 (a := 9) rfl; have := lv_neT k_26 (a := 10) rfl; have := lv_neT k_27 (a := 11) rfl; have := lv_neT k_31 (a := 12) rfl; have := lv_neT k_32 (a := 13) rfl; omega) (by decide) ?_
      refine lv_lload_n hx hb md_M_operateWhole_210 rfl (lv_at hl 4 rfl) ?_
      refine lv_lload hx hb md_M_operateWhole_211 (lv_at hl 5 rfl) ?_
      refine lv_lxor hx hb md_M_operateWhole_213 ?_
      exact W.lret (v := p2 ^^^ p3) hx hb hr (fun t ht2 _ => ⟨(p2 ^^^ p3), rfl, trivial, ht2⟩) (fun q h => by cases h) md_M_operateWhole_214
    refine lv_if_eq (tgt := 25) hx hb md_M_operateWhole_17 (by decide) (fun c_4 => ?_) (fun c_4 => ?_)
    · refine lv_bipush (v := 31) hx hb md_M_operateWhole_25 (by decide) ?_
      exact J_5 31 ls (lv_sub hl [0, 1, 2, 3, 4] rfl)
    · refine lv_bipush (v := 63) hx hb md_M_operateWhole_20 (by decide) ?_
      refine lv_goto (tgt := 27) hx hb md_M_operateWhole_22 (by decide) ?_
      exact J_5 63 ls (lv_sub hl [0, 1, 2, 3, 4] rfl)
  refine lv_icmp_ne (tgt := 9) hx hb md_M_operateWhole_2 (by decide) (fun c_1 => ?_) (fun c_1 => ?_)
  · refine lv_iconst (v := 0) hx hb md_M_operateWhole_9 (by decide) ?_
    exact J_2 false ls (lv_sub hl [0, 1, 2, 3] rfl)
  · refine lv_iconst (v := 1) hx hb md_M_operateWhole_5 (by decide) ?_
    refine lv_goto (tgt := 10) hx hb md_M_operateWhole_6 (by decide) ?_
    exact J_2 true ls (lv_sub hl [0, 1, 2, 3] rfl)
set_option maxHeartbeats 4000000 in
set_option maxRecDepth 100000 in
theorem mt_M_normal (l : Launch) (p0 : Int32) (p1 : Int64) : Met l my_M_normal mw_M_normal ({ frames := 3, cells := 0, slots := 0, locals := 64 } : Room) (va_Pc [.int p0, .long p1] (fun _ => True)) (vp_Sl (fun _ => True)) 0 0 (fun _ => False) := by
  refine Met.ofW (cc := mc_M_normal) (maxL := 5) (ret := (some .long)) (by decide) rfl ?_
  intro p e s m args below meth c s₁ B hml hv
  obtain ⟨rfl, -⟩ := hv
  have hx := B.exec
  have hb := B.bytes
  have hr := B.returns
  have hts := atoms_spec (ws := mw_M_normal) B.pre
  have ht : ∀ w ∈ gw_tbl, w.before _ s = true := fun w h => hts w (List.mem_cons_of_mem _ h)
  have hown : s.vm.findClass "NumberProbeModel" = some m.cls := findClass_of_methodNamed B.named
  have hlocks := B.notSynchronized
  have hl := lv_entry ([.int p0, .long p1]) (n := 5) (Nat.le_of_ble_eq_true rfl)
  rw [lg_entry_eq]
  generalize (lg_sl ([.int p0, .long p1]) ++ List.replicate (5 - (lg_sl ([.int p0, .long p1])).length) Slot.unset).toArray = ls at hl ⊢
  have hl : lv_has ls 5 [(0, .int p0), (1, .long p1)] := hl
  refine lv_iload_n hx hb md_M_normal_0 rfl (lv_at hl 0 rfl) ?_
  refine lv_iconst (v := 3) hx hb md_M_normal_1 (by decide) ?_
  refine lv_icmp_ne (tgt := 7) hx hb md_M_normal_2 (by decide) (fun c_1 => ?_) (fun c_1 => ?_)
  · refine lv_iload_n hx hb md_M_normal_7 rfl (lv_at hl 0 rfl) ?_
    refine lv_iconst (v := 2) hx hb md_M_normal_8 (by decide) ?_
    refine lv_icmp_ne (tgt := 16) hx hb md_M_normal_9 (by decide) (fun c_2 => ?_) (fun c_2 => ?_)
    · refine lv_iload_n hx hb md_M_normal_16 rfl (lv_at hl 0 rfl) ?_
      have J_4 : ∀ (z_5 : Int64) (ls : Array Slot), lv_has ls 5 [(0, .int p0), (1, .long p1)] → WP p l e mw_M_normal ({ frames := 3, cells := 0, slots := 0, locals := 64 } : Room) s m [.int p0, .long p1] below meth c (vp_Sl (fun _ => True)) (F0 m 29 ls [.long z_5]) := by
        intro z_5 ls hl
        refine lv_lstore_n (lv' := [(3, .long z_5), (0, .int p0), (1, .long p1)]) hx hb md_M_normal_29 rfl hl (by decide) rfl (fun ls hl => ?_)
        refine lv_iload_n hx hb md_M_normal_30 rfl (lv_at hl 1 rfl) ?_
        refine lv_lload_n hx hb md_M_normal_31 rfl (lv_at hl 0 rfl) ?_
        refine vp_callSi (W.runS (As := [.int p0, .long z_5]) (rest := []) ⟨hx, hb, hml, hown, hts⟩ (mt_M_isNan l p0 z_5) (va_cwS 2 hts (gd_S tm_366 tm_367 tm_25 tm_368) rfl rfl rfl (by decide +kernel) ⟨Nat.le_of_ble_eq_true rfl, Nat.le_of_ble_eq_true rfl⟩) ⟨fb_0, fun U hU hW => ⟨rfl, trivial⟩⟩ rfl rfl hl.1 rfl (lv_room (Nat.le_of_ble_eq_true rfl)) md_M_normal_32 ⟨Nat.zero_le _, Nat.zero_le _⟩) (fun r_6 e_7 => ?_)
        obtain rfl : r_6 = jb (rf_isN p0 z_5) := e_7
        have J_11 : ∀ (z_12 : Int64) (ls : Array Slot), lv_has ls 5 [(3, .long z_5), (0, .int p0), (1, .long p1)] → WP p l e mw_M_normal ({ frames := 3, cells := 0, slots := 0, locals := 64 } : Room) s m [.int p0, .long p1] below meth c (vp_Sl (fun _ => True)) (F0 m 46 ls [.long z_12]) := by
          intro z_12 ls hl
          exact W.lret (v := z_12) hx hb hr (fun t ht2 _ => ⟨z_12, rfl, trivial, ht2⟩) (fun q h => by cases h) md_M_normal_46
        refine lv_if_eq (tgt := 45) hx hb md_M_normal_35 (by decide) (fun c_8 => ?_) (fun c_8 => ?_)
        · refine lv_lload_n hx hb md_M_normal_45 rfl (lv_at hl 0 rfl) ?_
          exact J_11 z_5 ls (lv_sub hl [0, 1, 2] rfl)
        · refine lv_iload_n hx hb md_M_normal_38 rfl (lv_at hl 1 rfl) ?_
          refine vp_callSl (W.runS (As := [.int p0]) (rest := []) ⟨hx, hb, hml, hown, hts⟩ (mt_M_nan l p0) (va_cwS 1 hts (gd_S tm_382 tm_383 tm_25 tm_384) rfl rfl rfl (by decide +kernel) ⟨Nat.le_of_ble_eq_true rfl, Nat.le_of_ble_eq_true rfl⟩) ⟨fb_0, fun U hU hW => ⟨rfl, trivial⟩⟩ rfl rfl hl.1 rfl (lv_room (Nat.le_of_ble_eq_true rfl)) md_M_normal_39 ⟨Nat.zero_le _, Nat.zero_le _⟩) (fun r_13 e_14 => ?_)
          obtain rfl : r_13 = rf_na p0 := e_14
          refine lv_goto (tgt := 46) hx hb md_M_normal_42 (by decide) ?_
          exact J_11 (rf_na p0) ls (lv_sub hl [0, 1, 2] rfl)
      refine lv_if_ne (tgt := 28) hx hb md_M_normal_17 (by decide) (fun c_3 => ?_) (fun c_3 => ?_)
      · refine lv_lload_n hx hb md_M_normal_28 rfl (lv_at hl 1 rfl) ?_
        exact J_4 p1 ls (lv_sub hl [0, 1] rfl)
      · refine lv_lload_n hx hb md_M_normal_20 rfl (lv_at hl 1 rfl) ?_
        refine lv_ldc2 (v := 4294967295) hx hb hown (ht _ tm_365) md_M_normal_21 ?_
        refine lv_land hx hb md_M_normal_24 ?_
        refine lv_goto (tgt := 29) hx hb md_M_normal_25 (by decide) ?_
        exact J_4 (p1 &&& 4294967295) ls (lv_sub hl [0, 1] rfl)
    · refine lv_lload_n hx hb md_M_normal_12 rfl (lv_at hl 1 rfl) ?_
      refine lv_l2i (v := p1.toInt32) hx hb md_M_normal_13 rfl ?_
      refine lv_i2l (v := p1.toInt32.toInt64) hx hb md_M_normal_14 rfl ?_
      exact W.lret (v := p1.toInt32.toInt64) hx hb hr (fun t ht2 _ => ⟨p1.toInt32.toInt64, rfl, trivial, ht2⟩) (fun q h => by cases h) md_M_normal_15
  · refine lv_lload_n hx hb md_M_normal_5 rfl (lv_at hl 1 rfl) ?_
    exact W.lret (v := p1) hx hb hr (fun t ht2 _ => ⟨p1, rfl, trivial, ht2⟩) (fun q h => by cases h) md_M_normal_6
set_option maxHeartbeats 4000000 in
set_option maxRecDepth 100000 in
theorem mt_M_ofWhole (l : Launch) (p0 : Int32) (p1 : Int64) : Met l my_M_ofWhole mw_M_ofWhole ({ frames := 3, cells := 0, slots := 0, locals := 75 } : Room) (va_Pc [.int p0, .long p1] (fun _ => True)) (vp_Sl (fun _ => True)) 0 0 (fun _ => False) := by
  refine Met.ofW (cc := mc_M_ofWhole) (maxL := 3) (ret := (some .long)) (by decide) rfl ?_
  intro p e s m args below meth c s₁ B hml hv
  obtain ⟨rfl, -⟩ := hv
  have hx := B.exec
  have hb := B.bytes
  have hr := B.returns
  have hts := atoms_spec (ws := mw_M_ofWhole) B.pre
  have ht : ∀ w ∈ gw_tbl, w.before _ s = true := fun w h => hts w (List.mem_cons_of_mem _ h)
  have hown : s.vm.findClass "NumberProbeModel" = some m.cls := findClass_of_methodNamed B.named
  have hlocks := B.notSynchronized
  have hl := lv_entry ([.int p0, .long p1]) (n := 3) (Nat.le_of_ble_eq_true rfl)
  rw [lg_entry_eq]
  generalize (lg_sl ([.int p0, .long p1]) ++ List.replicate (3 - (lg_sl ([.int p0, .long p1])).length) Slot.unset).toArray = ls at hl ⊢
  have hl : lv_has ls 3 [(0, .int p0), (1, .long p1)] := hl
  refine lv_lload_n hx hb md_M_ofWhole_0 rfl (lv_at hl 1 rfl) ?_
  refine lv_ldc2 (v := (-9223372036854775808)) hx hb hown (ht _ tm_376) md_M_ofWhole_1 ?_
  refine W.lcmp hx hb md_M_ofWhole_4 ?_
  refine lv_if_ne (tgt := 18) hx hb md_M_ofWhole_5 (by decide) (fun c_1 => ?_) (fun c_1 => ?_)
  · refine lv_iload_n hx hb md_M_ofWhole_18 rfl (lv_at hl 0 rfl) ?_
    refine lv_lload_n hx hb md_M_ofWhole_19 rfl (lv_at hl 1 rfl) ?_
    refine lv_lconst (v := 0) hx hb md_M_ofWhole_20 (by decide) ?_
    refine W.lcmp hx hb md_M_ofWhole_21 ?_
    have J_3 : ∀ (z_4 : Bool) (ls : Array Slot), lv_has ls 3 [(0, .int p0), (1, .long p1)] → WP p l e mw_M_ofWhole ({ frames := 3, cells := 0, slots := 0, locals := 75 } : Room) s m [.int p0, .long p1] below meth c (vp_Sl (fun _ => True)) (F0 m 30 ls [.int (jb z_4), .int p0]) := by
      intro z_4 ls hl
      refine lv_lload_n hx hb md_M_ofWhole_30 rfl (lv_at hl 1 rfl) ?_
      refine lv_lconst (v := 0) hx hb md_M_ofWhole_31 (by decide) ?_
      refine W.lcmp hx hb md_M_ofWhole_32 ?_
      have J_6 : ∀ (z_7 : Int64) (ls : Array Slot), lv_has ls 3 [(0, .int p0), (1, .long p1)] → WP p l e mw_M_ofWhole ({ frames := 3, cells := 0, slots := 0, locals := 75 } : Room) s m [.int p0, .long p1] below meth c (vp_Sl (fun _ => True)) (F0 m 42 ls [.long z_7, .int (jb z_4), .int p0]) := by
        intro z_7 ls hl
        refine lv_iconst (v := 0) hx hb md_M_ofWhole_42 (by decide) ?_
        refine vp_callSl (W.runS (As := [.int p0, .int (jb z_4), .long z_7, .int 0]) (rest := []) ⟨hx, hb, hml, hown, hts⟩ (mt_M_round l p0 z_4 z_7 0) (va_cwS 4 hts (gd_S tm_398 tm_399 tm_25 tm_400) rfl rfl rfl (by decide +kernel) ⟨Nat.le_of_ble_eq_true rfl, Nat.le_of_ble_eq_true rfl⟩) ⟨fb_0, fun U hU hW => ⟨rfl, trivial⟩⟩ rfl rfl hl.1 rfl (lv_room (Nat.le_of_ble_eq_true rfl)) md_M_ofWhole_43 ⟨Nat.zero_le _, Nat.zero_le _⟩) (fun r_8 e_9 => ?_)
        exact W.lret (v := r_8) hx hb hr (fun t ht2 _ => ⟨r_8, rfl, trivial, ht2⟩) (fun q h => by cases h) md_M_ofWhole_46
      refine lv_if_ge (tgt := 41) hx hb md_M_ofWhole_33 (by decide) (fun c_5 => ?_) (fun c_5 => ?_)
      · refine lv_lload_n hx hb md_M_ofWhole_41 rfl (lv_at hl 1 rfl) ?_
        exact J_6 p1 ls (lv_sub hl [0, 1] rfl)
      · refine lv_lload_n hx hb md_M_ofWhole_36 rfl (lv_at hl 1 rfl) ?_
        refine lv_lneg hx hb md_M_ofWhole_37 ?_
        refine lv_goto (tgt := 42) hx hb md_M_ofWhole_38 (by decide) ?_
        exact J_6 (-p1) ls (lv_sub hl [0, 1] rfl)
    refine lv_if_ge (tgt := 29) hx hb md_M_ofWhole_22 (by decide) (fun c_2 => ?_) (fun c_2 => ?_)
    · refine lv_iconst (v := 0) hx hb md_M_ofWhole_29 (by decide) ?_
      exact J_3 false ls (lv_sub hl [0, 1] rfl)
    · refine lv_iconst (v := 1) hx hb md_M_ofWhole_25 (by decide) ?_
      refine lv_goto (tgt := 30) hx hb md_M_ofWhole_26 (by decide) ?_
      exact J_3 true ls (lv_sub hl [0, 1] rfl)
  · refine lv_iload_n hx hb md_M_ofWhole_8 rfl (lv_at hl 0 rfl) ?_
    refine lv_iconst (v := 1) hx hb md_M_ofWhole_9 (by decide) ?_
    refine lv_ldc2 (v := 4611686018427387904) hx hb hown (ht _ tm_397) md_M_ofWhole_10 ?_
    refine lv_iconst (v := 1) hx hb md_M_ofWhole_13 (by decide) ?_
    refine vp_callSl (W.runS (As := [.int p0, .int 1, .long 4611686018427387904, .int 1]) (rest := []) ⟨hx, hb, hml, hown, hts⟩ (mt_M_round l p0 true 4611686018427387904 1) (va_cwS 4 hts (gd_S tm_398 tm_399 tm_25 tm_400) rfl rfl rfl (by decide +kernel) ⟨Nat.le_of_ble_eq_true rfl, Nat.le_of_ble_eq_true rfl⟩) ⟨fb_0, fun U hU hW => ⟨rfl, trivial⟩⟩ rfl rfl hl.1 rfl (lv_room (Nat.le_of_ble_eq_true rfl)) md_M_ofWhole_14 ⟨Nat.zero_le _, Nat.zero_le _⟩) (fun r_10 e_11 => ?_)
    exact W.lret (v := r_10) hx hb hr (fun t ht2 _ => ⟨r_10, rfl, trivial, ht2⟩) (fun q h => by cases h) md_M_ofWhole_17
set_option maxHeartbeats 4000000 in
set_option maxRecDepth 100000 in
theorem mt_M_bounded (l : Launch) (p0 : Int64) : Met l my_M_bounded mw_M_bounded ({ frames := 0, cells := 0, slots := 0, locals := 0 } : Room) (va_Pc [.long p0] (fun _ => True)) (vp_Sl (fun _ => True)) 0 0 (fun _ => False) := by
  refine Met.ofW (cc := mc_M_bounded) (maxL := 2) (ret := (some .long)) (by decide) rfl ?_
  intro p e s m args below meth c s₁ B hml hv
  obtain ⟨rfl, -⟩ := hv
  have hx := B.exec
  have hb := B.bytes
  have hr := B.returns
  have hts := atoms_spec (ws := mw_M_bounded) B.pre
  have ht : ∀ w ∈ gw_tbl, w.before _ s = true := fun w h => hts w (List.mem_cons_of_mem _ h)
  have hown : s.vm.findClass "NumberProbeModel" = some m.cls := findClass_of_methodNamed B.named
  have hlocks := B.notSynchronized
  have hl := lv_entry ([.long p0]) (n := 2) (Nat.le_of_ble_eq_true rfl)
  rw [lg_entry_eq]
  generalize (lg_sl ([.long p0]) ++ List.replicate (2 - (lg_sl ([.long p0])).length) Slot.unset).toArray = ls at hl ⊢
  have hl : lv_has ls 2 [(0, .long p0)] := hl
  refine lv_lload_n hx hb md_M_bounded_0 rfl (lv_at hl 0 rfl) ?_
  refine lv_ldc2 (v := 2147483647) hx hb hown (ht _ tm_416) md_M_bounded_1 ?_
  refine W.lcmp hx hb md_M_bounded_4 ?_
  have J_5 : ∀ (z_6 : Int64) (ls : Array Slot), lv_has ls 2 [(0, .long p0)] → WP p l e mw_M_bounded ({ frames := 0, cells := 0, slots := 0, locals := 0 } : Room) s m [.long p0] below meth c (vp_Sl (fun _ => True)) (F0 m 29 ls [.long z_6]) := by
    intro z_6 ls hl
    exact W.lret (v := z_6) hx hb hr (fun t ht2 _ => ⟨z_6, rfl, trivial, ht2⟩) (fun q h => by cases h) md_M_bounded_29
  refine lv_if_le (tgt := 14) hx hb md_M_bounded_5 (by decide) (fun c_1 => ?_) (fun c_1 => ?_)
  · refine lv_lload_n hx hb md_M_bounded_14 rfl (lv_at hl 0 rfl) ?_
    refine lv_ldc2 (v := (-2147483648)) hx hb hown (ht _ tm_415) md_M_bounded_15 ?_
    refine W.lcmp hx hb md_M_bounded_18 ?_
    have J_8 : ∀ (z_9 : Int64) (ls : Array Slot), lv_has ls 2 [(0, .long p0)] → WP p l e mw_M_bounded ({ frames := 0, cells := 0, slots := 0, locals := 0 } : Room) s m [.long p0] below meth c (vp_Sl (fun _ => True)) (F0 m 29 ls [.long z_9]) := by
      intro z_9 ls hl
      exact J_5 z_9 ls (lv_sub hl [0] rfl)
    refine lv_if_ge (tgt := 28) hx hb md_M_bounded_19 (by decide) (fun c_7 => ?_) (fun c_7 => ?_)
    · refine lv_lload_n hx hb md_M_bounded_28 rfl (lv_at hl 0 rfl) ?_
      exact J_8 p0 ls (lv_sub hl [0] rfl)
    · refine lv_ldc2 (v := (-2147483648)) hx hb hown (ht _ tm_415) md_M_bounded_22 ?_
      refine lv_goto (tgt := 29) hx hb md_M_bounded_25 (by decide) ?_
      exact J_8 (-2147483648) ls (lv_sub hl [0] rfl)
  · refine lv_ldc2 (v := 2147483647) hx hb hown (ht _ tm_416) md_M_bounded_8 ?_
    refine lv_goto (tgt := 29) hx hb md_M_bounded_11 (by decide) ?_
    exact J_5 2147483647 ls (lv_sub hl [0] rfl)
set_option maxHeartbeats 4000000 in
set_option maxRecDepth 100000 in
theorem mt_M_realBoundary (l : Launch) (p0 : Int32) (p1 : Int32) : Met l my_M_realBoundary mw_M_realBoundary ({ frames := 4, cells := 0, slots := 0, locals := 97 } : Room) (va_Pc [.int p0, .int p1] (fun _ => True)) (vp_Sl (fun _ => True)) 0 0 (fun _ => False) := by
  refine Met.ofW (cc := mc_M_realBoundary) (maxL := 4) (ret := (some .long)) (by decide) rfl ?_
  intro p e s m args below meth c s₁ B hml hv
  obtain ⟨rfl, -⟩ := hv
  have hx := B.exec
  have hb := B.bytes
  have hr := B.returns
  have hts := atoms_spec (ws := mw_M_realBoundary) B.pre
  have ht : ∀ w ∈ gw_tbl, w.before _ s = true := fun w h => hts w (List.mem_cons_of_mem _ h)
  have hown : s.vm.findClass "NumberProbeModel" = some m.cls := findClass_of_methodNamed B.named
  have hlocks := B.notSynchronized
  have hl := lv_entry ([.int p0, .int p1]) (n := 4) (Nat.le_of_ble_eq_true rfl)
  rw [lg_entry_eq]
  generalize (lg_sl ([.int p0, .int p1]) ++ List.replicate (4 - (lg_sl ([.int p0, .int p1])).length) Slot.unset).toArray = ls at hl ⊢
  have hl : lv_has ls 4 [(0, .int p0), (1, .int p1)] := hl
  refine lv_iload_n hx hb md_M_realBoundary_0 rfl (lv_at hl 0 rfl) ?_
  refine lv_lconst (v := 1) hx hb md_M_realBoundary_1 (by decide) ?_
  refine vp_callSl (W.runS (As := [.int p0, .long 1]) (rest := []) ⟨hx, hb, hml, hown, hts⟩ (mt_M_ofWhole l p0 1) (va_cwS 2 hts (gd_S tm_394 tm_395 tm_25 tm_396) rfl rfl rfl (by decide +kernel) ⟨Nat.le_of_ble_eq_true rfl, Nat.le_of_ble_eq_true rfl⟩) ⟨fb_0, fun U hU hW => ⟨rfl, trivial⟩⟩ rfl rfl hl.1 rfl (lv_room (Nat.le_of_ble_eq_true rfl)) md_M_realBoundary_2 ⟨Nat.zero_le _, Nat.zero_le _⟩) (fun r_1 e_2 => ?_)
  refine lv_lstore_n (lv' := [(2, .long r_1), (0, .int p0), (1, .int p1)]) hx hb md_M_realBoundary_5 rfl hl (by decide) rfl (fun ls hl => ?_)
  refine lv_iload_n hx hb md_M_realBoundary_6 rfl (lv_at hl 2 rfl) ?_
  by_cases k_3 : p1 = 0
  · refine lv_tableIn (off := 93) (tgt := 100) hx hb md_M_realBoundary_7 (by rw [k_3]; decide) (by rw [k_3]; decide) (by rw [k_3]; rfl) (by decide) ?_
    refine lv_lconst (v := 0) hx hb md_M_realBoundary_100 (by decide) ?_
    exact W.lret (v := 0) hx hb hr (fun t ht2 _ => ⟨0, rfl, trivial, ht2⟩) (fun q h => by cases h) md_M_realBoundary_101
  by_cases k_4 : p1 = 1
  · refine lv_tableIn (off := 95) (tgt := 102) hx hb md_M_realBoundary_7 (by rw [k_4]; decide) (by rw [k_4]; decide) (by rw [k_4]; rfl) (by decide) ?_
    refine lv_iload_n hx hb md_M_realBoundary_102 rfl (lv_at hl 1 rfl) ?_
    refine vp_callSl (W.runS (As := [.int p0]) (rest := []) ⟨hx, hb, hml, hown, hts⟩ (mt_M_signBit l p0) (va_cwS 1 hts (gd_S tm_372 tm_373 tm_25 tm_374) rfl rfl rfl (by decide +kernel) ⟨Nat.le_of_ble_eq_true rfl, Nat.le_of_ble_eq_true rfl⟩) ⟨fb_0, fun U hU hW => ⟨rfl, trivial⟩⟩ rfl rfl hl.1 rfl (lv_room (Nat.le_of_ble_eq_true rfl)) md_M_realBoundary_103 ⟨Nat.zero_le _, Nat.zero_le _⟩) (fun r_5 e_6 => ?_)
    obtain rfl : r_5 = rf_sb p0 := e_6
    exact W.lret (v := rf_sb p0) hx hb hr (fun t ht2 _ => ⟨(rf_sb p0), rfl, trivial, ht2⟩) (fun q h => by cases h) md_M_realBoundary_106
  by_cases k_7 : p1 = 2
  · refine lv_tableIn (off := 100) (tgt := 107) hx hb md_M_realBoundary_7 (by rw [k_7]; decide) (by rw [k_7]; decide) (by rw [k_7]; rfl) (by decide) ?_
    refine lv_lload_n hx hb md_M_realBoundary_107 rfl (lv_at hl 0 rfl) ?_
    exact W.lret (v := r_1) hx hb hr (fun t ht2 _ => ⟨r_1, rfl, trivial, ht2⟩) (fun q h => by cases h) md_M_realBoundary_108
  by_cases k_8 : p1 = 3
  · refine lv_tableIn (off := 102) (tgt := 109) hx hb md_M_realBoundary_7 (by rw [k_8]; decide) (by rw [k_8]; decide) (by rw [k_8]; rfl) (by decide) ?_
    refine lv_lload_n hx hb md_M_realBoundary_109 rfl (lv_at hl 0 rfl) ?_
    refine lv_iload_n hx hb md_M_realBoundary_110 rfl (lv_at hl 1 rfl) ?_
    refine vp_callSl (W.runS (As := [.int p0]) (rest := [.long r_1]) ⟨hx, hb, hml, hown, hts⟩ (mt_M_signBit l p0) (va_cwS 1 hts (gd_S tm_372 tm_373 tm_25 tm_374) rfl rfl rfl (by decide +kernel) ⟨Nat.le_of_ble_eq_true rfl, Nat.le_of_ble_eq_true rfl⟩) ⟨fb_0, fun U hU hW => ⟨rfl, trivial⟩⟩ rfl rfl hl.1 rfl (lv_room (Nat.le_of_ble_eq_true rfl)) md_M_realBoundary_111 ⟨Nat.zero_le _, Nat.zero_le _⟩) (fun r_9 e_10 => ?_)
    obtain rfl : r_9 = rf_sb p0 := e_10
    refine lv_lor hx hb md_M_realBoundary_114 ?_
    exact W.lret (v := r_1 ||| (rf_sb p0)) hx hb hr (fun t ht2 _ => ⟨(r_1 ||| (rf_sb p0)), rfl, trivial, ht2⟩) (fun q h => by cases h) md_M_realBoundary_115
  by_cases k_11 : p1 = 4
  · refine lv_tableIn (off := 109) (tgt := 116) hx hb md_M_realBoundary_7 (by rw [k_11]; decide) (by rw [k_11]; decide) (by rw [k_11]; rfl) (by decide) ?_
    refine lv_lconst (v := 1) hx hb md_M_realBoundary_116 (by decide) ?_
    exact W.lret (v := 1) hx hb hr (fun t ht2 _ => ⟨1, rfl, trivial, ht2⟩) (fun q h => by cases h) md_M_realBoundary_117
  by_cases k_12 : p1 = 5
  · refine lv_tableIn (off := 111) (tgt := 118) hx hb md_M_realBoundary_7 (by rw [k_12]; decide) (by rw [k_12]; decide) (by rw [k_12]; rfl) (by decide) ?_
    refine lv_lconst (v := 1) hx hb md_M_realBoundary_118 (by decide) ?_
    refine lv_iload_n hx hb md_M_realBoundary_119 rfl (lv_at hl 1 rfl) ?_
    refine vp_callSi (W.runS (As := [.int p0]) (rest := [.long 1]) ⟨hx, hb, hml, hown, hts⟩ (mt_M_fraction l p0) (va_cwS 1 hts (gd_S tm_407 tm_408 tm_25 tm_409) rfl rfl rfl (by decide +kernel) ⟨Nat.le_of_ble_eq_true rfl, Nat.le_of_ble_eq_true rfl⟩) ⟨fb_0, fun U hU hW => ⟨rfl, trivial⟩⟩ rfl rfl hl.1 rfl (lv_room (Nat.le_of_ble_eq_true rfl)) md_M_realBoundary_120 ⟨Nat.zero_le _, Nat.zero_le _⟩) (fun r_13 e_14 => ?_)
    obtain rfl : r_13 = rf_fr p0 := e_14
    refine lv_lshl (v := jl_shl 1 (rf_fr p0)) hx hb md_M_realBoundary_123 rfl ?_
    refine lv_lconst (v := 1) hx hb md_M_realBoundary_124 (by decide) ?_
    refine lv_lsub hx hb md_M_realBoundary_125 ?_
    exact W.lret (v := (jl_shl 1 (rf_fr p0)) - 1) hx hb hr (fun t ht2 _ => ⟨((jl_shl 1 (rf_fr p0)) - 1), rfl, trivial, ht2⟩) (fun q h => by cases h) md_M_realBoundary_126
  by_cases k_15 : p1 = 6
  · refine lv_tableIn (off := 120) (tgt := 127) hx hb md_M_realBoundary_7 (by rw [k_15]; decide) (by rw [k_15]; decide) (by rw [k_15]; rfl) (by decide) ?_
    refine lv_lconst (v := 1) hx hb md_M_realBoundary_127 (by decide) ?_
    refine lv_iload_n hx hb md_M_realBoundary_128 rfl (lv_at hl 1 rfl) ?_
    refine vp_callSi (W.runS (As := [.int p0]) (rest := [.long 1]) ⟨hx, hb, hml, hown, hts⟩ (mt_M_fraction l p0) (va_cwS 1 hts (gd_S tm_407 tm_408 tm_25 tm_409) rfl rfl rfl (by decide +kernel) ⟨Nat.le_of_ble_eq_true rfl, Nat.le_of_ble_eq_true rfl⟩) ⟨fb_0, fun U hU hW => ⟨rfl, trivial⟩⟩ rfl rfl hl.1 rfl (lv_room (Nat.le_of_ble_eq_true rfl)) md_M_realBoundary_129 ⟨Nat.zero_le _, Nat.zero_le _⟩) (fun r_16 e_17 => ?_)
    obtain rfl : r_16 = rf_fr p0 := e_17
    refine lv_lshl (v := jl_shl 1 (rf_fr p0)) hx hb md_M_realBoundary_132 rfl ?_
    exact W.lret (v := jl_shl 1 (rf_fr p0)) hx hb hr (fun t ht2 _ => ⟨(jl_shl 1 (rf_fr p0)), rfl, trivial, ht2⟩) (fun q h => by cases h) md_M_realBoundary_133
  by_cases k_18 : p1 = 7
  · refine lv_tableIn (off := 127) (tgt := 134) hx hb md_M_realBoundary_7 (by rw [k_18]; decide) (by rw [k_18]; decide) (by rw [k_18]; rfl) (by decide) ?_
    refine lv_iload_n hx hb md_M_realBoundary_134 rfl (lv_at hl 1 rfl) ?_
    refine vp_callSl (W.runS (As := [.int p0]) (rest := []) ⟨hx, hb, hml, hown, hts⟩ (mt_M_infinity l p0) (va_cwS 1 hts (gd_S tm_377 tm_378 tm_25 tm_379) rfl rfl rfl (by decide +kernel) ⟨Nat.le_of_ble_eq_true rfl, Nat.le_of_ble_eq_true rfl⟩) ⟨fb_0, fun U hU hW => ⟨rfl, trivial⟩⟩ rfl rfl hl.1 rfl (lv_room (Nat.le_of_ble_eq_true rfl)) md_M_realBoundary_135 ⟨Nat.zero_le _, Nat.zero_le _⟩) (fun r_19 e_20 => ?_)
    obtain rfl : r_19 = rf_if p0 := e_20
    refine lv_lconst (v := 1) hx hb md_M_realBoundary_138 (by decide) ?_
    refine lv_lsub hx hb md_M_realBoundary_139 ?_
    exact W.lret (v := (rf_if p0) - 1) hx hb hr (fun t ht2 _ => ⟨((rf_if p0) - 1), rfl, trivial, ht2⟩) (fun q h => by cases h) md_M_realBoundary_140
  by_cases k_21 : p1 = 8
  · refine lv_tableIn (off := 134) (tgt := 141) hx hb md_M_realBoundary_7 (by rw [k_21]; decide) (by rw [k_21]; decide) (by rw [k_21]; rfl) (by decide) ?_
    refine lv_iload_n hx hb md_M_realBoundary_141 rfl (lv_at hl 1 rfl) ?_
    refine vp_callSl (W.runS (As := [.int p0]) (rest := []) ⟨hx, hb, hml, hown, hts⟩ (mt_M_infinity l p0) (va_cwS 1 hts (gd_S tm_377 tm_378 tm_25 tm_379) rfl rfl rfl (by decide +kernel) ⟨Nat.le_of_ble_eq_true rfl, Nat.le_of_ble_eq_true rfl⟩) ⟨fb_0, fun U hU hW => ⟨rfl, trivial⟩⟩ rfl rfl hl.1 rfl (lv_room (Nat.le_of_ble_eq_true rfl)) md_M_realBoundary_142 ⟨Nat.zero_le _, Nat.zero_le _⟩) (fun r_22 e_23 => ?_)
    obtain rfl : r_22 = rf_if p0 := e_23
    exact W.lret (v := rf_if p0) hx hb hr (fun t ht2 _ => ⟨(rf_if p0), rfl, trivial, ht2⟩) (fun q h => by cases h) md_M_realBoundary_145
  by_cases k_24 : p1 = 9
  · refine lv_tableIn (off := 139) (tgt := 146) hx hb md_M_realBoundary_7 (by rw [k_24]; decide) (by rw [k_24]; decide) (by rw [k_24]; rfl) (by decide) ?_
    refine lv_iload_n hx hb md_M_realBoundary_146 rfl (lv_at hl 1 rfl) ?_
    refine vp_callSl (W.runS (As := [.int p0]) (rest := []) ⟨hx, hb, hml, hown, hts⟩ (mt_M_infinity l p0) (va_cwS 1 hts (gd_S tm_377 tm_378 tm_25 tm_379) rfl rfl rfl (by decide +kernel) ⟨Nat.le_of_ble_eq_true rfl, Nat.le_of_ble_eq_true rfl⟩) ⟨fb_0, fun U hU hW => ⟨rfl, trivial⟩⟩ rfl rfl hl.1 rfl (lv_room (Nat.le_of_ble_eq_true rfl)) md_M_realBoundary_147 ⟨Nat.zero_le _, Nat.zero_le _⟩) (fun r_25 e_26 => ?_)
    obtain rfl : r_25 = rf_if p0 := e_26
    refine lv_iload_n hx hb md_M_realBoundary_150 rfl (lv_at hl 1 rfl) ?_
    refine vp_callSl (W.runS (As := [.int p0]) (rest := [.long (rf_if p0)]) ⟨hx, hb, hml, hown, hts⟩ (mt_M_signBit l p0) (va_cwS 1 hts (gd_S tm_372 tm_373 tm_25 tm_374) rfl rfl rfl (by decide +kernel) ⟨Nat.le_of_ble_eq_true rfl, Nat.le_of_ble_eq_true rfl⟩) ⟨fb_0, fun U hU hW => ⟨rfl, trivial⟩⟩ rfl rfl hl.1 rfl (lv_room (Nat.le_of_ble_eq_true rfl)) md_M_realBoundary_151 ⟨Nat.zero_le _, Nat.zero_le _⟩) (fun r_27 e_28 => ?_)
    obtain rfl : r_27 = rf_sb p0 := e_28
    refine lv_lor hx hb md_M_realBoundary_154 ?_
    exact W.lret (v := (rf_if p0) ||| (rf_sb p0)) hx hb hr (fun t ht2 _ => ⟨((rf_if p0) ||| (rf_sb p0)), rfl, trivial, ht2⟩) (fun q h => by cases h) md_M_realBoundary_155
  by_cases k_29 : p1 = 10
  · refine lv_tableIn (off := 149) (tgt := 156) hx hb md_M_realBoundary_7 (by rw [k_29]; decide) (by rw [k_29]; decide) (by rw [k_29]; rfl) (by decide) ?_
    refine lv_iload_n hx hb md_M_realBoundary_156 rfl (lv_at hl 1 rfl) ?_
    refine vp_callSl (W.runS (As := [.int p0]) (rest := []) ⟨hx, hb, hml, hown, hts⟩ (mt_M_nan l p0) (va_cwS 1 hts (gd_S tm_382 tm_383 tm_25 tm_384) rfl rfl rfl (by decide +kernel) ⟨Nat.le_of_ble_eq_true rfl, Nat.le_of_ble_eq_true rfl⟩) ⟨fb_0, fun U hU hW => ⟨rfl, trivial⟩⟩ rfl rfl hl.1 rfl (lv_room (Nat.le_of_ble_eq_true rfl)) md_M_realBoundary_157 ⟨Nat.zero_le _, Nat.zero_le _⟩) (fun r_30 e_31 => ?_)
    obtain rfl : r_30 = rf_na p0 := e_31
    exact W.lret (v := rf_na p0) hx hb hr (fun t ht2 _ => ⟨(rf_na p0), rfl, trivial, ht2⟩) (fun q h => by cases h) md_M_realBoundary_160
  by_cases k_32 : p1 = 11
  · refine lv_tableIn (off := 154) (tgt := 161) hx hb md_M_realBoundary_7 (by rw [k_32]; decide) (by rw [k_32]; decide) (by rw [k_32]; rfl) (by decide) ?_
    refine lv_lload_n hx hb md_M_realBoundary_161 rfl (lv_at hl 0 rfl) ?_
    refine lv_lconst (v := 1) hx hb md_M_realBoundary_162 (by decide) ?_
    refine lv_ladd hx hb md_M_realBoundary_163 ?_
    exact W.lret (v := r_1 + 1) hx hb hr (fun t ht2 _ => ⟨(r_1 + 1), rfl, trivial, ht2⟩) (fun q h => by cases h) md_M_realBoundary_164
  by_cases k_33 : p1 = 12
  · refine lv_tableIn (off := 158) (tgt := 165) hx hb md_M_realBoundary_7 (by rw [k_33]; decide) (by rw [k_33]; decide) (by rw [k_33]; rfl) (by decide) ?_
    refine lv_lload_n hx hb md_M_realBoundary_165 rfl (lv_at hl 0 rfl) ?_
    refine lv_lconst (v := 1) hx hb md_M_realBoundary_166 (by decide) ?_
    refine lv_lsub hx hb md_M_realBoundary_167 ?_
    exact W.lret (v := r_1 - 1) hx hb hr (fun t ht2 _ => ⟨(r_1 - 1), rfl, trivial, ht2⟩) (fun q h => by cases h) md_M_realBoundary_168
  by_cases k_34 : p1 = 13
  · refine lv_tableIn (off := 162) (tgt := 169) hx hb md_M_realBoundary_7 (by rw [k_34]; decide) (by rw [k_34]; decide) (by rw [k_34]; rfl) (by decide) ?_
    refine lv_iload_n hx hb md_M_realBoundary_169 rfl (lv_at hl 1 rfl) ?_
    refine lv_ldc2 (v := 16777217) hx hb hown (ht _ tm_413) md_M_realBoundary_170 ?_
    refine vp_callSl (W.runS (As := [.int p0, .long 16777217]) (rest := []) ⟨hx, hb, hml, hown, hts⟩ (mt_M_ofWhole l p0 16777217) (va_cwS 2 hts (gd_S tm_394 tm_395 tm_25 tm_396) rfl rfl rfl (by decide +kernel) ⟨Nat.le_of_ble_eq_true rfl, Nat.le_of_ble_eq_true rfl⟩) ⟨fb_0, fun U hU hW => ⟨rfl, trivial⟩⟩ rfl rfl hl.1 rfl (lv_room (Nat.le_of_ble_eq_true rfl)) md_M_realBoundary_173 ⟨Nat.zero_le _, Nat.zero_le _⟩) (fun r_35 e_36 => ?_)
    exact W.lret (v := r_35) hx hb hr (fun t ht2 _ => ⟨r_35, rfl, trivial, ht2⟩) (fun q h => by cases h) md_M_realBoundary_176
  by_cases k_37 : p1 = 14
  · refine lv_tableIn (off := 170) (tgt := 177) hx hb md_M_realBoundary_7 (by rw [k_37]; decide) (by rw [k_37]; decide) (by rw [k_37]; rfl) (by decide) ?_
    refine lv_iload_n hx hb md_M_realBoundary_177 rfl (lv_at hl 1 rfl) ?_
    refine lv_ldc2 (v := 9007199254740993) hx hb hown (ht _ tm_414) md_M_realBoundary_178 ?_
    refine vp_callSl (W.runS (As := [.int p0, .long 9007199254740993]) (rest := []) ⟨hx, hb, hml, hown, hts⟩ (mt_M_ofWhole l p0 9007199254740993) (va_cwS 2 hts (gd_S tm_394 tm_395 tm_25 tm_396) rfl rfl rfl (by decide +kernel) ⟨Nat.le_of_ble_eq_true rfl, Nat.le_of_ble_eq_true rfl⟩) ⟨fb_0, fun U hU hW => ⟨rfl, trivial⟩⟩ rfl rfl hl.1 rfl (lv_room (Nat.le_of_ble_eq_true rfl)) md_M_realBoundary_181 ⟨Nat.zero_le _, Nat.zero_le _⟩) (fun r_38 e_39 => ?_)
    exact W.lret (v := r_38) hx hb hr (fun t ht2 _ => ⟨r_38, rfl, trivial, ht2⟩) (fun q h => by cases h) md_M_realBoundary_184
  by_cases k_40 : p1 = 15
  · refine lv_tableIn (off := 178) (tgt := 185) hx hb md_M_realBoundary_7 (by rw [k_40]; decide) (by rw [k_40]; decide) (by rw [k_40]; rfl) (by decide) ?_
    refine lv_iload_n hx hb md_M_realBoundary_185 rfl (lv_at hl 1 rfl) ?_
    refine lv_ldc2 (v := 2147483648) hx hb hown (ht _ tm_375) md_M_realBoundary_186 ?_
    refine vp_callSl (W.runS (As := [.int p0, .long 2147483648]) (rest := []) ⟨hx, hb, hml, hown, hts⟩ (mt_M_ofWhole l p0 2147483648) (va_cwS 2 hts (gd_S tm_394 tm_395 tm_25 tm_396) rfl rfl rfl (by decide +kernel) ⟨Nat.le_of_ble_eq_true rfl, Nat.le_of_ble_eq_true rfl⟩) ⟨fb_0, fun U hU hW => ⟨rfl, trivial⟩⟩ rfl rfl hl.1 rfl (lv_room (Nat.le_of_ble_eq_true rfl)) md_M_realBoundary_189 ⟨Nat.zero_le _, Nat.zero_le _⟩) (fun r_41 e_42 => ?_)
    exact W.lret (v := r_41) hx hb hr (fun t ht2 _ => ⟨r_41, rfl, trivial, ht2⟩) (fun q h => by cases h) md_M_realBoundary_192
  by_cases k_43 : p1 = 16
  · refine lv_tableIn (off := 186) (tgt := 193) hx hb md_M_realBoundary_7 (by rw [k_43]; decide) (by rw [k_43]; decide) (by rw [k_43]; rfl) (by decide) ?_
    refine lv_iload_n hx hb md_M_realBoundary_193 rfl (lv_at hl 1 rfl) ?_
    refine lv_ldc2 (v := (-2147483648)) hx hb hown (ht _ tm_415) md_M_realBoundary_194 ?_
    refine vp_callSl (W.runS (As := [.int p0, .long (-2147483648)]) (rest := []) ⟨hx, hb, hml, hown, hts⟩ (mt_M_ofWhole l p0 (-2147483648)) (va_cwS 2 hts (gd_S tm_394 tm_395 tm_25 tm_396) rfl rfl rfl (by decide +kernel) ⟨Nat.le_of_ble_eq_true rfl, Nat.le_of_ble_eq_true rfl⟩) ⟨fb_0, fun U hU hW => ⟨rfl, trivial⟩⟩ rfl rfl hl.1 rfl (lv_room (Nat.le_of_ble_eq_true rfl)) md_M_realBoundary_197 ⟨Nat.zero_le _, Nat.zero_le _⟩) (fun r_44 e_45 => ?_)
    exact W.lret (v := r_44) hx hb hr (fun t ht2 _ => ⟨r_44, rfl, trivial, ht2⟩) (fun q h => by cases h) md_M_realBoundary_200
  by_cases k_46 : p1 = 17
  · refine lv_tableIn (off := 194) (tgt := 201) hx hb md_M_realBoundary_7 (by rw [k_46]; decide) (by rw [k_46]; decide) (by rw [k_46]; rfl) (by decide) ?_
    refine lv_iload_n hx hb md_M_realBoundary_201 rfl (lv_at hl 1 rfl) ?_
    refine lv_iconst (v := 0) hx hb md_M_realBoundary_202 (by decide) ?_
    refine lv_ldc2 (v := 4611686018427387904) hx hb hown (ht _ tm_397) md_M_realBoundary_203 ?_
    refine lv_iconst (v := 1) hx hb md_M_realBoundary_206 (by decide) ?_
    refine vp_callSl (W.runS (As := [.int p0, .int 0, .long 4611686018427387904, .int 1]) (rest := []) ⟨hx, hb, hml, hown, hts⟩ (mt_M_round l p0 false 4611686018427387904 1) (va_cwS 4 hts (gd_S tm_398 tm_399 tm_25 tm_400) rfl rfl rfl (by decide +kernel) ⟨Nat.le_of_ble_eq_true rfl, Nat.le_of_ble_eq_true rfl⟩) ⟨fb_0, fun U hU hW => ⟨rfl, trivial⟩⟩ rfl rfl hl.1 rfl (lv_room (Nat.le_of_ble_eq_true rfl)) md_M_realBoundary_207 ⟨Nat.zero_le _, Nat.zero_le _⟩) (fun r_47 e_48 => ?_)
    exact W.lret (v := r_47) hx hb hr (fun t ht2 _ => ⟨r_47, rfl, trivial, ht2⟩) (fun q h => by cases h) md_M_realBoundary_210
  by_cases k_49 : p1 = 18
  · refine lv_tableIn (off := 204) (tgt := 211) hx hb md_M_realBoundary_7 (by rw [k_49]; decide) (by rw [k_49]; decide) (by rw [k_49]; rfl) (by decide) ?_
    refine lv_iload_n hx hb md_M_realBoundary_211 rfl (lv_at hl 1 rfl) ?_
    refine lv_iconst (v := 1) hx hb md_M_realBoundary_212 (by decide) ?_
    refine lv_ldc2 (v := 4611686018427387904) hx hb hown (ht _ tm_397) md_M_realBoundary_213 ?_
    refine lv_iconst (v := 1) hx hb md_M_realBoundary_216 (by decide) ?_
    refine vp_callSl (W.runS (As := [.int p0, .int 1, .long 4611686018427387904, .int 1]) (rest := []) ⟨hx, hb, hml, hown, hts⟩ (mt_M_round l p0 true 4611686018427387904 1) (va_cwS 4 hts (gd_S tm_398 tm_399 tm_25 tm_400) rfl rfl rfl (by decide +kernel) ⟨Nat.le_of_ble_eq_true rfl, Nat.le_of_ble_eq_true rfl⟩) ⟨fb_0, fun U hU hW => ⟨rfl, trivial⟩⟩ rfl rfl hl.1 rfl (lv_room (Nat.le_of_ble_eq_true rfl)) md_M_realBoundary_217 ⟨Nat.zero_le _, Nat.zero_le _⟩) (fun r_50 e_51 => ?_)
    exact W.lret (v := r_50) hx hb hr (fun t ht2 _ => ⟨r_50, rfl, trivial, ht2⟩) (fun q h => by cases h) md_M_realBoundary_220
  by_cases k_52 : p1 = 19
  · refine lv_tableIn (off := 214) (tgt := 221) hx hb md_M_realBoundary_7 (by rw [k_52]; decide) (by rw [k_52]; decide) (by rw [k_52]; rfl) (by decide) ?_
    refine lv_iload_n hx hb md_M_realBoundary_221 rfl (lv_at hl 1 rfl) ?_
    refine lv_ldc2 (v := 2147483647) hx hb hown (ht _ tm_416) md_M_realBoundary_222 ?_
    refine vp_callSl (W.runS (As := [.int p0, .long 2147483647]) (rest := []) ⟨hx, hb, hml, hown, hts⟩ (mt_M_ofWhole l p0 2147483647) (va_cwS 2 hts (gd_S tm_394 tm_395 tm_25 tm_396) rfl rfl rfl (by decide +kernel) ⟨Nat.le_of_ble_eq_true rfl, Nat.le_of_ble_eq_true rfl⟩) ⟨fb_0, fun U hU hW => ⟨rfl, trivial⟩⟩ rfl rfl hl.1 rfl (lv_room (Nat.le_of_ble_eq_true rfl)) md_M_realBoundary_225 ⟨Nat.zero_le _, Nat.zero_le _⟩) (fun r_53 e_54 => ?_)
    exact W.lret (v := r_53) hx hb hr (fun t ht2 _ => ⟨r_53, rfl, trivial, ht2⟩) (fun q h => by cases h) md_M_realBoundary_228
  refine lv_tableOut (tgt := 229) hx hb md_M_realBoundary_7 (by have := lv_neT k_3 (a := 0) rfl; have := lv_neT k_4 (a := 1) rfl; have := lv_neT k_7 (a := 2) rfl; have := lv_neT k_8 (a := 3) rfl; have := lv_neT k_11 (a := 4) rfl; have := lv_neT k_12 (a := 5) rfl; have := lv_neT k_15 (a := 6) rfl; have := lv_neT k_18 (a := 7) rfl; have := lv_neT k_21 (a := 8) rfl; have := lv_neT k_24 (a := 9) rfl; have := lv_neT k_29 (a := 10) rfl; have := lv_neT k_32 (a := 11) rfl; have := lv_neT k_33 (a := 12) rfl; have := lv_neT k_34 (a := 13) rfl; have := lv_neT k_37 (a := 14) rfl; have := lv_neT k_40 (a := 15) rfl; have := lv_neT k_43 (a := 16) rfl; have := lv_neT k_46 (a := 17) rfl; have := lv_neT k_49 (a := 18) rfl; have := lv_neT k_52 (a := 19) rfl; omega) (by decide) ?_
  refine lv_iload_n hx hb md_M_realBoundary_229 rfl (lv_at hl 1 rfl) ?_
  refine lv_ldc2 (v := 9223372036854775807) hx hb hown (ht _ tm_417) md_M_realBoundary_230 ?_
  refine vp_callSl (W.runS (As := [.int p0, .long 9223372036854775807]) (rest := []) ⟨hx, hb, hml, hown, hts⟩ (mt_M_ofWhole l p0 9223372036854775807) (va_cwS 2 hts (gd_S tm_394 tm_395 tm_25 tm_396) rfl rfl rfl (by decide +kernel) ⟨Nat.le_of_ble_eq_true rfl, Nat.le_of_ble_eq_true rfl⟩) ⟨fb_0, fun U hU hW => ⟨rfl, trivial⟩⟩ rfl rfl hl.1 rfl (lv_room (Nat.le_of_ble_eq_true rfl)) md_M_realBoundary_233 ⟨Nat.zero_le _, Nat.zero_le _⟩) (fun r_55 e_56 => ?_)
  exact W.lret (v := r_55) hx hb hr (fun t ht2 _ => ⟨r_55, rfl, trivial, ht2⟩) (fun q h => by cases h) md_M_realBoundary_236
set_option maxHeartbeats 4000000 in
set_option maxRecDepth 100000 in
theorem mt_M_wholeBoundary (l : Launch) (p0 : Int32) (p1 : Int32) : Met l my_M_wholeBoundary mw_M_wholeBoundary ({ frames := 0, cells := 0, slots := 0, locals := 0 } : Room) (va_Pc [.int p0, .int p1] (fun _ => True)) (vp_Sl (fun _ => True)) 0 0 (fun _ => False) := by
  refine Met.ofW (cc := mc_M_wholeBoundary) (maxL := 2) (ret := (some .long)) (by decide) rfl ?_
  intro p e s m args below meth c s₁ B hml hv
  obtain ⟨rfl, -⟩ := hv
  have hx := B.exec
  have hb := B.bytes
  have hr := B.returns
  have hts := atoms_spec (ws := mw_M_wholeBoundary) B.pre
  have ht : ∀ w ∈ gw_tbl, w.before _ s = true := fun w h => hts w (List.mem_cons_of_mem _ h)
  have hown : s.vm.findClass "NumberProbeModel" = some m.cls := findClass_of_methodNamed B.named
  have hlocks := B.notSynchronized
  have hl := lv_entry ([.int p0, .int p1]) (n := 2) (Nat.le_of_ble_eq_true rfl)
  rw [lg_entry_eq]
  generalize (lg_sl ([.int p0, .int p1]) ++ List.replicate (2 - (lg_sl ([.int p0, .int p1])).length) Slot.unset).toArray = ls at hl ⊢
  have hl : lv_has ls 2 [(0, .int p0), (1, .int p1)] := hl
  refine lv_iload_n hx hb md_M_wholeBoundary_0 rfl (lv_at hl 1 rfl) ?_
  by_cases k_1 : p1 = 0
  · refine lv_tableIn (off := 95) (tgt := 96) hx hb md_M_wholeBoundary_1 (by rw [k_1]; decide) (by rw [k_1]; decide) (by rw [k_1]; rfl) (by decide) ?_
    refine lv_lconst (v := 0) hx hb md_M_wholeBoundary_96 (by decide) ?_
    exact W.lret (v := 0) hx hb hr (fun t ht2 _ => ⟨0, rfl, trivial, ht2⟩) (fun q h => by cases h) md_M_wholeBoundary_97
  by_cases k_2 : p1 = 1
  · refine lv_tableIn (off := 97) (tgt := 98) hx hb md_M_wholeBoundary_1 (by rw [k_2]; decide) (by rw [k_2]; decide) (by rw [k_2]; rfl) (by decide) ?_
    refine lv_ldc2 (v := (-1)) hx hb hown (ht _ tm_421) md_M_wholeBoundary_98 ?_
    exact W.lret (v := (-1)) hx hb hr (fun t ht2 _ => ⟨(-1), rfl, trivial, ht2⟩) (fun q h => by cases h) md_M_wholeBoundary_101
  by_cases k_3 : p1 = 2
  · refine lv_tableIn (off := 101) (tgt := 102) hx hb md_M_wholeBoundary_1 (by rw [k_3]; decide) (by rw [k_3]; decide) (by rw [k_3]; rfl) (by decide) ?_
    refine lv_lconst (v := 1) hx hb md_M_wholeBoundary_102 (by decide) ?_
    exact W.lret (v := 1) hx hb hr (fun t ht2 _ => ⟨1, rfl, trivial, ht2⟩) (fun q h => by cases h) md_M_wholeBoundary_103
  by_cases k_4 : p1 = 3
  · refine lv_tableIn (off := 103) (tgt := 104) hx hb md_M_wholeBoundary_1 (by rw [k_4]; decide) (by rw [k_4]; decide) (by rw [k_4]; rfl) (by decide) ?_
    refine lv_iload_n hx hb md_M_wholeBoundary_104 rfl (lv_at hl 0 rfl) ?_
    refine lv_iconst (v := 2) hx hb md_M_wholeBoundary_105 (by decide) ?_
    have J_6 : ∀ (z_7 : Int64) (ls : Array Slot), lv_has ls 2 [(0, .int p0), (1, .int p1)] → WP p l e mw_M_wholeBoundary ({ frames := 0, cells := 0, slots := 0, locals := 0 } : Room) s m [.int p0, .int p1] below meth c (vp_Sl (fun _ => True)) (F0 m 118 ls [.long z_7]) := by
      intro z_7 ls hl
      exact W.lret (v := z_7) hx hb hr (fun t ht2 _ => ⟨z_7, rfl, trivial, ht2⟩) (fun q h => by cases h) md_M_wholeBoundary_118
    refine lv_icmp_ne (tgt := 115) hx hb md_M_wholeBoundary_106 (by decide) (fun c_5 => ?_) (fun c_5 => ?_)
    · refine lv_ldc2 (v := (-9223372036854775808)) hx hb hown (ht _ tm_376) md_M_wholeBoundary_115 ?_
      exact J_6 (-9223372036854775808) ls (lv_sub hl [0, 1] rfl)
    · refine lv_ldc2 (v := (-2147483648)) hx hb hown (ht _ tm_415) md_M_wholeBoundary_109 ?_
      refine lv_goto (tgt := 118) hx hb md_M_wholeBoundary_112 (by decide) ?_
      exact J_6 (-2147483648) ls (lv_sub hl [0, 1] rfl)
  by_cases k_8 : p1 = 4
  · refine lv_tableIn (off := 118) (tgt := 119) hx hb md_M_wholeBoundary_1 (by rw [k_8]; decide) (by rw [k_8]; decide) (by rw [k_8]; rfl) (by decide) ?_
    refine lv_iload_n hx hb md_M_wholeBoundary_119 rfl (lv_at hl 0 rfl) ?_
    refine lv_iconst (v := 2) hx hb md_M_wholeBoundary_120 (by decide) ?_
    have J_10 : ∀ (z_11 : Int64) (ls : Array Slot), lv_has ls 2 [(0, .int p0), (1, .int p1)] → WP p l e mw_M_wholeBoundary ({ frames := 0, cells := 0, slots := 0, locals := 0 } : Room) s m [.int p0, .int p1] below meth c (vp_Sl (fun _ => True)) (F0 m 133 ls [.long z_11]) := by
      intro z_11 ls hl
      exact W.lret (v := z_11) hx hb hr (fun t ht2 _ => ⟨z_11, rfl, trivial, ht2⟩) (fun q h => by cases h) md_M_wholeBoundary_133
    refine lv_icmp_ne (tgt := 130) hx hb md_M_wholeBoundary_121 (by decide) (fun c_9 => ?_) (fun c_9 => ?_)
    · refine lv_ldc2 (v := 9223372036854775807) hx hb hown (ht _ tm_417) md_M_wholeBoundary_130 ?_
      exact J_10 9223372036854775807 ls (lv_sub hl [0, 1] rfl)
    · refine lv_ldc2 (v := 2147483647) hx hb hown (ht _ tm_416) md_M_wholeBoundary_124 ?_
      refine lv_goto (tgt := 133) hx hb md_M_wholeBoundary_127 (by decide) ?_
      exact J_10 2147483647 ls (lv_sub hl [0, 1] rfl)
  by_cases k_12 : p1 = 5
  · refine lv_tableIn (off := 133) (tgt := 134) hx hb md_M_wholeBoundary_1 (by rw [k_12]; decide) (by rw [k_12]; decide) (by rw [k_12]; rfl) (by decide) ?_
    refine lv_ldc2 (v := 127) hx hb hown (ht _ tm_422) md_M_wholeBoundary_134 ?_
    exact W.lret (v := 127) hx hb hr (fun t ht2 _ => ⟨127, rfl, trivial, ht2⟩) (fun q h => by cases h) md_M_wholeBoundary_137
  by_cases k_13 : p1 = 6
  · refine lv_tableIn (off := 137) (tgt := 138) hx hb md_M_wholeBoundary_1 (by rw [k_13]; decide) (by rw [k_13]; decide) (by rw [k_13]; rfl) (by decide) ?_
    refine lv_ldc2 (v := 128) hx hb hown (ht _ tm_423) md_M_wholeBoundary_138 ?_
    exact W.lret (v := 128) hx hb hr (fun t ht2 _ => ⟨128, rfl, trivial, ht2⟩) (fun q h => by cases h) md_M_wholeBoundary_141
  by_cases k_14 : p1 = 7
  · refine lv_tableIn (off := 141) (tgt := 142) hx hb md_M_wholeBoundary_1 (by rw [k_14]; decide) (by rw [k_14]; decide) (by rw [k_14]; rfl) (by decide) ?_
    refine lv_ldc2 (v := (-129)) hx hb hown (ht _ tm_424) md_M_wholeBoundary_142 ?_
    exact W.lret (v := (-129)) hx hb hr (fun t ht2 _ => ⟨(-129), rfl, trivial, ht2⟩) (fun q h => by cases h) md_M_wholeBoundary_145
  by_cases k_15 : p1 = 8
  · refine lv_tableIn (off := 145) (tgt := 146) hx hb md_M_wholeBoundary_1 (by rw [k_15]; decide) (by rw [k_15]; decide) (by rw [k_15]; rfl) (by decide) ?_
    refine lv_ldc2 (v := 255) hx hb hown (ht _ tm_425) md_M_wholeBoundary_146 ?_
    exact W.lret (v := 255) hx hb hr (fun t ht2 _ => ⟨255, rfl, trivial, ht2⟩) (fun q h => by cases h) md_M_wholeBoundary_149
  by_cases k_16 : p1 = 9
  · refine lv_tableIn (off := 149) (tgt := 150) hx hb md_M_wholeBoundary_1 (by rw [k_16]; decide) (by rw [k_16]; decide) (by rw [k_16]; rfl) (by decide) ?_
    refine lv_ldc2 (v := 32767) hx hb hown (ht _ tm_426) md_M_wholeBoundary_150 ?_
    exact W.lret (v := 32767) hx hb hr (fun t ht2 _ => ⟨32767, rfl, trivial, ht2⟩) (fun q h => by cases h) md_M_wholeBoundary_153
  by_cases k_17 : p1 = 10
  · refine lv_tableIn (off := 153) (tgt := 154) hx hb md_M_wholeBoundary_1 (by rw [k_17]; decide) (by rw [k_17]; decide) (by rw [k_17]; rfl) (by decide) ?_
    refine lv_ldc2 (v := 32768) hx hb hown (ht _ tm_427) md_M_wholeBoundary_154 ?_
    exact W.lret (v := 32768) hx hb hr (fun t ht2 _ => ⟨32768, rfl, trivial, ht2⟩) (fun q h => by cases h) md_M_wholeBoundary_157
  by_cases k_18 : p1 = 11
  · refine lv_tableIn (off := 157) (tgt := 158) hx hb md_M_wholeBoundary_1 (by rw [k_18]; decide) (by rw [k_18]; decide) (by rw [k_18]; rfl) (by decide) ?_
    refine lv_ldc2 (v := (-32769)) hx hb hown (ht _ tm_428) md_M_wholeBoundary_158 ?_
    exact W.lret (v := (-32769)) hx hb hr (fun t ht2 _ => ⟨(-32769), rfl, trivial, ht2⟩) (fun q h => by cases h) md_M_wholeBoundary_161
  by_cases k_19 : p1 = 12
  · refine lv_tableIn (off := 161) (tgt := 162) hx hb md_M_wholeBoundary_1 (by rw [k_19]; decide) (by rw [k_19]; decide) (by rw [k_19]; rfl) (by decide) ?_
    refine lv_ldc2 (v := 65535) hx hb hown (ht _ tm_429) md_M_wholeBoundary_162 ?_
    exact W.lret (v := 65535) hx hb hr (fun t ht2 _ => ⟨65535, rfl, trivial, ht2⟩) (fun q h => by cases h) md_M_wholeBoundary_165
  by_cases k_20 : p1 = 13
  · refine lv_tableIn (off := 165) (tgt := 166) hx hb md_M_wholeBoundary_1 (by rw [k_20]; decide) (by rw [k_20]; decide) (by rw [k_20]; rfl) (by decide) ?_
    refine lv_ldc2 (v := 65536) hx hb hown (ht _ tm_430) md_M_wholeBoundary_166 ?_
    exact W.lret (v := 65536) hx hb hr (fun t ht2 _ => ⟨65536, rfl, trivial, ht2⟩) (fun q h => by cases h) md_M_wholeBoundary_169
  by_cases k_21 : p1 = 14
  · refine lv_tableIn (off := 169) (tgt := 170) hx hb md_M_wholeBoundary_1 (by rw [k_21]; decide) (by rw [k_21]; decide) (by rw [k_21]; rfl) (by decide) ?_
    refine lv_ldc2 (v := 16777217) hx hb hown (ht _ tm_413) md_M_wholeBoundary_170 ?_
    exact W.lret (v := 16777217) hx hb hr (fun t ht2 _ => ⟨16777217, rfl, trivial, ht2⟩) (fun q h => by cases h) md_M_wholeBoundary_173
  by_cases k_22 : p1 = 15
  · refine lv_tableIn (off := 173) (tgt := 174) hx hb md_M_wholeBoundary_1 (by rw [k_22]; decide) (by rw [k_22]; decide) (by rw [k_22]; rfl) (by decide) ?_
    refine lv_ldc2 (v := 2147483648) hx hb hown (ht _ tm_375) md_M_wholeBoundary_174 ?_
    exact W.lret (v := 2147483648) hx hb hr (fun t ht2 _ => ⟨2147483648, rfl, trivial, ht2⟩) (fun q h => by cases h) md_M_wholeBoundary_177
  by_cases k_23 : p1 = 16
  · refine lv_tableIn (off := 177) (tgt := 178) hx hb md_M_wholeBoundary_1 (by rw [k_23]; decide) (by rw [k_23]; decide) (by rw [k_23]; rfl) (by decide) ?_
    refine lv_ldc2 (v := (-2147483649)) hx hb hown (ht _ tm_431) md_M_wholeBoundary_178 ?_
    exact W.lret (v := (-2147483649)) hx hb hr (fun t ht2 _ => ⟨(-2147483649), rfl, trivial, ht2⟩) (fun q h => by cases h) md_M_wholeBoundary_181
  by_cases k_24 : p1 = 17
  · refine lv_tableIn (off := 181) (tgt := 182) hx hb md_M_wholeBoundary_1 (by rw [k_24]; decide) (by rw [k_24]; decide) (by rw [k_24]; rfl) (by decide) ?_
    refine lv_ldc2 (v := 4294967296) hx hb hown (ht _ tm_432) md_M_wholeBoundary_182 ?_
    exact W.lret (v := 4294967296) hx hb hr (fun t ht2 _ => ⟨4294967296, rfl, trivial, ht2⟩) (fun q h => by cases h) md_M_wholeBoundary_185
  by_cases k_25 : p1 = 18
  · refine lv_tableIn (off := 185) (tgt := 186) hx hb md_M_wholeBoundary_1 (by rw [k_25]; decide) (by rw [k_25]; decide) (by rw [k_25]; rfl) (by decide) ?_
    refine lv_ldc2 (v := 9007199254740993) hx hb hown (ht _ tm_414) md_M_wholeBoundary_186 ?_
    exact W.lret (v := 9007199254740993) hx hb hr (fun t ht2 _ => ⟨9007199254740993, rfl, trivial, ht2⟩) (fun q h => by cases h) md_M_wholeBoundary_189
  by_cases k_26 : p1 = 19
  · refine lv_tableIn (off := 189) (tgt := 190) hx hb md_M_wholeBoundary_1 (by rw [k_26]; decide) (by rw [k_26]; decide) (by rw [k_26]; rfl) (by decide) ?_
    refine lv_ldc2 (v := 9007199254740991) hx hb hown (ht _ tm_433) md_M_wholeBoundary_190 ?_
    exact W.lret (v := 9007199254740991) hx hb hr (fun t ht2 _ => ⟨9007199254740991, rfl, trivial, ht2⟩) (fun q h => by cases h) md_M_wholeBoundary_193
  refine lv_tableOut (tgt := 194) hx hb md_M_wholeBoundary_1 (by have := lv_neT k_1 (a := 0) rfl; have := lv_neT k_2 (a := 1) rfl; have := lv_neT k_3 (a := 2) rfl; have := lv_neT k_4 (a := 3) rfl; have := lv_neT k_8 (a := 4) rfl; have := lv_neT k_12 (a := 5) rfl; have := lv_neT k_13 (a := 6) rfl; have := lv_neT k_14 (a := 7) rfl; have := lv_neT k_15 (a := 8) rfl; have := lv_neT k_16 (a := 9) rfl; have := lv_neT k_17 (a := 10) rfl; have := lv_neT k_18 (a := 11) rfl; have := lv_neT k_19 (a := 12) rfl; have := lv_neT k_20 (a := 13) rfl; have := lv_neT k_21 (a := 14) rfl; have := lv_neT k_22 (a := 15) rfl; have := lv_neT k_23 (a := 16) rfl; have := lv_neT k_24 (a := 17) rfl; have := lv_neT k_25 (a := 18) rfl; have := lv_neT k_26 (a := 19) rfl; omega) (by decide) ?_
  refine lv_ldc2 (v := 4611686018427388417) hx hb hown (ht _ tm_434) md_M_wholeBoundary_194 ?_
  exact W.lret (v := 4611686018427388417) hx hb hr (fun t ht2 _ => ⟨4611686018427388417, rfl, trivial, ht2⟩) (fun q h => by cases h) md_M_wholeBoundary_197
set_option maxHeartbeats 4000000 in
set_option maxRecDepth 100000 in
theorem mt_M_rank (l : Launch) (p0 : Int32) : Met l my_M_rank mw_M_rank ({ frames := 0, cells := 0, slots := 0, locals := 0 } : Room) (va_Pc [.int p0] (fun _ => True)) (vp_Si (fun _ => True)) 0 0 (fun _ => False) := by
  refine Met.ofW (cc := mc_M_rank) (maxL := 1) (ret := (some .int)) (by decide) rfl ?_
  intro p e s m args below meth c s₁ B hml hv
  obtain ⟨rfl, -⟩ := hv
  have hx := B.exec
  have hb := B.bytes
  have hr := B.returns
  have hts := atoms_spec (ws := mw_M_rank) B.pre
  have ht : ∀ w ∈ gw_tbl, w.before _ s = true := fun w h => hts w (List.mem_cons_of_mem _ h)
  have hown : s.vm.findClass "NumberProbeModel" = some m.cls := findClass_of_methodNamed B.named
  have hlocks := B.notSynchronized
  have hl := lv_entry ([.int p0]) (n := 1) (Nat.le_of_ble_eq_true rfl)
  rw [lg_entry_eq]
  generalize (lg_sl ([.int p0]) ++ List.replicate (1 - (lg_sl ([.int p0])).length) Slot.unset).toArray = ls at hl ⊢
  have hl : lv_has ls 1 [(0, .int p0)] := hl
  refine lv_iload_n hx hb md_M_rank_0 rfl (lv_at hl 0 rfl) ?_
  refine lv_iconst (v := 2) hx hb md_M_rank_1 (by decide) ?_
  refine lv_iadd hx hb md_M_rank_2 ?_
  refine lv_iconst (v := 4) hx hb md_M_rank_3 (by decide) ?_
  refine lv_irem hx hb md_M_rank_4 (by decide) ?_
  exact W.iret (v := (p0 + 2) - (p0 + 2) / 4 * 4) hx hb hr (fun t ht2 _ => ⟨((p0 + 2) - (p0 + 2) / 4 * 4), rfl, trivial, ht2⟩) (fun q h => by cases h) md_M_rank_5
