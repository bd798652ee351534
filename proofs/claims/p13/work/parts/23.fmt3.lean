set_option maxHeartbeats 4000000 in
set_option maxRecDepth 100000 in
theorem mt_JI_numberOfTrailingZeros (l : Launch) (p0 : Int32) : Met l my_JI_numberOfTrailingZeros mw_JI_numberOfTrailingZeros ({ frames := 0, cells := 0, slots := 0, locals := 0 } : Room) (va_Pc [.int p0] (fun _ => True)) (vp_Si (fun _ => True)) 0 0 (fun _ => False) := by
  refine Met.ofW (cc := mc_JI_numberOfTrailingZeros) (maxL := 2) (ret := (some .int)) (by decide) rfl ?_
  intro p e s m args below meth c s₁ B hml hv
  obtain ⟨rfl, -⟩ := hv
  have hx := B.exec
  have hb := B.bytes
  have hr := B.returns
  have hts := atoms_spec (ws := mw_JI_numberOfTrailingZeros) B.pre
  have ht : ∀ w ∈ gw_tbl, w.before _ s = true := fun w h => hts w (List.mem_cons_of_mem _ h)
  have hown : s.vm.findClass "java/lang/Integer" = some m.cls := findClass_of_methodNamed B.named
  have hlocks := B.notSynchronized
  have hl := lv_entry ([.int p0]) (n := 2) (Nat.le_of_ble_eq_true rfl)
  rw [lg_entry_eq]
  generalize (lg_sl ([.int p0]) ++ List.replicate (2 - (lg_sl ([.int p0])).length) Slot.unset).toArray = ls at hl ⊢
  have hl : lv_has ls 2 [(0, .int p0)] := hl
  refine lv_iload_n hx hb md_JI_numberOfTrailingZeros_0 rfl (lv_at hl 0 rfl) ?_
  refine lv_iconst (v := (-1)) hx hb md_JI_numberOfTrailingZeros_1 (by decide) ?_
  refine lv_ixor hx hb md_JI_numberOfTrailingZeros_2 ?_
  refine lv_iload_n hx hb md_JI_numberOfTrailingZeros_3 rfl (lv_at hl 0 rfl) ?_
  refine lv_iconst (v := 1) hx hb md_JI_numberOfTrailingZeros_4 (by decide) ?_
  refine lv_isub hx hb md_JI_numberOfTrailingZeros_5 ?_
  refine lv_iand hx hb md_JI_numberOfTrailingZeros_6 ?_
  refine lv_istore_n (lv' := [(0, .int ((p0 ^^^ (-1)) &&& (p0 - 1)))]) hx hb md_JI_numberOfTrailingZeros_7 rfl hl (by decide) rfl (fun ls hl => ?_)
  refine lv_iload_n hx hb md_JI_numberOfTrailingZeros_8 rfl (lv_at hl 0 rfl) ?_
  refine lv_if_gt (tgt := 17) hx hb md_JI_numberOfTrailingZeros_9 (by decide) (fun c_1 => ?_) (fun c_1 => ?_)
  · refine lv_iconst (v := 1) hx hb md_JI_numberOfTrailingZeros_17 (by decide) ?_
    refine lv_istore_n (lv' := [(1, .int 1), (0, .int ((p0 ^^^ (-1)) &&& (p0 - 1)))]) hx hb md_JI_numberOfTrailingZeros_18 rfl hl (by decide) rfl (fun ls hl => ?_)
    refine lv_iload_n hx hb md_JI_numberOfTrailingZeros_19 rfl (lv_at hl 1 rfl) ?_
    refine lv_ldcw (v := 65536) hx hb hown (ht _ tm_162) md_JI_numberOfTrailingZeros_20 ?_
    have J_3 : ∀ (z_4 : Int32) (z_5 : Int32) (ls : Array Slot), lv_has ls 2 [(1, .int z_4), (0, .int z_5)] → WP p l e mw_JI_numberOfTrailingZeros ({ frames := 0, cells := 0, slots := 0, locals := 0 } : Room) s m [.int p0] below meth c (vp_Si (fun _ => True)) (F0 m 34 ls []) := by
      intro z_4 z_5 ls hl
      refine lv_iload_n hx hb md_JI_numberOfTrailingZeros_34 rfl (lv_at hl 1 rfl) ?_
      refine lv_sipush (v := 256) hx hb md_JI_numberOfTrailingZeros_35 (by decide) ?_
      have J_7 : ∀ (z_8 : Int32) (z_9 : Int32) (ls : Array Slot), lv_has ls 2 [(1, .int z_8), (0, .int z_9)] → WP p l e mw_JI_numberOfTrailingZeros ({ frames := 0, cells := 0, slots := 0, locals := 0 } : Room) s m [.int p0] below meth c (vp_Si (fun _ => True)) (F0 m 49 ls []) := by
        intro z_8 z_9 ls hl
        refine lv_iload_n hx hb md_JI_numberOfTrailingZeros_49 rfl (lv_at hl 1 rfl) ?_
        refine lv_bipush (v := 16) hx hb md_JI_numberOfTrailingZeros_50 (by decide) ?_
        have J_11 : ∀ (z_12 : Int32) (z_13 : Int32) (ls : Array Slot), lv_has ls 2 [(1, .int z_12), (0, .int z_13)] → WP p l e mw_JI_numberOfTrailingZeros ({ frames := 0, cells := 0, slots := 0, locals := 0 } : Room) s m [.int p0] below meth c (vp_Si (fun _ => True)) (F0 m 62 ls []) := by
          intro z_12 z_13 ls hl
          refine lv_iload_n hx hb md_JI_numberOfTrailingZeros_62 rfl (lv_at hl 1 rfl) ?_
          refine lv_iconst (v := 4) hx hb md_JI_numberOfTrailingZeros_63 (by decide) ?_
          have J_15 : ∀ (z_16 : Int32) (z_17 : Int32) (ls : Array Slot), lv_has ls 2 [(1, .int z_16), (0, .int z_17)] → WP p l e mw_JI_numberOfTrailingZeros ({ frames := 0, cells := 0, slots := 0, locals := 0 } : Room) s m [.int p0] below meth c (vp_Si (fun _ => True)) (F0 m 74 ls []) := by
            intro z_16 z_17 ls hl
            refine lv_iload_n hx hb md_JI_numberOfTrailingZeros_74 rfl (lv_at hl 0 rfl) ?_
            refine lv_iload_n hx hb md_JI_numberOfTrailingZeros_75 rfl (lv_at hl 1 rfl) ?_
            refine lv_iconst (v := 1) hx hb md_JI_numberOfTrailingZeros_76 (by decide) ?_
            refine lv_iushr (v := ji_ush z_17 1) hx hb md_JI_numberOfTrailingZeros_77 rfl ?_
            refine lv_iadd hx hb md_JI_numberOfTrailingZeros_78 ?_
            exact W.iret (v := z_16 + (ji_ush z_17 1)) hx hb hr (fun t ht2 _ => ⟨(z_16 + (ji_ush z_17 1)), rfl, trivial, ht2⟩) (fun q h => by cases h) md_JI_numberOfTrailingZeros_79
          refine lv_icmp_le (tgt := 74) hx hb md_JI_numberOfTrailingZeros_64 (by decide) (fun c_14 => ?_) (fun c_14 => ?_)
          · exact J_15 z_12 z_13 ls (lv_sub hl [0, 1] rfl)
          · refine lv_iinc (v := z_12 + 2) (lv' := [(1, .int (z_12 + 2)), (0, .int z_13)]) hx hb md_JI_numberOfTrailingZeros_67 hl (k := 0) rfl rfl (by decide) rfl (fun ls hl => ?_)
            refine lv_iload_n hx hb md_JI_numberOfTrailingZeros_70 rfl (lv_at hl 1 rfl) ?_
            refine lv_iconst (v := 2) hx hb md_JI_numberOfTrailingZeros_71 (by decide) ?_
            refine lv_iushr (v := ji_ush z_13 2) hx hb md_JI_numberOfTrailingZeros_72 rfl ?_
            refine lv_istore_n (lv' := [(0, .int (ji_ush z_13 2)), (1, .int (z_12 + 2))]) hx hb md_JI_numberOfTrailingZeros_73 rfl hl (by decide) rfl (fun ls hl => ?_)
            exact J_15 (z_12 + 2) (ji_ush z_13 2) ls (lv_sub hl [1, 0] rfl)
        refine lv_icmp_le (tgt := 62) hx hb md_JI_numberOfTrailingZeros_52 (by decide) (fun c_10 => ?_) (fun c_10 => ?_)
        · exact J_11 z_8 z_9 ls (lv_sub hl [0, 1] rfl)
        · refine lv_iinc (v := z_8 + 4) (lv' := [(1, .int (z_8 + 4)), (0, .int z_9)]) hx hb md_JI_numberOfTrailingZeros_55 hl (k := 0) rfl rfl (by decide) rfl (fun ls hl => ?_)
          refine lv_iload_n hx hb md_JI_numberOfTrailingZeros_58 rfl (lv_at hl 1 rfl) ?_
          refine lv_iconst (v := 4) hx hb md_JI_numberOfTrailingZeros_59 (by decide) ?_
          refine lv_iushr (v := ji_ush z_9 4) hx hb md_JI_numberOfTrailingZeros_60 rfl ?_
          refine lv_istore_n (lv' := [(0, .int (ji_ush z_9 4)), (1, .int (z_8 + 4))]) hx hb md_JI_numberOfTrailingZeros_61 rfl hl (by decide) rfl (fun ls hl => ?_)
          exact J_11 (z_8 + 4) (ji_ush z_9 4) ls (lv_sub hl [1, 0] rfl)
      refine lv_icmp_le (tgt := 49) hx hb md_JI_numberOfTrailingZeros_38 (by decide) (fun c_6 => ?_) (fun c_6 => ?_)
      · exact J_7 z_4 z_5 ls (lv_sub hl [0, 1] rfl)
      · refine lv_iinc (v := z_4 + 8) (lv' := [(1, .int (z_4 + 8)), (0, .int z_5)]) hx hb md_JI_numberOfTrailingZeros_41 hl (k := 0) rfl rfl (by decide) rfl (fun ls hl => ?_)
        refine lv_iload_n hx hb md_JI_numberOfTrailingZeros_44 rfl (lv_at hl 1 rfl) ?_
        refine lv_bipush (v := 8) hx hb md_JI_numberOfTrailingZeros_45 (by decide) ?_
        refine lv_iushr (v := ji_ush z_5 8) hx hb md_JI_numberOfTrailingZeros_47 rfl ?_
        refine lv_istore_n (lv' := [(0, .int (ji_ush z_5 8)), (1, .int (z_4 + 8))]) hx hb md_JI_numberOfTrailingZeros_48 rfl hl (by decide) rfl (fun ls hl => ?_)
        exact J_7 (z_4 + 8) (ji_ush z_5 8) ls (lv_sub hl [1, 0] rfl)
    refine lv_icmp_le (tgt := 34) hx hb md_JI_numberOfTrailingZeros_23 (by decide) (fun c_2 => ?_) (fun c_2 => ?_)
    · exact J_3 1 ((p0 ^^^ (-1)) &&& (p0 - 1)) ls (lv_sub hl [0, 1] rfl)
    · refine lv_iinc (v := 1 + 16) (lv' := [(1, .int (1 + 16)), (0, .int ((p0 ^^^ (-1)) &&& (p0 - 1)))]) hx hb md_JI_numberOfTrailingZeros_26 hl (k := 0) rfl rfl (by decide) rfl (fun ls hl => ?_)
      refine lv_iload_n hx hb md_JI_numberOfTrailingZeros_29 rfl (lv_at hl 1 rfl) ?_
      refine lv_bipush (v := 16) hx hb md_JI_numberOfTrailingZeros_30 (by decide) ?_
      refine lv_iushr (v := ji_ush ((p0 ^^^ (-1)) &&& (p0 - 1)) 16) hx hb md_JI_numberOfTrailingZeros_32 rfl ?_
      refine lv_istore_n (lv' := [(0, .int (ji_ush ((p0 ^^^ (-1)) &&& (p0 - 1)) 16)), (1, .int (1 + 16))]) hx hb md_JI_numberOfTrailingZeros_33 rfl hl (by decide) rfl (fun ls hl => ?_)
      exact J_3 (1 + 16) (ji_ush ((p0 ^^^ (-1)) &&& (p0 - 1)) 16) ls (lv_sub hl [1, 0] rfl)
  · refine lv_iload_n hx hb md_JI_numberOfTrailingZeros_12 rfl (lv_at hl 0 rfl) ?_
    refine lv_bipush (v := 32) hx hb md_JI_numberOfTrailingZeros_13 (by decide) ?_
    refine lv_iand hx hb md_JI_numberOfTrailingZeros_15 ?_
    exact W.iret (v := ((p0 ^^^ (-1)) &&& (p0 - 1)) &&& 32) hx hb hr (fun t ht2 _ => ⟨(((p0 ^^^ (-1)) &&& (p0 - 1)) &&& 32), rfl, trivial, ht2⟩) (fun q h => by cases h) md_JI_numberOfTrailingZeros_16
set_option maxHeartbeats 4000000 in
set_option maxRecDepth 100000 in
theorem mt_JL_numberOfTrailingZeros (l : Launch) (p0 : Int64) : Met l my_JL_numberOfTrailingZeros mw_JL_numberOfTrailingZeros ({ frames := 1, cells := 0, slots := 0, locals := 21 } : Room) (va_Pc [.long p0] (fun _ => True)) (vp_Si (fun _ => True)) 0 0 (fun _ => False) := by
  refine Met.ofW (cc := mc_JL_numberOfTrailingZeros) (maxL := 3) (ret := (some .int)) (by decide) rfl ?_
  intro p e s m args below meth c s₁ B hml hv
  obtain ⟨rfl, -⟩ := hv
  have hx := B.exec
  have hb := B.bytes
  have hr := B.returns
  have hts := atoms_spec (ws := mw_JL_numberOfTrailingZeros) B.pre
  have ht : ∀ w ∈ gw_tbl, w.before _ s = true := fun w h => hts w (List.mem_cons_of_mem _ h)
  have hown : s.vm.findClass "java/lang/Long" = some m.cls := findClass_of_methodNamed B.named
  have hlocks := B.notSynchronized
  have hl := lv_entry ([.long p0]) (n := 3) (Nat.le_of_ble_eq_true rfl)
  rw [lg_entry_eq]
  generalize (lg_sl ([.long p0]) ++ List.replicate (3 - (lg_sl ([.long p0])).length) Slot.unset).toArray = ls at hl ⊢
  have hl : lv_has ls 3 [(0, .long p0)] := hl
  refine lv_lload_n hx hb md_JL_numberOfTrailingZeros_0 rfl (lv_at hl 0 rfl) ?_
  refine lv_l2i (v := p0.toInt32) hx hb md_JL_numberOfTrailingZeros_1 rfl ?_
  refine lv_istore_n (lv' := [(2, .int p0.toInt32), (0, .long p0)]) hx hb md_JL_numberOfTrailingZeros_2 rfl hl (by decide) rfl (fun ls hl => ?_)
  refine lv_iload_n hx hb md_JL_numberOfTrailingZeros_3 rfl (lv_at hl 0 rfl) ?_
  have J_6 : ∀ (z_7 : Int32) (ls : Array Slot), lv_has ls 3 [(2, .int p0.toInt32), (0, .long p0)] → WP p l e mw_JL_numberOfTrailingZeros ({ frames := 1, cells := 0, slots := 0, locals := 21 } : Room) s m [.long p0] below meth c (vp_Si (fun _ => True)) (F0 m 25 ls [.int z_7]) := by
    intro z_7 ls hl
    exact W.iret (v := z_7) hx hb hr (fun t ht2 _ => ⟨z_7, rfl, trivial, ht2⟩) (fun q h => by cases h) md_JL_numberOfTrailingZeros_25
  refine lv_if_ne (tgt := 21) hx hb md_JL_numberOfTrailingZeros_4 (by decide) (fun c_1 => ?_) (fun c_1 => ?_)
  · refine lv_iload_n hx hb md_JL_numberOfTrailingZeros_21 rfl (lv_at hl 0 rfl) ?_
    refine vp_callSi (W.runS (As := [.int p0.toInt32]) (rest := []) ⟨hx, hb, hml, hown, hts⟩ (mt_JI_numberOfTrailingZeros l p0.toInt32) (va_cwS 1 hts (gd_S tm_295 tm_296 tm_30 tm_297) rfl rfl rfl (by decide +kernel) ⟨Nat.le_of_ble_eq_true rfl, Nat.le_of_ble_eq_true rfl⟩) ⟨fb_0, fun U hU hW => ⟨rfl, trivial⟩⟩ rfl rfl hl.1 rfl (lv_room (Nat.le_of_ble_eq_true rfl)) md_JL_numberOfTrailingZeros_22 ⟨Nat.zero_le _, Nat.zero_le _⟩) (fun r_8 e_9 => ?_)
    exact J_6 r_8 ls (lv_sub hl [0, 1] rfl)
  · refine lv_bipush (v := 32) hx hb md_JL_numberOfTrailingZeros_7 (by decide) ?_
    refine lv_lload_n hx hb md_JL_numberOfTrailingZeros_9 rfl (lv_at hl 1 rfl) ?_
    refine lv_bipush (v := 32) hx hb md_JL_numberOfTrailingZeros_10 (by decide) ?_
    refine lv_lushr (v := jl_ush p0 32) hx hb md_JL_numberOfTrailingZeros_12 rfl ?_
    refine lv_l2i (v := (jl_ush p0 32).toInt32) hx hb md_JL_numberOfTrailingZeros_13 rfl ?_
    refine vp_callSi (W.runS (As := [.int ((jl_ush p0 32).toInt32)]) (rest := [.int 32]) ⟨hx, hb, hml, hown, hts⟩ (mt_JI_numberOfTrailingZeros l ((jl_ush p0 32).toInt32)) (va_cwS 1 hts (gd_S tm_295 tm_296 tm_30 tm_297) rfl rfl rfl (by decide +kernel) ⟨Nat.le_of_ble_eq_true rfl, Nat.le_of_ble_eq_true rfl⟩) ⟨fb_0, fun U hU hW => ⟨rfl, trivial⟩⟩ rfl rfl hl.1 rfl (lv_room (Nat.le_of_ble_eq_true rfl)) md_JL_numberOfTrailingZeros_14 ⟨Nat.zero_le _, Nat.zero_le _⟩) (fun r_10 e_11 => ?_)
    refine lv_iadd hx hb md_JL_numberOfTrailingZeros_17 ?_
    refine lv_goto (tgt := 25) hx hb md_JL_numberOfTrailingZeros_18 (by decide) ?_
    exact J_6 (32 + r_10) ls (lv_sub hl [0, 1] rfl)
set_option maxHeartbeats 4000000 in
set_option maxRecDepth 100000 in
theorem mt_JL_bitCount (l : Launch) (p0 : Int64) : Met l my_JL_bitCount mw_JL_bitCount ({ frames := 0, cells := 0, slots := 0, locals := 0 } : Room) (va_Pc [.long p0] (fun _ => True)) (vp_Si (fun _ => True)) 0 0 (fun _ => False) := by
  refine Met.ofW (cc := mc_JL_bitCount) (maxL := 2) (ret := (some .int)) (by decide) rfl ?_
  intro p e s m args below meth c s₁ B hml hv
  obtain ⟨rfl, -⟩ := hv
  have hx := B.exec
  have hb := B.bytes
  have hr := B.returns
  have hts := atoms_spec (ws := mw_JL_bitCount) B.pre
  have ht : ∀ w ∈ gw_tbl, w.before _ s = true := fun w h => hts w (List.mem_cons_of_mem _ h)
  have hown : s.vm.findClass "java/lang/Long" = some m.cls := findClass_of_methodNamed B.named
  have hlocks := B.notSynchronized
  have hl := lv_entry ([.long p0]) (n := 2) (Nat.le_of_ble_eq_true rfl)
  rw [lg_entry_eq]
  generalize (lg_sl ([.long p0]) ++ List.replicate (2 - (lg_sl ([.long p0])).length) Slot.unset).toArray = ls at hl ⊢
  have hl : lv_has ls 2 [(0, .long p0)] := hl
  refine lv_lload_n hx hb md_JL_bitCount_0 rfl (lv_at hl 0 rfl) ?_
  refine lv_lload_n hx hb md_JL_bitCount_1 rfl (lv_at hl 0 rfl) ?_
  refine lv_iconst (v := 1) hx hb md_JL_bitCount_2 (by decide) ?_
  refine lv_lushr (v := jl_ush p0 1) hx hb md_JL_bitCount_3 rfl ?_
  refine lv_ldc2 (v := 6148914691236517205) hx hb hown (ht _ tm_301) md_JL_bitCount_4 ?_
  refine lv_land hx hb md_JL_bitCount_7 ?_
  refine lv_lsub hx hb md_JL_bitCount_8 ?_
  refine lv_lstore_n (lv' := [(0, .long (p0 - ((jl_ush p0 1) &&& 6148914691236517205)))]) hx hb md_JL_bitCount_9 rfl hl (by decide) rfl (fun ls hl => ?_)
  refine lv_lload_n hx hb md_JL_bitCount_10 rfl (lv_at hl 0 rfl) ?_
  refine lv_ldc2 (v := 3689348814741910323) hx hb hown (ht _ tm_302) md_JL_bitCount_11 ?_
  refine lv_land hx hb md_JL_bitCount_14 ?_
  refine lv_lload_n hx hb md_JL_bitCount_15 rfl (lv_at hl 0 rfl) ?_
  refine lv_iconst (v := 2) hx hb md_JL_bitCount_16 (by decide) ?_
  refine lv_lushr (v := jl_ush (p0 - ((jl_ush p0 1) &&& 6148914691236517205)) 2) hx hb md_JL_bitCount_17 rfl ?_
  refine lv_ldc2 (v := 3689348814741910323) hx hb hown (ht _ tm_302) md_JL_bitCount_18 ?_
  refine lv_land hx hb md_JL_bitCount_21 ?_
  refine lv_ladd hx hb md_JL_bitCount_22 ?_
  refine lv_lstore_n (lv' := [(0, .long (((p0 - ((jl_ush p0 1) &&& 6148914691236517205)) &&& 3689348814741910323) + ((jl_ush (p0 - ((jl_ush p0 1) &&& 6148914691236517205)) 2) &&& 3689348814741910323)))]) hx hb md_JL_bitCount_23 rfl hl (by decide) rfl (fun ls hl => ?_)
  refine lv_lload_n hx hb md_JL_bitCount_24 rfl (lv_at hl 0 rfl) ?_
  refine lv_lload_n hx hb md_JL_bitCount_25 rfl (lv_at hl 0 rfl) ?_
  refine lv_iconst (v := 4) hx hb md_JL_bitCount_26 (by decide) ?_
  refine lv_lushr (v := jl_ush (((p0 - ((jl_ush p0 1) &&& 6148914691236517205)) &&& 3689348814741910323) + ((jl_ush (p0 - ((jl_ush p0 1) &&& 6148914691236517205)) 2) &&& 3689348814741910323)) 4) hx hb md_JL_bitCount_27 rfl ?_
  refine lv_ladd hx hb md_JL_bitCount_28 ?_
  refine lv_ldc2 (v := 1085102592571150095) hx hb hown (ht _ tm_303) md_JL_bitCount_29 ?_
  refine lv_land hx hb md_JL_bitCount_32 ?_
  refine lv_lstore_n (lv' := [(0, .long (((((p0 - ((jl_ush p0 1) &&& 6148914691236517205)) &&& 3689348814741910323) + ((jl_ush (p0 - ((jl_ush p0 1) &&& 6148914691236517205)) 2) &&& 3689348814741910323)) + (jl_ush (((p0 - ((jl_ush p0 1) &&& 6148914691236517205)) &&& 3689348814741910323) + ((jl_ush (p0 - ((jl_ush p0 1) &&& 6148914691236517205)) 2) &&& 3689348814741910323)) 4)) &&& 1085102592571150095))]) hx hb md_JL_bitCount_33 rfl hl (by decide) rfl (fun ls hl => ?_)
  refine lv_lload_n hx hb md_JL_bitCount_34 rfl (lv_at hl 0 rfl) ?_
  refine lv_lload_n hx hb md_JL_bitCount_35 rfl (lv_at hl 0 rfl) ?_
  refine lv_bipush (v := 8) hx hb md_JL_bitCount_36 (by decide) ?_
  refine lv_lushr (v := jl_ush (((((p0 - ((jl_ush p0 1) &&& 6148914691236517205)) &&& 3689348814741910323) + ((jl_ush (p0 - ((jl_ush p0 1) &&& 6148914691236517205)) 2) &&& 3689348814741910323)) + (jl_ush (((p0 - ((jl_ush p0 1) &&& 6148914691236517205)) &&& 3689348814741910323) + ((jl_ush (p0 - ((jl_ush p0 1) &&& 6148914691236517205)) 2) &&& 3689348814741910323)) 4)) &&& 1085102592571150095) 8) hx hb md_JL_bitCount_38 rfl ?_
  refine lv_ladd hx hb md_JL_bitCount_39 ?_
  refine lv_lstore_n (lv' := [(0, .long ((((((p0 - ((jl_ush p0 1) &&& 6148914691236517205)) &&& 3689348814741910323) + ((jl_ush (p0 - ((jl_ush p0 1) &&& 6148914691236517205)) 2) &&& 3689348814741910323)) + (jl_ush (((p0 - ((jl_ush p0 1) &&& 6148914691236517205)) &&& 3689348814741910323) + ((jl_ush (p0 - ((jl_ush p0 1) &&& 6148914691236517205)) 2) &&& 3689348814741910323)) 4)) &&& 1085102592571150095) + (jl_ush (((((p0 - ((jl_ush p0 1) &&& 6148914691236517205)) &&& 3689348814741910323) + ((jl_ush (p0 - ((jl_ush p0 1) &&& 6148914691236517205)) 2) &&& 3689348814741910323)) + (jl_ush (((p0 - ((jl_ush p0 1) &&& 6148914691236517205)) &&& 3689348814741910323) + ((jl_ush (p0 - ((jl_ush p0 1) &&& 6148914691236517205)) 2) &&& 3689348814741910323)) 4)) &&& 1085102592571150095) 8)))]) hx hb md_JL_bitCount_40 rfl hl (by decide) rfl (fun ls hl => ?_)
  refine lv_lload_n hx hb md_JL_bitCount_41 rfl (lv_at hl 0 rfl) ?_
  refine lv_lload_n hx hb md_JL_bitCount_42 rfl (lv_at hl 0 rfl) ?_
  refine lv_bipush (v := 16) hx hb md_JL_bitCount_43 (by decide) ?_
  refine lv_lushr (v := jl_ush ((((((p0 - ((jl_ush p0 1) &&& 6148914691236517205)) &&& 3689348814741910323) + ((jl_ush (p0 - ((jl_ush p0 1) &&& 6148914691236517205)) 2) &&& 3689348814741910323)) + (jl_ush (((p0 - ((jl_ush p0 1) &&& 6148914691236517205)) &&& 3689348814741910323) + ((jl_ush (p0 - ((jl_ush p0 1) &&& 6148914691236517205)) 2) &&& 3689348814741910323)) 4)) &&& 1085102592571150095) + (jl_ush (((((p0 - ((jl_ush p0 1) &&& 6148914691236517205)) &&& 3689348814741910323) + ((jl_ush (p0 - ((jl_ush p0 1) &&& 6148914691236517205)) 2) &&& 3689348814741910323)) + (jl_ush (((p0 - ((jl_ush p0 1) &&& 6148914691236517205)) &&& 3689348814741910323) + ((jl_ush (p0 - ((jl_ush p0 1) &&& 6148914691236517205)) 2) &&& 3689348814741910323)) 4)) &&& 1085102592571150095) 8)) 16) hx hb md_JL_bitCount_45 rfl ?_
  refine lv_ladd hx hb md_JL_bitCount_46 ?_
  refine lv_lstore_n (lv' := [(0, .long (((((((p0 - ((jl_ush p0 1) &&& 6148914691236517205)) &&& 3689348814741910323) + ((jl_ush (p0 - ((jl_ush p0 1) &&& 6148914691236517205)) 2) &&& 3689348814741910323)) + (jl_ush (((p0 - ((jl_ush p0 1) &&& 6148914691236517205)) &&& 3689348814741910323) + ((jl_ush (p0 - ((jl_ush p0 1) &&& 6148914691236517205)) 2) &&& 3689348814741910323)) 4)) &&& 1085102592571150095) + (jl_ush (((((p0 - ((jl_ush p0 1) &&& 6148914691236517205)) &&& 3689348814741910323) + ((jl_ush (p0 - ((jl_ush p0 1) &&& 6148914691236517205)) 2) &&& 3689348814741910323)) + (jl_ush (((p0 - ((jl_ush p0 1) &&& 6148914691236517205)) &&& 3689348814741910323) + ((jl_ush (p0 - ((jl_ush p0 1) &&& 6148914691236517205)) 2) &&& 3689348814741910323)) 4)) &&& 1085102592571150095) 8)) + (jl_ush ((((((p0 - ((jl_ush p0 1) &&& 6148914691236517205)) &&& 3689348814741910323) + ((jl_ush (p0 - ((jl_ush p0 1) &&& 6148914691236517205)) 2) &&& 3689348814741910323)) + (jl_ush (((p0 - ((jl_ush p0 1) &&& 6148914691236517205)) &&& 3689348814741910323) + ((jl_ush (p0 - ((jl_ush p0 1) &&& 6148914691236517205)) 2) &&& 3689348814741910323)) 4)) &&& 1085102592571150095) + (jl_ush (((((p0 - ((jl_ush p0 1) &&& 6148914691236517205)) &&& 3689348814741910323) + ((jl_ush (p0 - ((jl_ush p0 1) &&& 6148914691236517205)) 2) &&& 3689348814741910323)) + (jl_ush (((p0 - ((jl_ush p0 1) &&& 6148914691236517205)) &&& 3689348814741910323) + ((jl_ush (p0 - ((jl_ush p0 1) &&& 6148914691236517205)) 2) &&& 3689348814741910323)) 4)) &&& 1085102592571150095) 8)) 16)))]) hx hb md_JL_bitCount_47 rfl hl (by decide) rfl (fun ls hl => ?_)
  refine lv_lload_n hx hb md_JL_bitCount_48 rfl (lv_at hl 0 rfl) ?_
  refine lv_lload_n hx hb md_JL_bitCount_49 rfl (lv_at hl 0 rfl) ?_
  refine lv_bipush (v := 32) hx hb md_JL_bitCount_50 (by decide) ?_
  refine lv_lushr (v := jl_ush (((((((p0 - ((jl_ush p0 1) &&& 6148914691236517205)) &&& 3689348814741910323) + ((jl_ush (p0 - ((jl_ush p0 1) &&& 6148914691236517205)) 2) &&& 3689348814741910323)) + (jl_ush (((p0 - ((jl_ush p0 1) &&& 6148914691236517205)) &&& 3689348814741910323) + ((jl_ush (p0 - ((jl_ush p0 1) &&& 6148914691236517205)) 2) &&& 3689348814741910323)) 4)) &&& 1085102592571150095) + (jl_ush (((((p0 - ((jl_ush p0 1) &&& 6148914691236517205)) &&& 3689348814741910323) + ((jl_ush (p0 - ((jl_ush p0 1) &&& 6148914691236517205)) 2) &&& 3689348814741910323)) + (jl_ush (((p0 - ((jl_ush p0 1) &&& 6148914691236517205)) &&& 3689348814741910323) + ((jl_ush (p0 - ((jl_ush p0 1) &&& 6148914691236517205)) 2) &&& 3689348814741910323)) 4)) &&& 1085102592571150095) 8)) + (jl_ush ((((((p0 - ((jl_ush p0 1) &&& 6148914691236517205)) &&& 3689348814741910323) + ((jl_ush (p0 - ((jl_ush p0 1) &&& 6148914691236517205)) 2) &&& 3689348814741910323)) + (jl_ush (((p0 - ((jl_ush p0 1) &&& 6148914691236517205)) &&& 3689348814741910323) + ((jl_ush (p0 - ((jl_ush p0 1) &&& 6148914691236517205)) 2) &&& 3689348814741910323)) 4)) &&& 1085102592571150095) + (jl_ush (((((p0 - ((jl_ush p0 1) &&& 6148914691236517205)) &&& 3689348814741910323) + ((jl_ush (p0 - ((jl_ush p0 1) &&& 6148914691236517205)) 2) &&& 3689348814741910323)) + (jl_ush (((p0 - ((jl_ush p0 1) &&& 6148914691236517205)) &&& 3689348814741910323) + ((jl_ush (p0 - ((jl_ush p0 1) &&& 6148914691236517205)) 2) &&& 3689348814741910323)) 4)) &&& 1085102592571150095) 8)) 16)) 32) hx hb md_JL_bitCount_52 rfl ?_
  refine lv_ladd hx hb md_JL_bitCount_53 ?_
  refine lv_lstore_n (lv' := [(0, .long ((((((((p0 - ((jl_ush p0 1) &&& 6148914691236517205)) &&& 3689348814741910323) + ((jl_ush (p0 - ((jl_ush p0 1) &&& 6148914691236517205)) 2) &&& 3689348814741910323)) + (jl_ush (((p0 - ((jl_ush p0 1) &&& 6148914691236517205)) &&& 3689348814741910323) + ((jl_ush (p0 - ((jl_ush p0 1) &&& 6148914691236517205)) 2) &&& 3689348814741910323)) 4)) &&& 1085102592571150095) + (jl_ush (((((p0 - ((jl_ush p0 1) &&& 6148914691236517205)) &&& 3689348814741910323) + ((jl_ush (p0 - ((jl_ush p0 1) &&& 6148914691236517205)) 2) &&& 3689348814741910323)) + (jl_ush (((p0 - ((jl_ush p0 1) &&& 6148914691236517205)) &&& 3689348814741910323) + ((jl_ush (p0 - ((jl_ush p0 1) &&& 6148914691236517205)) 2) &&& 3689348814741910323)) 4)) &&& 1085102592571150095) 8)) + (jl_ush ((((((p0 - ((jl_ush p0 1) &&& 6148914691236517205)) &&& 3689348814741910323) + ((jl_ush (p0 - ((jl_ush p0 1) &&& 6148914691236517205)) 2) &&& 3689348814741910323)) + (jl_ush (((p0 - ((jl_ush p0 1) &&& 6148914691236517205)) &&& 3689348814741910323) + ((jl_ush (p0 - ((jl_ush p0 1) &&& 6148914691236517205)) 2) &&& 3689348814741910323)) 4)) &&& 1085102592571150095) + (jl_ush (((((p0 - ((jl_ush p0 1) &&& 6148914691236517205)) &&& 3689348814741910323) + ((jl_ush (p0 - ((jl_ush p0 1) &&& 6148914691236517205)) 2) &&& 3689348814741910323)) + (jl_ush (((p0 - ((jl_ush p0 1) &&& 6148914691236517205)) &&& 3689348814741910323) + ((jl_ush (p0 - ((jl_ush p0 1) &&& 6148914691236517205)) 2) &&& 3689348814741910323)) 4)) &&& 1085102592571150095) 8)) 16)) + (jl_ush (((((((p0 - ((jl_ush p0 1) &&& 6148914691236517205)) &&& 3689348814741910323) + ((jl_ush (p0 - ((jl_ush p0 1) &&& 6148914691236517205)) 2) &&& 3689348814741910323)) + (jl_ush (((p0 - ((jl_ush p0 1) &&& 6148914691236517205)) &&& 3689348814741910323) + ((jl_ush (p0 - ((jl_ush p0 1) &&& 6148914691236517205)) 2) &&& 3689348814741910323)) 4)) &&& 1085102592571150095) + (jl_ush (((((p0 - ((jl_ush p0 1) &&& 6148914691236517205)) &&& 3689348814741910323) + ((jl_ush (p0 - ((jl_ush p0 1) &&& 6148914691236517205)) 2) &&& 3689348814741910323)) + (jl_ush (((p0 - ((jl_ush p0 1) &&& 6148914691236517205)) &&& 3689348814741910323) + ((jl_ush (p0 - ((jl_ush p0 1) &&& 6148914691236517205)) 2) &&& 3689348814741910323)) 4)) &&& 1085102592571150095) 8)) + (jl_ush ((((((p0 - ((jl_ush p0 1) &&& 6148914691236517205)) &&& 3689348814741910323) + ((jl_ush (p0 - ((jl_ush p0 1) &&& 6148914691236517205)) 2) &&& 3689348814741910323)) + (jl_ush (((p0 - ((jl_ush p0 1) &&& 6148914691236517205)) &&& 3689348814741910323) + ((jl_ush (p0 - ((jl_ush p0 1) &&& 6148914691236517205)) 2) &&& 3689348814741910323)) 4)) &&& 1085102592571150095) + (jl_ush (((((p0 - ((jl_ush p0 1) &&& 6148914691236517205)) &&& 3689348814741910323) + ((jl_ush (p0 - ((jl_ush p0 1) &&& 6148914691236517205)) 2) &&& 3689348814741910323)) + (jl_ush (((p0 - ((jl_ush p0 1) &&& 6148914691236517205)) &&& 3689348814741910323) + ((jl_ush (p0 - ((jl_ush p0 1) &&& 6148914691236517205)) 2) &&& 3689348814741910323)) 4)) &&& 1085102592571150095) 8)) 16)) 32)))]) hx hb md_JL_bitCount_54 rfl hl (by decide) rfl (fun ls hl => ?_)
  refine lv_lload_n hx hb md_JL_bitCount_55 rfl (lv_at hl 0 rfl) ?_
  refine lv_l2i (v := ((((((((p0 - ((jl_ush p0 1) &&& 6148914691236517205)) &&& 3689348814741910323) + ((jl_ush (p0 - ((jl_ush p0 1) &&& 6148914691236517205)) 2) &&& 3689348814741910323)) + (jl_ush (((p0 - ((jl_ush p0 1) &&& 6148914691236517205)) &&& 3689348814741910323) + ((jl_ush (p0 - ((jl_ush p0 1) &&& 6148914691236517205)) 2) &&& 3689348814741910323)) 4)) &&& 1085102592571150095) + (jl_ush (((((p0 - ((jl_ush p0 1) &&& 6148914691236517205)) &&& 3689348814741910323) + ((jl_ush (p0 - ((jl_ush p0 1) &&& 6148914691236517205)) 2) &&& 3689348814741910323)) + (jl_ush (((p0 - ((jl_ush p0 1) &&& 6148914691236517205)) &&& 3689348814741910323) + ((jl_ush (p0 - ((jl_ush p0 1) &&& 6148914691236517205)) 2) &&& 3689348814741910323)) 4)) &&& 1085102592571150095) 8)) + (jl_ush ((((((p0 - ((jl_ush p0 1) &&& 6148914691236517205)) &&& 3689348814741910323) + ((jl_ush (p0 - ((jl_ush p0 1) &&& 6148914691236517205)) 2) &&& 3689348814741910323)) + (jl_ush (((p0 - ((jl_ush p0 1) &&& 6148914691236517205)) &&& 3689348814741910323) + ((jl_ush (p0 - ((jl_ush p0 1) &&& 6148914691236517205)) 2) &&& 3689348814741910323)) 4)) &&& 1085102592571150095) + (jl_ush (((((p0 - ((jl_ush p0 1) &&& 6148914691236517205)) &&& 3689348814741910323) + ((jl_ush (p0 - ((jl_ush p0 1) &&& 6148914691236517205)) 2) &&& 3689348814741910323)) + (jl_ush (((p0 - ((jl_ush p0 1) &&& 6148914691236517205)) &&& 3689348814741910323) + ((jl_ush (p0 - ((jl_ush p0 1) &&& 6148914691236517205)) 2) &&& 3689348814741910323)) 4)) &&& 1085102592571150095) 8)) 16)) + (jl_ush (((((((p0 - ((jl_ush p0 1) &&& 6148914691236517205)) &&& 3689348814741910323) + ((jl_ush (p0 - ((jl_ush p0 1) &&& 6148914691236517205)) 2) &&& 3689348814741910323)) + (jl_ush (((p0 - ((jl_ush p0 1) &&& 6148914691236517205)) &&& 3689348814741910323) + ((jl_ush (p0 - ((jl_ush p0 1) &&& 6148914691236517205)) 2) &&& 3689348814741910323)) 4)) &&& 1085102592571150095) + (jl_ush (((((p0 - ((jl_ush p0 1) &&& 6148914691236517205)) &&& 3689348814741910323) + ((jl_ush (p0 - ((jl_ush p0 1) &&& 6148914691236517205)) 2) &&& 3689348814741910323)) + (jl_ush (((p0 - ((jl_ush p0 1) &&& 6148914691236517205)) &&& 3689348814741910323) + ((jl_ush (p0 - ((jl_ush p0 1) &&& 6148914691236517205)) 2) &&& 3689348814741910323)) 4)) &&& 1085102592571150095) 8)) + (jl_ush ((((((p0 - ((jl_ush p0 1) &&& 6148914691236517205)) &&& 3689348814741910323) + ((jl_ush (p0 - ((jl_ush p0 1) &&& 6148914691236517205)) 2) &&& 3689348814741910323)) + (jl_ush (((p0 - ((jl_ush p0 1) &&& 6148914691236517205)) &&& 3689348814741910323) + ((jl_ush (p0 - ((jl_ush p0 1) &&& 6148914691236517205)) 2) &&& 3689348814741910323)) 4)) &&& 1085102592571150095) + (jl_ush (((((p0 - ((jl_ush p0 1) &&& 6148914691236517205)) &&& 3689348814741910323) + ((jl_ush (p0 - ((jl_ush p0 1) &&& 6148914691236517205)) 2) &&& 3689348814741910323)) + (jl_ush (((p0 - ((jl_ush p0 1) &&& 6148914691236517205)) &&& 3689348814741910323) + ((jl_ush (p0 - ((jl_ush p0 1) &&& 6148914691236517205)) 2) &&& 3689348814741910323)) 4)) &&& 1085102592571150095) 8)) 16)) 32)).toInt32) hx hb md_JL_bitCount_56 rfl ?_
  refine lv_bipush (v := 127) hx hb md_JL_bitCount_57 (by decide) ?_
  refine lv_iand hx hb md_JL_bitCount_59 ?_
  exact W.iret (v := (((((((((p0 - ((jl_ush p0 1) &&& 6148914691236517205)) &&& 3689348814741910323) + ((jl_ush (p0 - ((jl_ush p0 1) &&& 6148914691236517205)) 2) &&& 3689348814741910323)) + (jl_ush (((p0 - ((jl_ush p0 1) &&& 6148914691236517205)) &&& 3689348814741910323) + ((jl_ush (p0 - ((jl_ush p0 1) &&& 6148914691236517205)) 2) &&& 3689348814741910323)) 4)) &&& 1085102592571150095) + (jl_ush (((((p0 - ((jl_ush p0 1) &&& 6148914691236517205)) &&& 3689348814741910323) + ((jl_ush (p0 - ((jl_ush p0 1) &&& 6148914691236517205)) 2) &&& 3689348814741910323)) + (jl_ush (((p0 - ((jl_ush p0 1) &&& 6148914691236517205)) &&& 3689348814741910323) + ((jl_ush (p0 - ((jl_ush p0 1) &&& 6148914691236517205)) 2) &&& 3689348814741910323)) 4)) &&& 1085102592571150095) 8)) + (jl_ush ((((((p0 - ((jl_ush p0 1) &&& 6148914691236517205)) &&& 3689348814741910323) + ((jl_ush (p0 - ((jl_ush p0 1) &&& 6148914691236517205)) 2) &&& 3689348814741910323)) + (jl_ush (((p0 - ((jl_ush p0 1) &&& 6148914691236517205)) &&& 3689348814741910323) + ((jl_ush (p0 - ((jl_ush p0 1) &&& 6148914691236517205)) 2) &&& 3689348814741910323)) 4)) &&& 1085102592571150095) + (jl_ush (((((p0 - ((jl_ush p0 1) &&& 6148914691236517205)) &&& 3689348814741910323) + ((jl_ush (p0 - ((jl_ush p0 1) &&& 6148914691236517205)) 2) &&& 3689348814741910323)) + (jl_ush (((p0 - ((jl_ush p0 1) &&& 6148914691236517205)) &&& 3689348814741910323) + ((jl_ush (p0 - ((jl_ush p0 1) &&& 6148914691236517205)) 2) &&& 3689348814741910323)) 4)) &&& 1085102592571150095) 8)) 16)) + (jl_ush (((((((p0 - ((jl_ush p0 1) &&& 6148914691236517205)) &&& 3689348814741910323) + ((jl_ush (p0 - ((jl_ush p0 1) &&& 6148914691236517205)) 2) &&& 3689348814741910323)) + (jl_ush (((p0 - ((jl_ush p0 1) &&& 6148914691236517205)) &&& 3689348814741910323) + ((jl_ush (p0 - ((jl_ush p0 1) &&& 6148914691236517205)) 2) &&& 3689348814741910323)) 4)) &&& 1085102592571150095) + (jl_ush (((((p0 - ((jl_ush p0 1) &&& 6148914691236517205)) &&& 3689348814741910323) + ((jl_ush (p0 - ((jl_ush p0 1) &&& 6148914691236517205)) 2) &&& 3689348814741910323)) + (jl_ush (((p0 - ((jl_ush p0 1) &&& 6148914691236517205)) &&& 3689348814741910323) + ((jl_ush (p0 - ((jl_ush p0 1) &&& 6148914691236517205)) 2) &&& 3689348814741910323)) 4)) &&& 1085102592571150095) 8)) + (jl_ush ((((((p0 - ((jl_ush p0 1) &&& 6148914691236517205)) &&& 3689348814741910323) + ((jl_ush (p0 - ((jl_ush p0 1) &&& 6148914691236517205)) 2) &&& 3689348814741910323)) + (jl_ush (((p0 - ((jl_ush p0 1) &&& 6148914691236517205)) &&& 3689348814741910323) + ((jl_ush (p0 - ((jl_ush p0 1) &&& 6148914691236517205)) 2) &&& 3689348814741910323)) 4)) &&& 1085102592571150095) + (jl_ush (((((p0 - ((jl_ush p0 1) &&& 6148914691236517205)) &&& 3689348814741910323) + ((jl_ush (p0 - ((jl_ush p0 1) &&& 6148914691236517205)) 2) &&& 3689348814741910323)) + (jl_ush (((p0 - ((jl_ush p0 1) &&& 6148914691236517205)) &&& 3689348814741910323) + ((jl_ush (p0 - ((jl_ush p0 1) &&& 6148914691236517205)) 2) &&& 3689348814741910323)) 4)) &&& 1085102592571150095) 8)) 16)) 32)).toInt32) &&& 127) hx hb hr (fun t ht2 _ => ⟨((((((((((p0 - ((jl_ush p0 1) &&& 6148914691236517205)) &&& 3689348814741910323) + ((jl_ush (p0 - ((jl_ush p0 1) &&& 6148914691236517205)) 2) &&& 3689348814741910323)) + (jl_ush (((p0 - ((jl_ush p0 1) &&& 6148914691236517205)) &&& 3689348814741910323) + ((jl_ush (p0 - ((jl_ush p0 1) &&& 6148914691236517205)) 2) &&& 3689348814741910323)) 4)) &&& 1085102592571150095) + (jl_ush (((((p0 - ((jl_ush p0 1) &&& 6148914691236517205)) &&& 3689348814741910323) + ((jl_ush (p0 - ((jl_ush p0 1) &&& 6148914691236517205)) 2) &&& 3689348814741910323)) + (jl_ush (((p0 - ((jl_ush p0 1) &&& 6148914691236517205)) &&& 3689348814741910323) + ((jl_ush (p0 - ((jl_ush p0 1) &&& 6148914691236517205)) 2) &&& 3689348814741910323)) 4)) &&& 1085102592571150095) 8)) + (jl_ush ((((((p0 - ((jl_ush p0 1) &&& 6148914691236517205)) &&& 3689348814741910323) + ((jl_ush (p0 - ((jl_ush p0 1) &&& 6148914691236517205)) 2) &&& 3689348814741910323)) + (jl_ush (((p0 - ((jl_ush p0 1) &&& 6148914691236517205)) &&& 3689348814741910323) + ((jl_ush (p0 - ((jl_ush p0 1) &&& 6148914691236517205)) 2) &&& 3689348814741910323)) 4)) &&& 1085102592571150095) + (jl_ush (((((p0 - ((jl_ush p0 1) &&& 6148914691236517205)) &&& 3689348814741910323) + ((jl_ush (p0 - ((jl_ush p0 1) &&& 6148914691236517205)) 2) &&& 3689348814741910323)) + (jl_ush (((p0 - ((jl_ush p0 1) &&& 6148914691236517205)) &&& 3689348814741910323) + ((jl_ush (p0 - ((jl_ush p0 1) &&& 6148914691236517205)) 2) &&& 3689348814741910323)) 4)) &&& 1085102592571150095) 8)) 16)) + (jl_ush (((((((p0 - ((jl_ush p0 1) &&& 6148914691236517205)) &&& 3689348814741910323) + ((jl_ush (p0 - ((jl_ush p0 1) &&& 6148914691236517205)) 2) &&& 3689348814741910323)) + (jl_ush (((p0 - ((jl_ush p0 1) &&& 6148914691236517205)) &&& 3689348814741910323) + ((jl_ush (p0 - ((jl_ush p0 1) &&& 6148914691236517205)) 2) &&& 3689348814741910323)) 4)) &&& 1085102592571150095) + (jl_ush (((((p0 - ((jl_ush p0 1) &&& 6148914691236517205)) &&& 3689348814741910323) + ((jl_ush (p0 - ((jl_ush p0 1) &&& 6148914691236517205)) 2) &&& 3689348814741910323)) + (jl_ush (((p0 - ((jl_ush p0 1) &&& 6148914691236517205)) &&& 3689348814741910323) + ((jl_ush (p0 - ((jl_ush p0 1) &&& 6148914691236517205)) 2) &&& 3689348814741910323)) 4)) &&& 1085102592571150095) 8)) + (jl_ush ((((((p0 - ((jl_ush p0 1) &&& 6148914691236517205)) &&& 3689348814741910323) + ((jl_ush (p0 - ((jl_ush p0 1) &&& 6148914691236517205)) 2) &&& 3689348814741910323)) + (jl_ush (((p0 - ((jl_ush p0 1) &&& 6148914691236517205)) &&& 3689348814741910323) + ((jl_ush (p0 - ((jl_ush p0 1) &&& 6148914691236517205)) 2) &&& 3689348814741910323)) 4)) &&& 1085102592571150095) + (jl_ush (((((p0 - ((jl_ush p0 1) &&& 6148914691236517205)) &&& 3689348814741910323) + ((jl_ush (p0 - ((jl_ush p0 1) &&& 6148914691236517205)) 2) &&& 3689348814741910323)) + (jl_ush (((p0 - ((jl_ush p0 1) &&& 6148914691236517205)) &&& 3689348814741910323) + ((jl_ush (p0 - ((jl_ush p0 1) &&& 6148914691236517205)) 2) &&& 3689348814741910323)) 4)) &&& 1085102592571150095) 8)) 16)) 32)).toInt32) &&& 127), rfl, trivial, ht2⟩) (fun q h => by cases h) md_JL_bitCount_60
set_option maxHeartbeats 4000000 in
set_option maxRecDepth 100000 in
theorem mt_JL_compare (l : Launch) (p0 : Int64) (p1 : Int64) : Met l my_JL_compare mw_JL_compare ({ frames := 0, cells := 0, slots := 0, locals := 0 } : Room) (va_Pc [.long p0, .long p1] (fun _ => True)) (vp_Si (fun _ => True)) 0 0 (fun _ => False) := by
  refine Met.ofW (cc := mc_JL_compare) (maxL := 4) (ret := (some .int)) (by decide) rfl ?_
  intro p e s m args below meth c s₁ B hml hv
  obtain ⟨rfl, -⟩ := hv
  have hx := B.exec
  have hb := B.bytes
  have hr := B.returns
  have hts := atoms_spec (ws := mw_JL_compare) B.pre
  have ht : ∀ w ∈ gw_tbl, w.before _ s = true := fun w h => hts w (List.mem_cons_of_mem _ h)
  have hown : s.vm.findClass "java/lang/Long" = some m.cls := findClass_of_methodNamed B.named
  have hlocks := B.notSynchronized
  have hl := lv_entry ([.long p0, .long p1]) (n := 4) (Nat.le_of_ble_eq_true rfl)
  rw [lg_entry_eq]
  generalize (lg_sl ([.long p0, .long p1]) ++ List.replicate (4 - (lg_sl ([.long p0, .long p1])).length) Slot.unset).toArray = ls at hl ⊢
  have hl : lv_has ls 4 [(0, .long p0), (2, .long p1)] := hl
  refine lv_lload_n hx hb md_JL_compare_0 rfl (lv_at hl 0 rfl) ?_
  refine lv_lload_n hx hb md_JL_compare_1 rfl (lv_at hl 1 rfl) ?_
  refine W.lcmp hx hb md_JL_compare_2 ?_
  have J_5 : ∀ (z_6 : Int32) (ls : Array Slot), lv_has ls 4 [(0, .long p0), (2, .long p1)] → WP p l e mw_JL_compare ({ frames := 0, cells := 0, slots := 0, locals := 0 } : Room) s m [.long p0, .long p1] below meth c (vp_Si (fun _ => True)) (F0 m 21 ls [.int z_6]) := by
    intro z_6 ls hl
    exact W.iret (v := z_6) hx hb hr (fun t ht2 _ => ⟨z_6, rfl, trivial, ht2⟩) (fun q h => by cases h) md_JL_compare_21
  refine lv_if_ge (tgt := 10) hx hb md_JL_compare_3 (by decide) (fun c_1 => ?_) (fun c_1 => ?_)
  · refine lv_lload_n hx hb md_JL_compare_10 rfl (lv_at hl 0 rfl) ?_
    refine lv_lload_n hx hb md_JL_compare_11 rfl (lv_at hl 1 rfl) ?_
    refine W.lcmp hx hb md_JL_compare_12 ?_
    have J_8 : ∀ (z_9 : Bool) (ls : Array Slot), lv_has ls 4 [(0, .long p0), (2, .long p1)] → WP p l e mw_JL_compare ({ frames := 0, cells := 0, slots := 0, locals := 0 } : Room) s m [.long p0, .long p1] below meth c (vp_Si (fun _ => True)) (F0 m 21 ls [.int (jb z_9)]) := by
      intro z_9 ls hl
      exact J_5 (jb z_9) ls (lv_sub hl [0, 1] rfl)
    refine lv_if_ne (tgt := 20) hx hb md_JL_compare_13 (by decide) (fun c_7 => ?_) (fun c_7 => ?_)
    · refine lv_iconst (v := 1) hx hb md_JL_compare_20 (by decide) ?_
      exact J_8 true ls (lv_sub hl [0, 1] rfl)
    · refine lv_iconst (v := 0) hx hb md_JL_compare_16 (by decide) ?_
      refine lv_goto (tgt := 21) hx hb md_JL_compare_17 (by decide) ?_
      exact J_8 false ls (lv_sub hl [0, 1] rfl)
  · refine lv_iconst (v := (-1)) hx hb md_JL_compare_6 (by decide) ?_
    refine lv_goto (tgt := 21) hx hb md_JL_compare_7 (by decide) ?_
    exact J_5 (-1) ls (lv_sub hl [0, 1] rfl)
set_option maxHeartbeats 4000000 in
set_option maxRecDepth 100000 in
theorem mt_F_towardsZero (l : Launch) (ad : Nat → Nat) (k : Nat) (hk : k < 2) (p0 : Int64) : Met l my_F_towardsZero mw_F_towardsZero ({ frames := 2, cells := 0, slots := 0, locals := 46 } : Room) (va_Pc [.ref (ad k), .long p0] (fun U => FW ad (fun _ => False) U U.heap)) (vp_Sl (fun _ => True)) 0 0 (fun _ => False) := by
  refine Met.ofW (cc := mc_F_towardsZero) (maxL := 8) (ret := (some .long)) (by decide) rfl ?_
  intro p e s m args below meth c s₁ B hml hv
  obtain ⟨rfl, hE⟩ := hv
  have hx := B.exec
  have hb := B.bytes
  have hr := B.returns
  have hts := atoms_spec (ws := mw_F_towardsZero) B.pre
  have ht : ∀ w ∈ gw_tbl, w.before _ s = true := fun w h => hts w (List.mem_cons_of_mem _ h)
  have hown : s.vm.findClass "NumberProbe$Format" = some m.cls := findClass_of_methodNamed B.named
  have hlocks := B.notSynchronized
  have hS : va_S (fun _ => False) s.heap s.heap [] := va_S.rf
  have hl := lv_entry ([.ref (ad k), .long p0]) (n := 8) (Nat.le_of_ble_eq_true rfl)
  rw [lg_entry_eq]
  generalize (lg_sl ([.ref (ad k), .long p0]) ++ List.replicate (8 - (lg_sl ([.ref (ad k), .long p0])).length) Slot.unset).toArray = ls at hl ⊢
  have hl : lv_has ls 8 [(0, .ref (ad k)), (1, .long p0)] := hl
  refine lv_aload_n hx hb md_F_towardsZero_0 rfl (lv_at hl 0 rfl) ?_
  refine lv_lload_n hx hb md_F_towardsZero_1 rfl (lv_at hl 1 rfl) ?_
  refine vp_callSi (W.runV (C := "NumberProbe$Format") (As := [.long p0]) (rest := []) ⟨hx, hb, hml, hown, hts⟩ (mt_F_isNaN l ad k hk p0) (cwV 1 hts (gd_V tm_67 tm_68 tm_69 tm_27 tm_70) rfl rfl rfl (by decide +kernel) ⟨Nat.le_of_ble_eq_true rfl, Nat.le_of_ble_eq_true rfl⟩) ⟨fb_E, fw_recv hE hk hS, fun U hU hW => ⟨rfl, fw_use hE hS hU hW⟩⟩ rfl rfl hl.1 rfl (lv_room (Nat.le_of_ble_eq_true rfl)) md_F_towardsZero_2 ⟨Nat.zero_le _, Nat.zero_le _⟩) (fun r_1 e_2 => ?_)
  obtain rfl : r_1 = jb (cf_nan k p0) := e_2
  refine lv_if_eq (tgt := 10) hx hb md_F_towardsZero_5 (by decide) (fun c_3 => ?_) (fun c_3 => ?_)
  · refine lv_aload_n hx hb md_F_towardsZero_10 rfl (lv_at hl 0 rfl) ?_
    refine lv_lload_n hx hb md_F_towardsZero_11 rfl (lv_at hl 1 rfl) ?_
    refine vp_callSl (W.runV (C := "NumberProbe$Format") (As := [.long p0]) (rest := []) ⟨hx, hb, hml, hown, hts⟩ (mt_F_significandOf l ad k hk p0) (cwV 1 hts (gd_V tm_142 tm_144 tm_5 tm_27 tm_145) rfl rfl rfl (by decide +kernel) ⟨Nat.le_of_ble_eq_true rfl, Nat.le_of_ble_eq_true rfl⟩) ⟨fb_E, fw_recv hE hk hS, fun U hU hW => ⟨rfl, fw_use hE hS hU hW⟩⟩ rfl rfl hl.1 rfl (lv_room (Nat.le_of_ble_eq_true rfl)) md_F_towardsZero_12 ⟨Nat.zero_le _, Nat.zero_le _⟩) (fun r_4 e_5 => ?_)
    obtain rfl : r_4 = cf_sig k p0 := e_5
    refine lv_lstore_n (lv' := [(3, .long (cf_sig k p0)), (0, .ref (ad k)), (1, .long p0)]) hx hb md_F_towardsZero_15 rfl hl (by decide) rfl (fun ls hl => ?_)
    refine lv_aload_n hx hb md_F_towardsZero_16 rfl (lv_at hl 1 rfl) ?_
    refine lv_lload_n hx hb md_F_towardsZero_17 rfl (lv_at hl 2 rfl) ?_
    refine vp_callSi (W.runV (C := "NumberProbe$Format") (As := [.long p0]) (rest := []) ⟨hx, hb, hml, hown, hts⟩ (mt_F_exponentOf l ad k hk p0) (cwV 1 hts (gd_V tm_131 tm_133 tm_3 tm_27 tm_134) rfl rfl rfl (by decide +kernel) ⟨Nat.le_of_ble_eq_true rfl, Nat.le_of_ble_eq_true rfl⟩) ⟨fb_E, fw_recv hE hk hS, fun U hU hW => ⟨rfl, fw_use hE hS hU hW⟩⟩ rfl rfl hl.1 rfl (lv_room (Nat.le_of_ble_eq_true rfl)) md_F_towardsZero_18 ⟨Nat.zero_le _, Nat.zero_le _⟩) (fun r_6 e_7 => ?_)
    obtain rfl : r_6 = cf_exp k p0 := e_7
    refine lv_istore (lv' := [(5, .int (cf_exp k p0)), (3, .long (cf_sig k p0)), (0, .ref (ad k)), (1, .long p0)]) hx hb md_F_towardsZero_21 hl (by decide) rfl (fun ls hl => ?_)
    refine lv_iload hx hb md_F_towardsZero_23 (lv_at hl 0 rfl) ?_
    refine lv_lload_n hx hb md_F_towardsZero_25 rfl (lv_at hl 1 rfl) ?_
    refine vp_callSi (W.runS (As := [.long (cf_sig k p0)]) (rest := [.int (cf_exp k p0)]) ⟨hx, hb, hml, hown, hts⟩ (mt_JL_numberOfLeadingZeros l (cf_sig k p0)) (va_cwS 1 hts (gd_S tm_156 tm_157 tm_29 tm_158) rfl rfl rfl (by decide +kernel) ⟨Nat.le_of_ble_eq_true rfl, Nat.le_of_ble_eq_true rfl⟩) ⟨fb_0, fun U hU hW => ⟨rfl, trivial⟩⟩ rfl rfl hl.1 rfl (lv_room (Nat.le_of_ble_eq_true rfl)) md_F_towardsZero_26 ⟨Nat.zero_le _, Nat.zero_le _⟩) (fun r_8 e_9 => ?_)
    obtain rfl : r_8 = jd_nlz (cf_sig k p0) := e_9
    refine lv_icmp_lt (tgt := 48) hx hb md_F_towardsZero_29 (by decide) (fun c_10 => ?_) (fun c_10 => ?_)
    · refine lv_iload hx hb md_F_towardsZero_48 (lv_at hl 0 rfl) ?_
      have J_15 : ∀ (z_16 : Int64) (ls : Array Slot), lv_has ls 8 [(6, .long z_16), (5, .int (cf_exp k p0)), (3, .long (cf_sig k p0)), (0, .ref (ad k)), (1, .long p0)] → WP p l e mw_F_towardsZero ({ frames := 2, cells := 0, slots := 0, locals := 46 } : Room) s m [.ref (ad k), .long p0] below meth c (vp_Sl (fun _ => True)) (F0 m 80 ls []) := by
        intro z_16 ls hl
        refine lv_lload_n hx hb md_F_towardsZero_80 rfl (lv_at hl 4 rfl) ?_
        refine lv_lconst (v := 0) hx hb md_F_towardsZero_81 (by decide) ?_
        refine W.lcmp hx hb md_F_towardsZero_82 ?_
        have J_18 : ∀ (z_19 : Int64) (ls : Array Slot), lv_has ls 8 [(6, .long z_16), (5, .int (cf_exp k p0)), (3, .long (cf_sig k p0)), (0, .ref (ad k)), (1, .long p0)] → WP p l e mw_F_towardsZero ({ frames := 2, cells := 0, slots := 0, locals := 46 } : Room) s m [.ref (ad k), .long p0] below meth c (vp_Sl (fun _ => True)) (F0 m 94 ls [.long z_19]) := by
          intro z_19 ls hl
          exact W.lret (v := z_19) hx hb hr (fun t ht2 _ => ⟨z_19, rfl, trivial, ht2⟩) (fun q h => by cases h) md_F_towardsZero_94
        refine lv_if_ge (tgt := 92) hx hb md_F_towardsZero_83 (by decide) (fun c_17 => ?_) (fun c_17 => ?_)
        · refine lv_lload hx hb md_F_towardsZero_92 (lv_at hl 0 rfl) ?_
          exact J_18 z_16 ls (lv_sub hl [0, 1, 2, 3, 4] rfl)
        · refine lv_lload hx hb md_F_towardsZero_86 (lv_at hl 0 rfl) ?_
          refine lv_lneg hx hb md_F_towardsZero_88 ?_
          refine lv_goto (tgt := 94) hx hb md_F_towardsZero_89 (by decide) ?_
          exact J_18 (-z_16) ls (lv_sub hl [0, 1, 2, 3, 4] rfl)
      refine lv_if_lt (tgt := 62) hx hb md_F_towardsZero_50 (by decide) (fun c_11 => ?_) (fun c_11 => ?_)
      · refine lv_iload hx hb md_F_towardsZero_62 (lv_at hl 0 rfl) ?_
        refine lv_bipush (v := (-64)) hx hb md_F_towardsZero_64 (by decide) ?_
        have J_21 : ∀ (z_22 : Int64) (ls : Array Slot), lv_has ls 8 [(5, .int (cf_exp k p0)), (3, .long (cf_sig k p0)), (0, .ref (ad k)), (1, .long p0)] → WP p l e mw_F_towardsZero ({ frames := 2, cells := 0, slots := 0, locals := 46 } : Room) s m [.ref (ad k), .long p0] below meth c (vp_Sl (fun _ => True)) (F0 m 78 ls [.long z_22]) := by
          intro z_22 ls hl
          refine lv_lstore (lv' := [(6, .long z_22), (5, .int (cf_exp k p0)), (3, .long (cf_sig k p0)), (0, .ref (ad k)), (1, .long p0)]) hx hb md_F_towardsZero_78 hl (by decide) rfl (fun ls hl => ?_)
          exact J_15 z_22 ls (lv_sub hl [0, 1, 2, 3, 4] rfl)
        refine lv_icmp_le (tgt := 77) hx hb md_F_towardsZero_66 (by decide) (fun c_20 => ?_) (fun c_20 => ?_)
        · refine lv_lconst (v := 0) hx hb md_F_towardsZero_77 (by decide) ?_
          exact J_21 0 ls (lv_sub hl [0, 1, 2, 3] rfl)
        · refine lv_lload_n hx hb md_F_towardsZero_69 rfl (lv_at hl 1 rfl) ?_
          refine lv_iload hx hb md_F_towardsZero_70 (lv_at hl 0 rfl) ?_
          refine lv_ineg hx hb md_F_towardsZero_72 ?_
          refine lv_lushr (v := jl_ush (cf_sig k p0) (-(cf_exp k p0))) hx hb md_F_towardsZero_73 rfl ?_
          refine lv_goto (tgt := 78) hx hb md_F_towardsZero_74 (by decide) ?_
          exact J_21 (jl_ush (cf_sig k p0) (-(cf_exp k p0))) ls (lv_sub hl [0, 1, 2, 3] rfl)
      · refine lv_lload_n hx hb md_F_towardsZero_53 rfl (lv_at hl 1 rfl) ?_
        refine lv_iload hx hb md_F_towardsZero_54 (lv_at hl 0 rfl) ?_
        refine lv_lshl (v := jl_shl (cf_sig k p0) (cf_exp k p0)) hx hb md_F_towardsZero_56 rfl ?_
        refine lv_lstore (lv' := [(6, .long (jl_shl (cf_sig k p0) (cf_exp k p0))), (5, .int (cf_exp k p0)), (3, .long (cf_sig k p0)), (0, .ref (ad k)), (1, .long p0)]) hx hb md_F_towardsZero_57 hl (by decide) rfl (fun ls hl => ?_)
        refine lv_goto (tgt := 80) hx hb md_F_towardsZero_59 (by decide) ?_
        exact J_15 (jl_shl (cf_sig k p0) (cf_exp k p0)) ls (lv_sub hl [0, 1, 2, 3, 4] rfl)
    · refine lv_lload_n hx hb md_F_towardsZero_32 rfl (lv_at hl 3 rfl) ?_
      refine lv_lconst (v := 0) hx hb md_F_towardsZero_33 (by decide) ?_
      refine W.lcmp hx hb md_F_towardsZero_34 ?_
      have J_24 : ∀ (z_25 : Int64) (ls : Array Slot), lv_has ls 8 [(5, .int (cf_exp k p0)), (3, .long (cf_sig k p0)), (0, .ref (ad k)), (1, .long p0)] → WP p l e mw_F_towardsZero ({ frames := 2, cells := 0, slots := 0, locals := 46 } : Room) s m [.ref (ad k), .long p0] below meth c (vp_Sl (fun _ => True)) (F0 m 47 ls [.long z_25]) := by
        intro z_25 ls hl
        exact W.lret (v := z_25) hx hb hr (fun t ht2 _ => ⟨z_25, rfl, trivial, ht2⟩) (fun q h => by cases h) md_F_towardsZero_47
      refine lv_if_ge (tgt := 44) hx hb md_F_towardsZero_35 (by decide) (fun c_23 => ?_) (fun c_23 => ?_)
      · refine lv_ldc2 (v := 9223372036854775807) hx hb hown (ht _ tm_252) md_F_towardsZero_44 ?_
        exact J_24 9223372036854775807 ls (lv_sub hl [0, 1, 2, 3] rfl)
      · refine lv_ldc2 (v := (-9223372036854775808)) hx hb hown (ht _ tm_251) md_F_towardsZero_38 ?_
        refine lv_goto (tgt := 47) hx hb md_F_towardsZero_41 (by decide) ?_
        exact J_24 (-9223372036854775808) ls (lv_sub hl [0, 1, 2, 3] rfl)
  · refine lv_lconst (v := 0) hx hb md_F_towardsZero_8 (by decide) ?_
    exact W.lret (v := 0) hx hb hr (fun t ht2 _ => ⟨0, rfl, trivial, ht2⟩) (fun q h => by cases h) md_F_towardsZero_9
set_option maxHeartbeats 4000000 in
set_option maxRecDepth 100000 in
theorem mt_F_isWhole (l : Launch) (ad : Nat → Nat) (k : Nat) (hk : k < 2) (p0 : Int64) : Met l my_F_isWhole mw_F_isWhole ({ frames := 2, cells := 0, slots := 0, locals := 46 } : Room) (va_Pc [.ref (ad k), .long p0] (fun U => FW ad (fun _ => False) U U.heap)) (vp_Si (fun r => ∃ b : Bool, r = jb b)) 0 0 (fun _ => False) := by
  refine Met.ofW (cc := mc_F_isWhole) (maxL := 3) (ret := (some .boolean)) (by decide) rfl ?_
  intro p e s m args below meth c s₁ B hml hv
  obtain ⟨rfl, hE⟩ := hv
  have hx := B.exec
  have hb := B.bytes
  have hr := B.returns
  have hts := atoms_spec (ws := mw_F_isWhole) B.pre
  have ht : ∀ w ∈ gw_tbl, w.before _ s = true := fun w h => hts w (List.mem_cons_of_mem _ h)
  have hown : s.vm.findClass "NumberProbe$Format" = some m.cls := findClass_of_methodNamed B.named
  have hlocks := B.notSynchronized
  have hS : va_S (fun _ => False) s.heap s.heap [] := va_S.rf
  have hl := lv_entry ([.ref (ad k), .long p0]) (n := 3) (Nat.le_of_ble_eq_true rfl)
  rw [lg_entry_eq]
  generalize (lg_sl ([.ref (ad k), .long p0]) ++ List.replicate (3 - (lg_sl ([.ref (ad k), .long p0])).length) Slot.unset).toArray = ls at hl ⊢
  have hl : lv_has ls 3 [(0, .ref (ad k)), (1, .long p0)] := hl
  refine lv_aload_n hx hb md_F_isWhole_0 rfl (lv_at hl 0 rfl) ?_
  refine lv_lload_n hx hb md_F_isWhole_1 rfl (lv_at hl 1 rfl) ?_
  refine vp_callSi (W.runV (C := "NumberProbe$Format") (As := [.long p0]) (rest := []) ⟨hx, hb, hml, hown, hts⟩ (mt_F_exponentOf l ad k hk p0) (cwV 1 hts (gd_V tm_131 tm_133 tm_3 tm_27 tm_134) rfl rfl rfl (by decide +kernel) ⟨Nat.le_of_ble_eq_true rfl, Nat.le_of_ble_eq_true rfl⟩) ⟨fb_E, fw_recv hE hk hS, fun U hU hW => ⟨rfl, fw_use hE hS hU hW⟩⟩ rfl rfl hl.1 rfl (lv_room (Nat.le_of_ble_eq_true rfl)) md_F_isWhole_2 ⟨Nat.zero_le _, Nat.zero_le _⟩) (fun r_1 e_2 => ?_)
  obtain rfl : r_1 = cf_exp k p0 := e_2
  refine lv_aload_n hx hb md_F_isWhole_5 rfl (lv_at hl 0 rfl) ?_
  refine lv_lload_n hx hb md_F_isWhole_6 rfl (lv_at hl 1 rfl) ?_
  refine vp_callSl (W.runV (C := "NumberProbe$Format") (As := [.long p0]) (rest := [.int (cf_exp k p0)]) ⟨hx, hb, hml, hown, hts⟩ (mt_F_significandOf l ad k hk p0) (cwV 1 hts (gd_V tm_142 tm_144 tm_5 tm_27 tm_145) rfl rfl rfl (by decide +kernel) ⟨Nat.le_of_ble_eq_true rfl, Nat.le_of_ble_eq_true rfl⟩) ⟨fb_E, fw_recv hE hk hS, fun U hU hW => ⟨rfl, fw_use hE hS hU hW⟩⟩ rfl rfl hl.1 rfl (lv_room (Nat.le_of_ble_eq_true rfl)) md_F_isWhole_7 ⟨Nat.zero_le _, Nat.zero_le _⟩) (fun r_3 e_4 => ?_)
  obtain rfl : r_3 = cf_sig k p0 := e_4
  refine vp_callSi (W.runS (As := [.long (cf_sig k p0)]) (rest := [.int (cf_exp k p0)]) ⟨hx, hb, hml, hown, hts⟩ (mt_JL_numberOfTrailingZeros l (cf_sig k p0)) (va_cwS 1 hts (gd_S tm_292 tm_293 tm_29 tm_294) rfl rfl rfl (by decide +kernel) ⟨Nat.le_of_ble_eq_true rfl, Nat.le_of_ble_eq_true rfl⟩) ⟨fb_0, fun U hU hW => ⟨rfl, trivial⟩⟩ rfl rfl hl.1 rfl (lv_room (Nat.le_of_ble_eq_true rfl)) md_F_isWhole_10 ⟨Nat.zero_le _, Nat.zero_le _⟩) (fun r_5 e_6 => ?_)
  refine lv_iadd hx hb md_F_isWhole_13 ?_
  have J_8 : ∀ (z_9 : Bool) (ls : Array Slot), lv_has ls 3 [(0, .ref (ad k)), (1, .long p0)] → WP p l e mw_F_isWhole ({ frames := 2, cells := 0, slots := 0, locals := 46 } : Room) s m [.ref (ad k), .long p0] below meth c (vp_Si (fun r => ∃ b : Bool, r = jb b)) (F0 m 22 ls [.int (jb z_9)]) := by
    intro z_9 ls hl
    exact W.zret (v := jb z_9) (ty := .boolean) hx hb hr (by cases z_9 <;> rfl) (fun t ht2 _ => ⟨(jb z_9), rfl, ⟨z_9, rfl⟩, ht2⟩) (fun q h => by cases h) md_F_isWhole_22
  refine lv_if_lt (tgt := 21) hx hb md_F_isWhole_14 (by decide) (fun c_7 => ?_) (fun c_7 => ?_)
  · refine lv_iconst (v := 0) hx hb md_F_isWhole_21 (by decide) ?_
    exact J_8 false ls (lv_sub hl [0, 1] rfl)
  · refine lv_iconst (v := 1) hx hb md_F_isWhole_17 (by decide) ?_
    refine lv_goto (tgt := 22) hx hb md_F_isWhole_18 (by decide) ?_
    exact J_8 true ls (lv_sub hl [0, 1] rfl)
set_option maxHeartbeats 4000000 in
set_option maxRecDepth 100000 in
theorem mt_F_traits (l : Launch) (ad : Nat → Nat) (k : Nat) (hk : k < 2) (p0 : Int64) : Met l my_F_traits mw_F_traits ({ frames := 3, cells := 0, slots := 0, locals := 68 } : Room) (va_Pc [.ref (ad k), .long p0] (fun U => FW ad (fun _ => False) U U.heap)) (vp_Si (fun _ => True)) 0 0 (fun _ => False) := by
  refine Met.ofW (cc := mc_F_traits) (maxL := 4) (ret := (some .int)) (by decide) rfl ?_
  intro p e s m args below meth c s₁ B hml hv
  obtain ⟨rfl, hE⟩ := hv
  have hx := B.exec
  have hb := B.bytes
  have hr := B.returns
  have hts := atoms_spec (ws := mw_F_traits) B.pre
  have ht : ∀ w ∈ gw_tbl, w.before _ s = true := fun w h => hts w (List.mem_cons_of_mem _ h)
  have hown : s.vm.findClass "NumberProbe$Format" = some m.cls := findClass_of_methodNamed B.named
  have hlocks := B.notSynchronized
  have hS : va_S (fun _ => False) s.heap s.heap [] := va_S.rf
  have hl := lv_entry ([.ref (ad k), .long p0]) (n := 4) (Nat.le_of_ble_eq_true rfl)
  rw [lg_entry_eq]
  generalize (lg_sl ([.ref (ad k), .long p0]) ++ List.replicate (4 - (lg_sl ([.ref (ad k), .long p0])).length) Slot.unset).toArray = ls at hl ⊢
  have hl : lv_has ls 4 [(0, .ref (ad k)), (1, .long p0)] := hl
  refine lv_aload_n hx hb md_F_traits_0 rfl (lv_at hl 0 rfl) ?_
  refine lv_lload_n hx hb md_F_traits_1 rfl (lv_at hl 1 rfl) ?_
  refine vp_callSi (W.runV (C := "NumberProbe$Format") (As := [.long p0]) (rest := []) ⟨hx, hb, hml, hown, hts⟩ (mt_F_isNaN l ad k hk p0) (cwV 1 hts (gd_V tm_67 tm_68 tm_69 tm_27 tm_70) rfl rfl rfl (by decide +kernel) ⟨Nat.le_of_ble_eq_true rfl, Nat.le_of_ble_eq_true rfl⟩) ⟨fb_E, fw_recv hE hk hS, fun U hU hW => ⟨rfl, fw_use hE hS hU hW⟩⟩ rfl rfl hl.1 rfl (lv_room (Nat.le_of_ble_eq_true rfl)) md_F_traits_2 ⟨Nat.zero_le _, Nat.zero_le _⟩) (fun r_1 e_2 => ?_)
  obtain rfl : r_1 = jb (cf_nan k p0) := e_2
  refine lv_if_eq (tgt := 10) hx hb md_F_traits_5 (by decide) (fun c_3 => ?_) (fun c_3 => ?_)
  · refine lv_lload_n hx hb md_F_traits_10 rfl (lv_at hl 1 rfl) ?_
    refine lv_lconst (v := 0) hx hb md_F_traits_11 (by decide) ?_
    refine W.lcmp hx hb md_F_traits_12 ?_
    have J_5 : ∀ (z_6 : Int32) (ls : Array Slot), lv_has ls 4 [(0, .ref (ad k)), (1, .long p0)] → WP p l e mw_F_traits ({ frames := 3, cells := 0, slots := 0, locals := 68 } : Room) s m [.ref (ad k), .long p0] below meth c (vp_Si (fun _ => True)) (F0 m 22 ls [.int z_6]) := by
      intro z_6 ls hl
      refine lv_istore_n (lv' := [(3, .int z_6), (0, .ref (ad k)), (1, .long p0)]) hx hb md_F_traits_22 rfl hl (by decide) rfl (fun ls hl => ?_)
      refine lv_aload_n hx hb md_F_traits_23 rfl (lv_at hl 1 rfl) ?_
      refine lv_lload_n hx hb md_F_traits_24 rfl (lv_at hl 2 rfl) ?_
      refine vp_callSi (W.runV (C := "NumberProbe$Format") (As := [.long p0]) (rest := []) ⟨hx, hb, hml, hown, hts⟩ (mt_F_isInfinite l ad k hk p0) (cwV 1 hts (gd_V tm_123 tm_125 tm_1 tm_27 tm_126) rfl rfl rfl (by decide +kernel) ⟨Nat.le_of_ble_eq_true rfl, Nat.le_of_ble_eq_true rfl⟩) ⟨fb_E, fw_recv hE hk hS, fun U hU hW => ⟨rfl, fw_use hE hS hU hW⟩⟩ rfl rfl hl.1 rfl (lv_room (Nat.le_of_ble_eq_true rfl)) md_F_traits_25 ⟨Nat.zero_le _, Nat.zero_le _⟩) (fun r_7 e_8 => ?_)
      obtain rfl : r_7 = jb (cf_inf k p0) := e_8
      refine lv_if_eq (tgt := 35) hx hb md_F_traits_28 (by decide) (fun c_9 => ?_) (fun c_9 => ?_)
      · refine lv_aload_n hx hb md_F_traits_35 rfl (lv_at hl 1 rfl) ?_
        refine lv_lload_n hx hb md_F_traits_36 rfl (lv_at hl 2 rfl) ?_
        refine vp_callSi (W.runV (C := "NumberProbe$Format") (As := [.long p0]) (rest := []) ⟨hx, hb, hml, hown, hts⟩ (mt_F_isZero l ad k hk p0) (cwV 1 hts (gd_V tm_174 tm_176 tm_7 tm_27 tm_177) rfl rfl rfl (by decide +kernel) ⟨Nat.le_of_ble_eq_true rfl, Nat.le_of_ble_eq_true rfl⟩) ⟨fb_E, fw_recv hE hk hS, fun U hU hW => ⟨rfl, fw_use hE hS hU hW⟩⟩ rfl rfl hl.1 rfl (lv_room (Nat.le_of_ble_eq_true rfl)) md_F_traits_37 ⟨Nat.zero_le _, Nat.zero_le _⟩) (fun r_10 e_11 => ?_)
        obtain rfl : r_10 = jb (cf_zer k p0) := e_11
        refine lv_if_eq (tgt := 53) hx hb md_F_traits_40 (by decide) (fun c_12 => ?_) (fun c_12 => ?_)
        · refine lv_iload_n hx hb md_F_traits_53 rfl (lv_at hl 0 rfl) ?_
          refine lv_iconst (v := 4) hx hb md_F_traits_54 (by decide) ?_
          refine lv_ior hx hb md_F_traits_55 ?_
          refine lv_aload_n hx hb md_F_traits_56 rfl (lv_at hl 1 rfl) ?_
          refine lv_lload_n hx hb md_F_traits_57 rfl (lv_at hl 2 rfl) ?_
          refine vp_callSi (W.runV (C := "NumberProbe$Format") (As := [.long p0]) (rest := [.int (z_6 ||| 4)]) ⟨hx, hb, hml, hown, hts⟩ (mt_F_exponentField l ad k hk p0) (cwV 1 hts (gd_V tm_135 tm_137 tm_4 tm_27 tm_138) rfl rfl rfl (by decide +kernel) ⟨Nat.le_of_ble_eq_true rfl, Nat.le_of_ble_eq_true rfl⟩) ⟨fb_E, fw_recv hE hk hS, fun U hU hW => ⟨rfl, fw_use hE hS hU hW⟩⟩ rfl rfl hl.1 rfl (lv_room (Nat.le_of_ble_eq_true rfl)) md_F_traits_58 ⟨Nat.zero_le _, Nat.zero_le _⟩) (fun r_13 e_14 => ?_)
          obtain rfl : r_13 = cf_fld k p0 := e_14
          have J_16 : ∀ (z_17 : Int32) (ls : Array Slot), lv_has ls 4 [(3, .int z_6), (0, .ref (ad k)), (1, .long p0)] → WP p l e mw_F_traits ({ frames := 3, cells := 0, slots := 0, locals := 68 } : Room) s m [.ref (ad k), .long p0] below meth c (vp_Si (fun _ => True)) (F0 m 70 ls [.int z_17, .int (z_6 ||| 4)]) := by
            intro z_17 ls hl
            refine lv_ior hx hb md_F_traits_70 ?_
            refine lv_aload_n hx hb md_F_traits_71 rfl (lv_at hl 1 rfl) ?_
            refine lv_lload_n hx hb md_F_traits_72 rfl (lv_at hl 2 rfl) ?_
            refine vp_callSi (W.runV (C := "NumberProbe$Format") (As := [.long p0]) (rest := [.int ((z_6 ||| 4) ||| z_17)]) ⟨hx, hb, hml, hown, hts⟩ (mt_F_isWhole l ad k hk p0) (cwV 1 hts (gd_V tm_288 tm_290 tm_10 tm_27 tm_291) rfl rfl rfl (by decide +kernel) ⟨Nat.le_of_ble_eq_true rfl, Nat.le_of_ble_eq_true rfl⟩) ⟨fb_E, fw_recv hE hk hS, fun U hU hW => ⟨rfl, fw_use hE hS hU hW⟩⟩ rfl rfl hl.1 rfl (lv_room (Nat.le_of_ble_eq_true rfl)) md_F_traits_73 ⟨Nat.zero_le _, Nat.zero_le _⟩) (fun r_18 e_19 => ?_)
            obtain ⟨b_20, rfl⟩ : ∃ b : Bool, r_18 = jb b := e_19
            have J_22 : ∀ (z_23 : Int32) (ls : Array Slot), lv_has ls 4 [(3, .int z_6), (0, .ref (ad k)), (1, .long p0)] → WP p l e mw_F_traits ({ frames := 3, cells := 0, slots := 0, locals := 68 } : Room) s m [.ref (ad k), .long p0] below meth c (vp_Si (fun _ => True)) (F0 m 85 ls [.int z_23, .int ((z_6 ||| 4) ||| z_17)]) := by
              intro z_23 ls hl
              refine lv_ior hx hb md_F_traits_85 ?_
              refine lv_lload_n hx hb md_F_traits_86 rfl (lv_at hl 2 rfl) ?_
              refine lv_lconst (v := 0) hx hb md_F_traits_87 (by decide) ?_
              refine W.lcmp hx hb md_F_traits_88 ?_
              have J_32 : ∀ (z_33 : Int32) (ls : Array Slot), lv_has ls 4 [(3, .int z_6), (0, .ref (ad k)), (1, .long p0)] → WP p l e mw_F_traits ({ frames := 3, cells := 0, slots := 0, locals := 68 } : Room) s m [.ref (ad k), .long p0] below meth c (vp_Si (fun _ => True)) (F0 m 111 ls [.int z_33, .int (((z_6 ||| 4) ||| z_17) ||| z_23)]) := by
                intro z_33 ls hl
                refine lv_ior hx hb md_F_traits_111 ?_
                exact W.iret (v := (((z_6 ||| 4) ||| z_17) ||| z_23) ||| z_33) hx hb hr (fun t ht2 _ => ⟨((((z_6 ||| 4) ||| z_17) ||| z_23) ||| z_33), rfl, trivial, ht2⟩) (fun q h => by cases h) md_F_traits_112
              refine lv_if_le (tgt := 110) hx hb md_F_traits_89 (by decide) (fun c_24 => ?_) (fun c_24 => ?_)
              · refine lv_iconst (v := 0) hx hb md_F_traits_110 (by decide) ?_
                exact J_32 0 ls (lv_sub hl [0, 1, 2] rfl)
              · refine lv_aload_n hx hb md_F_traits_92 rfl (lv_at hl 1 rfl) ?_
                refine lv_lload_n hx hb md_F_traits_93 rfl (lv_at hl 2 rfl) ?_
                refine vp_callSl (W.runV (C := "NumberProbe$Format") (As := [.long p0]) (rest := [.int (((z_6 ||| 4) ||| z_17) ||| z_23)]) ⟨hx, hb, hml, hown, hts⟩ (mt_F_significandOf l ad k hk p0) (cwV 1 hts (gd_V tm_142 tm_144 tm_5 tm_27 tm_145) rfl rfl rfl (by decide +kernel) ⟨Nat.le_of_ble_eq_true rfl, Nat.le_of_ble_eq_true rfl⟩) ⟨fb_E, fw_recv hE hk hS, fun U hU hW => ⟨rfl, fw_use hE hS hU hW⟩⟩ rfl rfl hl.1 rfl (lv_room (Nat.le_of_ble_eq_true rfl)) md_F_traits_94 ⟨Nat.zero_le _, Nat.zero_le _⟩) (fun r_34 e_35 => ?_)
                obtain rfl : r_34 = cf_sig k p0 := e_35
                refine vp_callSi (W.runS (As := [.long (cf_sig k p0)]) (rest := [.int (((z_6 ||| 4) ||| z_17) ||| z_23)]) ⟨hx, hb, hml, hown, hts⟩ (mt_JL_bitCount l (cf_sig k p0)) (va_cwS 1 hts (gd_S tm_298 tm_299 tm_29 tm_300) rfl rfl rfl (by decide +kernel) ⟨Nat.le_of_ble_eq_true rfl, Nat.le_of_ble_eq_true rfl⟩) ⟨fb_0, fun U hU hW => ⟨rfl, trivial⟩⟩ rfl rfl hl.1 rfl (lv_room (Nat.le_of_ble_eq_true rfl)) md_F_traits_97 ⟨Nat.zero_le _, Nat.zero_le _⟩) (fun r_36 e_37 => ?_)
                refine lv_iconst (v := 1) hx hb md_F_traits_100 (by decide) ?_
                have J_39 : ∀ (z_40 : Int32) (ls : Array Slot), lv_has ls 4 [(3, .int z_6), (0, .ref (ad k)), (1, .long p0)] → WP p l e mw_F_traits ({ frames := 3, cells := 0, slots := 0, locals := 68 } : Room) s m [.ref (ad k), .long p0] below meth c (vp_Si (fun _ => True)) (F0 m 111 ls [.int z_40, .int (((z_6 ||| 4) ||| z_17) ||| z_23)]) := by
                  intro z_40 ls hl
                  exact J_32 z_40 ls (lv_sub hl [0, 1, 2] rfl)
                refine lv_icmp_ne (tgt := 110) hx hb md_F_traits_101 (by decide) (fun c_38 => ?_) (fun c_38 => ?_)
                · refine lv_iconst (v := 0) hx hb md_F_traits_110 (by decide) ?_
                  exact J_39 0 ls (lv_sub hl [0, 1, 2] rfl)
                · refine lv_sipush (v := 128) hx hb md_F_traits_104 (by decide) ?_
                  refine lv_goto (tgt := 111) hx hb md_F_traits_107 (by decide) ?_
                  exact J_39 128 ls (lv_sub hl [0, 1, 2] rfl)
            refine lv_if_eq (tgt := 84) hx hb md_F_traits_76 (by decide) (fun c_21 => ?_) (fun c_21 => ?_)
            · refine lv_iconst (v := 0) hx hb md_F_traits_84 (by decide) ?_
              exact J_22 0 ls (lv_sub hl [0, 1, 2] rfl)
            · refine lv_bipush (v := 64) hx hb md_F_traits_79 (by decide) ?_
              refine lv_goto (tgt := 85) hx hb md_F_traits_81 (by decide) ?_
              exact J_22 64 ls (lv_sub hl [0, 1, 2] rfl)
          refine lv_if_ne (tgt := 69) hx hb md_F_traits_61 (by decide) (fun c_15 => ?_) (fun c_15 => ?_)
          · refine lv_iconst (v := 0) hx hb md_F_traits_69 (by decide) ?_
            exact J_16 0 ls (lv_sub hl [0, 1, 2] rfl)
          · refine lv_bipush (v := 16) hx hb md_F_traits_64 (by decide) ?_
            refine lv_goto (tgt := 70) hx hb md_F_traits_66 (by decide) ?_
            exact J_16 16 ls (lv_sub hl [0, 1, 2] rfl)
        · refine lv_iload_n hx hb md_F_traits_43 rfl (lv_at hl 0 rfl) ?_
          refine lv_iconst (v := 4) hx hb md_F_traits_44 (by decide) ?_
          refine lv_ior hx hb md_F_traits_45 ?_
          refine lv_bipush (v := 8) hx hb md_F_traits_46 (by decide) ?_
          refine lv_ior hx hb md_F_traits_48 ?_
          refine lv_bipush (v := 64) hx hb md_F_traits_49 (by decide) ?_
          refine lv_ior hx hb md_F_traits_51 ?_
          exact W.iret (v := ((z_6 ||| 4) ||| 8) ||| 64) hx hb hr (fun t ht2 _ => ⟨(((z_6 ||| 4) ||| 8) ||| 64), rfl, trivial, ht2⟩) (fun q h => by cases h) md_F_traits_52
      · refine lv_iload_n hx hb md_F_traits_31 rfl (lv_at hl 0 rfl) ?_
        refine lv_iconst (v := 2) hx hb md_F_traits_32 (by decide) ?_
        refine lv_ior hx hb md_F_traits_33 ?_
        exact W.iret (v := z_6 ||| 2) hx hb hr (fun t ht2 _ => ⟨(z_6 ||| 2), rfl, trivial, ht2⟩) (fun q h => by cases h) md_F_traits_34
    refine lv_if_ge (tgt := 21) hx hb md_F_traits_13 (by decide) (fun c_4 => ?_) (fun c_4 => ?_)
    · refine lv_iconst (v := 0) hx hb md_F_traits_21 (by decide) ?_
      exact J_5 0 ls (lv_sub hl [0, 1] rfl)
    · refine lv_bipush (v := 32) hx hb md_F_traits_16 (by decide) ?_
      refine lv_goto (tgt := 22) hx hb md_F_traits_18 (by decide) ?_
      exact J_5 32 ls (lv_sub hl [0, 1] rfl)
  · refine lv_iconst (v := 1) hx hb md_F_traits_8 (by decide) ?_
    exact W.iret (v := 1) hx hb hr (fun t ht2 _ => ⟨1, rfl, trivial, ht2⟩) (fun q h => by cases h) md_F_traits_9
