set_option maxHeartbeats 4000000 in
set_option maxRecDepth 100000 in
theorem mt_JI_numberOfLeadingZeros (l : Launch) (p0 : Int32) : Met l my_JI_numberOfLeadingZeros mw_JI_numberOfLeadingZeros ({ frames := 0, cells := 0, slots := 0, locals := 0 } : Room) (va_Pc [.int p0] (fun _ => True)) (vp_Si (fun r => r = jd_inlz p0)) 0 0 (fun _ => False) := by
  refine Met.ofW (cc := mc_JI_numberOfLeadingZeros) (maxL := 2) (ret := (some .int)) (by decide) rfl ?_
  intro p e s m args below meth c s₁ B hml hv
  obtain ⟨rfl, -⟩ := hv
  have hx := B.exec
  have hb := B.bytes
  have hr := B.returns
  have hts := atoms_spec (ws := mw_JI_numberOfLeadingZeros) B.pre
  have ht : ∀ w ∈ gw_tbl, w.before _ s = true := fun w h => hts w (List.mem_cons_of_mem _ h)
  have hown : s.vm.findClass "java/lang/Integer" = some m.cls := findClass_of_methodNamed B.named
  have hlocks := B.notSynchronized
  have hl := lv_entry ([.int p0]) (n := 2) (Nat.le_of_ble_eq_true rfl)
  rw [lg_entry_eq]
  generalize (lg_sl ([.int p0]) ++ List.replicate (2 - (lg_sl ([.int p0])).length) Slot.unset).toArray = ls at hl ⊢
  have hl : lv_has ls 2 [(0, .int p0)] := hl
  refine lv_iload_n hx hb md_JI_numberOfLeadingZeros_0 rfl (lv_at hl 0 rfl) ?_
  refine lv_if_gt (tgt := 15) hx hb md_JI_numberOfLeadingZeros_1 (by decide) (fun c_1 => ?_) (fun c_1 => ?_)
  · refine lv_bipush (v := 31) hx hb md_JI_numberOfLeadingZeros_15 (by decide) ?_
    refine lv_istore_n (lv' := [(1, .int 31), (0, .int p0)]) hx hb md_JI_numberOfLeadingZeros_17 rfl hl (by decide) rfl (fun ls hl => ?_)
    refine lv_iload_n hx hb md_JI_numberOfLeadingZeros_18 rfl (lv_at hl 1 rfl) ?_
    refine lv_ldcw (v := 65536) hx hb hown (ht _ tm_162) md_JI_numberOfLeadingZeros_19 ?_
    refine lv_icmp_lt (tgt := 33) hx hb md_JI_numberOfLeadingZeros_22 (by decide) (fun c_2 => ?_) (fun c_2 => ?_)
    · refine lv_iload_n hx hb md_JI_numberOfLeadingZeros_33 rfl (lv_at hl 1 rfl) ?_
      refine lv_sipush (v := 256) hx hb md_JI_numberOfLeadingZeros_34 (by decide) ?_
      refine lv_icmp_lt (tgt := 48) hx hb md_JI_numberOfLeadingZeros_37 (by decide) (fun c_3 => ?_) (fun c_3 => ?_)
      · refine lv_iload_n hx hb md_JI_numberOfLeadingZeros_48 rfl (lv_at hl 1 rfl) ?_
        refine lv_bipush (v := 16) hx hb md_JI_numberOfLeadingZeros_49 (by decide) ?_
        refine lv_icmp_lt (tgt := 61) hx hb md_JI_numberOfLeadingZeros_51 (by decide) (fun c_4 => ?_) (fun c_4 => ?_)
        · refine lv_iload_n hx hb md_JI_numberOfLeadingZeros_61 rfl (lv_at hl 1 rfl) ?_
          refine lv_iconst (v := 4) hx hb md_JI_numberOfLeadingZeros_62 (by decide) ?_
          refine lv_icmp_lt (tgt := 73) hx hb md_JI_numberOfLeadingZeros_63 (by decide) (fun c_5 => ?_) (fun c_5 => ?_)
          · refine lv_iload_n hx hb md_JI_numberOfLeadingZeros_73 rfl (lv_at hl 0 rfl) ?_
            refine lv_iload_n hx hb md_JI_numberOfLeadingZeros_74 rfl (lv_at hl 1 rfl) ?_
            refine lv_iconst (v := 1) hx hb md_JI_numberOfLeadingZeros_75 (by decide) ?_
            refine lv_iushr (v := ji_ush p0 1) hx hb md_JI_numberOfLeadingZeros_76 rfl ?_
            refine lv_isub hx hb md_JI_numberOfLeadingZeros_77 ?_
            have hq : 31 - (ji_ush p0 1) = jd_inlz p0 := by simp [jd_inlz, jd_inlz1, jd_inlz2, jd_inlz3, jd_inlz4, c_1, c_2, c_3, c_4, c_5]
            exact W.iret (v := 31 - (ji_ush p0 1)) hx hb hr (fun t ht2 _ => ⟨(31 - (ji_ush p0 1)), rfl, hq, ht2⟩) (fun q h => by cases h) md_JI_numberOfLeadingZeros_78
          · refine lv_iinc (v := 31 + (-2)) (lv' := [(1, .int (31 + (-2))), (0, .int p0)]) hx hb md_JI_numberOfLeadingZeros_66 hl (k := 0) rfl rfl (by decide) rfl (fun ls hl => ?_)
            refine lv_iload_n hx hb md_JI_numberOfLeadingZeros_69 rfl (lv_at hl 1 rfl) ?_
            refine lv_iconst (v := 2) hx hb md_JI_numberOfLeadingZeros_70 (by decide) ?_
            refine lv_iushr (v := ji_ush p0 2) hx hb md_JI_numberOfLeadingZeros_71 rfl ?_
            refine lv_istore_n (lv' := [(0, .int (ji_ush p0 2)), (1, .int (31 + (-2)))]) hx hb md_JI_numberOfLeadingZeros_72 rfl hl (by decide) rfl (fun ls hl => ?_)
            refine lv_iload_n hx hb md_JI_numberOfLeadingZeros_73 rfl (lv_at hl 1 rfl) ?_
            refine lv_iload_n hx hb md_JI_numberOfLeadingZeros_74 rfl (lv_at hl 0 rfl) ?_
            refine lv_iconst (v := 1) hx hb md_JI_numberOfLeadingZeros_75 (by decide) ?_
            refine lv_iushr (v := ji_ush (ji_ush p0 2) 1) hx hb md_JI_numberOfLeadingZeros_76 rfl ?_
            refine lv_isub hx hb md_JI_numberOfLeadingZeros_77 ?_
            have hq : (31 + (-2)) - (ji_ush (ji_ush p0 2) 1) = jd_inlz p0 := by simp [jd_inlz, jd_inlz1, jd_inlz2, jd_inlz3, jd_inlz4, c_1, c_2, c_3, c_4, c_5]
            exact W.iret (v := (31 + (-2)) - (ji_ush (ji_ush p0 2) 1)) hx hb hr (fun t ht2 _ => ⟨((31 + (-2)) - (ji_ush (ji_ush p0 2) 1)), rfl, hq, ht2⟩) (fun q h => by cases h) md_JI_numberOfLeadingZeros_78
        · refine lv_iinc (v := 31 + (-4)) (lv' := [(1, .int (31 + (-4))), (0, .int p0)]) hx hb md_JI_numberOfLeadingZeros_54 hl (k := 0) rfl rfl (by decide) rfl (fun ls hl => ?_)
          refine lv_iload_n hx hb md_JI_numberOfLeadingZeros_57 rfl (lv_at hl 1 rfl) ?_
          refine lv_iconst (v := 4) hx hb md_JI_numberOfLeadingZeros_58 (by decide) ?_
          refine lv_iushr (v := ji_ush p0 4) hx hb md_JI_numberOfLeadingZeros_59 rfl ?_
          refine lv_istore_n (lv' := [(0, .int (ji_ush p0 4)), (1, .int (31 + (-4)))]) hx hb md_JI_numberOfLeadingZeros_60 rfl hl (by decide) rfl (fun ls hl => ?_)
          refine lv_iload_n hx hb md_JI_numberOfLeadingZeros_61 rfl (lv_at hl 0 rfl) ?_
          refine lv_iconst (v := 4) hx hb md_JI_numberOfLeadingZeros_62 (by decide) ?_
          refine lv_icmp_lt (tgt := 73) hx hb md_JI_numberOfLeadingZeros_63 (by decide) (fun c_6 => ?_) (fun c_6 => ?_)
          · refine lv_iload_n hx hb md_JI_numberOfLeadingZeros_73 rfl (lv_at hl 1 rfl) ?_
            refine lv_iload_n hx hb md_JI_numberOfLeadingZeros_74 rfl (lv_at hl 0 rfl) ?_
            refine lv_iconst (v := 1) hx hb md_JI_numberOfLeadingZeros_75 (by decide) ?_
            refine lv_iushr (v := ji_ush (ji_ush p0 4) 1) hx hb md_JI_numberOfLeadingZeros_76 rfl ?_
            refine lv_isub hx hb md_JI_numberOfLeadingZeros_77 ?_
            have hq : (31 + (-4)) - (ji_ush (ji_ush p0 4) 1) = jd_inlz p0 := by simp [jd_inlz, jd_inlz1, jd_inlz2, jd_inlz3, jd_inlz4, c_1, c_2, c_3, c_4, c_6]
            exact W.iret (v := (31 + (-4)) - (ji_ush (ji_ush p0 4) 1)) hx hb hr (fun t ht2 _ => ⟨((31 + (-4)) - (ji_ush (ji_ush p0 4) 1)), rfl, hq, ht2⟩) (fun q h => by cases h) md_JI_numberOfLeadingZeros_78
          · refine lv_iinc (v := (31 + (-4)) + (-2)) (lv' := [(1, .int ((31 + (-4)) + (-2))), (0, .int (ji_ush p0 4))]) hx hb md_JI_numberOfLeadingZeros_66 hl (k := 1) rfl rfl (by decide) rfl (fun ls hl => ?_)
            refine lv_iload_n hx hb md_JI_numberOfLeadingZeros_69 rfl (lv_at hl 1 rfl) ?_
            refine lv_iconst (v := 2) hx hb md_JI_numberOfLeadingZeros_70 (by decide) ?_
            refine lv_iushr (v := ji_ush (ji_ush p0 4) 2) hx hb md_JI_numberOfLeadingZeros_71 rfl ?_
            refine lv_istore_n (lv' := [(0, .int (ji_ush (ji_ush p0 4) 2)), (1, .int ((31 + (-4)) + (-2)))]) hx hb md_JI_numberOfLeadingZeros_72 rfl hl (by decide) rfl (fun ls hl => ?_)
            refine lv_iload_n hx hb md_JI_numberOfLeadingZeros_73 rfl (lv_at hl 1 rfl) ?_
            refine lv_iload_n hx hb md_JI_numberOfLeadingZeros_74 rfl (lv_at hl 0 rfl) ?_
            refine lv_iconst (v := 1) hx hb md_JI_numberOfLeadingZeros_75 (by decide) ?_
            refine lv_iushr (v := ji_ush (ji_ush (ji_ush p0 4) 2) 1) hx hb md_JI_numberOfLeadingZeros_76 rfl ?_
            refine lv_isub hx hb md_JI_numberOfLeadingZeros_77 ?_
            have hq : ((31 + (-4)) + (-2)) - (ji_ush (ji_ush (ji_ush p0 4) 2) 1) = jd_inlz p0 := by simp [jd_inlz, jd_inlz1, jd_inlz2, jd_inlz3, jd_inlz4, c_1, c_2, c_3, c_4, c_6]
            exact W.iret (v := ((31 + (-4)) + (-2)) - (ji_ush (ji_ush (ji_ush p0 4) 2) 1)) hx hb hr (fun t ht2 _ => ⟨(((31 + (-4)) + (-2)) - (ji_ush (ji_ush (ji_ush p0 4) 2) 1)), rfl, hq, ht2⟩) (fun q h => by cases h) md_JI_numberOfLeadingZeros_78
      · refine lv_iinc (v := 31 + (-8)) (lv' := [(1, .int (31 + (-8))), (0, .int p0)]) hx hb md_JI_numberOfLeadingZeros_40 hl (k := 0) rfl rfl (by decide) rfl (fun ls hl => ?_)
        refine lv_iload_n hx hb md_JI_numberOfLeadingZeros_43 rfl (lv_at hl 1 rfl) ?_
        refine lv_bipush (v := 8) hx hb md_JI_numberOfLeadingZeros_44 (by decide) ?_
        refine lv_iushr (v := ji_ush p0 8) hx hb md_JI_numberOfLeadingZeros_46 rfl ?_
        refine lv_istore_n (lv' := [(0, .int (ji_ush p0 8)), (1, .int (31 + (-8)))]) hx hb md_JI_numberOfLeadingZeros_47 rfl hl (by decide) rfl (fun ls hl => ?_)
        refine lv_iload_n hx hb md_JI_numberOfLeadingZeros_48 rfl (lv_at hl 0 rfl) ?_
        refine lv_bipush (v := 16) hx hb md_JI_numberOfLeadingZeros_49 (by decide) ?_
        refine lv_icmp_lt (tgt := 61) hx hb md_JI_numberOfLeadingZeros_51 (by decide) (fun c_7 => ?_) (fun c_7 => ?_)
        · refine lv_iload_n hx hb md_JI_numberOfLeadingZeros_61 rfl (lv_at hl 0 rfl) ?_
          refine lv_iconst (v := 4) hx hb md_JI_numberOfLeadingZeros_62 (by decide) ?_
          refine lv_icmp_lt (tgt := 73) hx hb md_JI_numberOfLeadingZeros_63 (by decide) (fun c_8 => ?_) (fun c_8 => ?_)
          · refine lv_iload_n hx hb md_JI_numberOfLeadingZeros_73 rfl (lv_at hl 1 rfl) ?_
            refine lv_iload_n hx hb md_JI_numberOfLeadingZeros_74 rfl (lv_at hl 0 rfl) ?_
            refine lv_iconst (v := 1) hx hb md_JI_numberOfLeadingZeros_75 (by decide) ?_
            refine lv_iushr (v := ji_ush (ji_ush p0 8) 1) hx hb md_JI_numberOfLeadingZeros_76 rfl ?_
            refine lv_isub hx hb md_JI_numberOfLeadingZeros_77 ?_
            have hq : (31 + (-8)) - (ji_ush (ji_ush p0 8) 1) = jd_inlz p0 := by simp [jd_inlz, jd_inlz1, jd_inlz2, jd_inlz3, jd_inlz4, c_1, c_2, c_3, c_7, c_8]
            exact W.iret (v := (31 + (-8)) - (ji_ush (ji_ush p0 8) 1)) hx hb hr (fun t ht2 _ => ⟨((31 + (-8)) - (ji_ush (ji_ush p0 8) 1)), rfl, hq, ht2⟩) (fun q h => by cases h) md_JI_numberOfLeadingZeros_78
          · refine lv_iinc (v := (31 + (-8)) + (-2)) (lv' := [(1, .int ((31 + (-8)) + (-2))), (0, .int (ji_ush p0 8))]) hx hb md_JI_numberOfLeadingZeros_66 hl (k := 1) rfl rfl (by decide) rfl (fun ls hl => ?_)
            refine lv_iload_n hx hb md_JI_numberOfLeadingZeros_69 rfl (lv_at hl 1 rfl) ?_
            refine lv_iconst (v := 2) hx hb md_JI_numberOfLeadingZeros_70 (by decide) ?_
            refine lv_iushr (v := ji_ush (ji_ush p0 8) 2) hx hb md_JI_numberOfLeadingZeros_71 rfl ?_
            refine lv_istore_n (lv' := [(0, .int (ji_ush (ji_ush p0 8) 2)), (1, .int ((31 + (-8)) + (-2)))]) hx hb md_JI_numberOfLeadingZeros_72 rfl hl (by decide) rfl (fun ls hl => ?_)
            refine lv_iload_n hx hb md_JI_numberOfLeadingZeros_73 rfl (lv_at hl 1 rfl) ?_
            refine lv_iload_n hx hb md_JI_numberOfLeadingZeros_74 rfl (lv_at hl 0 rfl) ?_
            refine lv_iconst (v := 1) hx hb md_JI_numberOfLeadingZeros_75 (by decide) ?_
            refine lv_iushr (v := ji_ush (ji_ush (ji_ush p0 8) 2) 1) hx hb md_JI_numberOfLeadingZeros_76 rfl ?_
            refine lv_isub hx hb md_JI_numberOfLeadingZeros_77 ?_
            have hq : ((31 + (-8)) + (-2)) - (ji_ush (ji_ush (ji_ush p0 8) 2) 1) = jd_inlz p0 := by simp [jd_inlz, jd_inlz1, jd_inlz2, jd_inlz3, jd_inlz4, c_1, c_2, c_3, c_7, c_8]
            exact W.iret (v := ((31 + (-8)) + (-2)) - (ji_ush (ji_ush (ji_ush p0 8) 2) 1)) hx hb hr (fun t ht2 _ => ⟨(((31 + (-8)) + (-2)) - (ji_ush (ji_ush (ji_ush p0 8) 2) 1)), rfl, hq, ht2⟩) (fun q h => by cases h) md_JI_numberOfLeadingZeros_78
        · refine lv_iinc (v := (31 + (-8)) + (-4)) (lv' := [(1, .int ((31 + (-8)) + (-4))), (0, .int (ji_ush p0 8))]) hx hb md_JI_numberOfLeadingZeros_54 hl (k := 1) rfl rfl (by decide) rfl (fun ls hl => ?_)
          refine lv_iload_n hx hb md_JI_numberOfLeadingZeros_57 rfl (lv_at hl 1 rfl) ?_
          refine lv_iconst (v := 4) hx hb md_JI_numberOfLeadingZeros_58 (by decide) ?_
          refine lv_iushr (v := ji_ush (ji_ush p0 8) 4) hx hb md_JI_numberOfLeadingZeros_59 rfl ?_
          refine lv_istore_n (lv' := [(0, .int (ji_ush (ji_ush p0 8) 4)), (1, .int ((31 + (-8)) + (-4)))]) hx hb md_JI_numberOfLeadingZeros_60 rfl hl (by decide) rfl (fun ls hl => ?_)
          refine lv_iload_n hx hb md_JI_numberOfLeadingZeros_61 rfl (lv_at hl 0 rfl) ?_
          refine lv_iconst (v := 4) hx hb md_JI_numberOfLeadingZeros_62 (by decide) ?_
          refine lv_icmp_lt (tgt := 73) hx hb md_JI_numberOfLeadingZeros_63 (by decide) (fun c_9 => ?_) (fun c_9 => ?_)
          · refine lv_iload_n hx hb md_JI_numberOfLeadingZeros_73 rfl (lv_at hl 1 rfl) ?_
            refine lv_iload_n hx hb md_JI_numberOfLeadingZeros_74 rfl (lv_at hl 0 rfl) ?_
            refine lv_iconst (v := 1) hx hb md_JI_numberOfLeadingZeros_75 (by decide) ?_
            refine lv_iushr (v := ji_ush (ji_ush (ji_ush p0 8) 4) 1) hx hb md_JI_numberOfLeadingZeros_76 rfl ?_
            refine lv_isub hx hb md_JI_numberOfLeadingZeros_77 ?_
            have hq : ((31 + (-8)) + (-4)) - (ji_ush (ji_ush (ji_ush p0 8) 4) 1) = jd_inlz p0 := by simp [jd_inlz, jd_inlz1, jd_inlz2, jd_inlz3, jd_inlz4, c_1, c_2, c_3, c_7, c_9]
            exact W.iret (v := ((31 + (-8)) + (-4)) - (ji_ush (ji_ush (ji_ush p0 8) 4) 1)) hx hb hr (fun t ht2 _ => ⟨(((31 + (-8)) + (-4)) - (ji_ush (ji_ush (ji_ush p0 8) 4) 1)), rfl, hq, ht2⟩) (fun q h => by cases h) md_JI_numberOfLeadingZeros_78
          · refine lv_iinc (v := ((31 + (-8)) + (-4)) + (-2)) (lv' := [(1, .int (((31 + (-8)) + (-4)) + (-2))), (0, .int (ji_ush (ji_ush p0 8) 4))]) hx hb md_JI_numberOfLeadingZeros_66 hl (k := 1) rfl rfl (by decide) rfl (fun ls hl => ?_)
            refine lv_iload_n hx hb md_JI_numberOfLeadingZeros_69 rfl (lv_at hl 1 rfl) ?_
            refine lv_iconst (v := 2) hx hb md_JI_numberOfLeadingZeros_70 (by decide) ?_
            refine lv_iushr (v := ji_ush (ji_ush (ji_ush p0 8) 4) 2) hx hb md_JI_numberOfLeadingZeros_71 rfl ?_
            refine lv_istore_n (lv' := [(0, .int (ji_ush (ji_ush (ji_ush p0 8) 4) 2)), (1, .int (((31 + (-8)) + (-4)) + (-2)))]) hx hb md_JI_numberOfLeadingZeros_72 rfl hl (by decide) rfl (fun ls hl => ?_)
            refine lv_iload_n hx hb md_JI_numberOfLeadingZeros_73 rfl (lv_at hl 1 rfl) ?_
            refine lv_iload_n hx hb md_JI_numberOfLeadingZeros_74 rfl (lv_at hl 0 rfl) ?_
            refine lv_iconst (v := 1) hx hb md_JI_numberOfLeadingZeros_75 (by decide) ?_
            refine lv_iushr (v := ji_ush (ji_ush (ji_ush (ji_ush p0 8) 4) 2) 1) hx hb md_JI_numberOfLeadingZeros_76 rfl ?_
            refine lv_isub hx hb md_JI_numberOfLeadingZeros_77 ?_
            have hq : (((31 + (-8)) + (-4)) + (-2)) - (ji_ush (ji_ush (ji_ush (ji_ush p0 8) 4) 2) 1) = jd_inlz p0 := by simp [jd_inlz, jd_inlz1, jd_inlz2, jd_inlz3, jd_inlz4, c_1, c_2, c_3, c_7, c_9]
            exact W.iret (v := (((31 + (-8)) + (-4)) + (-2)) - (ji_ush (ji_ush (ji_ush (ji_ush p0 8) 4) 2) 1)) hx hb hr (fun t ht2 _ => ⟨((((31 + (-8)) + (-4)) + (-2)) - (ji_ush (ji_ush (ji_ush (ji_ush p0 8) 4) 2) 1)), rfl, hq, ht2⟩) (fun q h => by cases h) md_JI_numberOfLeadingZeros_78
    · refine lv_iinc (v := 31 + (-16)) (lv' := [(1, .int (31 + (-16))), (0, .int p0)]) hx hb md_JI_numberOfLeadingZeros_25 hl (k := 0) rfl rfl (by decide) rfl (fun ls hl => ?_)
      refine lv_iload_n hx hb md_JI_numberOfLeadingZeros_28 rfl (lv_at hl 1 rfl) ?_
      refine lv_bipush (v := 16) hx hb md_JI_numberOfLeadingZeros_29 (by decide) ?_
      refine lv_iushr (v := ji_ush p0 16) hx hb md_JI_numberOfLeadingZeros_31 rfl ?_
      refine lv_istore_n (lv' := [(0, .int (ji_ush p0 16)), (1, .int (31 + (-16)))]) hx hb md_JI_numberOfLeadingZeros_32 rfl hl (by decide) rfl (fun ls hl => ?_)
      refine lv_iload_n hx hb md_JI_numberOfLeadingZeros_33 rfl (lv_at hl 0 rfl) ?_
      refine lv_sipush (v := 256) hx hb md_JI_numberOfLeadingZeros_34 (by decide) ?_
      refine lv_icmp_lt (tgt := 48) hx hb md_JI_numberOfLeadingZeros_37 (by decide) (fun c_10 => ?_) (fun c_10 => ?_)
      · refine lv_iload_n hx hb md_JI_numberOfLeadingZeros_48 rfl (lv_at hl 0 rfl) ?_
        refine lv_bipush (v := 16) hx hb md_JI_numberOfLeadingZeros_49 (by decide) ?_
        refine lv_icmp_lt (tgt := 61) hx hb md_JI_numberOfLeadingZeros_51 (by decide) (fun c_11 => ?_) (fun c_11 => ?_)
        · refine lv_iload_n hx hb md_JI_numberOfLeadingZeros_61 rfl (lv_at hl 0 rfl) ?_
          refine lv_iconst (v := 4) hx hb md_JI_numberOfLeadingZeros_62 (by decide) ?_
          refine lv_icmp_lt (tgt := 73) hx hb md_JI_numberOfLeadingZeros_63 (by decide) (fun c_12 => ?_) (fun c_12 => ?_)
          · refine lv_iload_n hx hb md_JI_numberOfLeadingZeros_73 rfl (lv_at hl 1 rfl) ?_
            refine lv_iload_n hx hb md_JI_numberOfLeadingZeros_74 rfl (lv_at hl 0 rfl) ?_
            refine lv_iconst (v := 1) hx hb md_JI_numberOfLeadingZeros_75 (by decide) ?_
            refine lv_iushr (v := ji_ush (ji_ush p0 16) 1) hx hb md_JI_numberOfLeadingZeros_76 rfl ?_
            refine lv_isub hx hb md_JI_numberOfLeadingZeros_77 ?_
            have hq : (31 + (-16)) - (ji_ush (ji_ush p0 16) 1) = jd_inlz p0 := by simp [jd_inlz, jd_inlz1, jd_inlz2, jd_inlz3, jd_inlz4, c_1, c_2, c_10, c_11, c_12]
            exact W.iret (v := (31 + (-16)) - (ji_ush (ji_ush p0 16) 1)) hx hb hr (fun t ht2 _ => ⟨((31 + (-16)) - (ji_ush (ji_ush p0 16) 1)), rfl, hq, ht2⟩) (fun q h => by cases h) md_JI_numberOfLeadingZeros_78
          · refine lv_iinc (v := (31 + (-16)) + (-2)) (lv' := [(1, .int ((31 + (-16)) + (-2))), (0, .int (ji_ush p0 16))]) hx hb md_JI_numberOfLeadingZeros_66 hl (k := 1) rfl rfl (by decide) rfl (fun ls hl => ?_)
            refine lv_iload_n hx hb md_JI_numberOfLeadingZeros_69 rfl (lv_at hl 1 rfl) ?_
            refine lv_iconst (v := 2) hx hb md_JI_numberOfLeadingZeros_70 (by decide) ?_
            refine lv_iushr (v := ji_ush (ji_ush p0 16) 2) hx hb md_JI_numberOfLeadingZeros_71 rfl ?_
            refine lv_istore_n (lv' := [(0, .int (ji_ush (ji_ush p0 16) 2)), (1, .int ((31 + (-16)) + (-2)))]) hx hb md_JI_numberOfLeadingZeros_72 rfl hl (by decide) rfl (fun ls hl => ?_)
            refine lv_iload_n hx hb md_JI_numberOfLeadingZeros_73 rfl (lv_at hl 1 rfl) ?_
            refine lv_iload_n hx hb md_JI_numberOfLeadingZeros_74 rfl (lv_at hl 0 rfl) ?_
            refine lv_iconst (v := 1) hx hb md_JI_numberOfLeadingZeros_75 (by decide) ?_
            refine lv_iushr (v := ji_ush (ji_ush (ji_ush p0 16) 2) 1) hx hb md_JI_numberOfLeadingZeros_76 rfl ?_
            refine lv_isub hx hb md_JI_numberOfLeadingZeros_77 ?_
            have hq : ((31 + (-16)) + (-2)) - (ji_ush (ji_ush (ji_ush p0 16) 2) 1) = jd_inlz p0 := by simp [jd_inlz, jd_inlz1, jd_inlz2, jd_inlz3, jd_inlz4, c_1, c_2, c_10, c_11, c_12]
            exact W.iret (v := ((31 + (-16)) + (-2)) - (ji_ush (ji_ush (ji_ush p0 16) 2) 1)) hx hb hr (fun t ht2 _ => ⟨(((31 + (-16)) + (-2)) - (ji_ush (ji_ush (ji_ush p0 16) 2) 1)), rfl, hq, ht2⟩) (fun q h => by cases h) md_JI_numberOfLeadingZeros_78
        · refine lv_iinc (v := (31 + (-16)) + (-4)) (lv' := [(1, .int ((31 + (-16)) + (-4))), (0, .int (ji_ush p0 16))]) hx hb md_JI_numberOfLeadingZeros_54 hl (k := 1) rfl rfl (by decide) rfl (fun ls hl => ?_)
          refine lv_iload_n hx hb md_JI_numberOfLeadingZeros_57 rfl (lv_at hl 1 rfl) ?_
          refine lv_iconst (v := 4) hx hb md_JI_numberOfLeadingZeros_58 (by decide) ?_
          refine lv_iushr (v := ji_ush (ji_ush p0 16) 4) hx hb md_JI_numberOfLeadingZeros_59 rfl ?_
          refine lv_istore_n (lv' := [(0, .int (ji_ush (ji_ush p0 16) 4)), (1, .int ((31 + (-16)) + (-4)))]) hx hb md_JI_numberOfLeadingZeros_60 rfl hl (by decide) rfl (fun ls hl => ?_)
          refine lv_iload_n hx hb md_JI_numberOfLeadingZeros_61 rfl (lv_at hl 0 rfl) ?_
          refine lv_iconst (v := 4) hx hb md_JI_numberOfLeadingZeros_62 (by decide) ?_
          refine lv_icmp_lt (tgt := 73) hx hb md_JI_numberOfLeadingZeros_63 (by decide) (fun c_13 => ?_) (fun c_13 => ?_)
          · refine lv_iload_n hx hb md_JI_numberOfLeadingZeros_73 rfl (lv_at hl 1 rfl) ?_
            refine lv_iload_n hx hb md_JI_numberOfLeadingZeros_74 rfl (lv_at hl 0 rfl) ?_
            refine lv_iconst (v := 1) hx hb md_JI_numberOfLeadingZeros_75 (by decide) ?_
            refine lv_iushr (v := ji_ush (ji_ush (ji_ush p0 16) 4) 1) hx hb md_JI_numberOfLeadingZeros_76 rfl ?_
            refine lv_isub hx hb md_JI_numberOfLeadingZeros_77 ?_
            have hq : ((31 + (-16)) + (-4)) - (ji_ush (ji_ush (ji_ush p0 16) 4) 1) = jd_inlz p0 := by simp [jd_inlz, jd_inlz1, jd_inlz2, jd_inlz3, jd_inlz4, c_1, c_2, c_10, c_11, c_13]
            exact W.iret (v := ((31 + (-16)) + (-4)) - (ji_ush (ji_ush (ji_ush p0 16) 4) 1)) hx hb hr (fun t ht2 _ => ⟨(((31 + (-16)) + (-4)) - (ji_ush (ji_ush (ji_ush p0 16) 4) 1)), rfl, hq, ht2⟩) (fun q h => by cases h) md_JI_numberOfLeadingZeros_78
          · refine lv_iinc (v := ((31 + (-16)) + (-4)) + (-2)) (lv' := [(1, .int (((31 + (-16)) + (-4)) + (-2))), (0, .int (ji_ush (ji_ush p0 16) 4))]) hx hb md_JI_numberOfLeadingZeros_66 hl (k := 1) rfl rfl (by decide) rfl (fun ls hl => ?_)
            refine lv_iload_n hx hb md_JI_numberOfLeadingZeros_69 rfl (lv_at hl 1 rfl) ?_
            refine lv_iconst (v := 2) hx hb md_JI_numberOfLeadingZeros_70 (by decide) ?_
            refine lv_iushr (v := ji_ush (ji_ush (ji_ush p0 16) 4) 2) hx hb md_JI_numberOfLeadingZeros_71 rfl ?_
            refine lv_istore_n (lv' := [(0, .int (ji_ush (ji_ush (ji_ush p0 16) 4) 2)), (1, .int (((31 + (-16)) + (-4)) + (-2)))]) hx hb md_JI_numberOfLeadingZeros_72 rfl hl (by decide) rfl (fun ls hl => ?_)
            refine lv_iload_n hx hb md_JI_numberOfLeadingZeros_73 rfl (lv_at hl 1 rfl) ?_
            refine lv_iload_n hx hb md_JI_numberOfLeadingZeros_74 rfl (lv_at hl 0 rfl) ?_
            refine lv_iconst (v := 1) hx hb md_JI_numberOfLeadingZeros_75 (by decide) ?_
            refine lv_iushr (v := ji_ush (ji_ush (ji_ush (ji_ush p0 16) 4) 2) 1) hx hb md_JI_numberOfLeadingZeros_76 rfl ?_
            refine lv_isub hx hb md_JI_numberOfLeadingZeros_77 ?_
            have hq : (((31 + (-16)) + (-4)) + (-2)) - (ji_ush (ji_ush (ji_ush (ji_ush p0 16) 4) 2) 1) = jd_inlz p0 := by simp [jd_inlz, jd_inlz1, jd_inlz2, jd_inlz3, jd_inlz4, c_1, c_2, c_10, c_11, c_13]
            exact W.iret (v := (((31 + (-16)) + (-4)) + (-2)) - (ji_ush (ji_ush (ji_ush (ji_ush p0 16) 4) 2) 1)) hx hb hr (fun t ht2 _ => ⟨((((31 + (-16)) + (-4)) + (-2)) - (ji_ush (ji_ush (ji_ush (ji_ush p0 16) 4) 2) 1)), rfl, hq, ht2⟩) (fun q h => by cases h) md_JI_numberOfLeadingZeros_78
      · refine lv_iinc (v := (31 + (-16)) + (-8)) (lv' := [(1, .int ((31 + (-16)) + (-8))), (0, .int (ji_ush p0 16))]) hx hb md_JI_numberOfLeadingZeros_40 hl (k := 1) rfl rfl (by decide) rfl (fun ls hl => ?_)
        refine lv_iload_n hx hb md_JI_numberOfLeadingZeros_43 rfl (lv_at hl 1 rfl) ?_
        refine lv_bipush (v := 8) hx hb md_JI_numberOfLeadingZeros_44 (by decide) ?_
        refine lv_iushr (v := ji_ush (ji_ush p0 16) 8) hx hb md_JI_numberOfLeadingZeros_46 rfl ?_
        refine lv_istore_n (lv' := [(0, .int (ji_ush (ji_ush p0 16) 8)), (1, .int ((31 + (-16)) + (-8)))]) hx hb md_JI_numberOfLeadingZeros_47 rfl hl (by decide) rfl (fun ls hl => ?_)
        refine lv_iload_n hx hb md_JI_numberOfLeadingZeros_48 rfl (lv_at hl 0 rfl) ?_
        refine lv_bipush (v := 16) hx hb md_JI_numberOfLeadingZeros_49 (by decide) ?_
        refine lv_icmp_lt (tgt := 61) hx hb md_JI_numberOfLeadingZeros_51 (by decide) (fun c_14 => ?_) (fun c_14 => ?_)
        · refine lv_iload_n hx hb md_JI_numberOfLeadingZeros_61 rfl (lv_at hl 0 rfl) ?_
          refine lv_iconst (v := 4) hx hb md_JI_numberOfLeadingZeros_62 (by decide) ?_
          refine lv_icmp_lt (tgt := 73) hx hb md_JI_numberOfLeadingZeros_63 (by decide) (fun c_15 => ?_) (fun c_15 => ?_)
          · refine lv_iload_n hx hb md_JI_numberOfLeadingZeros_73 rfl (lv_at hl 1 rfl) ?_
            refine lv_iload_n hx hb md_JI_numberOfLeadingZeros_74 rfl (lv_at hl 0 rfl) ?_
            refine lv_iconst (v := 1) hx hb md_JI_numberOfLeadingZeros_75 (by decide) ?_
            refine lv_iushr (v := ji_ush (ji_ush (ji_ush p0 16) 8) 1) hx hb md_JI_numberOfLeadingZeros_76 rfl ?_
            refine lv_isub hx hb md_JI_numberOfLeadingZeros_77 ?_
            have hq : ((31 + (-16)) + (-8)) - (ji_ush (ji_ush (ji_ush p0 16) 8) 1) = jd_inlz p0 := by simp [jd_inlz, jd_inlz1, jd_inlz2, jd_inlz3, jd_inlz4, c_1, c_2, c_10, c_14, c_15]
            exact W.iret (v := ((31 + (-16)) + (-8)) - (ji_ush (ji_ush (ji_ush p0 16) 8) 1)) hx hb hr (fun t ht2 _ => ⟨(((31 + (-16)) + (-8)) - (ji_ush (ji_ush (ji_ush p0 16) 8) 1)), rfl, hq, ht2⟩) (fun q h => by cases h) md_JI_numberOfLeadingZeros_78
          · refine lv_iinc (v := ((31 + (-16)) + (-8)) + (-2)) (lv' := [(1, .int (((31 + (-16)) + (-8)) + (-2))), (0, .int (ji_ush (ji_ush p0 16) 8))]) hx hb md_JI_numberOfLeadingZeros_66 hl (k := 1) rfl rfl (by decide) rfl (fun ls hl => ?_)
            refine lv_iload_n hx hb md_JI_numberOfLeadingZeros_69 rfl (lv_at hl 1 rfl) ?_
            refine lv_iconst (v := 2) hx hb md_JI_numberOfLeadingZeros_70 (by decide) ?_
            refine lv_iushr (v := ji_ush (ji_ush (ji_ush p0 16) 8) 2) hx hb md_JI_numberOfLeadingZeros_71 rfl ?_
            refine lv_istore_n (lv' := [(0, .int (ji_ush (ji_ush (ji_ush p0 16) 8) 2)), (1, .int (((31 + (-16)) + (-8)) + (-2)))]) hx hb md_JI_numberOfLeadingZeros_72 rfl hl (by decide) rfl (fun ls hl => ?_)
            refine lv_iload_n hx hb md_JI_numberOfLeadingZeros_73 rfl (lv_at hl 1 rfl) ?_
            refine lv_iload_n hx hb md_JI_numberOfLeadingZeros_74 rfl (lv_at hl 0 rfl) ?_
            refine lv_iconst (v := 1) hx hb md_JI_numberOfLeadingZeros_75 (by decide) ?_
            refine lv_iushr (v := ji_ush (ji_ush (ji_ush (ji_ush p0 16) 8) 2) 1) hx hb md_JI_numberOfLeadingZeros_76 rfl ?_
            refine lv_isub hx hb md_JI_numberOfLeadingZeros_77 ?_
            have hq : (((31 + (-16)) + (-8)) + (-2)) - (ji_ush (ji_ush (ji_ush (ji_ush p0 16) 8) 2) 1) = jd_inlz p0 := by simp [jd_inlz, jd_inlz1, jd_inlz2, jd_inlz3, jd_inlz4, c_1, c_2, c_10, c_14, c_15]
            exact W.iret (v := (((31 + (-16)) + (-8)) + (-2)) - (ji_ush (ji_ush (ji_ush (ji_ush p0 16) 8) 2) 1)) hx hb hr (fun t ht2 _ => ⟨((((31 + (-16)) + (-8)) + (-2)) - (ji_ush (ji_ush (ji_ush (ji_ush p0 16) 8) 2) 1)), rfl, hq, ht2⟩) (fun q h => by cases h) md_JI_numberOfLeadingZeros_78
        · refine lv_iinc (v := ((31 + (-16)) + (-8)) + (-4)) (lv' := [(1, .int (((31 + (-16)) + (-8)) + (-4))), (0, .int (ji_ush (ji_ush p0 16) 8))]) hx hb md_JI_numberOfLeadingZeros_54 hl (k := 1) rfl rfl (by decide) rfl (fun ls hl => ?_)
          refine lv_iload_n hx hb md_JI_numberOfLeadingZeros_57 rfl (lv_at hl 1 rfl) ?_
          refine lv_iconst (v := 4) hx hb md_JI_numberOfLeadingZeros_58 (by decide) ?_
          refine lv_iushr (v := ji_ush (ji_ush (ji_ush p0 16) 8) 4) hx hb md_JI_numberOfLeadingZeros_59 rfl ?_
          refine lv_istore_n (lv' := [(0, .int (ji_ush (ji_ush (ji_ush p0 16) 8) 4)), (1, .int (((31 + (-16)) + (-8)) + (-4)))]) hx hb md_JI_numberOfLeadingZeros_60 rfl hl (by decide) rfl (fun ls hl => ?_)
          refine lv_iload_n hx hb md_JI_numberOfLeadingZeros_61 rfl (lv_at hl 0 rfl) ?_
          refine lv_iconst (v := 4) hx hb md_JI_numberOfLeadingZeros_62 (by decide) ?_
          refine lv_icmp_lt (tgt := 73) hx hb md_JI_numberOfLeadingZeros_63 (by decide) (fun c_16 => ?_) (fun c_16 => ?_)
          · refine lv_iload_n hx hb md_JI_numberOfLeadingZeros_73 rfl (lv_at hl 1 rfl) ?_
            refine lv_iload_n hx hb md_JI_numberOfLeadingZeros_74 rfl (lv_at hl 0 rfl) ?_
            refine lv_iconst (v := 1) hx hb md_JI_numberOfLeadingZeros_75 (by decide) ?_
            refine lv_iushr (v := ji_ush (ji_ush (ji_ush (ji_ush p0 16) 8) 4) 1) hx hb md_JI_numberOfLeadingZeros_76 rfl ?_
            refine lv_isub hx hb md_JI_numberOfLeadingZeros_77 ?_
            have hq : (((31 + (-16)) + (-8)) + (-4)) - (ji_ush (ji_ush (ji_ush (ji_ush p0 16) 8) 4) 1) = jd_inlz p0 := by simp [jd_inlz, jd_inlz1, jd_inlz2, jd_inlz3, jd_inlz4, c_1, c_2, c_10, c_14, c_16]
            exact W.iret (v := (((31 + (-16)) + (-8)) + (-4)) - (ji_ush (ji_ush (ji_ush (ji_ush p0 16) 8) 4) 1)) hx hb hr (fun t ht2 _ => ⟨((((31 + (-16)) + (-8)) + (-4)) - (ji_ush (ji_ush (ji_ush (ji_ush p0 16) 8) 4) 1)), rfl, hq, ht2⟩) (fun q h => by cases h) md_JI_numberOfLeadingZeros_78
          · refine lv_iinc (v := (((31 + (-16)) + (-8)) + (-4)) + (-2)) (lv' := [(1, .int ((((31 + (-16)) + (-8)) + (-4)) + (-2))), (0, .int (ji_ush (ji_ush (ji_ush p0 16) 8) 4))]) hx hb md_JI_numberOfLeadingZeros_66 hl (k := 1) rfl rfl (by decide) rfl (fun ls hl => ?_)
            refine lv_iload_n hx hb md_JI_numberOfLeadingZeros_69 rfl (lv_at hl 1 rfl) ?_
            refine lv_iconst (v := 2) hx hb md_JI_numberOfLeadingZeros_70 (by decide) ?_
            refine lv_iushr (v := ji_ush (ji_ush (ji_ush (ji_ush p0 16) 8) 4) 2) hx hb md_JI_numberOfLeadingZeros_71 rfl ?_
            refine lv_istore_n (lv' := [(0, .int (ji_ush (ji_ush (ji_ush (ji_ush p0 16) 8) 4) 2)), (1, .int ((((31 + (-16)) + (-8)) + (-4)) + (-2)))]) hx hb md_JI_numberOfLeadingZeros_72 rfl hl (by decide) rfl (fun ls hl => ?_)
            refine lv_iload_n hx hb md_JI_numberOfLeadingZeros_73 rfl (lv_at hl 1 rfl) ?_
            refine lv_iload_n hx hb md_JI_numberOfLeadingZeros_74 rfl (lv_at hl 0 rfl) ?_
            refine lv_iconst (v := 1) hx hb md_JI_numberOfLeadingZeros_75 (by decide) ?_
            refine lv_iushr (v := ji_ush (ji_ush (ji_ush (ji_ush (ji_ush p0 16) 8) 4) 2) 1) hx hb md_JI_numberOfLeadingZeros_76 rfl ?_
            refine lv_isub hx hb md_JI_numberOfLeadingZeros_77 ?_
            have hq : ((((31 + (-16)) + (-8)) + (-4)) + (-2)) - (ji_ush (ji_ush (ji_ush (ji_ush (ji_ush p0 16) 8) 4) 2) 1) = jd_inlz p0 := by simp [jd_inlz, jd_inlz1, jd_inlz2, jd_inlz3, jd_inlz4, c_1, c_2, c_10, c_14, c_16]
            exact W.iret (v := ((((31 + (-16)) + (-8)) + (-4)) + (-2)) - (ji_ush (ji_ush (ji_ush (ji_ush (ji_ush p0 16) 8) 4) 2) 1)) hx hb hr (fun t ht2 _ => ⟨(((((31 + (-16)) + (-8)) + (-4)) + (-2)) - (ji_ush (ji_ush (ji_ush (ji_ush (ji_ush p0 16) 8) 4) 2) 1)), rfl, hq, ht2⟩) (fun q h => by cases h) md_JI_numberOfLeadingZeros_78
  · refine lv_iload_n hx hb md_JI_numberOfLeadingZeros_4 rfl (lv_at hl 0 rfl) ?_
    refine lv_if_ne (tgt := 13) hx hb md_JI_numberOfLeadingZeros_5 (by decide) (fun c_17 => ?_) (fun c_17 => ?_)
    · refine lv_iconst (v := 0) hx hb md_JI_numberOfLeadingZeros_13 (by decide) ?_
      have hq : 0 = jd_inlz p0 := by simp [jd_inlz, jd_inlz1, jd_inlz2, jd_inlz3, jd_inlz4, c_1, c_17]
      exact W.iret (v := 0) hx hb hr (fun t ht2 _ => ⟨0, rfl, hq, ht2⟩) (fun q h => by cases h) md_JI_numberOfLeadingZeros_14
    · refine lv_bipush (v := 32) hx hb md_JI_numberOfLeadingZeros_8 (by decide) ?_
      refine lv_goto (tgt := 14) hx hb md_JI_numberOfLeadingZeros_10 (by decide) ?_
      have hq : 32 = jd_inlz p0 := by simp [jd_inlz, jd_inlz1, jd_inlz2, jd_inlz3, jd_inlz4, c_1, c_17]
      exact W.iret (v := 32) hx hb hr (fun t ht2 _ => ⟨32, rfl, hq, ht2⟩) (fun q h => by cases h) md_JI_numberOfLeadingZeros_14
set_option maxHeartbeats 4000000 in
set_option maxRecDepth 100000 in
theorem mt_JL_numberOfLeadingZeros (l : Launch) (p0 : Int64) : Met l my_JL_numberOfLeadingZeros mw_JL_numberOfLeadingZeros ({ frames := 1, cells := 0, slots := 0, locals := 21 } : Room) (va_Pc [.long p0] (fun _ => True)) (vp_Si (fun r => r = jd_nlz p0)) 0 0 (fun _ => False) := by
  refine Met.ofW (cc := mc_JL_numberOfLeadingZeros) (maxL := 3) (ret := (some .int)) (by decide) rfl ?_
  intro p e s m args below meth c s₁ B hml hv
  obtain ⟨rfl, -⟩ := hv
  have hx := B.exec
  have hb := B.bytes
  have hr := B.returns
  have hts := atoms_spec (ws := mw_JL_numberOfLeadingZeros) B.pre
  have ht : ∀ w ∈ gw_tbl, w.before _ s = true := fun w h => hts w (List.mem_cons_of_mem _ h)
  have hown : s.vm.findClass "java/lang/Long" = some m.cls := findClass_of_methodNamed B.named
  have hlocks := B.notSynchronized
  have hl := lv_entry ([.long p0]) (n := 3) (Nat.le_of_ble_eq_true rfl)
  rw [lg_entry_eq]
  generalize (lg_sl ([.long p0]) ++ List.replicate (3 - (lg_sl ([.long p0])).length) Slot.unset).toArray = ls at hl ⊢
  have hl : lv_has ls 3 [(0, .long p0)] := hl
  refine lv_lload_n hx hb md_JL_numberOfLeadingZeros_0 rfl (lv_at hl 0 rfl) ?_
  refine lv_bipush (v := 32) hx hb md_JL_numberOfLeadingZeros_1 (by decide) ?_
  refine lv_lushr (v := jl_ush p0 32) hx hb md_JL_numberOfLeadingZeros_3 rfl ?_
  refine lv_l2i (v := (jl_ush p0 32).toInt32) hx hb md_JL_numberOfLeadingZeros_4 rfl ?_
  refine lv_istore_n (lv' := [(2, .int ((jl_ush p0 32).toInt32)), (0, .long p0)]) hx hb md_JL_numberOfLeadingZeros_5 rfl hl (by decide) rfl (fun ls hl => ?_)
  refine lv_iload_n hx hb md_JL_numberOfLeadingZeros_6 rfl (lv_at hl 0 rfl) ?_
  refine lv_if_ne (tgt := 21) hx hb md_JL_numberOfLeadingZeros_7 (by decide) (fun c_1 => ?_) (fun c_1 => ?_)
  · refine lv_iload_n hx hb md_JL_numberOfLeadingZeros_21 rfl (lv_at hl 0 rfl) ?_
    refine vp_callSi (W.runS (As := [.int ((jl_ush p0 32).toInt32)]) (rest := []) ⟨hx, hb, hml, hown, hts⟩ (mt_JI_numberOfLeadingZeros l ((jl_ush p0 32).toInt32)) (va_cwS 1 hts (gd_S tm_159 tm_160 tm_30 tm_161) rfl rfl rfl (by decide +kernel) ⟨Nat.le_of_ble_eq_true rfl, Nat.le_of_ble_eq_true rfl⟩) ⟨fb_0, fun U hU hW => ⟨rfl, trivial⟩⟩ rfl rfl hl.1 rfl (lv_room (Nat.le_of_ble_eq_true rfl)) md_JL_numberOfLeadingZeros_22 ⟨Nat.zero_le _, Nat.zero_le _⟩) (fun r_2 e_3 => ?_)
    obtain rfl : r_2 = jd_inlz ((jl_ush p0 32).toInt32) := e_3
    have hq : jd_inlz ((jl_ush p0 32).toInt32) = jd_nlz p0 := by simp [jd_nlz, c_1]
    exact W.iret (v := jd_inlz ((jl_ush p0 32).toInt32)) hx hb hr (fun t ht2 _ => ⟨(jd_inlz ((jl_ush p0 32).toInt32)), rfl, hq, ht2⟩) (fun q h => by cases h) md_JL_numberOfLeadingZeros_25
  · refine lv_bipush (v := 32) hx hb md_JL_numberOfLeadingZeros_10 (by decide) ?_
    refine lv_lload_n hx hb md_JL_numberOfLeadingZeros_12 rfl (lv_at hl 1 rfl) ?_
    refine lv_l2i (v := p0.toInt32) hx hb md_JL_numberOfLeadingZeros_13 rfl ?_
    refine vp_callSi (W.runS (As := [.int p0.toInt32]) (rest := [.int 32]) ⟨hx, hb, hml, hown, hts⟩ (mt_JI_numberOfLeadingZeros l p0.toInt32) (va_cwS 1 hts (gd_S tm_159 tm_160 tm_30 tm_161) rfl rfl rfl (by decide +kernel) ⟨Nat.le_of_ble_eq_true rfl, Nat.le_of_ble_eq_true rfl⟩) ⟨fb_0, fun U hU hW => ⟨rfl, trivial⟩⟩ rfl rfl hl.1 rfl (lv_room (Nat.le_of_ble_eq_true rfl)) md_JL_numberOfLeadingZeros_14 ⟨Nat.zero_le _, Nat.zero_le _⟩) (fun r_4 e_5 => ?_)
    obtain rfl : r_4 = jd_inlz p0.toInt32 := e_5
    refine lv_iadd hx hb md_JL_numberOfLeadingZeros_17 ?_
    refine lv_goto (tgt := 25) hx hb md_JL_numberOfLeadingZeros_18 (by decide) ?_
    have hq : 32 + (jd_inlz p0.toInt32) = jd_nlz p0 := by simp [jd_nlz, c_1]
    exact W.iret (v := 32 + (jd_inlz p0.toInt32)) hx hb hr (fun t ht2 _ => ⟨(32 + (jd_inlz p0.toInt32)), rfl, hq, ht2⟩) (fun q h => by cases h) md_JL_numberOfLeadingZeros_25
set_option maxHeartbeats 4000000 in
set_option maxRecDepth 100000 in
theorem mt_F_magnitude (l : Launch) (ad : Nat → Nat) (k : Nat) (hk : k < 2) (p0 : Int64) : Met l my_F_magnitude mw_F_magnitude ({ frames := 0, cells := 0, slots := 0, locals := 0 } : Room) (va_Pc [.ref (ad k), .long p0] (fun U => FW ad (fun _ => False) U U.heap)) (vp_Sl (fun r => r = cf_mag k p0)) 0 0 (fun _ => False) := by
  refine Met.ofW (cc := mc_F_magnitude) (maxL := 3) (ret := (some .long)) (by decide) rfl ?_
  intro p e s m args below meth c s₁ B hml hv
  obtain ⟨rfl, hE⟩ := hv
  have hx := B.exec
  have hb := B.bytes
  have hr := B.returns
  have hts := atoms_spec (ws := mw_F_magnitude) B.pre
  have ht : ∀ w ∈ gw_tbl, w.before _ s = true := fun w h => hts w (List.mem_cons_of_mem _ h)
  have hown : s.vm.findClass "NumberProbe$Format" = some m.cls := findClass_of_methodNamed B.named
  have hlocks := B.notSynchronized
  have hS : va_S (fun _ => False) s.heap s.heap [] := va_S.rf
  have hl := lv_entry ([.ref (ad k), .long p0]) (n := 3) (Nat.le_of_ble_eq_true rfl)
  rw [lg_entry_eq]
  generalize (lg_sl ([.ref (ad k), .long p0]) ++ List.replicate (3 - (lg_sl ([.ref (ad k), .long p0])).length) Slot.unset).toArray = ls at hl ⊢
  have hl : lv_has ls 3 [(0, .ref (ad k)), (1, .long p0)] := hl
  refine lv_lload_n hx hb md_F_magnitude_0 rfl (lv_at hl 1 rfl) ?_
  refine lv_aload_n hx hb md_F_magnitude_1 rfl (lv_at hl 0 rfl) ?_
  refine va_getX hx hb hE.2.2.2.2.1 hk hS hown (ht _ tm_548) (fun _ h9 => h9) md_F_magnitude_2 ?_
  refine lv_land hx hb md_F_magnitude_5 ?_
  have hq : p0 &&& (kf_m k) = cf_mag k p0 := by simp [cf_mag]
  exact W.lret (v := p0 &&& (kf_m k)) hx hb hr (fun t ht2 _ => ⟨(p0 &&& (kf_m k)), rfl, hq, ht2⟩) (fun q h => by cases h) md_F_magnitude_6
set_option maxHeartbeats 4000000 in
set_option maxRecDepth 100000 in
theorem mt_F_isNaN (l : Launch) (ad : Nat → Nat) (k : Nat) (hk : k < 2) (p0 : Int64) : Met l my_F_isNaN mw_F_isNaN ({ frames := 1, cells := 0, slots := 0, locals := 22 } : Room) (va_Pc [.ref (ad k), .long p0] (fun U => FW ad (fun _ => False) U U.heap)) (vp_Si (fun r => r = jb (cf_nan k p0))) 0 0 (fun _ => False) := by
  refine Met.ofW (cc := mc_F_isNaN) (maxL := 3) (ret := (some .boolean)) (by decide) rfl ?_
  intro p e s m args below meth c s₁ B hml hv
  obtain ⟨rfl, hE⟩ := hv
  have hx := B.exec
  have hb := B.bytes
  have hr := B.returns
  have hts := atoms_spec (ws := mw_F_isNaN) B.pre
  have ht : ∀ w ∈ gw_tbl, w.before _ s = true := fun w h => hts w (List.mem_cons_of_mem _ h)
  have hown : s.vm.findClass "NumberProbe$Format" = some m.cls := findClass_of_methodNamed B.named
  have hlocks := B.notSynchronized
  have hS : va_S (fun _ => False) s.heap s.heap [] := va_S.rf
  have hl := lv_entry ([.ref (ad k), .long p0]) (n := 3) (Nat.le_of_ble_eq_true rfl)
  rw [lg_entry_eq]
  generalize (lg_sl ([.ref (ad k), .long p0]) ++ List.replicate (3 - (lg_sl ([.ref (ad k), .long p0])).length) Slot.unset).toArray = ls at hl ⊢
  have hl : lv_has ls 3 [(0, .ref (ad k)), (1, .long p0)] := hl
  refine lv_aload_n hx hb md_F_isNaN_0 rfl (lv_at hl 0 rfl) ?_
  refine lv_lload_n hx hb md_F_isNaN_1 rfl (lv_at hl 1 rfl) ?_
  refine vp_callSl (W.runV (C := "NumberProbe$Format") (As := [.long p0]) (rest := []) ⟨hx, hb, hml, hown, hts⟩ (mt_F_magnitude l ad k hk p0) (cwV 1 hts (gd_V tm_71 tm_72 tm_73 tm_27 tm_74) rfl rfl rfl (by decide +kernel) ⟨Nat.le_of_ble_eq_true rfl, Nat.le_of_ble_eq_true rfl⟩) ⟨fb_E, fw_recv hE hk hS, fun U hU hW => ⟨rfl, fw_use hE hS hU hW⟩⟩ rfl rfl hl.1 rfl (lv_room (Nat.le_of_ble_eq_true rfl)) md_F_isNaN_2 ⟨Nat.zero_le _, Nat.zero_le _⟩) (fun r_1 e_2 => ?_)
  obtain rfl : r_1 = cf_mag k p0 := e_2
  refine lv_aload_n hx hb md_F_isNaN_5 rfl (lv_at hl 0 rfl) ?_
  refine va_getX hx hb hE.2.2.2.2.2.1 hk hS hown (ht _ tm_549) (fun _ h9 => h9) md_F_isNaN_6 ?_
  refine W.lcmp hx hb md_F_isNaN_9 ?_
  refine lv_if_le (tgt := 17) hx hb md_F_isNaN_10 (by decide) (fun c_3 => ?_) (fun c_3 => ?_)
  · refine lv_iconst (v := 0) hx hb md_F_isNaN_17 (by decide) ?_
    have hq : 0 = jb (cf_nan k p0) := by simp [cf_nan, jb, ((lg_cmp_le _ _).mp c_3)]
    exact W.zret (v := 0) (ty := .boolean) hx hb hr (by rw [hq]; cases (cf_nan k p0) <;> rfl) (fun t ht2 _ => ⟨0, rfl, hq, ht2⟩) (fun q h => by cases h) md_F_isNaN_18
  · refine lv_iconst (v := 1) hx hb md_F_isNaN_13 (by decide) ?_
    refine lv_goto (tgt := 18) hx hb md_F_isNaN_14 (by decide) ?_
    have hq : 1 = jb (cf_nan k p0) := by simp [cf_nan, jb, (mt (lg_cmp_le _ _).mpr c_3)]
    exact W.zret (v := 1) (ty := .boolean) hx hb hr (by rw [hq]; cases (cf_nan k p0) <;> rfl) (fun t ht2 _ => ⟨1, rfl, hq, ht2⟩) (fun q h => by cases h) md_F_isNaN_18
set_option maxHeartbeats 4000000 in
set_option maxRecDepth 100000 in
theorem mt_F_isInfinite (l : Launch) (ad : Nat → Nat) (k : Nat) (hk : k < 2) (p0 : Int64) : Met l my_F_isInfinite mw_F_isInfinite ({ frames := 1, cells := 0, slots := 0, locals := 22 } : Room) (va_Pc [.ref (ad k), .long p0] (fun U => FW ad (fun _ => False) U U.heap)) (vp_Si (fun r => r = jb (cf_inf k p0))) 0 0 (fun _ => False) := by
  refine Met.ofW (cc := mc_F_isInfinite) (maxL := 3) (ret := (some .boolean)) (by decide) rfl ?_
  intro p e s m args below meth c s₁ B hml hv
  obtain ⟨rfl, hE⟩ := hv
  have hx := B.exec
  have hb := B.bytes
  have hr := B.returns
  have hts := atoms_spec (ws := mw_F_isInfinite) B.pre
  have ht : ∀ w ∈ gw_tbl, w.before _ s = true := fun w h => hts w (List.mem_cons_of_mem _ h)
  have hown : s.vm.findClass "NumberProbe$Format" = some m.cls := findClass_of_methodNamed B.named
  have hlocks := B.notSynchronized
  have hS : va_S (fun _ => False) s.heap s.heap [] := va_S.rf
  have hl := lv_entry ([.ref (ad k), .long p0]) (n := 3) (Nat.le_of_ble_eq_true rfl)
  rw [lg_entry_eq]
  generalize (lg_sl ([.ref (ad k), .long p0]) ++ List.replicate (3 - (lg_sl ([.ref (ad k), .long p0])).length) Slot.unset).toArray = ls at hl ⊢
  have hl : lv_has ls 3 [(0, .ref (ad k)), (1, .long p0)] := hl
  refine lv_aload_n hx hb md_F_isInfinite_0 rfl (lv_at hl 0 rfl) ?_
  refine lv_lload_n hx hb md_F_isInfinite_1 rfl (lv_at hl 1 rfl) ?_
  refine vp_callSl (W.runV (C := "NumberProbe$Format") (As := [.long p0]) (rest := []) ⟨hx, hb, hml, hown, hts⟩ (mt_F_magnitude l ad k hk p0) (cwV 1 hts (gd_V tm_71 tm_72 tm_73 tm_27 tm_74) rfl rfl rfl (by decide +kernel) ⟨Nat.le_of_ble_eq_true rfl, Nat.le_of_ble_eq_true rfl⟩) ⟨fb_E, fw_recv hE hk hS, fun U hU hW => ⟨rfl, fw_use hE hS hU hW⟩⟩ rfl rfl hl.1 rfl (lv_room (Nat.le_of_ble_eq_true rfl)) md_F_isInfinite_2 ⟨Nat.zero_le _, Nat.zero_le _⟩) (fun r_1 e_2 => ?_)
  obtain rfl : r_1 = cf_mag k p0 := e_2
  refine lv_aload_n hx hb md_F_isInfinite_5 rfl (lv_at hl 0 rfl) ?_
  refine va_getX hx hb hE.2.2.2.2.2.1 hk hS hown (ht _ tm_549) (fun _ h9 => h9) md_F_isInfinite_6 ?_
  refine W.lcmp hx hb md_F_isInfinite_9 ?_
  refine lv_if_ne (tgt := 17) hx hb md_F_isInfinite_10 (by decide) (fun c_3 => ?_) (fun c_3 => ?_)
  · refine lv_iconst (v := 0) hx hb md_F_isInfinite_17 (by decide) ?_
    have hq : 0 = jb (cf_inf k p0) := by simp [cf_inf, jb, (mt (lg_cmp_eq _ _).mpr c_3)]
    exact W.zret (v := 0) (ty := .boolean) hx hb hr (by rw [hq]; cases (cf_inf k p0) <;> rfl) (fun t ht2 _ => ⟨0, rfl, hq, ht2⟩) (fun q h => by cases h) md_F_isInfinite_18
  · refine lv_iconst (v := 1) hx hb md_F_isInfinite_13 (by decide) ?_
    refine lv_goto (tgt := 18) hx hb md_F_isInfinite_14 (by decide) ?_
    have hq : 1 = jb (cf_inf k p0) := by simp [cf_inf, jb, ((lg_cmp_eq _ _).mp c_3)]
    exact W.zret (v := 1) (ty := .boolean) hx hb hr (by rw [hq]; cases (cf_inf k p0) <;> rfl) (fun t ht2 _ => ⟨1, rfl, hq, ht2⟩) (fun q h => by cases h) md_F_isInfinite_18
set_option maxHeartbeats 4000000 in
set_option maxRecDepth 100000 in
theorem mt_F_isZero (l : Launch) (ad : Nat → Nat) (k : Nat) (hk : k < 2) (p0 : Int64) : Met l my_F_isZero mw_F_isZero ({ frames := 1, cells := 0, slots := 0, locals := 22 } : Room) (va_Pc [.ref (ad k), .long p0] (fun U => FW ad (fun _ => False) U U.heap)) (vp_Si (fun r => r = jb (cf_zer k p0))) 0 0 (fun _ => False) := by
  refine Met.ofW (cc := mc_F_isZero) (maxL := 3) (ret := (some .boolean)) (by decide) rfl ?_
  intro p e s m args below meth c s₁ B hml hv
  obtain ⟨rfl, hE⟩ := hv
  have hx := B.exec
  have hb := B.bytes
  have hr := B.returns
  have hts := atoms_spec (ws := mw_F_isZero) B.pre
  have ht : ∀ w ∈ gw_tbl, w.before _ s = true := fun w h => hts w (List.mem_cons_of_mem _ h)
  have hown : s.vm.findClass "NumberProbe$Format" = some m.cls := findClass_of_methodNamed B.named
  have hlocks := B.notSynchronized
  have hS : va_S (fun _ => False) s.heap s.heap [] := va_S.rf
  have hl := lv_entry ([.ref (ad k), .long p0]) (n := 3) (Nat.le_of_ble_eq_true rfl)
  rw [lg_entry_eq]
  generalize (lg_sl ([.ref (ad k), .long p0]) ++ List.replicate (3 - (lg_sl ([.ref (ad k), .long p0])).length) Slot.unset).toArray = ls at hl ⊢
  have hl : lv_has ls 3 [(0, .ref (ad k)), (1, .long p0)] := hl
  refine lv_aload_n hx hb md_F_isZero_0 rfl (lv_at hl 0 rfl) ?_
  refine lv_lload_n hx hb md_F_isZero_1 rfl (lv_at hl 1 rfl) ?_
  refine vp_callSl (W.runV (C := "NumberProbe$Format") (As := [.long p0]) (rest := []) ⟨hx, hb, hml, hown, hts⟩ (mt_F_magnitude l ad k hk p0) (cwV 1 hts (gd_V tm_71 tm_72 tm_73 tm_27 tm_74) rfl rfl rfl (by decide +kernel) ⟨Nat.le_of_ble_eq_true rfl, Nat.le_of_ble_eq_true rfl⟩) ⟨fb_E, fw_recv hE hk hS, fun U hU hW => ⟨rfl, fw_use hE hS hU hW⟩⟩ rfl rfl hl.1 rfl (lv_room (Nat.le_of_ble_eq_true rfl)) md_F_isZero_2 ⟨Nat.zero_le _, Nat.zero_le _⟩) (fun r_1 e_2 => ?_)
  obtain rfl : r_1 = cf_mag k p0 := e_2
  refine lv_lconst (v := 0) hx hb md_F_isZero_5 (by decide) ?_
  refine W.lcmp hx hb md_F_isZero_6 ?_
  refine lv_if_ne (tgt := 14) hx hb md_F_isZero_7 (by decide) (fun c_3 => ?_) (fun c_3 => ?_)
  · refine lv_iconst (v := 0) hx hb md_F_isZero_14 (by decide) ?_
    have hq : 0 = jb (cf_zer k p0) := by simp [cf_zer, jb, (mt (lg_cmp_eq _ _).mpr c_3)]
    exact W.zret (v := 0) (ty := .boolean) hx hb hr (by rw [hq]; cases (cf_zer k p0) <;> rfl) (fun t ht2 _ => ⟨0, rfl, hq, ht2⟩) (fun q h => by cases h) md_F_isZero_15
  · refine lv_iconst (v := 1) hx hb md_F_isZero_10 (by decide) ?_
    refine lv_goto (tgt := 15) hx hb md_F_isZero_11 (by decide) ?_
    have hq : 1 = jb (cf_zer k p0) := by simp [cf_zer, jb, ((lg_cmp_eq _ _).mp c_3)]
    exact W.zret (v := 1) (ty := .boolean) hx hb hr (by rw [hq]; cases (cf_zer k p0) <;> rfl) (fun t ht2 _ => ⟨1, rfl, hq, ht2⟩) (fun q h => by cases h) md_F_isZero_15
set_option maxHeartbeats 4000000 in
set_option maxRecDepth 100000 in
theorem mt_F_negated (l : Launch) (ad : Nat → Nat) (k : Nat) (hk : k < 2) (p0 : Int64) : Met l my_F_negated mw_F_negated ({ frames := 2, cells := 0, slots := 0, locals := 44 } : Room) (va_Pc [.ref (ad k), .long p0] (fun U => FW ad (fun _ => False) U U.heap)) (vp_Sl (fun _ => True)) 0 0 (fun _ => False) := by
  refine Met.ofW (cc := mc_F_negated) (maxL := 3) (ret := (some .long)) (by decide) rfl ?_
  intro p e s m args below meth c s₁ B hml hv
  obtain ⟨rfl, hE⟩ := hv
  have hx := B.exec
  have hb := B.bytes
  have hr := B.returns
  have hts := atoms_spec (ws := mw_F_negated) B.pre
  have ht : ∀ w ∈ gw_tbl, w.before _ s = true := fun w h => hts w (List.mem_cons_of_mem _ h)
  have hown : s.vm.findClass "NumberProbe$Format" = some m.cls := findClass_of_methodNamed B.named
  have hlocks := B.notSynchronized
  have hS : va_S (fun _ => False) s.heap s.heap [] := va_S.rf
  have hl := lv_entry ([.ref (ad k), .long p0]) (n := 3) (Nat.le_of_ble_eq_true rfl)
  rw [lg_entry_eq]
  generalize (lg_sl ([.ref (ad k), .long p0]) ++ List.replicate (3 - (lg_sl ([.ref (ad k), .long p0])).length) Slot.unset).toArray = ls at hl ⊢
  have hl : lv_has ls 3 [(0, .ref (ad k)), (1, .long p0)] := hl
  refine lv_aload_n hx hb md_F_negated_0 rfl (lv_at hl 0 rfl) ?_
  refine lv_lload_n hx hb md_F_negated_1 rfl (lv_at hl 1 rfl) ?_
  refine vp_callSi (W.runV (C := "NumberProbe$Format") (As := [.long p0]) (rest := []) ⟨hx, hb, hml, hown, hts⟩ (mt_F_isNaN l ad k hk p0) (cwV 1 hts (gd_V tm_67 tm_68 tm_69 tm_27 tm_70) rfl rfl rfl (by decide +kernel) ⟨Nat.le_of_ble_eq_true rfl, Nat.le_of_ble_eq_true rfl⟩) ⟨fb_E, fw_recv hE hk hS, fun U hU hW => ⟨rfl, fw_use hE hS hU hW⟩⟩ rfl rfl hl.1 rfl (lv_room (Nat.le_of_ble_eq_true rfl)) md_F_negated_2 ⟨Nat.zero_le _, Nat.zero_le _⟩) (fun r_1 e_2 => ?_)
  obtain rfl : r_1 = jb (cf_nan k p0) := e_2
  have J_4 : ∀ (z_5 : Int64) (ls : Array Slot), lv_has ls 3 [(0, .ref (ad k)), (1, .long p0)] → WP p l e mw_F_negated ({ frames := 2, cells := 0, slots := 0, locals := 44 } : Room) s m [.ref (ad k), .long p0] below meth c (vp_Sl (fun _ => True)) (F0 m 22 ls [.long z_5]) := by
    intro z_5 ls hl
    exact W.lret (v := z_5) hx hb hr (fun t ht2 _ => ⟨z_5, rfl, trivial, ht2⟩) (fun q h => by cases h) md_F_negated_22
  refine lv_if_eq (tgt := 12) hx hb md_F_negated_5 (by decide) (fun c_3 => ?_) (fun c_3 => ?_)
  · refine lv_lload_n hx hb md_F_negated_12 rfl (lv_at hl 1 rfl) ?_
    refine lv_aload_n hx hb md_F_negated_13 rfl (lv_at hl 0 rfl) ?_
    refine va_getX hx hb hE.2.2.2.2.1 hk hS hown (ht _ tm_548) (fun _ h9 => h9) md_F_negated_14 ?_
    refine lv_ldc2 (v := (-1)) hx hb hown (ht _ tm_80) md_F_negated_17 ?_
    refine lv_lxor hx hb md_F_negated_20 ?_
    refine lv_lxor hx hb md_F_negated_21 ?_
    exact J_4 (p0 ^^^ ((kf_m k) ^^^ (-1))) ls (lv_sub hl [0, 1] rfl)
  · refine lv_lload_n hx hb md_F_negated_8 rfl (lv_at hl 1 rfl) ?_
    refine lv_goto (tgt := 22) hx hb md_F_negated_9 (by decide) ?_
    exact J_4 p0 ls (lv_sub hl [0, 1] rfl)
set_option maxHeartbeats 4000000 in
set_option maxRecDepth 100000 in
theorem mt_F_signed (l : Launch) (ad : Nat → Nat) (k : Nat) (hk : k < 2) (p0 : Bool) (p1 : Int64) : Met l my_F_signed mw_F_signed ({ frames := 0, cells := 0, slots := 0, locals := 0 } : Room) (va_Pc [.ref (ad k), .int (jb p0), .long p1] (fun U => FW ad (fun _ => False) U U.heap)) (vp_Sl (fun _ => True)) 0 0 (fun _ => False) := by
  refine Met.ofW (cc := mc_F_signed) (maxL := 4) (ret := (some .long)) (by decide) rfl ?_
  intro p e s m args below meth c s₁ B hml hv
  obtain ⟨rfl, hE⟩ := hv
  have hx := B.exec
  have hb := B.bytes
  have hr := B.returns
  have hts := atoms_spec (ws := mw_F_signed) B.pre
  have ht : ∀ w ∈ gw_tbl, w.before _ s = true := fun w h => hts w (List.mem_cons_of_mem _ h)
  have hown : s.vm.findClass "NumberProbe$Format" = some m.cls := findClass_of_methodNamed B.named
  have hlocks := B.notSynchronized
  have hS : va_S (fun _ => False) s.heap s.heap [] := va_S.rf
  have hl := lv_entry ([.ref (ad k), .int (jb p0), .long p1]) (n := 4) (Nat.le_of_ble_eq_true rfl)
  rw [lg_entry_eq]
  generalize (lg_sl ([.ref (ad k), .int (jb p0), .long p1]) ++ List.replicate (4 - (lg_sl ([.ref (ad k), .int (jb p0), .long p1])).length) Slot.unset).toArray = ls at hl ⊢
  have hl : lv_has ls 4 [(0, .ref (ad k)), (1, .int (jb p0)), (2, .long p1)] := hl
  refine lv_iload_n hx hb md_F_signed_0 rfl (lv_at hl 1 rfl) ?_
  have J_2 : ∀ (z_3 : Int64) (ls : Array Slot), lv_has ls 4 [(0, .ref (ad k)), (1, .int (jb p0)), (2, .long p1)] → WP p l e mw_F_signed ({ frames := 0, cells := 0, slots := 0, locals := 0 } : Room) s m [.ref (ad k), .int (jb p0), .long p1] below meth c (vp_Sl (fun _ => True)) (F0 m 18 ls [.long z_3]) := by
    intro z_3 ls hl
    exact W.lret (v := z_3) hx hb hr (fun t ht2 _ => ⟨z_3, rfl, trivial, ht2⟩) (fun q h => by cases h) md_F_signed_18
  refine lv_if_eq (tgt := 17) hx hb md_F_signed_1 (by decide) (fun c_1 => ?_) (fun c_1 => ?_)
  · refine lv_lload_n hx hb md_F_signed_17 rfl (lv_at hl 2 rfl) ?_
    exact J_2 p1 ls (lv_sub hl [0, 1, 2] rfl)
  · refine lv_lload_n hx hb md_F_signed_4 rfl (lv_at hl 2 rfl) ?_
    refine lv_aload_n hx hb md_F_signed_5 rfl (lv_at hl 0 rfl) ?_
    refine va_getX hx hb hE.2.2.2.2.1 hk hS hown (ht _ tm_548) (fun _ h9 => h9) md_F_signed_6 ?_
    refine lv_ldc2 (v := (-1)) hx hb hown (ht _ tm_80) md_F_signed_9 ?_
    refine lv_lxor hx hb md_F_signed_12 ?_
    refine lv_lor hx hb md_F_signed_13 ?_
    refine lv_goto (tgt := 18) hx hb md_F_signed_14 (by decide) ?_
    exact J_2 (p1 ||| ((kf_m k) ^^^ (-1))) ls (lv_sub hl [0, 1, 2] rfl)
set_option maxHeartbeats 4000000 in
set_option maxRecDepth 100000 in
theorem mt_F_numberOf (l : Launch) (ad : Nat → Nat) (k : Nat) (hk : k < 2) (p0 : Int64) : Met l my_F_numberOf mw_F_numberOf ({ frames := 2, cells := 0, slots := 0, locals := 44 } : Room) (va_Pc [.ref (ad k), .long p0] (fun U => FW ad (fun _ => False) U U.heap)) (vp_Sl (fun _ => True)) 0 0 (fun _ => False) := by
  refine Met.ofW (cc := mc_F_numberOf) (maxL := 4) (ret := (some .long)) (by decide) rfl ?_
  intro p e s m args below meth c s₁ B hml hv
  obtain ⟨rfl, hE⟩ := hv
  have hx := B.exec
  have hb := B.bytes
  have hr := B.returns
  have hts := atoms_spec (ws := mw_F_numberOf) B.pre
  have ht : ∀ w ∈ gw_tbl, w.before _ s = true := fun w h => hts w (List.mem_cons_of_mem _ h)
  have hown : s.vm.findClass "NumberProbe$Format" = some m.cls := findClass_of_methodNamed B.named
  have hlocks := B.notSynchronized
  have hS : va_S (fun _ => False) s.heap s.heap [] := va_S.rf
  have hl := lv_entry ([.ref (ad k), .long p0]) (n := 4) (Nat.le_of_ble_eq_true rfl)
  rw [lg_entry_eq]
  generalize (lg_sl ([.ref (ad k), .long p0]) ++ List.replicate (4 - (lg_sl ([.ref (ad k), .long p0])).length) Slot.unset).toArray = ls at hl ⊢
  have hl : lv_has ls 4 [(0, .ref (ad k)), (1, .long p0)] := hl
  refine lv_lload_n hx hb md_F_numberOf_0 rfl (lv_at hl 1 rfl) ?_
  refine lv_aload_n hx hb md_F_numberOf_1 rfl (lv_at hl 0 rfl) ?_
  refine va_getX hx hb hE.2.2.2.2.1 hk hS hown (ht _ tm_548) (fun _ h9 => h9) md_F_numberOf_2 ?_
  refine lv_lconst (v := 1) hx hb md_F_numberOf_5 (by decide) ?_
  refine lv_ladd hx hb md_F_numberOf_6 ?_
  refine lv_land hx hb md_F_numberOf_7 ?_
  refine lv_lconst (v := 0) hx hb md_F_numberOf_8 (by decide) ?_
  refine W.lcmp hx hb md_F_numberOf_9 ?_
  have J_2 : ∀ (z_3 : Bool) (ls : Array Slot), lv_has ls 4 [(0, .ref (ad k)), (1, .long p0)] → WP p l e mw_F_numberOf ({ frames := 2, cells := 0, slots := 0, locals := 44 } : Room) s m [.ref (ad k), .long p0] below meth c (vp_Sl (fun _ => True)) (F0 m 18 ls [.int (jb z_3)]) := by
    intro z_3 ls hl
    refine lv_istore_n (lv' := [(3, .int (jb z_3)), (0, .ref (ad k)), (1, .long p0)]) hx hb md_F_numberOf_18 rfl hl (by decide) rfl (fun ls hl => ?_)
    refine lv_aload_n hx hb md_F_numberOf_19 rfl (lv_at hl 1 rfl) ?_
    refine lv_lload_n hx hb md_F_numberOf_20 rfl (lv_at hl 2 rfl) ?_
    refine vp_callSi (W.runV (C := "NumberProbe$Format") (As := [.long p0]) (rest := []) ⟨hx, hb, hml, hown, hts⟩ (mt_F_isNaN l ad k hk p0) (cwV 1 hts (gd_V tm_67 tm_68 tm_69 tm_27 tm_70) rfl rfl rfl (by decide +kernel) ⟨Nat.le_of_ble_eq_true rfl, Nat.le_of_ble_eq_true rfl⟩) ⟨fb_E, fw_recv hE hk hS, fun U hU hW => ⟨rfl, fw_use hE hS hU hW⟩⟩ rfl rfl hl.1 rfl (lv_room (Nat.le_of_ble_eq_true rfl)) md_F_numberOf_21 ⟨Nat.zero_le _, Nat.zero_le _⟩) (fun r_4 e_5 => ?_)
    obtain rfl : r_4 = jb (cf_nan k p0) := e_5
    have J_11 : ∀ (z_12 : Int64) (ls : Array Slot), lv_has ls 4 [(3, .int (jb z_3)), (0, .ref (ad k)), (1, .long p0)] → WP p l e mw_F_numberOf ({ frames := 2, cells := 0, slots := 0, locals := 44 } : Room) s m [.ref (ad k), .long p0] below meth c (vp_Sl (fun _ => True)) (F0 m 44 ls [.long z_12]) := by
      intro z_12 ls hl
      exact W.lret (v := z_12) hx hb hr (fun t ht2 _ => ⟨z_12, rfl, trivial, ht2⟩) (fun q h => by cases h) md_F_numberOf_44
    refine lv_if_eq (tgt := 34) hx hb md_F_numberOf_24 (by decide) (fun c_6 => ?_) (fun c_6 => ?_)
    · refine lv_aload_n hx hb md_F_numberOf_34 rfl (lv_at hl 1 rfl) ?_
      refine lv_iload_n hx hb md_F_numberOf_35 rfl (lv_at hl 0 rfl) ?_
      refine lv_aload_n hx hb md_F_numberOf_36 rfl (lv_at hl 1 rfl) ?_
      refine lv_lload_n hx hb md_F_numberOf_37 rfl (lv_at hl 2 rfl) ?_
      refine vp_callSl (W.runV (C := "NumberProbe$Format") (As := [.long p0]) (rest := [.int (jb z_3), .ref (ad k)]) ⟨hx, hb, hml, hown, hts⟩ (mt_F_magnitude l ad k hk p0) (cwV 1 hts (gd_V tm_71 tm_72 tm_73 tm_27 tm_74) rfl rfl rfl (by decide +kernel) ⟨Nat.le_of_ble_eq_true rfl, Nat.le_of_ble_eq_true rfl⟩) ⟨fb_E, fw_recv hE hk hS, fun U hU hW => ⟨rfl, fw_use hE hS hU hW⟩⟩ rfl rfl hl.1 rfl (lv_room (Nat.le_of_ble_eq_true rfl)) md_F_numberOf_38 ⟨Nat.zero_le _, Nat.zero_le _⟩) (fun r_13 e_14 => ?_)
      obtain rfl : r_13 = cf_mag k p0 := e_14
      refine vp_callSl (W.runV (C := "NumberProbe$Format") (As := [.int (jb z_3), .long (cf_mag k p0)]) (rest := []) ⟨hx, hb, hml, hown, hts⟩ (mt_F_signed l ad k hk z_3 (cf_mag k p0)) (cwV 2 hts (gd_V tm_75 tm_77 tm_0 tm_27 tm_79) rfl rfl rfl (by decide +kernel) ⟨Nat.le_of_ble_eq_true rfl, Nat.le_of_ble_eq_true rfl⟩) ⟨fb_E, fw_recv hE hk hS, fun U hU hW => ⟨rfl, fw_use hE hS hU hW⟩⟩ rfl rfl hl.1 rfl (lv_room (Nat.le_of_ble_eq_true rfl)) md_F_numberOf_41 ⟨Nat.zero_le _, Nat.zero_le _⟩) (fun r_15 e_16 => ?_)
      exact J_11 r_15 ls (lv_sub hl [0, 1, 2] rfl)
    · refine lv_aload_n hx hb md_F_numberOf_27 rfl (lv_at hl 1 rfl) ?_
      refine va_getX hx hb hE.2.2.2.2.2.2.1 hk hS hown (ht _ tm_550) (fun _ h9 => h9) md_F_numberOf_28 ?_
      refine lv_goto (tgt := 44) hx hb md_F_numberOf_31 (by decide) ?_
      exact J_11 (kf_n k) ls (lv_sub hl [0, 1, 2] rfl)
  refine lv_if_eq (tgt := 17) hx hb md_F_numberOf_10 (by decide) (fun c_1 => ?_) (fun c_1 => ?_)
  · refine lv_iconst (v := 0) hx hb md_F_numberOf_17 (by decide) ?_
    exact J_2 false ls (lv_sub hl [0, 1] rfl)
  · refine lv_iconst (v := 1) hx hb md_F_numberOf_13 (by decide) ?_
    refine lv_goto (tgt := 18) hx hb md_F_numberOf_14 (by decide) ?_
    exact J_2 true ls (lv_sub hl [0, 1] rfl)
set_option maxHeartbeats 4000000 in
set_option maxRecDepth 100000 in
theorem mt_F_exponentField (l : Launch) (ad : Nat → Nat) (k : Nat) (hk : k < 2) (p0 : Int64) : Met l my_F_exponentField mw_F_exponentField ({ frames := 0, cells := 0, slots := 0, locals := 0 } : Room) (va_Pc [.ref (ad k), .long p0] (fun U => FW ad (fun _ => False) U U.heap)) (vp_Si (fun r => r = cf_fld k p0)) 0 0 (fun _ => False) := by
  refine Met.ofW (cc := mc_F_exponentField) (maxL := 3) (ret := (some .int)) (by decide) rfl ?_
  intro p e s m args below meth c s₁ B hml hv
  obtain ⟨rfl, hE⟩ := hv
  have hx := B.exec
  have hb := B.bytes
  have hr := B.returns
  have hts := atoms_spec (ws := mw_F_exponentField) B.pre
  have ht : ∀ w ∈ gw_tbl, w.before _ s = true := fun w h => hts w (List.mem_cons_of_mem _ h)
  have hown : s.vm.findClass "NumberProbe$Format" = some m.cls := findClass_of_methodNamed B.named
  have hlocks := B.notSynchronized
  have hS : va_S (fun _ => False) s.heap s.heap [] := va_S.rf
  have hl := lv_entry ([.ref (ad k), .long p0]) (n := 3) (Nat.le_of_ble_eq_true rfl)
  rw [lg_entry_eq]
  generalize (lg_sl ([.ref (ad k), .long p0]) ++ List.replicate (3 - (lg_sl ([.ref (ad k), .long p0])).length) Slot.unset).toArray = ls at hl ⊢
  have hl : lv_has ls 3 [(0, .ref (ad k)), (1, .long p0)] := hl
  refine lv_lload_n hx hb md_F_exponentField_0 rfl (lv_at hl 1 rfl) ?_
  refine lv_aload_n hx hb md_F_exponentField_1 rfl (lv_at hl 0 rfl) ?_
  refine va_getX hx hb hE.2.1 hk hS hown (ht _ tm_552) (fun _ h9 => h9) md_F_exponentField_2 ?_
  refine lv_lushr (v := jl_ush p0 (kf_b k)) hx hb md_F_exponentField_5 rfl ?_
  refine lv_l2i (v := (jl_ush p0 (kf_b k)).toInt32) hx hb md_F_exponentField_6 rfl ?_
  refine lv_aload_n hx hb md_F_exponentField_7 rfl (lv_at hl 0 rfl) ?_
  refine va_getX hx hb hE.2.2.1 hk hS hown (ht _ tm_553) (fun _ h9 => h9) md_F_exponentField_8 ?_
  refine lv_iand hx hb md_F_exponentField_11 ?_
  have hq : ((jl_ush p0 (kf_b k)).toInt32) &&& (kf_s k) = cf_fld k p0 := by simp [cf_fld]
  exact W.iret (v := ((jl_ush p0 (kf_b k)).toInt32) &&& (kf_s k)) hx hb hr (fun t ht2 _ => ⟨(((jl_ush p0 (kf_b k)).toInt32) &&& (kf_s k)), rfl, hq, ht2⟩) (fun q h => by cases h) md_F_exponentField_12
set_option maxHeartbeats 4000000 in
set_option maxRecDepth 100000 in
theorem mt_F_significandOf (l : Launch) (ad : Nat → Nat) (k : Nat) (hk : k < 2) (p0 : Int64) : Met l my_F_significandOf mw_F_significandOf ({ frames := 1, cells := 0, slots := 0, locals := 22 } : Room) (va_Pc [.ref (ad k), .long p0] (fun U => FW ad (fun _ => False) U U.heap)) (vp_Sl (fun r => r = cf_sig k p0)) 0 0 (fun _ => False) := by
  refine Met.ofW (cc := mc_F_significandOf) (maxL := 5) (ret := (some .long)) (by decide) rfl ?_
  intro p e s m args below meth c s₁ B hml hv
  obtain ⟨rfl, hE⟩ := hv
  have hx := B.exec
  have hb := B.bytes
  have hr := B.returns
  have hts := atoms_spec (ws := mw_F_significandOf) B.pre
  have ht : ∀ w ∈ gw_tbl, w.before _ s = true := fun w h => hts w (List.mem_cons_of_mem _ h)
  have hown : s.vm.findClass "NumberProbe$Format" = some m.cls := findClass_of_methodNamed B.named
  have hlocks := B.notSynchronized
  have hS : va_S (fun _ => False) s.heap s.heap [] := va_S.rf
  have hl := lv_entry ([.ref (ad k), .long p0]) (n := 5) (Nat.le_of_ble_eq_true rfl)
  rw [lg_entry_eq]
  generalize (lg_sl ([.ref (ad k), .long p0]) ++ List.replicate (5 - (lg_sl ([.ref (ad k), .long p0])).length) Slot.unset).toArray = ls at hl ⊢
  have hl : lv_has ls 5 [(0, .ref (ad k)), (1, .long p0)] := hl
  refine lv_lload_n hx hb md_F_significandOf_0 rfl (lv_at hl 1 rfl) ?_
  refine lv_lconst (v := 1) hx hb md_F_significandOf_1 (by decide) ?_
  refine lv_aload_n hx hb md_F_significandOf_2 rfl (lv_at hl 0 rfl) ?_
  refine va_getX hx hb hE.2.1 hk hS hown (ht _ tm_552) (fun _ h9 => h9) md_F_significandOf_3 ?_
  refine lv_lshl (v := jl_shl 1 (kf_b k)) hx hb md_F_significandOf_6 rfl ?_
  refine lv_lconst (v := 1) hx hb md_F_significandOf_7 (by decide) ?_
  refine lv_lsub hx hb md_F_significandOf_8 ?_
  refine lv_land hx hb md_F_significandOf_9 ?_
  refine lv_lstore_n (lv' := [(3, .long (p0 &&& ((jl_shl 1 (kf_b k)) - 1))), (0, .ref (ad k)), (1, .long p0)]) hx hb md_F_significandOf_10 rfl hl (by decide) rfl (fun ls hl => ?_)
  refine lv_aload_n hx hb md_F_significandOf_11 rfl (lv_at hl 1 rfl) ?_
  refine lv_lload_n hx hb md_F_significandOf_12 rfl (lv_at hl 2 rfl) ?_
  refine vp_callSi (W.runV (C := "NumberProbe$Format") (As := [.long p0]) (rest := []) ⟨hx, hb, hml, hown, hts⟩ (mt_F_exponentField l ad k hk p0) (cwV 1 hts (gd_V tm_135 tm_137 tm_4 tm_27 tm_138) rfl rfl rfl (by decide +kernel) ⟨Nat.le_of_ble_eq_true rfl, Nat.le_of_ble_eq_true rfl⟩) ⟨fb_E, fw_recv hE hk hS, fun U hU hW => ⟨rfl, fw_use hE hS hU hW⟩⟩ rfl rfl hl.1 rfl (lv_room (Nat.le_of_ble_eq_true rfl)) md_F_significandOf_13 ⟨Nat.zero_le _, Nat.zero_le _⟩) (fun r_1 e_2 => ?_)
  obtain rfl : r_1 = cf_fld k p0 := e_2
  refine lv_if_ne (tgt := 23) hx hb md_F_significandOf_16 (by decide) (fun c_3 => ?_) (fun c_3 => ?_)
  · refine lv_lload_n hx hb md_F_significandOf_23 rfl (lv_at hl 0 rfl) ?_
    refine lv_lconst (v := 1) hx hb md_F_significandOf_24 (by decide) ?_
    refine lv_aload_n hx hb md_F_significandOf_25 rfl (lv_at hl 1 rfl) ?_
    refine va_getX hx hb hE.2.1 hk hS hown (ht _ tm_552) (fun _ h9 => h9) md_F_significandOf_26 ?_
    refine lv_lshl (v := jl_shl 1 (kf_b k)) hx hb md_F_significandOf_29 rfl ?_
    refine lv_lor hx hb md_F_significandOf_30 ?_
    have hq : (p0 &&& ((jl_shl 1 (kf_b k)) - 1)) ||| (jl_shl 1 (kf_b k)) = cf_sig k p0 := by simp [cf_sig, c_3]
    exact W.lret (v := (p0 &&& ((jl_shl 1 (kf_b k)) - 1)) ||| (jl_shl 1 (kf_b k))) hx hb hr (fun t ht2 _ => ⟨((p0 &&& ((jl_shl 1 (kf_b k)) - 1)) ||| (jl_shl 1 (kf_b k))), rfl, hq, ht2⟩) (fun q h => by cases h) md_F_significandOf_31
  · refine lv_lload_n hx hb md_F_significandOf_19 rfl (lv_at hl 0 rfl) ?_
    refine lv_goto (tgt := 31) hx hb md_F_significandOf_20 (by decide) ?_
    have hq : p0 &&& ((jl_shl 1 (kf_b k)) - 1) = cf_sig k p0 := by simp [cf_sig, c_3]
    exact W.lret (v := p0 &&& ((jl_shl 1 (kf_b k)) - 1)) hx hb hr (fun t ht2 _ => ⟨(p0 &&& ((jl_shl 1 (kf_b k)) - 1)), rfl, hq, ht2⟩) (fun q h => by cases h) md_F_significandOf_31
set_option maxHeartbeats 4000000 in
set_option maxRecDepth 100000 in
theorem mt_F_exponentOf (l : Launch) (ad : Nat → Nat) (k : Nat) (hk : k < 2) (p0 : Int64) : Met l my_F_exponentOf mw_F_exponentOf ({ frames := 1, cells := 0, slots := 0, locals := 23 } : Room) (va_Pc [.ref (ad k), .long p0] (fun U => FW ad (fun _ => False) U U.heap)) (vp_Si (fun r => r = cf_exp k p0)) 0 0 (fun _ => False) := by
  refine Met.ofW (cc := mc_F_exponentOf) (maxL := 3) (ret := (some .int)) (by decide) rfl ?_
  intro p e s m args below meth c s₁ B hml hv
  obtain ⟨rfl, hE⟩ := hv
  have hx := B.exec
  have hb := B.bytes
  have hr := B.returns
  have hts := atoms_spec (ws := mw_F_exponentOf) B.pre
  have ht : ∀ w ∈ gw_tbl, w.before _ s = true := fun w h => hts w (List.mem_cons_of_mem _ h)
  have hown : s.vm.findClass "NumberProbe$Format" = some m.cls := findClass_of_methodNamed B.named
  have hlocks := B.notSynchronized
  have hS : va_S (fun _ => False) s.heap s.heap [] := va_S.rf
  have hl := lv_entry ([.ref (ad k), .long p0]) (n := 3) (Nat.le_of_ble_eq_true rfl)
  rw [lg_entry_eq]
  generalize (lg_sl ([.ref (ad k), .long p0]) ++ List.replicate (3 - (lg_sl ([.ref (ad k), .long p0])).length) Slot.unset).toArray = ls at hl ⊢
  have hl : lv_has ls 3 [(0, .ref (ad k)), (1, .long p0)] := hl
  refine lv_aload_n hx hb md_F_exponentOf_0 rfl (lv_at hl 0 rfl) ?_
  refine va_getX hx hb hE.2.2.2.1 hk hS hown (ht _ tm_551) (fun _ h9 => h9) md_F_exponentOf_1 ?_
  refine lv_aload_n hx hb md_F_exponentOf_4 rfl (lv_at hl 0 rfl) ?_
  refine lv_lload_n hx hb md_F_exponentOf_5 rfl (lv_at hl 1 rfl) ?_
  refine vp_callSi (W.runV (C := "NumberProbe$Format") (As := [.long p0]) (rest := [.int (kf_l k)]) ⟨hx, hb, hml, hown, hts⟩ (mt_F_exponentField l ad k hk p0) (cwV 1 hts (gd_V tm_135 tm_137 tm_4 tm_27 tm_138) rfl rfl rfl (by decide +kernel) ⟨Nat.le_of_ble_eq_true rfl, Nat.le_of_ble_eq_true rfl⟩) ⟨fb_E, fw_recv hE hk hS, fun U hU hW => ⟨rfl, fw_use hE hS hU hW⟩⟩ rfl rfl hl.1 rfl (lv_room (Nat.le_of_ble_eq_true rfl)) md_F_exponentOf_6 ⟨Nat.zero_le _, Nat.zero_le _⟩) (fun r_1 e_2 => ?_)
  obtain rfl : r_1 = cf_fld k p0 := e_2
  refine lv_iconst (v := 1) hx hb md_F_exponentOf_9 (by decide) ?_
  refine va_mmax hx hb (by rw [hml]; exact hl.1.symm) hown (ht _ tm_139) (ht _ tm_140) (ht _ tm_28) (ht _ tm_141) (Nat.le_of_ble_eq_true rfl) (Nat.le_of_ble_eq_true rfl) (Nat.zero_le _) (Nat.zero_le _) md_F_exponentOf_10 ?_
  refine lv_iadd hx hb md_F_exponentOf_13 ?_
  refine lv_iconst (v := 1) hx hb md_F_exponentOf_14 (by decide) ?_
  refine lv_isub hx hb md_F_exponentOf_15 ?_
  have hq : ((kf_l k) + (if (cf_fld k p0) < 1 then 1 else (cf_fld k p0))) - 1 = cf_exp k p0 := by simp [cf_exp]
  exact W.iret (v := ((kf_l k) + (if (cf_fld k p0) < 1 then 1 else (cf_fld k p0))) - 1) hx hb hr (fun t ht2 _ => ⟨(((kf_l k) + (if (cf_fld k p0) < 1 then 1 else (cf_fld k p0))) - 1), rfl, hq, ht2⟩) (fun q h => by cases h) md_F_exponentOf_16
set_option maxHeartbeats 4000000 in
set_option maxRecDepth 100000 in
theorem mt_F_widening (l : Launch) (p0 : Int64) : Met l my_F_widening mw_F_widening ({ frames := 2, cells := 0, slots := 0, locals := 43 } : Room) (va_Pc [.long p0] (fun _ => True)) (vp_Si (fun r => r = cf_wid p0)) 0 0 (fun _ => False) := by
  refine Met.ofW (cc := mc_F_widening) (maxL := 2) (ret := (some .int)) (by decide) rfl ?_
  intro p e s m args below meth c s₁ B hml hv
  obtain ⟨rfl, -⟩ := hv
  have hx := B.exec
  have hb := B.bytes
  have hr := B.returns
  have hts := atoms_spec (ws := mw_F_widening) B.pre
  have ht : ∀ w ∈ gw_tbl, w.before _ s = true := fun w h => hts w (List.mem_cons_of_mem _ h)
  have hown : s.vm.findClass "NumberProbe$Format" = some m.cls := findClass_of_methodNamed B.named
  have hlocks := B.notSynchronized
  have hl := lv_entry ([.long p0]) (n := 2) (Nat.le_of_ble_eq_true rfl)
  rw [lg_entry_eq]
  generalize (lg_sl ([.long p0]) ++ List.replicate (2 - (lg_sl ([.long p0])).length) Slot.unset).toArray = ls at hl ⊢
  have hl : lv_has ls 2 [(0, .long p0)] := hl
  refine lv_lload_n hx hb md_F_widening_0 rfl (lv_at hl 0 rfl) ?_
  refine vp_callSi (W.runS (As := [.long p0]) (rest := []) ⟨hx, hb, hml, hown, hts⟩ (mt_JL_numberOfLeadingZeros l p0) (va_cwS 1 hts (gd_S tm_156 tm_157 tm_29 tm_158) rfl rfl rfl (by decide +kernel) ⟨Nat.le_of_ble_eq_true rfl, Nat.le_of_ble_eq_true rfl⟩) ⟨fb_0, fun U hU hW => ⟨rfl, trivial⟩⟩ rfl rfl hl.1 rfl (lv_room (Nat.le_of_ble_eq_true rfl)) md_F_widening_1 ⟨Nat.zero_le _, Nat.zero_le _⟩) (fun r_1 e_2 => ?_)
  obtain rfl : r_1 = jd_nlz p0 := e_2
  refine lv_bipush (v := 11) hx hb md_F_widening_4 (by decide) ?_
  refine lv_isub hx hb md_F_widening_6 ?_
  have hq : (jd_nlz p0) - 11 = cf_wid p0 := by simp [cf_wid]
  exact W.iret (v := (jd_nlz p0) - 11) hx hb hr (fun t ht2 _ => ⟨((jd_nlz p0) - 11), rfl, hq, ht2⟩) (fun q h => by cases h) md_F_widening_7
set_option maxHeartbeats 4000000 in
set_option maxRecDepth 100000 in
theorem mt_F_digitOf (l : Launch) (p0 : Int64) (p1 : Int32) : Met l my_F_digitOf mw_F_digitOf ({ frames := 0, cells := 0, slots := 0, locals := 0 } : Room) (va_Pc [.long p0, .int p1] (fun _ => True)) (vp_Sl (fun _ => True)) 0 0 (fun _ => False) := by
  refine Met.ofW (cc := mc_F_digitOf) (maxL := 3) (ret := (some .long)) (by decide) rfl ?_
  intro p e s m args below meth c s₁ B hml hv
  obtain ⟨rfl, -⟩ := hv
  have hx := B.exec
  have hb := B.bytes
  have hr := B.returns
  have hts := atoms_spec (ws := mw_F_digitOf) B.pre
  have ht : ∀ w ∈ gw_tbl, w.before _ s = true := fun w h => hts w (List.mem_cons_of_mem _ h)
  have hown : s.vm.findClass "NumberProbe$Format" = some m.cls := findClass_of_methodNamed B.named
  have hlocks := B.notSynchronized
  have hl := lv_entry ([.long p0, .int p1]) (n := 3) (Nat.le_of_ble_eq_true rfl)
  rw [lg_entry_eq]
  generalize (lg_sl ([.long p0, .int p1]) ++ List.replicate (3 - (lg_sl ([.long p0, .int p1])).length) Slot.unset).toArray = ls at hl ⊢
  have hl : lv_has ls 3 [(0, .long p0), (2, .int p1)] := hl
  refine lv_lload_n hx hb md_F_digitOf_0 rfl (lv_at hl 0 rfl) ?_
  refine lv_iload_n hx hb md_F_digitOf_1 rfl (lv_at hl 1 rfl) ?_
  refine lv_bipush (v := 10) hx hb md_F_digitOf_2 (by decide) ?_
  refine lv_imul hx hb md_F_digitOf_4 ?_
  refine lv_lushr (v := jl_ush p0 (p1 * 10)) hx hb md_F_digitOf_5 rfl ?_
  refine lv_ldc2 (v := 1023) hx hb hown (ht _ tm_188) md_F_digitOf_6 ?_
  refine lv_land hx hb md_F_digitOf_9 ?_
  exact W.lret (v := (jl_ush p0 (p1 * 10)) &&& 1023) hx hb hr (fun t ht2 _ => ⟨((jl_ush p0 (p1 * 10)) &&& 1023), rfl, trivial, ht2⟩) (fun q h => by cases h) md_F_digitOf_10
set_option maxHeartbeats 4000000 in
set_option maxRecDepth 100000 in
theorem mt_F_rankInSorting (l : Launch) (ad : Nat → Nat) (k : Nat) (hk : k < 2) (p0 : Int64) : Met l my_F_rankInSorting mw_F_rankInSorting ({ frames := 0, cells := 0, slots := 0, locals := 0 } : Room) (va_Pc [.ref (ad k), .long p0] (fun U => FW ad (fun _ => False) U U.heap)) (vp_Sl (fun r => r = cf_ris k p0)) 0 0 (fun _ => False) := by
  refine Met.ofW (cc := mc_F_rankInSorting) (maxL := 3) (ret := (some .long)) (by decide) rfl ?_
  intro p e s m args below meth c s₁ B hml hv
  obtain ⟨rfl, hE⟩ := hv
  have hx := B.exec
  have hb := B.bytes
  have hr := B.returns
  have hts := atoms_spec (ws := mw_F_rankInSorting) B.pre
  have ht : ∀ w ∈ gw_tbl, w.before _ s = true := fun w h => hts w (List.mem_cons_of_mem _ h)
  have hown : s.vm.findClass "NumberProbe$Format" = some m.cls := findClass_of_methodNamed B.named
  have hlocks := B.notSynchronized
  have hS : va_S (fun _ => False) s.heap s.heap [] := va_S.rf
  have hl := lv_entry ([.ref (ad k), .long p0]) (n := 3) (Nat.le_of_ble_eq_true rfl)
  rw [lg_entry_eq]
  generalize (lg_sl ([.ref (ad k), .long p0]) ++ List.replicate (3 - (lg_sl ([.ref (ad k), .long p0])).length) Slot.unset).toArray = ls at hl ⊢
  have hl : lv_has ls 3 [(0, .ref (ad k)), (1, .long p0)] := hl
  refine lv_lload_n hx hb md_F_rankInSorting_0 rfl (lv_at hl 1 rfl) ?_
  refine lv_lconst (v := 0) hx hb md_F_rankInSorting_1 (by decide) ?_
  refine W.lcmp hx hb md_F_rankInSorting_2 ?_
  refine lv_if_ge (tgt := 15) hx hb md_F_rankInSorting_3 (by decide) (fun c_1 => ?_) (fun c_1 => ?_)
  · refine lv_lload_n hx hb md_F_rankInSorting_15 rfl (lv_at hl 1 rfl) ?_
    have hq : p0 = cf_ris k p0 := by simp [cf_ris, ((lg_cmp_ge _ _).mp c_1)]
    exact W.lret (v := p0) hx hb hr (fun t ht2 _ => ⟨p0, rfl, hq, ht2⟩) (fun q h => by cases h) md_F_rankInSorting_16
  · refine lv_lload_n hx hb md_F_rankInSorting_6 rfl (lv_at hl 1 rfl) ?_
    refine lv_aload_n hx hb md_F_rankInSorting_7 rfl (lv_at hl 0 rfl) ?_
    refine va_getX hx hb hE.2.2.2.2.1 hk hS hown (ht _ tm_548) (fun _ h9 => h9) md_F_rankInSorting_8 ?_
    refine lv_lxor hx hb md_F_rankInSorting_11 ?_
    refine lv_goto (tgt := 16) hx hb md_F_rankInSorting_12 (by decide) ?_
    have hq : p0 ^^^ (kf_m k) = cf_ris k p0 := by simp [cf_ris, (mt (lg_cmp_ge _ _).mpr c_1)]
    exact W.lret (v := p0 ^^^ (kf_m k)) hx hb hr (fun t ht2 _ => ⟨(p0 ^^^ (kf_m k)), rfl, hq, ht2⟩) (fun q h => by cases h) md_F_rankInSorting_16
set_option maxHeartbeats 4000000 in
set_option maxRecDepth 100000 in
theorem mt_F_rankByValue (l : Launch) (ad : Nat → Nat) (k : Nat) (hk : k < 2) (p0 : Int64) : Met l my_F_rankByValue mw_F_rankByValue ({ frames := 2, cells := 0, slots := 0, locals := 44 } : Room) (va_Pc [.ref (ad k), .long p0] (fun U => FW ad (fun _ => False) U U.heap)) (vp_Sl (fun r => r = cf_rbv k p0)) 0 0 (fun _ => False) := by
  refine Met.ofW (cc := mc_F_rankByValue) (maxL := 3) (ret := (some .long)) (by decide) rfl ?_
  intro p e s m args below meth c s₁ B hml hv
  obtain ⟨rfl, hE⟩ := hv
  have hx := B.exec
  have hb := B.bytes
  have hr := B.returns
  have hts := atoms_spec (ws := mw_F_rankByValue) B.pre
  have ht : ∀ w ∈ gw_tbl, w.before _ s = true := fun w h => hts w (List.mem_cons_of_mem _ h)
  have hown : s.vm.findClass "NumberProbe$Format" = some m.cls := findClass_of_methodNamed B.named
  have hlocks := B.notSynchronized
  have hS : va_S (fun _ => False) s.heap s.heap [] := va_S.rf
  have hl := lv_entry ([.ref (ad k), .long p0]) (n := 3) (Nat.le_of_ble_eq_true rfl)
  rw [lg_entry_eq]
  generalize (lg_sl ([.ref (ad k), .long p0]) ++ List.replicate (3 - (lg_sl ([.ref (ad k), .long p0])).length) Slot.unset).toArray = ls at hl ⊢
  have hl : lv_has ls 3 [(0, .ref (ad k)), (1, .long p0)] := hl
  refine lv_aload_n hx hb md_F_rankByValue_0 rfl (lv_at hl 0 rfl) ?_
  refine lv_lload_n hx hb md_F_rankByValue_1 rfl (lv_at hl 1 rfl) ?_
  refine vp_callSi (W.runV (C := "NumberProbe$Format") (As := [.long p0]) (rest := []) ⟨hx, hb, hml, hown, hts⟩ (mt_F_isZero l ad k hk p0) (cwV 1 hts (gd_V tm_174 tm_176 tm_7 tm_27 tm_177) rfl rfl rfl (by decide +kernel) ⟨Nat.le_of_ble_eq_true rfl, Nat.le_of_ble_eq_true rfl⟩) ⟨fb_E, fw_recv hE hk hS, fun U hU hW => ⟨rfl, fw_use hE hS hU hW⟩⟩ rfl rfl hl.1 rfl (lv_room (Nat.le_of_ble_eq_true rfl)) md_F_rankByValue_2 ⟨Nat.zero_le _, Nat.zero_le _⟩) (fun r_1 e_2 => ?_)
  obtain rfl : r_1 = jb (cf_zer k p0) := e_2
  refine lv_if_eq (tgt := 12) hx hb md_F_rankByValue_5 (by decide) (fun c_3 => ?_) (fun c_3 => ?_)
  · refine lv_aload_n hx hb md_F_rankByValue_12 rfl (lv_at hl 0 rfl) ?_
    refine lv_lload_n hx hb md_F_rankByValue_13 rfl (lv_at hl 1 rfl) ?_
    refine vp_callSl (W.runV (C := "NumberProbe$Format") (As := [.long p0]) (rest := []) ⟨hx, hb, hml, hown, hts⟩ (mt_F_rankInSorting l ad k hk p0) (cwV 1 hts (gd_V tm_208 tm_209 tm_210 tm_27 tm_211) rfl rfl rfl (by decide +kernel) ⟨Nat.le_of_ble_eq_true rfl, Nat.le_of_ble_eq_true rfl⟩) ⟨fb_E, fw_recv hE hk hS, fun U hU hW => ⟨rfl, fw_use hE hS hU hW⟩⟩ rfl rfl hl.1 rfl (lv_room (Nat.le_of_ble_eq_true rfl)) md_F_rankByValue_14 ⟨Nat.zero_le _, Nat.zero_le _⟩) (fun r_4 e_5 => ?_)
    obtain rfl : r_4 = cf_ris k p0 := e_5
    have hq : cf_ris k p0 = cf_rbv k p0 := by simp [cf_rbv, (jb_0.mp c_3)]
    exact W.lret (v := cf_ris k p0) hx hb hr (fun t ht2 _ => ⟨(cf_ris k p0), rfl, hq, ht2⟩) (fun q h => by cases h) md_F_rankByValue_17
  · refine lv_lconst (v := 0) hx hb md_F_rankByValue_8 (by decide) ?_
    refine lv_goto (tgt := 17) hx hb md_F_rankByValue_9 (by decide) ?_
    have hq : 0 = cf_rbv k p0 := by simp [cf_rbv, (jb_n0.mp c_3)]
    exact W.lret (v := 0) hx hb hr (fun t ht2 _ => ⟨0, rfl, hq, ht2⟩) (fun q h => by cases h) md_F_rankByValue_17
