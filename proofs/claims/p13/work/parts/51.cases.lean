set_option maxHeartbeats 4000000 in
set_option maxRecDepth 100000 in
theorem lc_0 {p : Program} {l : Launch} {e : Env} {s : State} {m : MethodId} {below : List Frame} {meth : Method} {c : Code} {D : va_G} {cL cO : ClassId} {h1 q1 h2 q2 : Nat} {g ad tb : Nat → Nat} {b L : Nat} {xs : Nat → Int32} (hL : L ≤ 3072) (C0 : lw_At p s m meth c b L xs) (hK : va_K D cls9 (NK cL cO) s) (hE : FW ad (fun q : Nat => s.heap.size ≤ q) s s.heap) (hT : TW tb (fun q : Nat => s.heap.size ≤ q) s s.heap) {j : Nat} (hj6 : j + 6 ≤ L) (u : Nat → Nat → Int64) (v : MT) (H : Heap) (locs : List Loc) (hM : LWd D cL cO h1 q1 g h2 q2 (fun q : Nat => s.heap.size ≤ q) u v H) (hS : va_S (fun q : Nat => s.heap.size ≤ q) s.heap H locs) (ls : Array Slot) (hl : lv_has ls 4 [(0, .ref b), (1, .ref h1), (2, .ref h2), (3, .int (nI j))])
    (kk : ∀ (u : Nat → Nat → Int64) (v : MT) (H : Heap) (locs : List Loc) (ls : Array Slot), LWd D cL cO h1 q1 g h2 q2 (fun q : Nat => s.heap.size ≤ q) u v H → va_S (fun q : Nat => s.heap.size ≤ q) s.heap H locs → lv_has ls 4 [(0, .ref b), (1, .ref h1), (2, .ref h2), (3, .int (nI j))] → W p l e room_1 s m #[Value.ref b] below meth c H locs 8 65 (lw_Z below #[Value.ref b] s) (F0 m 672 ls [])) : W p l e room_1 s m #[Value.ref b] below meth c H locs 8 65 (lw_Z below #[Value.ref b] s) (F0 m 96 ls []) := by
  obtain ⟨hx, hb, hr, hml, hown, hts, hX, hbl, hlocks, hgv⟩ := C0
  have hA : ∀ q : Nat, s.heap.size ≤ q → (fun q : Nat => s.heap.size ≤ q) q := fun _ h => h
  have hbA : ¬ (fun q : Nat => s.heap.size ≤ q) b := Nat.not_le.mpr hbl
  have ht : ∀ w ∈ lw_tbl, w.before #[Value.ref b] s = true := hts
  refine lv_aload_n hx hb md_L_law_96 rfl (lv_at hl 1 rfl) ?_
  refine lv_aload_n hx hb md_L_law_97 rfl (lv_at hl 0 rfl) ?_
  refine lv_iload_n hx hb md_L_law_98 rfl (lv_at hl 3 rfl) ?_
  refine lv_iconst (v := 1) hx hb md_L_law_99 (by decide) ?_
  refine lv_iadd hx hb md_L_law_100 ?_
  refine va_sld hx hb hX hbl hbA hS (ix_in (k := 1) hj6 (by decide) hL) md_L_law_101 ?_
  refine lv_aload_n hx hb md_L_law_102 rfl (lv_at hl 0 rfl) ?_
  refine lv_iload_n hx hb md_L_law_103 rfl (lv_at hl 3 rfl) ?_
  refine lv_iconst (v := 2) hx hb md_L_law_104 (by decide) ?_
  refine lv_iadd hx hb md_L_law_105 ?_
  refine va_sld hx hb hX hbl hbA hS (ix_in (k := 2) hj6 (by decide) hL) md_L_law_106 ?_
  refine lv_aload_n hx hb md_L_law_107 rfl (lv_at hl 0 rfl) ?_
  refine lv_iload_n hx hb md_L_law_108 rfl (lv_at hl 3 rfl) ?_
  refine lv_iconst (v := 3) hx hb md_L_law_109 (by decide) ?_
  refine lv_iadd hx hb md_L_law_110 ?_
  refine va_sld hx hb hX hbl hbA hS (ix_in (k := 3) hj6 (by decide) hL) md_L_law_111 ?_
  refine lv_i2l (v := (xs ((nI j) + 3).toNatClampNeg).toInt64) hx hb md_L_law_112 rfl ?_
  refine lv_bipush (v := 32) hx hb md_L_law_113 (by decide) ?_
  refine lv_lshl (v := jl_shl ((xs ((nI j) + 3).toNatClampNeg).toInt64) 32) hx hb md_L_law_115 rfl ?_
  refine lv_aload_n hx hb md_L_law_116 rfl (lv_at hl 0 rfl) ?_
  refine lv_iload_n hx hb md_L_law_117 rfl (lv_at hl 3 rfl) ?_
  refine lv_iconst (v := 4) hx hb md_L_law_118 (by decide) ?_
  refine lv_iadd hx hb md_L_law_119 ?_
  refine va_sld hx hb hX hbl hbA hS (ix_in (k := 4) hj6 (by decide) hL) md_L_law_120 ?_
  refine lv_i2l (v := (xs ((nI j) + 4).toNatClampNeg).toInt64) hx hb md_L_law_121 rfl ?_
  refine lv_ldc2 (v := 4294967295) hx hb hown (ht _ (lw_gw tm_547)) md_L_law_122 ?_
  refine lv_land hx hb md_L_law_125 ?_
  refine lv_lor hx hb md_L_law_126 ?_
  refine l_ncalli (va_runV (C := "NumberProbe") (As := [.int (xs ((nI j) + 1).toNatClampNeg), .int (xs ((nI j) + 2).toNatClampNeg), .long ((jl_shl ((xs ((nI j) + 3).toNatClampNeg).toInt64) 32) ||| (((xs ((nI j) + 4).toNatClampNeg).toInt64) &&& 4294967295))]) (rest := []) ⟨hx, hb, hml, hown, hts⟩ (mt_N_put l D cL cO h1 q1 g ad tb _ u (xs ((nI j) + 1).toNatClampNeg) (xs ((nI j) + 2).toNatClampNeg) ((jl_shl ((xs ((nI j) + 3).toNatClampNeg).toInt64) 32) ||| (((xs ((nI j) + 4).toNatClampNeg).toInt64) &&& 4294967295))) (cwV 3 hts (gl_V tm_46 tm_47 tm_48 tm_24 tm_49) rfl rfl rfl (by decide +kernel) ⟨Nat.le_of_ble_eq_true rfl, Nat.le_of_ble_eq_true rfl⟩) (l_nin hK hE hT hM hS hA) rfl rfl hl.1 rfl (lv_room (Nat.le_of_ble_eq_true rfl)) md_L_law_127 ⟨Nat.le_of_ble_eq_true rfl, Nat.le_of_ble_eq_true rfl⟩) hM hS hA (fun r_1 u_3 H_4 L_5 e_2 hM hS => ?_)
  refine lv_pop hx hb md_L_law_130 rfl ?_
  refine lv_aload_n hx hb md_L_law_131 rfl (lv_at hl 2 rfl) ?_
  refine lv_aload_n hx hb md_L_law_132 rfl (lv_at hl 0 rfl) ?_
  refine lv_iload_n hx hb md_L_law_133 rfl (lv_at hl 3 rfl) ?_
  refine lv_iconst (v := 1) hx hb md_L_law_134 (by decide) ?_
  refine lv_iadd hx hb md_L_law_135 ?_
  refine va_sld hx hb hX hbl hbA hS (ix_in (k := 1) hj6 (by decide) hL) md_L_law_136 ?_
  refine lv_aload_n hx hb md_L_law_137 rfl (lv_at hl 0 rfl) ?_
  refine lv_iload_n hx hb md_L_law_138 rfl (lv_at hl 3 rfl) ?_
  refine lv_iconst (v := 2) hx hb md_L_law_139 (by decide) ?_
  refine lv_iadd hx hb md_L_law_140 ?_
  refine va_sld hx hb hX hbl hbA hS (ix_in (k := 2) hj6 (by decide) hL) md_L_law_141 ?_
  refine lv_aload_n hx hb md_L_law_142 rfl (lv_at hl 0 rfl) ?_
  refine lv_iload_n hx hb md_L_law_143 rfl (lv_at hl 3 rfl) ?_
  refine lv_iconst (v := 3) hx hb md_L_law_144 (by decide) ?_
  refine lv_iadd hx hb md_L_law_145 ?_
  refine va_sld hx hb hX hbl hbA hS (ix_in (k := 3) hj6 (by decide) hL) md_L_law_146 ?_
  refine lv_i2l (v := (xs ((nI j) + 3).toNatClampNeg).toInt64) hx hb md_L_law_147 rfl ?_
  refine lv_bipush (v := 32) hx hb md_L_law_148 (by decide) ?_
  refine lv_lshl (v := jl_shl ((xs ((nI j) + 3).toNatClampNeg).toInt64) 32) hx hb md_L_law_150 rfl ?_
  refine lv_aload_n hx hb md_L_law_151 rfl (lv_at hl 0 rfl) ?_
  refine lv_iload_n hx hb md_L_law_152 rfl (lv_at hl 3 rfl) ?_
  refine lv_iconst (v := 4) hx hb md_L_law_153 (by decide) ?_
  refine lv_iadd hx hb md_L_law_154 ?_
  refine va_sld hx hb hX hbl hbA hS (ix_in (k := 4) hj6 (by decide) hL) md_L_law_155 ?_
  refine lv_i2l (v := (xs ((nI j) + 4).toNatClampNeg).toInt64) hx hb md_L_law_156 rfl ?_
  refine lv_ldc2 (v := 4294967295) hx hb hown (ht _ (lw_gw tm_547)) md_L_law_157 ?_
  refine lv_land hx hb md_L_law_160 ?_
  refine lv_lor hx hb md_L_law_161 ?_
  refine l_mcalli (va_runV (C := "NumberProbeModel") (As := [.int (xs ((nI j) + 1).toNatClampNeg), .int (xs ((nI j) + 2).toNatClampNeg), .long ((jl_shl ((xs ((nI j) + 3).toNatClampNeg).toInt64) 32) ||| (((xs ((nI j) + 4).toNatClampNeg).toInt64) &&& 4294967295))]) (rest := []) ⟨hx, hb, hml, hown, hts⟩ (mt_M_put l D cL h2 q2 _ v (xs ((nI j) + 1).toNatClampNeg) (xs ((nI j) + 2).toNatClampNeg) ((jl_shl ((xs ((nI j) + 3).toNatClampNeg).toInt64) 32) ||| (((xs ((nI j) + 4).toNatClampNeg).toInt64) &&& 4294967295))) (cwV 3 hts (gl_V tm_355 tm_356 tm_357 tm_25 tm_358) rfl rfl rfl (by decide +kernel) ⟨Nat.le_of_ble_eq_true rfl, Nat.le_of_ble_eq_true rfl⟩) (l_min hK hM) rfl rfl hl.1 rfl (lv_room (Nat.le_of_ble_eq_true rfl)) md_L_law_162 ⟨Nat.le_of_ble_eq_true rfl, Nat.le_of_ble_eq_true rfl⟩) hM hS hA (fun r_6 v_8 H_9 L_10 e_7 hM hS => ?_)
  refine lv_pop hx hb md_L_law_165 rfl ?_
  refine lv_goto (tgt := 672) hx hb md_L_law_166 (by decide) ?_
  exact kk _ _ _ _ ls hM hS (lv_sub hl [0, 1, 2, 3] rfl)
set_option maxHeartbeats 4000000 in
set_option maxRecDepth 100000 in
theorem lc_1 {p : Program} {l : Launch} {e : Env} {s : State} {m : MethodId} {below : List Frame} {meth : Method} {c : Code} {D : va_G} {cL cO : ClassId} {h1 q1 h2 q2 : Nat} {g ad tb : Nat → Nat} {b L : Nat} {xs : Nat → Int32} (hL : L ≤ 3072) (C0 : lw_At p s m meth c b L xs) (hK : va_K D cls9 (NK cL cO) s) (hE : FW ad (fun q : Nat => s.heap.size ≤ q) s s.heap) (hT : TW tb (fun q : Nat => s.heap.size ≤ q) s s.heap) {j : Nat} (hj6 : j + 6 ≤ L) (u : Nat → Nat → Int64) (v : MT) (H : Heap) (locs : List Loc) (hM : LWd D cL cO h1 q1 g h2 q2 (fun q : Nat => s.heap.size ≤ q) u v H) (hS : va_S (fun q : Nat => s.heap.size ≤ q) s.heap H locs) (ls : Array Slot) (hl : lv_has ls 4 [(0, .ref b), (1, .ref h1), (2, .ref h2), (3, .int (nI j))])
    (kk : ∀ (u : Nat → Nat → Int64) (v : MT) (H : Heap) (locs : List Loc) (ls : Array Slot), LWd D cL cO h1 q1 g h2 q2 (fun q : Nat => s.heap.size ≤ q) u v H → va_S (fun q : Nat => s.heap.size ≤ q) s.heap H locs → lv_has ls 4 [(0, .ref b), (1, .ref h1), (2, .ref h2), (3, .int (nI j))] → W p l e room_1 s m #[Value.ref b] below meth c H locs 8 65 (lw_Z below #[Value.ref b] s) (F0 m 672 ls [])) : W p l e room_1 s m #[Value.ref b] below meth c H locs 8 65 (lw_Z below #[Value.ref b] s) (F0 m 169 ls []) := by
  obtain ⟨hx, hb, hr, hml, hown, hts, hX, hbl, hlocks, hgv⟩ := C0
  have hA : ∀ q : Nat, s.heap.size ≤ q → (fun q : Nat => s.heap.size ≤ q) q := fun _ h => h
  have hbA : ¬ (fun q : Nat => s.heap.size ≤ q) b := Nat.not_le.mpr hbl
  have ht : ∀ w ∈ lw_tbl, w.before #[Value.ref b] s = true := hts
  refine lv_aload_n hx hb md_L_law_169 rfl (lv_at hl 1 rfl) ?_
  refine lv_aload_n hx hb md_L_law_170 rfl (lv_at hl 0 rfl) ?_
  refine lv_iload_n hx hb md_L_law_171 rfl (lv_at hl 3 rfl) ?_
  refine lv_iconst (v := 1) hx hb md_L_law_172 (by decide) ?_
  refine lv_iadd hx hb md_L_law_173 ?_
  refine va_sld hx hb hX hbl hbA hS (ix_in (k := 1) hj6 (by decide) hL) md_L_law_174 ?_
  refine lv_aload_n hx hb md_L_law_175 rfl (lv_at hl 0 rfl) ?_
  refine lv_iload_n hx hb md_L_law_176 rfl (lv_at hl 3 rfl) ?_
  refine lv_iconst (v := 2) hx hb md_L_law_177 (by decide) ?_
  refine lv_iadd hx hb md_L_law_178 ?_
  refine va_sld hx hb hX hbl hbA hS (ix_in (k := 2) hj6 (by decide) hL) md_L_law_179 ?_
  refine lv_aload_n hx hb md_L_law_180 rfl (lv_at hl 0 rfl) ?_
  refine lv_iload_n hx hb md_L_law_181 rfl (lv_at hl 3 rfl) ?_
  refine lv_iconst (v := 3) hx hb md_L_law_182 (by decide) ?_
  refine lv_iadd hx hb md_L_law_183 ?_
  refine va_sld hx hb hX hbl hbA hS (ix_in (k := 3) hj6 (by decide) hL) md_L_law_184 ?_
  refine l_ncalli (va_runV (C := "NumberProbe") (As := [.int (xs ((nI j) + 1).toNatClampNeg), .int (xs ((nI j) + 2).toNatClampNeg), .int (xs ((nI j) + 3).toNatClampNeg)]) (rest := []) ⟨hx, hb, hml, hown, hts⟩ (mt_N_boundary l D cL cO h1 q1 g ad tb _ u (xs ((nI j) + 1).toNatClampNeg) (xs ((nI j) + 2).toNatClampNeg) (xs ((nI j) + 3).toNatClampNeg)) (cwV 3 hts (gl_V tm_84 tm_85 tm_86 tm_24 tm_87) rfl rfl rfl (by decide +kernel) ⟨Nat.le_of_ble_eq_true rfl, Nat.le_of_ble_eq_true rfl⟩) (l_nin hK hE hT hM hS hA) rfl rfl hl.1 rfl (lv_room (Nat.le_of_ble_eq_true rfl)) md_L_law_185 ⟨Nat.le_of_ble_eq_true rfl, Nat.le_of_ble_eq_true rfl⟩) hM hS hA (fun r_1 u_3 H_4 L_5 e_2 hM hS => ?_)
  refine lv_pop hx hb md_L_law_188 rfl ?_
  refine lv_aload_n hx hb md_L_law_189 rfl (lv_at hl 2 rfl) ?_
  refine lv_aload_n hx hb md_L_law_190 rfl (lv_at hl 0 rfl) ?_
  refine lv_iload_n hx hb md_L_law_191 rfl (lv_at hl 3 rfl) ?_
  refine lv_iconst (v := 1) hx hb md_L_law_192 (by decide) ?_
  refine lv_iadd hx hb md_L_law_193 ?_
  refine va_sld hx hb hX hbl hbA hS (ix_in (k := 1) hj6 (by decide) hL) md_L_law_194 ?_
  refine lv_aload_n hx hb md_L_law_195 rfl (lv_at hl 0 rfl) ?_
  refine lv_iload_n hx hb md_L_law_196 rfl (lv_at hl 3 rfl) ?_
  refine lv_iconst (v := 2) hx hb md_L_law_197 (by decide) ?_
  refine lv_iadd hx hb md_L_law_198 ?_
  refine va_sld hx hb hX hbl hbA hS (ix_in (k := 2) hj6 (by decide) hL) md_L_law_199 ?_
  refine lv_aload_n hx hb md_L_law_200 rfl (lv_at hl 0 rfl) ?_
  refine lv_iload_n hx hb md_L_law_201 rfl (lv_at hl 3 rfl) ?_
  refine lv_iconst (v := 3) hx hb md_L_law_202 (by decide) ?_
  refine lv_iadd hx hb md_L_law_203 ?_
  refine va_sld hx hb hX hbl hbA hS (ix_in (k := 3) hj6 (by decide) hL) md_L_law_204 ?_
  refine l_mcalli (va_runV (C := "NumberProbeModel") (As := [.int (xs ((nI j) + 1).toNatClampNeg), .int (xs ((nI j) + 2).toNatClampNeg), .int (xs ((nI j) + 3).toNatClampNeg)]) (rest := []) ⟨hx, hb, hml, hown, hts⟩ (mt_M_boundary l D cL h2 q2 _ v (xs ((nI j) + 1).toNatClampNeg) (xs ((nI j) + 2).toNatClampNeg) (xs ((nI j) + 3).toNatClampNeg)) (cwV 3 hts (gl_V tm_387 tm_388 tm_389 tm_25 tm_390) rfl rfl rfl (by decide +kernel) ⟨Nat.le_of_ble_eq_true rfl, Nat.le_of_ble_eq_true rfl⟩) (l_min hK hM) rfl rfl hl.1 rfl (lv_room (Nat.le_of_ble_eq_true rfl)) md_L_law_205 ⟨Nat.le_of_ble_eq_true rfl, Nat.le_of_ble_eq_true rfl⟩) hM hS hA (fun r_6 v_8 H_9 L_10 e_7 hM hS => ?_)
  refine lv_pop hx hb md_L_law_208 rfl ?_
  refine lv_goto (tgt := 672) hx hb md_L_law_209 (by decide) ?_
  exact kk _ _ _ _ ls hM hS (lv_sub hl [0, 1, 2, 3] rfl)
set_option maxHeartbeats 4000000 in
set_option maxRecDepth 100000 in
theorem lc_2 {p : Program} {l : Launch} {e : Env} {s : State} {m : MethodId} {below : List Frame} {meth : Method} {c : Code} {D : va_G} {cL cO : ClassId} {h1 q1 h2 q2 : Nat} {g ad tb : Nat → Nat} {b L : Nat} {xs : Nat → Int32} (hL : L ≤ 3072) (C0 : lw_At p s m meth c b L xs) (hK : va_K D cls9 (NK cL cO) s) (hE : FW ad (fun q : Nat => s.heap.size ≤ q) s s.heap) (hT : TW tb (fun q : Nat => s.heap.size ≤ q) s s.heap) {j : Nat} (hj6 : j + 6 ≤ L) (u : Nat → Nat → Int64) (v : MT) (H : Heap) (locs : List Loc) (hM : LWd D cL cO h1 q1 g h2 q2 (fun q : Nat => s.heap.size ≤ q) u v H) (hS : va_S (fun q : Nat => s.heap.size ≤ q) s.heap H locs) (ls : Array Slot) (hl : lv_has ls 4 [(0, .ref b), (1, .ref h1), (2, .ref h2), (3, .int (nI j))])
    (kk : ∀ (u : Nat → Nat → Int64) (v : MT) (H : Heap) (locs : List Loc) (ls : Array Slot), LWd D cL cO h1 q1 g h2 q2 (fun q : Nat => s.heap.size ≤ q) u v H → va_S (fun q : Nat => s.heap.size ≤ q) s.heap H locs → lv_has ls 4 [(0, .ref b), (1, .ref h1), (2, .ref h2), (3, .int (nI j))] → W p l e room_1 s m #[Value.ref b] below meth c H locs 8 65 (lw_Z below #[Value.ref b] s) (F0 m 672 ls [])) : W p l e room_1 s m #[Value.ref b] below meth c H locs 8 65 (lw_Z below #[Value.ref b] s) (F0 m 212 ls []) := by
  obtain ⟨hx, hb, hr, hml, hown, hts, hX, hbl, hlocks, hgv⟩ := C0
  have hA : ∀ q : Nat, s.heap.size ≤ q → (fun q : Nat => s.heap.size ≤ q) q := fun _ h => h
  have hbA : ¬ (fun q : Nat => s.heap.size ≤ q) b := Nat.not_le.mpr hbl
  have ht : ∀ w ∈ lw_tbl, w.before #[Value.ref b] s = true := hts
  refine lv_aload_n hx hb md_L_law_212 rfl (lv_at hl 1 rfl) ?_
  refine lv_aload_n hx hb md_L_law_213 rfl (lv_at hl 0 rfl) ?_
  refine lv_iload_n hx hb md_L_law_214 rfl (lv_at hl 3 rfl) ?_
  refine lv_iconst (v := 1) hx hb md_L_law_215 (by decide) ?_
  refine lv_iadd hx hb md_L_law_216 ?_
  refine va_sld hx hb hX hbl hbA hS (ix_in (k := 1) hj6 (by decide) hL) md_L_law_217 ?_
  refine lv_aload_n hx hb md_L_law_218 rfl (lv_at hl 0 rfl) ?_
  refine lv_iload_n hx hb md_L_law_219 rfl (lv_at hl 3 rfl) ?_
  refine lv_iconst (v := 2) hx hb md_L_law_220 (by decide) ?_
  refine lv_iadd hx hb md_L_law_221 ?_
  refine va_sld hx hb hX hbl hbA hS (ix_in (k := 2) hj6 (by decide) hL) md_L_law_222 ?_
  refine l_ncalll (va_runV (C := "NumberProbe") (As := [.int (xs ((nI j) + 1).toNatClampNeg), .int (xs ((nI j) + 2).toNatClampNeg)]) (rest := []) ⟨hx, hb, hml, hown, hts⟩ (mt_N_bits l D cL cO h1 q1 g ad tb _ u (xs ((nI j) + 1).toNatClampNeg) (xs ((nI j) + 2).toNatClampNeg)) (cwV 2 hts (gl_V tm_99 tm_100 tm_101 tm_24 tm_102) rfl rfl rfl (by decide +kernel) ⟨Nat.le_of_ble_eq_true rfl, Nat.le_of_ble_eq_true rfl⟩) (l_nin hK hE hT hM hS hA) rfl rfl hl.1 rfl (lv_room (Nat.le_of_ble_eq_true rfl)) md_L_law_223 ⟨Nat.le_of_ble_eq_true rfl, Nat.le_of_ble_eq_true rfl⟩) hM hS hA (fun r_1 u_3 H_4 L_5 e_2 hM hS => ?_)
  refine lv_pop2_2 hx hb md_L_law_226 rfl ?_
  refine lv_aload_n hx hb md_L_law_227 rfl (lv_at hl 2 rfl) ?_
  refine lv_aload_n hx hb md_L_law_228 rfl (lv_at hl 0 rfl) ?_
  refine lv_iload_n hx hb md_L_law_229 rfl (lv_at hl 3 rfl) ?_
  refine lv_iconst (v := 1) hx hb md_L_law_230 (by decide) ?_
  refine lv_iadd hx hb md_L_law_231 ?_
  refine va_sld hx hb hX hbl hbA hS (ix_in (k := 1) hj6 (by decide) hL) md_L_law_232 ?_
  refine lv_aload_n hx hb md_L_law_233 rfl (lv_at hl 0 rfl) ?_
  refine lv_iload_n hx hb md_L_law_234 rfl (lv_at hl 3 rfl) ?_
  refine lv_iconst (v := 2) hx hb md_L_law_235 (by decide) ?_
  refine lv_iadd hx hb md_L_law_236 ?_
  refine va_sld hx hb hX hbl hbA hS (ix_in (k := 2) hj6 (by decide) hL) md_L_law_237 ?_
  refine l_mcalll (va_runV (C := "NumberProbeModel") (As := [.int (xs ((nI j) + 1).toNatClampNeg), .int (xs ((nI j) + 2).toNatClampNeg)]) (rest := []) ⟨hx, hb, hml, hown, hts⟩ (mt_M_bits l D cL h2 q2 _ v (xs ((nI j) + 1).toNatClampNeg) (xs ((nI j) + 2).toNatClampNeg)) (cwV 2 hts (gl_V tm_435 tm_436 tm_437 tm_25 tm_438) rfl rfl rfl (by decide +kernel) ⟨Nat.le_of_ble_eq_true rfl, Nat.le_of_ble_eq_true rfl⟩) (l_min hK hM) rfl rfl hl.1 rfl (lv_room (Nat.le_of_ble_eq_true rfl)) md_L_law_238 ⟨Nat.le_of_ble_eq_true rfl, Nat.le_of_ble_eq_true rfl⟩) hM hS hA (fun r_6 v_8 H_9 L_10 e_7 hM hS => ?_)
  refine lv_pop2_2 hx hb md_L_law_241 rfl ?_
  refine lv_goto (tgt := 672) hx hb md_L_law_242 (by decide) ?_
  exact kk _ _ _ _ ls hM hS (lv_sub hl [0, 1, 2, 3] rfl)
set_option maxHeartbeats 4000000 in
set_option maxRecDepth 100000 in
theorem lc_3 {p : Program} {l : Launch} {e : Env} {s : State} {m : MethodId} {below : List Frame} {meth : Method} {c : Code} {D : va_G} {cL cO : ClassId} {h1 q1 h2 q2 : Nat} {g ad tb : Nat → Nat} {b L : Nat} {xs : Nat → Int32} (hL : L ≤ 3072) (C0 : lw_At p s m meth c b L xs) (hK : va_K D cls9 (NK cL cO) s) (hE : FW ad (fun q : Nat => s.heap.size ≤ q) s s.heap) (hT : TW tb (fun q : Nat => s.heap.size ≤ q) s s.heap) {j : Nat} (hj6 : j + 6 ≤ L) (u : Nat → Nat → Int64) (v : MT) (H : Heap) (locs : List Loc) (hM : LWd D cL cO h1 q1 g h2 q2 (fun q : Nat => s.heap.size ≤ q) u v H) (hS : va_S (fun q : Nat => s.heap.size ≤ q) s.heap H locs) (ls : Array Slot) (hl : lv_has ls 4 [(0, .ref b), (1, .ref h1), (2, .ref h2), (3, .int (nI j))])
    (kk : ∀ (u : Nat → Nat → Int64) (v : MT) (H : Heap) (locs : List Loc) (ls : Array Slot), LWd D cL cO h1 q1 g h2 q2 (fun q : Nat => s.heap.size ≤ q) u v H → va_S (fun q : Nat => s.heap.size ≤ q) s.heap H locs → lv_has ls 4 [(0, .ref b), (1, .ref h1), (2, .ref h2), (3, .int (nI j))] → W p l e room_1 s m #[Value.ref b] below meth c H locs 8 65 (lw_Z below #[Value.ref b] s) (F0 m 672 ls [])) : W p l e room_1 s m #[Value.ref b] below meth c H locs 8 65 (lw_Z below #[Value.ref b] s) (F0 m 245 ls []) := by
  obtain ⟨hx, hb, hr, hml, hown, hts, hX, hbl, hlocks, hgv⟩ := C0
  have hA : ∀ q : Nat, s.heap.size ≤ q → (fun q : Nat => s.heap.size ≤ q) q := fun _ h => h
  have hbA : ¬ (fun q : Nat => s.heap.size ≤ q) b := Nat.not_le.mpr hbl
  have ht : ∀ w ∈ lw_tbl, w.before #[Value.ref b] s = true := hts
  refine lv_aload_n hx hb md_L_law_245 rfl (lv_at hl 1 rfl) ?_
  refine lv_aload_n hx hb md_L_law_246 rfl (lv_at hl 0 rfl) ?_
  refine lv_iload_n hx hb md_L_law_247 rfl (lv_at hl 3 rfl) ?_
  refine lv_iconst (v := 1) hx hb md_L_law_248 (by decide) ?_
  refine lv_iadd hx hb md_L_law_249 ?_
  refine va_sld hx hb hX hbl hbA hS (ix_in (k := 1) hj6 (by decide) hL) md_L_law_250 ?_
  refine lv_aload_n hx hb md_L_law_251 rfl (lv_at hl 0 rfl) ?_
  refine lv_iload_n hx hb md_L_law_252 rfl (lv_at hl 3 rfl) ?_
  refine lv_iconst (v := 2) hx hb md_L_law_253 (by decide) ?_
  refine lv_iadd hx hb md_L_law_254 ?_
  refine va_sld hx hb hX hbl hbA hS (ix_in (k := 2) hj6 (by decide) hL) md_L_law_255 ?_
  refine lv_aload_n hx hb md_L_law_256 rfl (lv_at hl 0 rfl) ?_
  refine lv_iload_n hx hb md_L_law_257 rfl (lv_at hl 3 rfl) ?_
  refine lv_iconst (v := 3) hx hb md_L_law_258 (by decide) ?_
  refine lv_iadd hx hb md_L_law_259 ?_
  refine va_sld hx hb hX hbl hbA hS (ix_in (k := 3) hj6 (by decide) hL) md_L_law_260 ?_
  refine lv_aload_n hx hb md_L_law_261 rfl (lv_at hl 0 rfl) ?_
  refine lv_iload_n hx hb md_L_law_262 rfl (lv_at hl 3 rfl) ?_
  refine lv_iconst (v := 4) hx hb md_L_law_263 (by decide) ?_
  refine lv_iadd hx hb md_L_law_264 ?_
  refine va_sld hx hb hX hbl hbA hS (ix_in (k := 4) hj6 (by decide) hL) md_L_law_265 ?_
  refine lv_aload_n hx hb md_L_law_266 rfl (lv_at hl 0 rfl) ?_
  refine lv_iload_n hx hb md_L_law_267 rfl (lv_at hl 3 rfl) ?_
  refine lv_iconst (v := 5) hx hb md_L_law_268 (by decide) ?_
  refine lv_iadd hx hb md_L_law_269 ?_
  refine va_sld hx hb hX hbl hbA hS (ix_in (k := 5) hj6 (by decide) hL) md_L_law_270 ?_
  refine l_ncalli (va_runV (C := "NumberProbe") (As := [.int (xs ((nI j) + 1).toNatClampNeg), .int (xs ((nI j) + 2).toNatClampNeg), .int (xs ((nI j) + 3).toNatClampNeg), .int (xs ((nI j) + 4).toNatClampNeg), .int (xs ((nI j) + 5).toNatClampNeg)]) (rest := []) ⟨hx, hb, hml, hown, hts⟩ (mt_N_operate l D cL cO h1 q1 g ad tb _ u (xs ((nI j) + 1).toNatClampNeg) (xs ((nI j) + 2).toNatClampNeg) (xs ((nI j) + 3).toNatClampNeg) (xs ((nI j) + 4).toNatClampNeg) (xs ((nI j) + 5).toNatClampNeg)) (cwV 5 hts (gl_V tm_103 tm_104 tm_105 tm_24 tm_106) rfl rfl rfl (by decide +kernel) ⟨Nat.le_of_ble_eq_true rfl, Nat.le_of_ble_eq_true rfl⟩) (l_nin hK hE hT hM hS hA) rfl rfl hl.1 rfl (lv_room (Nat.le_of_ble_eq_true rfl)) md_L_law_271 ⟨Nat.le_of_ble_eq_true rfl, Nat.le_of_ble_eq_true rfl⟩) hM hS hA (fun r_1 u_3 H_4 L_5 e_2 hM hS => ?_)
  refine lv_pop hx hb md_L_law_274 rfl ?_
  refine lv_aload_n hx hb md_L_law_275 rfl (lv_at hl 2 rfl) ?_
  refine lv_aload_n hx hb md_L_law_276 rfl (lv_at hl 0 rfl) ?_
  refine lv_iload_n hx hb md_L_law_277 rfl (lv_at hl 3 rfl) ?_
  refine lv_iconst (v := 1) hx hb md_L_law_278 (by decide) ?_
  refine lv_iadd hx hb md_L_law_279 ?_
  refine va_sld hx hb hX hbl hbA hS (ix_in (k := 1) hj6 (by decide) hL) md_L_law_280 ?_
  refine lv_aload_n hx hb md_L_law_281 rfl (lv_at hl 0 rfl) ?_
  refine lv_iload_n hx hb md_L_law_282 rfl (lv_at hl 3 rfl) ?_
  refine lv_iconst (v := 2) hx hb md_L_law_283 (by decide) ?_
  refine lv_iadd hx hb md_L_law_284 ?_
  refine va_sld hx hb hX hbl hbA hS (ix_in (k := 2) hj6 (by decide) hL) md_L_law_285 ?_
  refine lv_aload_n hx hb md_L_law_286 rfl (lv_at hl 0 rfl) ?_
  refine lv_iload_n hx hb md_L_law_287 rfl (lv_at hl 3 rfl) ?_
  refine lv_iconst (v := 3) hx hb md_L_law_288 (by decide) ?_
  refine lv_iadd hx hb md_L_law_289 ?_
  refine va_sld hx hb hX hbl hbA hS (ix_in (k := 3) hj6 (by decide) hL) md_L_law_290 ?_
  refine lv_aload_n hx hb md_L_law_291 rfl (lv_at hl 0 rfl) ?_
  refine lv_iload_n hx hb md_L_law_292 rfl (lv_at hl 3 rfl) ?_
  refine lv_iconst (v := 4) hx hb md_L_law_293 (by decide) ?_
  refine lv_iadd hx hb md_L_law_294 ?_
  refine va_sld hx hb hX hbl hbA hS (ix_in (k := 4) hj6 (by decide) hL) md_L_law_295 ?_
  refine lv_aload_n hx hb md_L_law_296 rfl (lv_at hl 0 rfl) ?_
  refine lv_iload_n hx hb md_L_law_297 rfl (lv_at hl 3 rfl) ?_
  refine lv_iconst (v := 5) hx hb md_L_law_298 (by decide) ?_
  refine lv_iadd hx hb md_L_law_299 ?_
  refine va_sld hx hb hX hbl hbA hS (ix_in (k := 5) hj6 (by decide) hL) md_L_law_300 ?_
  refine l_mcalli (va_runV (C := "NumberProbeModel") (As := [.int (xs ((nI j) + 1).toNatClampNeg), .int (xs ((nI j) + 2).toNatClampNeg), .int (xs ((nI j) + 3).toNatClampNeg), .int (xs ((nI j) + 4).toNatClampNeg), .int (xs ((nI j) + 5).toNatClampNeg)]) (rest := []) ⟨hx, hb, hml, hown, hts⟩ (mt_M_operate l D cL h2 q2 _ v (xs ((nI j) + 1).toNatClampNeg) (xs ((nI j) + 2).toNatClampNeg) (xs ((nI j) + 3).toNatClampNeg) (xs ((nI j) + 4).toNatClampNeg) (xs ((nI j) + 5).toNatClampNeg)) (cwV 5 hts (gl_V tm_439 tm_440 tm_441 tm_25 tm_442) rfl rfl rfl (by decide +kernel) ⟨Nat.le_of_ble_eq_true rfl, Nat.le_of_ble_eq_true rfl⟩) (l_min hK hM) rfl rfl hl.1 rfl (lv_room (Nat.le_of_ble_eq_true rfl)) md_L_law_301 ⟨Nat.le_of_ble_eq_true rfl, Nat.le_of_ble_eq_true rfl⟩) hM hS hA (fun r_6 v_8 H_9 L_10 e_7 hM hS => ?_)
  refine lv_pop hx hb md_L_law_304 rfl ?_
  refine lv_goto (tgt := 672) hx hb md_L_law_305 (by decide) ?_
  exact kk _ _ _ _ ls hM hS (lv_sub hl [0, 1, 2, 3] rfl)
set_option maxHeartbeats 4000000 in
set_option maxRecDepth 100000 in
theorem lc_4 {p : Program} {l : Launch} {e : Env} {s : State} {m : MethodId} {below : List Frame} {meth : Method} {c : Code} {D : va_G} {cL cO : ClassId} {h1 q1 h2 q2 : Nat} {g ad tb : Nat → Nat} {b L : Nat} {xs : Nat → Int32} (hL : L ≤ 3072) (C0 : lw_At p s m meth c b L xs) (hK : va_K D cls9 (NK cL cO) s) (hE : FW ad (fun q : Nat => s.heap.size ≤ q) s s.heap) (hT : TW tb (fun q : Nat => s.heap.size ≤ q) s s.heap) {j : Nat} (hj6 : j + 6 ≤ L) (u : Nat → Nat → Int64) (v : MT) (H : Heap) (locs : List Loc) (hM : LWd D cL cO h1 q1 g h2 q2 (fun q : Nat => s.heap.size ≤ q) u v H) (hS : va_S (fun q : Nat => s.heap.size ≤ q) s.heap H locs) (ls : Array Slot) (hl : lv_has ls 4 [(0, .ref b), (1, .ref h1), (2, .ref h2), (3, .int (nI j))])
    (kk : ∀ (u : Nat → Nat → Int64) (v : MT) (H : Heap) (locs : List Loc) (ls : Array Slot), LWd D cL cO h1 q1 g h2 q2 (fun q : Nat => s.heap.size ≤ q) u v H → va_S (fun q : Nat => s.heap.size ≤ q) s.heap H locs → lv_has ls 4 [(0, .ref b), (1, .ref h1), (2, .ref h2), (3, .int (nI j))] → W p l e room_1 s m #[Value.ref b] below meth c H locs 8 65 (lw_Z below #[Value.ref b] s) (F0 m 672 ls [])) : W p l e room_1 s m #[Value.ref b] below meth c H locs 8 65 (lw_Z below #[Value.ref b] s) (F0 m 308 ls []) := by
  obtain ⟨hx, hb, hr, hml, hown, hts, hX, hbl, hlocks, hgv⟩ := C0
  have hA : ∀ q : Nat, s.heap.size ≤ q → (fun q : Nat => s.heap.size ≤ q) q := fun _ h => h
  have hbA : ¬ (fun q : Nat => s.heap.size ≤ q) b := Nat.not_le.mpr hbl
  have ht : ∀ w ∈ lw_tbl, w.before #[Value.ref b] s = true := hts
  refine lv_aload_n hx hb md_L_law_308 rfl (lv_at hl 1 rfl) ?_
  refine lv_aload_n hx hb md_L_law_309 rfl (lv_at hl 0 rfl) ?_
  refine lv_iload_n hx hb md_L_law_310 rfl (lv_at hl 3 rfl) ?_
  refine lv_iconst (v := 1) hx hb md_L_law_311 (by decide) ?_
  refine lv_iadd hx hb md_L_law_312 ?_
  refine va_sld hx hb hX hbl hbA hS (ix_in (k := 1) hj6 (by decide) hL) md_L_law_313 ?_
  refine lv_aload_n hx hb md_L_law_314 rfl (lv_at hl 0 rfl) ?_
  refine lv_iload_n hx hb md_L_law_315 rfl (lv_at hl 3 rfl) ?_
  refine lv_iconst (v := 2) hx hb md_L_law_316 (by decide) ?_
  refine lv_iadd hx hb md_L_law_317 ?_
  refine va_sld hx hb hX hbl hbA hS (ix_in (k := 2) hj6 (by decide) hL) md_L_law_318 ?_
  refine lv_aload_n hx hb md_L_law_319 rfl (lv_at hl 0 rfl) ?_
  refine lv_iload_n hx hb md_L_law_320 rfl (lv_at hl 3 rfl) ?_
  refine lv_iconst (v := 3) hx hb md_L_law_321 (by decide) ?_
  refine lv_iadd hx hb md_L_law_322 ?_
  refine va_sld hx hb hX hbl hbA hS (ix_in (k := 3) hj6 (by decide) hL) md_L_law_323 ?_
  refine lv_aload_n hx hb md_L_law_324 rfl (lv_at hl 0 rfl) ?_
  refine lv_iload_n hx hb md_L_law_325 rfl (lv_at hl 3 rfl) ?_
  refine lv_iconst (v := 4) hx hb md_L_law_326 (by decide) ?_
  refine lv_iadd hx hb md_L_law_327 ?_
  refine va_sld hx hb hX hbl hbA hS (ix_in (k := 4) hj6 (by decide) hL) md_L_law_328 ?_
  refine lv_aload_n hx hb md_L_law_329 rfl (lv_at hl 0 rfl) ?_
  refine lv_iload_n hx hb md_L_law_330 rfl (lv_at hl 3 rfl) ?_
  refine lv_iconst (v := 5) hx hb md_L_law_331 (by decide) ?_
  refine lv_iadd hx hb md_L_law_332 ?_
  refine va_sld hx hb hX hbl hbA hS (ix_in (k := 5) hj6 (by decide) hL) md_L_law_333 ?_
  refine l_ncalli (va_runV (C := "NumberProbe") (As := [.int (xs ((nI j) + 1).toNatClampNeg), .int (xs ((nI j) + 2).toNatClampNeg), .int (xs ((nI j) + 3).toNatClampNeg), .int (xs ((nI j) + 4).toNatClampNeg), .int (xs ((nI j) + 5).toNatClampNeg)]) (rest := []) ⟨hx, hb, hml, hown, hts⟩ (mt_N_assign l D cL cO h1 q1 g ad tb _ u (xs ((nI j) + 1).toNatClampNeg) (xs ((nI j) + 2).toNatClampNeg) (xs ((nI j) + 3).toNatClampNeg) (xs ((nI j) + 4).toNatClampNeg) (xs ((nI j) + 5).toNatClampNeg)) (cwV 5 hts (gl_V tm_229 tm_230 tm_231 tm_24 tm_232) rfl rfl rfl (by decide +kernel) ⟨Nat.le_of_ble_eq_true rfl, Nat.le_of_ble_eq_true rfl⟩) (l_nin hK hE hT hM hS hA) rfl rfl hl.1 rfl (lv_room (Nat.le_of_ble_eq_true rfl)) md_L_law_334 ⟨Nat.le_of_ble_eq_true rfl, Nat.le_of_ble_eq_true rfl⟩) hM hS hA (fun r_1 u_3 H_4 L_5 e_2 hM hS => ?_)
  refine lv_pop hx hb md_L_law_337 rfl ?_
  refine lv_aload_n hx hb md_L_law_338 rfl (lv_at hl 2 rfl) ?_
  refine lv_aload_n hx hb md_L_law_339 rfl (lv_at hl 0 rfl) ?_
  refine lv_iload_n hx hb md_L_law_340 rfl (lv_at hl 3 rfl) ?_
  refine lv_iconst (v := 1) hx hb md_L_law_341 (by decide) ?_
  refine lv_iadd hx hb md_L_law_342 ?_
  refine va_sld hx hb hX hbl hbA hS (ix_in (k := 1) hj6 (by decide) hL) md_L_law_343 ?_
  refine lv_aload_n hx hb md_L_law_344 rfl (lv_at hl 0 rfl) ?_
  refine lv_iload_n hx hb md_L_law_345 rfl (lv_at hl 3 rfl) ?_
  refine lv_iconst (v := 2) hx hb md_L_law_346 (by decide) ?_
  refine lv_iadd hx hb md_L_law_347 ?_
  refine va_sld hx hb hX hbl hbA hS (ix_in (k := 2) hj6 (by decide) hL) md_L_law_348 ?_
  refine lv_aload_n hx hb md_L_law_349 rfl (lv_at hl 0 rfl) ?_
  refine lv_iload_n hx hb md_L_law_350 rfl (lv_at hl 3 rfl) ?_
  refine lv_iconst (v := 3) hx hb md_L_law_351 (by decide) ?_
  refine lv_iadd hx hb md_L_law_352 ?_
  refine va_sld hx hb hX hbl hbA hS (ix_in (k := 3) hj6 (by decide) hL) md_L_law_353 ?_
  refine lv_aload_n hx hb md_L_law_354 rfl (lv_at hl 0 rfl) ?_
  refine lv_iload_n hx hb md_L_law_355 rfl (lv_at hl 3 rfl) ?_
  refine lv_iconst (v := 4) hx hb md_L_law_356 (by decide) ?_
  refine lv_iadd hx hb md_L_law_357 ?_
  refine va_sld hx hb hX hbl hbA hS (ix_in (k := 4) hj6 (by decide) hL) md_L_law_358 ?_
  refine lv_aload_n hx hb md_L_law_359 rfl (lv_at hl 0 rfl) ?_
  refine lv_iload_n hx hb md_L_law_360 rfl (lv_at hl 3 rfl) ?_
  refine lv_iconst (v := 5) hx hb md_L_law_361 (by decide) ?_
  refine lv_iadd hx hb md_L_law_362 ?_
  refine va_sld hx hb hX hbl hbA hS (ix_in (k := 5) hj6 (by decide) hL) md_L_law_363 ?_
  refine l_mcalli (va_runV (C := "NumberProbeModel") (As := [.int (xs ((nI j) + 1).toNatClampNeg), .int (xs ((nI j) + 2).toNatClampNeg), .int (xs ((nI j) + 3).toNatClampNeg), .int (xs ((nI j) + 4).toNatClampNeg), .int (xs ((nI j) + 5).toNatClampNeg)]) (rest := []) ⟨hx, hb, hml, hown, hts⟩ (mt_M_assign l D cL h2 q2 _ v (xs ((nI j) + 1).toNatClampNeg) (xs ((nI j) + 2).toNatClampNeg) (xs ((nI j) + 3).toNatClampNeg) (xs ((nI j) + 4).toNatClampNeg) (xs ((nI j) + 5).toNatClampNeg)) (cwV 5 hts (gl_V tm_497 tm_498 tm_499 tm_25 tm_500) rfl rfl rfl (by decide +kernel) ⟨Nat.le_of_ble_eq_true rfl, Nat.le_of_ble_eq_true rfl⟩) (l_min hK hM) rfl rfl hl.1 rfl (lv_room (Nat.le_of_ble_eq_true rfl)) md_L_law_364 ⟨Nat.le_of_ble_eq_true rfl, Nat.le_of_ble_eq_true rfl⟩) hM hS hA (fun r_6 v_8 H_9 L_10 e_7 hM hS => ?_)
  refine lv_pop hx hb md_L_law_367 rfl ?_
  refine lv_goto (tgt := 672) hx hb md_L_law_368 (by decide) ?_
  exact kk _ _ _ _ ls hM hS (lv_sub hl [0, 1, 2, 3] rfl)
set_option maxHeartbeats 4000000 in
set_option maxRecDepth 100000 in
theorem lc_5 {p : Program} {l : Launch} {e : Env} {s : State} {m : MethodId} {below : List Frame} {meth : Method} {c : Code} {D : va_G} {cL cO : ClassId} {h1 q1 h2 q2 : Nat} {g ad tb : Nat → Nat} {b L : Nat} {xs : Nat → Int32} (hL : L ≤ 3072) (C0 : lw_At p s m meth c b L xs) (hK : va_K D cls9 (NK cL cO) s) (hE : FW ad (fun q : Nat => s.heap.size ≤ q) s s.heap) (hT : TW tb (fun q : Nat => s.heap.size ≤ q) s s.heap) {j : Nat} (hj6 : j + 6 ≤ L) (u : Nat → Nat → Int64) (v : MT) (H : Heap) (locs : List Loc) (hM : LWd D cL cO h1 q1 g h2 q2 (fun q : Nat => s.heap.size ≤ q) u v H) (hS : va_S (fun q : Nat => s.heap.size ≤ q) s.heap H locs) (ls : Array Slot) (hl : lv_has ls 4 [(0, .ref b), (1, .ref h1), (2, .ref h2), (3, .int (nI j))])
    (kk : ∀ (u : Nat → Nat → Int64) (v : MT) (H : Heap) (locs : List Loc) (ls : Array Slot), LWd D cL cO h1 q1 g h2 q2 (fun q : Nat => s.heap.size ≤ q) u v H → va_S (fun q : Nat => s.heap.size ≤ q) s.heap H locs → lv_has ls 4 [(0, .ref b), (1, .ref h1), (2, .ref h2), (3, .int (nI j))] → W p l e room_1 s m #[Value.ref b] below meth c H locs 8 65 (lw_Z below #[Value.ref b] s) (F0 m 672 ls [])) : W p l e room_1 s m #[Value.ref b] below meth c H locs 8 65 (lw_Z below #[Value.ref b] s) (F0 m 371 ls []) := by
  obtain ⟨hx, hb, hr, hml, hown, hts, hX, hbl, hlocks, hgv⟩ := C0
  have hA : ∀ q : Nat, s.heap.size ≤ q → (fun q : Nat => s.heap.size ≤ q) q := fun _ h => h
  have hbA : ¬ (fun q : Nat => s.heap.size ≤ q) b := Nat.not_le.mpr hbl
  have ht : ∀ w ∈ lw_tbl, w.before #[Value.ref b] s = true := hts
  refine lv_aload_n hx hb md_L_law_371 rfl (lv_at hl 1 rfl) ?_
  refine lv_aload_n hx hb md_L_law_372 rfl (lv_at hl 0 rfl) ?_
  refine lv_iload_n hx hb md_L_law_373 rfl (lv_at hl 3 rfl) ?_
  refine lv_iconst (v := 1) hx hb md_L_law_374 (by decide) ?_
  refine lv_iadd hx hb md_L_law_375 ?_
  refine va_sld hx hb hX hbl hbA hS (ix_in (k := 1) hj6 (by decide) hL) md_L_law_376 ?_
  refine lv_aload_n hx hb md_L_law_377 rfl (lv_at hl 0 rfl) ?_
  refine lv_iload_n hx hb md_L_law_378 rfl (lv_at hl 3 rfl) ?_
  refine lv_iconst (v := 2) hx hb md_L_law_379 (by decide) ?_
  refine lv_iadd hx hb md_L_law_380 ?_
  refine va_sld hx hb hX hbl hbA hS (ix_in (k := 2) hj6 (by decide) hL) md_L_law_381 ?_
  refine lv_aload_n hx hb md_L_law_382 rfl (lv_at hl 0 rfl) ?_
  refine lv_iload_n hx hb md_L_law_383 rfl (lv_at hl 3 rfl) ?_
  refine lv_iconst (v := 3) hx hb md_L_law_384 (by decide) ?_
  refine lv_iadd hx hb md_L_law_385 ?_
  refine va_sld hx hb hX hbl hbA hS (ix_in (k := 3) hj6 (by decide) hL) md_L_law_386 ?_
  refine lv_aload_n hx hb md_L_law_387 rfl (lv_at hl 0 rfl) ?_
  refine lv_iload_n hx hb md_L_law_388 rfl (lv_at hl 3 rfl) ?_
  refine lv_iconst (v := 4) hx hb md_L_law_389 (by decide) ?_
  refine lv_iadd hx hb md_L_law_390 ?_
  refine va_sld hx hb hX hbl hbA hS (ix_in (k := 4) hj6 (by decide) hL) md_L_law_391 ?_
  refine l_ncalli (va_runV (C := "NumberProbe") (As := [.int (xs ((nI j) + 1).toNatClampNeg), .int (xs ((nI j) + 2).toNatClampNeg), .int (xs ((nI j) + 3).toNatClampNeg), .int (xs ((nI j) + 4).toNatClampNeg)]) (rest := []) ⟨hx, hb, hml, hown, hts⟩ (mt_N_convert l D cL cO h1 q1 g ad tb _ u (xs ((nI j) + 1).toNatClampNeg) (xs ((nI j) + 2).toNatClampNeg) (xs ((nI j) + 3).toNatClampNeg) (xs ((nI j) + 4).toNatClampNeg)) (cwV 4 hts (gl_V tm_255 tm_256 tm_257 tm_24 tm_258) rfl rfl rfl (by decide +kernel) ⟨Nat.le_of_ble_eq_true rfl, Nat.le_of_ble_eq_true rfl⟩) (l_nin hK hE hT hM hS hA) rfl rfl hl.1 rfl (lv_room (Nat.le_of_ble_eq_true rfl)) md_L_law_392 ⟨Nat.le_of_ble_eq_true rfl, Nat.le_of_ble_eq_true rfl⟩) hM hS hA (fun r_1 u_3 H_4 L_5 e_2 hM hS => ?_)
  refine lv_pop hx hb md_L_law_395 rfl ?_
  refine lv_aload_n hx hb md_L_law_396 rfl (lv_at hl 2 rfl) ?_
  refine lv_aload_n hx hb md_L_law_397 rfl (lv_at hl 0 rfl) ?_
  refine lv_iload_n hx hb md_L_law_398 rfl (lv_at hl 3 rfl) ?_
  refine lv_iconst (v := 1) hx hb md_L_law_399 (by decide) ?_
  refine lv_iadd hx hb md_L_law_400 ?_
  refine va_sld hx hb hX hbl hbA hS (ix_in (k := 1) hj6 (by decide) hL) md_L_law_401 ?_
  refine lv_aload_n hx hb md_L_law_402 rfl (lv_at hl 0 rfl) ?_
  refine lv_iload_n hx hb md_L_law_403 rfl (lv_at hl 3 rfl) ?_
  refine lv_iconst (v := 2) hx hb md_L_law_404 (by decide) ?_
  refine lv_iadd hx hb md_L_law_405 ?_
  refine va_sld hx hb hX hbl hbA hS (ix_in (k := 2) hj6 (by decide) hL) md_L_law_406 ?_
  refine lv_aload_n hx hb md_L_law_407 rfl (lv_at hl 0 rfl) ?_
  refine lv_iload_n hx hb md_L_law_408 rfl (lv_at hl 3 rfl) ?_
  refine lv_iconst (v := 3) hx hb md_L_law_409 (by decide) ?_
  refine lv_iadd hx hb md_L_law_410 ?_
  refine va_sld hx hb hX hbl hbA hS (ix_in (k := 3) hj6 (by decide) hL) md_L_law_411 ?_
  refine lv_aload_n hx hb md_L_law_412 rfl (lv_at hl 0 rfl) ?_
  refine lv_iload_n hx hb md_L_law_413 rfl (lv_at hl 3 rfl) ?_
  refine lv_iconst (v := 4) hx hb md_L_law_414 (by decide) ?_
  refine lv_iadd hx hb md_L_law_415 ?_
  refine va_sld hx hb hX hbl hbA hS (ix_in (k := 4) hj6 (by decide) hL) md_L_law_416 ?_
  refine l_mcalli (va_runV (C := "NumberProbeModel") (As := [.int (xs ((nI j) + 1).toNatClampNeg), .int (xs ((nI j) + 2).toNatClampNeg), .int (xs ((nI j) + 3).toNatClampNeg), .int (xs ((nI j) + 4).toNatClampNeg)]) (rest := []) ⟨hx, hb, hml, hown, hts⟩ (mt_M_convert l D cL h2 q2 _ v (xs ((nI j) + 1).toNatClampNeg) (xs ((nI j) + 2).toNatClampNeg) (xs ((nI j) + 3).toNatClampNeg) (xs ((nI j) + 4).toNatClampNeg)) (cwV 4 hts (gl_V tm_515 tm_516 tm_517 tm_25 tm_518) rfl rfl rfl (by decide +kernel) ⟨Nat.le_of_ble_eq_true rfl, Nat.le_of_ble_eq_true rfl⟩) (l_min hK hM) rfl rfl hl.1 rfl (lv_room (Nat.le_of_ble_eq_true rfl)) md_L_law_417 ⟨Nat.le_of_ble_eq_true rfl, Nat.le_of_ble_eq_true rfl⟩) hM hS hA (fun r_6 v_8 H_9 L_10 e_7 hM hS => ?_)
  refine lv_pop hx hb md_L_law_420 rfl ?_
  refine lv_goto (tgt := 672) hx hb md_L_law_421 (by decide) ?_
  exact kk _ _ _ _ ls hM hS (lv_sub hl [0, 1, 2, 3] rfl)
set_option maxHeartbeats 4000000 in
set_option maxRecDepth 100000 in
theorem lc_6 {p : Program} {l : Launch} {e : Env} {s : State} {m : MethodId} {below : List Frame} {meth : Method} {c : Code} {D : va_G} {cL cO : ClassId} {h1 q1 h2 q2 : Nat} {g ad tb : Nat → Nat} {b L : Nat} {xs : Nat → Int32} (hL : L ≤ 3072) (C0 : lw_At p s m meth c b L xs) (hK : va_K D cls9 (NK cL cO) s) (hE : FW ad (fun q : Nat => s.heap.size ≤ q) s s.heap) (hT : TW tb (fun q : Nat => s.heap.size ≤ q) s s.heap) {j : Nat} (hj6 : j + 6 ≤ L) (u : Nat → Nat → Int64) (v : MT) (H : Heap) (locs : List Loc) (hM : LWd D cL cO h1 q1 g h2 q2 (fun q : Nat => s.heap.size ≤ q) u v H) (hS : va_S (fun q : Nat => s.heap.size ≤ q) s.heap H locs) (ls : Array Slot) (hl : lv_has ls 4 [(0, .ref b), (1, .ref h1), (2, .ref h2), (3, .int (nI j))])
    (kk : ∀ (u : Nat → Nat → Int64) (v : MT) (H : Heap) (locs : List Loc) (ls : Array Slot), LWd D cL cO h1 q1 g h2 q2 (fun q : Nat => s.heap.size ≤ q) u v H → va_S (fun q : Nat => s.heap.size ≤ q) s.heap H locs → lv_has ls 4 [(0, .ref b), (1, .ref h1), (2, .ref h2), (3, .int (nI j))] → W p l e room_1 s m #[Value.ref b] below meth c H locs 8 65 (lw_Z below #[Value.ref b] s) (F0 m 672 ls [])) : W p l e room_1 s m #[Value.ref b] below meth c H locs 8 65 (lw_Z below #[Value.ref b] s) (F0 m 424 ls []) := by
  obtain ⟨hx, hb, hr, hml, hown, hts, hX, hbl, hlocks, hgv⟩ := C0
  have hA : ∀ q : Nat, s.heap.size ≤ q → (fun q : Nat => s.heap.size ≤ q) q := fun _ h => h
  have hbA : ¬ (fun q : Nat => s.heap.size ≤ q) b := Nat.not_le.mpr hbl
  have ht : ∀ w ∈ lw_tbl, w.before #[Value.ref b] s = true := hts
  refine lv_aload_n hx hb md_L_law_424 rfl (lv_at hl 1 rfl) ?_
  refine lv_aload_n hx hb md_L_law_425 rfl (lv_at hl 0 rfl) ?_
  refine lv_iload_n hx hb md_L_law_426 rfl (lv_at hl 3 rfl) ?_
  refine lv_iconst (v := 1) hx hb md_L_law_427 (by decide) ?_
  refine lv_iadd hx hb md_L_law_428 ?_
  refine va_sld hx hb hX hbl hbA hS (ix_in (k := 1) hj6 (by decide) hL) md_L_law_429 ?_
  refine lv_aload_n hx hb md_L_law_430 rfl (lv_at hl 0 rfl) ?_
  refine lv_iload_n hx hb md_L_law_431 rfl (lv_at hl 3 rfl) ?_
  refine lv_iconst (v := 2) hx hb md_L_law_432 (by decide) ?_
  refine lv_iadd hx hb md_L_law_433 ?_
  refine va_sld hx hb hX hbl hbA hS (ix_in (k := 2) hj6 (by decide) hL) md_L_law_434 ?_
  refine lv_aload_n hx hb md_L_law_435 rfl (lv_at hl 0 rfl) ?_
  refine lv_iload_n hx hb md_L_law_436 rfl (lv_at hl 3 rfl) ?_
  refine lv_iconst (v := 3) hx hb md_L_law_437 (by decide) ?_
  refine lv_iadd hx hb md_L_law_438 ?_
  refine va_sld hx hb hX hbl hbA hS (ix_in (k := 3) hj6 (by decide) hL) md_L_law_439 ?_
  refine l_ncalli (va_runV (C := "NumberProbe") (As := [.int (xs ((nI j) + 1).toNatClampNeg), .int (xs ((nI j) + 2).toNatClampNeg), .int (xs ((nI j) + 3).toNatClampNeg)]) (rest := []) ⟨hx, hb, hml, hown, hts⟩ (mt_N_narrow l D cL cO h1 q1 g ad tb _ u (xs ((nI j) + 1).toNatClampNeg) (xs ((nI j) + 2).toNatClampNeg) (xs ((nI j) + 3).toNatClampNeg)) (cwV 3 hts (gl_V tm_259 tm_260 tm_261 tm_24 tm_262) rfl rfl rfl (by decide +kernel) ⟨Nat.le_of_ble_eq_true rfl, Nat.le_of_ble_eq_true rfl⟩) (l_nin hK hE hT hM hS hA) rfl rfl hl.1 rfl (lv_room (Nat.le_of_ble_eq_true rfl)) md_L_law_440 ⟨Nat.le_of_ble_eq_true rfl, Nat.le_of_ble_eq_true rfl⟩) hM hS hA (fun r_1 u_3 H_4 L_5 e_2 hM hS => ?_)
  refine lv_pop hx hb md_L_law_443 rfl ?_
  refine lv_aload_n hx hb md_L_law_444 rfl (lv_at hl 2 rfl) ?_
  refine lv_aload_n hx hb md_L_law_445 rfl (lv_at hl 0 rfl) ?_
  refine lv_iload_n hx hb md_L_law_446 rfl (lv_at hl 3 rfl) ?_
  refine lv_iconst (v := 1) hx hb md_L_law_447 (by decide) ?_
  refine lv_iadd hx hb md_L_law_448 ?_
  refine va_sld hx hb hX hbl hbA hS (ix_in (k := 1) hj6 (by decide) hL) md_L_law_449 ?_
  refine lv_aload_n hx hb md_L_law_450 rfl (lv_at hl 0 rfl) ?_
  refine lv_iload_n hx hb md_L_law_451 rfl (lv_at hl 3 rfl) ?_
  refine lv_iconst (v := 2) hx hb md_L_law_452 (by decide) ?_
  refine lv_iadd hx hb md_L_law_453 ?_
  refine va_sld hx hb hX hbl hbA hS (ix_in (k := 2) hj6 (by decide) hL) md_L_law_454 ?_
  refine lv_aload_n hx hb md_L_law_455 rfl (lv_at hl 0 rfl) ?_
  refine lv_iload_n hx hb md_L_law_456 rfl (lv_at hl 3 rfl) ?_
  refine lv_iconst (v := 3) hx hb md_L_law_457 (by decide) ?_
  refine lv_iadd hx hb md_L_law_458 ?_
  refine va_sld hx hb hX hbl hbA hS (ix_in (k := 3) hj6 (by decide) hL) md_L_law_459 ?_
  refine l_mcalli (va_runV (C := "NumberProbeModel") (As := [.int (xs ((nI j) + 1).toNatClampNeg), .int (xs ((nI j) + 2).toNatClampNeg), .int (xs ((nI j) + 3).toNatClampNeg)]) (rest := []) ⟨hx, hb, hml, hown, hts⟩ (mt_M_narrow l D cL h2 q2 _ v (xs ((nI j) + 1).toNatClampNeg) (xs ((nI j) + 2).toNatClampNeg) (xs ((nI j) + 3).toNatClampNeg)) (cwV 3 hts (gl_V tm_519 tm_520 tm_521 tm_25 tm_522) rfl rfl rfl (by decide +kernel) ⟨Nat.le_of_ble_eq_true rfl, Nat.le_of_ble_eq_true rfl⟩) (l_min hK hM) rfl rfl hl.1 rfl (lv_room (Nat.le_of_ble_eq_true rfl)) md_L_law_460 ⟨Nat.le_of_ble_eq_true rfl, Nat.le_of_ble_eq_true rfl⟩) hM hS hA (fun r_6 v_8 H_9 L_10 e_7 hM hS => ?_)
  refine lv_pop hx hb md_L_law_463 rfl ?_
  refine lv_goto (tgt := 672) hx hb md_L_law_464 (by decide) ?_
  exact kk _ _ _ _ ls hM hS (lv_sub hl [0, 1, 2, 3] rfl)
set_option maxHeartbeats 4000000 in
set_option maxRecDepth 100000 in
theorem lc_7 {p : Program} {l : Launch} {e : Env} {s : State} {m : MethodId} {below : List Frame} {meth : Method} {c : Code} {D : va_G} {cL cO : ClassId} {h1 q1 h2 q2 : Nat} {g ad tb : Nat → Nat} {b L : Nat} {xs : Nat → Int32} (hL : L ≤ 3072) (C0 : lw_At p s m meth c b L xs) (hK : va_K D cls9 (NK cL cO) s) (hE : FW ad (fun q : Nat => s.heap.size ≤ q) s s.heap) (hT : TW tb (fun q : Nat => s.heap.size ≤ q) s s.heap) {j : Nat} (hj6 : j + 6 ≤ L) (u : Nat → Nat → Int64) (v : MT) (H : Heap) (locs : List Loc) (hM : LWd D cL cO h1 q1 g h2 q2 (fun q : Nat => s.heap.size ≤ q) u v H) (hS : va_S (fun q : Nat => s.heap.size ≤ q) s.heap H locs) (ls : Array Slot) (hl : lv_has ls 4 [(0, .ref b), (1, .ref h1), (2, .ref h2), (3, .int (nI j))])
    (kk : ∀ (u : Nat → Nat → Int64) (v : MT) (H : Heap) (locs : List Loc) (ls : Array Slot), LWd D cL cO h1 q1 g h2 q2 (fun q : Nat => s.heap.size ≤ q) u v H → va_S (fun q : Nat => s.heap.size ≤ q) s.heap H locs → lv_has ls 4 [(0, .ref b), (1, .ref h1), (2, .ref h2), (3, .int (nI j))] → W p l e room_1 s m #[Value.ref b] below meth c H locs 8 65 (lw_Z below #[Value.ref b] s) (F0 m 672 ls [])) : W p l e room_1 s m #[Value.ref b] below meth c H locs 8 65 (lw_Z below #[Value.ref b] s) (F0 m 467 ls []) := by
  obtain ⟨hx, hb, hr, hml, hown, hts, hX, hbl, hlocks, hgv⟩ := C0
  have hA : ∀ q : Nat, s.heap.size ≤ q → (fun q : Nat => s.heap.size ≤ q) q := fun _ h => h
  have hbA : ¬ (fun q : Nat => s.heap.size ≤ q) b := Nat.not_le.mpr hbl
  have ht : ∀ w ∈ lw_tbl, w.before #[Value.ref b] s = true := hts
  refine lv_aload_n hx hb md_L_law_467 rfl (lv_at hl 1 rfl) ?_
  refine lv_aload_n hx hb md_L_law_468 rfl (lv_at hl 0 rfl) ?_
  refine lv_iload_n hx hb md_L_law_469 rfl (lv_at hl 3 rfl) ?_
  refine lv_iconst (v := 1) hx hb md_L_law_470 (by decide) ?_
  refine lv_iadd hx hb md_L_law_471 ?_
  refine va_sld hx hb hX hbl hbA hS (ix_in (k := 1) hj6 (by decide) hL) md_L_law_472 ?_
  refine lv_aload_n hx hb md_L_law_473 rfl (lv_at hl 0 rfl) ?_
  refine lv_iload_n hx hb md_L_law_474 rfl (lv_at hl 3 rfl) ?_
  refine lv_iconst (v := 2) hx hb md_L_law_475 (by decide) ?_
  refine lv_iadd hx hb md_L_law_476 ?_
  refine va_sld hx hb hX hbl hbA hS (ix_in (k := 2) hj6 (by decide) hL) md_L_law_477 ?_
  refine lv_aload_n hx hb md_L_law_478 rfl (lv_at hl 0 rfl) ?_
  refine lv_iload_n hx hb md_L_law_479 rfl (lv_at hl 3 rfl) ?_
  refine lv_iconst (v := 3) hx hb md_L_law_480 (by decide) ?_
  refine lv_iadd hx hb md_L_law_481 ?_
  refine va_sld hx hb hX hbl hbA hS (ix_in (k := 3) hj6 (by decide) hL) md_L_law_482 ?_
  refine l_ncalli (va_runV (C := "NumberProbe") (As := [.int (xs ((nI j) + 1).toNatClampNeg), .int (xs ((nI j) + 2).toNatClampNeg), .int (xs ((nI j) + 3).toNatClampNeg)]) (rest := []) ⟨hx, hb, hml, hown, hts⟩ (mt_N_compare l D cL cO h1 q1 g ad tb _ u (xs ((nI j) + 1).toNatClampNeg) (xs ((nI j) + 2).toNatClampNeg) (xs ((nI j) + 3).toNatClampNeg)) (cwV 3 hts (gl_V tm_263 tm_264 tm_265 tm_24 tm_266) rfl rfl rfl (by decide +kernel) ⟨Nat.le_of_ble_eq_true rfl, Nat.le_of_ble_eq_true rfl⟩) (l_nin hK hE hT hM hS hA) rfl rfl hl.1 rfl (lv_room (Nat.le_of_ble_eq_true rfl)) md_L_law_483 ⟨Nat.le_of_ble_eq_true rfl, Nat.le_of_ble_eq_true rfl⟩) hM hS hA (fun r_1 u_3 H_4 L_5 e_2 hM hS => ?_)
  refine lv_pop hx hb md_L_law_486 rfl ?_
  refine lv_aload_n hx hb md_L_law_487 rfl (lv_at hl 2 rfl) ?_
  refine lv_aload_n hx hb md_L_law_488 rfl (lv_at hl 0 rfl) ?_
  refine lv_iload_n hx hb md_L_law_489 rfl (lv_at hl 3 rfl) ?_
  refine lv_iconst (v := 1) hx hb md_L_law_490 (by decide) ?_
  refine lv_iadd hx hb md_L_law_491 ?_
  refine va_sld hx hb hX hbl hbA hS (ix_in (k := 1) hj6 (by decide) hL) md_L_law_492 ?_
  refine lv_aload_n hx hb md_L_law_493 rfl (lv_at hl 0 rfl) ?_
  refine lv_iload_n hx hb md_L_law_494 rfl (lv_at hl 3 rfl) ?_
  refine lv_iconst (v := 2) hx hb md_L_law_495 (by decide) ?_
  refine lv_iadd hx hb md_L_law_496 ?_
  refine va_sld hx hb hX hbl hbA hS (ix_in (k := 2) hj6 (by decide) hL) md_L_law_497 ?_
  refine lv_aload_n hx hb md_L_law_498 rfl (lv_at hl 0 rfl) ?_
  refine lv_iload_n hx hb md_L_law_499 rfl (lv_at hl 3 rfl) ?_
  refine lv_iconst (v := 3) hx hb md_L_law_500 (by decide) ?_
  refine lv_iadd hx hb md_L_law_501 ?_
  refine va_sld hx hb hX hbl hbA hS (ix_in (k := 3) hj6 (by decide) hL) md_L_law_502 ?_
  refine l_mcalli (va_runV (C := "NumberProbeModel") (As := [.int (xs ((nI j) + 1).toNatClampNeg), .int (xs ((nI j) + 2).toNatClampNeg), .int (xs ((nI j) + 3).toNatClampNeg)]) (rest := []) ⟨hx, hb, hml, hown, hts⟩ (mt_M_compare l D cL h2 q2 _ v (xs ((nI j) + 1).toNatClampNeg) (xs ((nI j) + 2).toNatClampNeg) (xs ((nI j) + 3).toNatClampNeg)) (cwV 3 hts (gl_V tm_523 tm_524 tm_525 tm_25 tm_526) rfl rfl rfl (by decide +kernel) ⟨Nat.le_of_ble_eq_true rfl, Nat.le_of_ble_eq_true rfl⟩) (l_min hK hM) rfl rfl hl.1 rfl (lv_room (Nat.le_of_ble_eq_true rfl)) md_L_law_503 ⟨Nat.le_of_ble_eq_true rfl, Nat.le_of_ble_eq_true rfl⟩) hM hS hA (fun r_6 v_8 H_9 L_10 e_7 hM hS => ?_)
  refine lv_pop hx hb md_L_law_506 rfl ?_
  refine lv_goto (tgt := 672) hx hb md_L_law_507 (by decide) ?_
  exact kk _ _ _ _ ls hM hS (lv_sub hl [0, 1, 2, 3] rfl)
set_option maxHeartbeats 4000000 in
set_option maxRecDepth 100000 in
theorem lc_8 {p : Program} {l : Launch} {e : Env} {s : State} {m : MethodId} {below : List Frame} {meth : Method} {c : Code} {D : va_G} {cL cO : ClassId} {h1 q1 h2 q2 : Nat} {g ad tb : Nat → Nat} {b L : Nat} {xs : Nat → Int32} (hL : L ≤ 3072) (C0 : lw_At p s m meth c b L xs) (hK : va_K D cls9 (NK cL cO) s) (hE : FW ad (fun q : Nat => s.heap.size ≤ q) s s.heap) (hT : TW tb (fun q : Nat => s.heap.size ≤ q) s s.heap) {j : Nat} (hj6 : j + 6 ≤ L) (u : Nat → Nat → Int64) (v : MT) (H : Heap) (locs : List Loc) (hM : LWd D cL cO h1 q1 g h2 q2 (fun q : Nat => s.heap.size ≤ q) u v H) (hS : va_S (fun q : Nat => s.heap.size ≤ q) s.heap H locs) (ls : Array Slot) (hl : lv_has ls 4 [(0, .ref b), (1, .ref h1), (2, .ref h2), (3, .int (nI j))])
    (kk : ∀ (u : Nat → Nat → Int64) (v : MT) (H : Heap) (locs : List Loc) (ls : Array Slot), LWd D cL cO h1 q1 g h2 q2 (fun q : Nat => s.heap.size ≤ q) u v H → va_S (fun q : Nat => s.heap.size ≤ q) s.heap H locs → lv_has ls 4 [(0, .ref b), (1, .ref h1), (2, .ref h2), (3, .int (nI j))] → W p l e room_1 s m #[Value.ref b] below meth c H locs 8 65 (lw_Z below #[Value.ref b] s) (F0 m 672 ls [])) : W p l e room_1 s m #[Value.ref b] below meth c H locs 8 65 (lw_Z below #[Value.ref b] s) (F0 m 510 ls []) := by
  obtain ⟨hx, hb, hr, hml, hown, hts, hX, hbl, hlocks, hgv⟩ := C0
  have hA : ∀ q : Nat, s.heap.size ≤ q → (fun q : Nat => s.heap.size ≤ q) q := fun _ h => h
  have hbA : ¬ (fun q : Nat => s.heap.size ≤ q) b := Nat.not_le.mpr hbl
  have ht : ∀ w ∈ lw_tbl, w.before #[Value.ref b] s = true := hts
  refine lv_aload_n hx hb md_L_law_510 rfl (lv_at hl 1 rfl) ?_
  refine lv_aload_n hx hb md_L_law_511 rfl (lv_at hl 0 rfl) ?_
  refine lv_iload_n hx hb md_L_law_512 rfl (lv_at hl 3 rfl) ?_
  refine lv_iconst (v := 1) hx hb md_L_law_513 (by decide) ?_
  refine lv_iadd hx hb md_L_law_514 ?_
  refine va_sld hx hb hX hbl hbA hS (ix_in (k := 1) hj6 (by decide) hL) md_L_law_515 ?_
  refine lv_aload_n hx hb md_L_law_516 rfl (lv_at hl 0 rfl) ?_
  refine lv_iload_n hx hb md_L_law_517 rfl (lv_at hl 3 rfl) ?_
  refine lv_iconst (v := 2) hx hb md_L_law_518 (by decide) ?_
  refine lv_iadd hx hb md_L_law_519 ?_
  refine va_sld hx hb hX hbl hbA hS (ix_in (k := 2) hj6 (by decide) hL) md_L_law_520 ?_
  refine lv_aload_n hx hb md_L_law_521 rfl (lv_at hl 0 rfl) ?_
  refine lv_iload_n hx hb md_L_law_522 rfl (lv_at hl 3 rfl) ?_
  refine lv_iconst (v := 3) hx hb md_L_law_523 (by decide) ?_
  refine lv_iadd hx hb md_L_law_524 ?_
  refine va_sld hx hb hX hbl hbA hS (ix_in (k := 3) hj6 (by decide) hL) md_L_law_525 ?_
  refine l_ncalli (va_runV (C := "NumberProbe") (As := [.int (xs ((nI j) + 1).toNatClampNeg), .int (xs ((nI j) + 2).toNatClampNeg), .int (xs ((nI j) + 3).toNatClampNeg)]) (rest := []) ⟨hx, hb, hml, hown, hts⟩ (mt_N_order l D cL cO h1 q1 g ad tb _ u (xs ((nI j) + 1).toNatClampNeg) (xs ((nI j) + 2).toNatClampNeg) (xs ((nI j) + 3).toNatClampNeg)) (cwV 3 hts (gl_V tm_272 tm_273 tm_274 tm_24 tm_275) rfl rfl rfl (by decide +kernel) ⟨Nat.le_of_ble_eq_true rfl, Nat.le_of_ble_eq_true rfl⟩) (l_nin hK hE hT hM hS hA) rfl rfl hl.1 rfl (lv_room (Nat.le_of_ble_eq_true rfl)) md_L_law_526 ⟨Nat.le_of_ble_eq_true rfl, Nat.le_of_ble_eq_true rfl⟩) hM hS hA (fun r_1 u_3 H_4 L_5 e_2 hM hS => ?_)
  refine lv_pop hx hb md_L_law_529 rfl ?_
  refine lv_aload_n hx hb md_L_law_530 rfl (lv_at hl 2 rfl) ?_
  refine lv_aload_n hx hb md_L_law_531 rfl (lv_at hl 0 rfl) ?_
  refine lv_iload_n hx hb md_L_law_532 rfl (lv_at hl 3 rfl) ?_
  refine lv_iconst (v := 1) hx hb md_L_law_533 (by decide) ?_
  refine lv_iadd hx hb md_L_law_534 ?_
  refine va_sld hx hb hX hbl hbA hS (ix_in (k := 1) hj6 (by decide) hL) md_L_law_535 ?_
  refine lv_aload_n hx hb md_L_law_536 rfl (lv_at hl 0 rfl) ?_
  refine lv_iload_n hx hb md_L_law_537 rfl (lv_at hl 3 rfl) ?_
  refine lv_iconst (v := 2) hx hb md_L_law_538 (by decide) ?_
  refine lv_iadd hx hb md_L_law_539 ?_
  refine va_sld hx hb hX hbl hbA hS (ix_in (k := 2) hj6 (by decide) hL) md_L_law_540 ?_
  refine lv_aload_n hx hb md_L_law_541 rfl (lv_at hl 0 rfl) ?_
  refine lv_iload_n hx hb md_L_law_542 rfl (lv_at hl 3 rfl) ?_
  refine lv_iconst (v := 3) hx hb md_L_law_543 (by decide) ?_
  refine lv_iadd hx hb md_L_law_544 ?_
  refine va_sld hx hb hX hbl hbA hS (ix_in (k := 3) hj6 (by decide) hL) md_L_law_545 ?_
  refine l_mcalli (va_runV (C := "NumberProbeModel") (As := [.int (xs ((nI j) + 1).toNatClampNeg), .int (xs ((nI j) + 2).toNatClampNeg), .int (xs ((nI j) + 3).toNatClampNeg)]) (rest := []) ⟨hx, hb, hml, hown, hts⟩ (mt_M_order l D cL h2 q2 _ v (xs ((nI j) + 1).toNatClampNeg) (xs ((nI j) + 2).toNatClampNeg) (xs ((nI j) + 3).toNatClampNeg)) (cwV 3 hts (gl_V tm_531 tm_532 tm_533 tm_25 tm_534) rfl rfl rfl (by decide +kernel) ⟨Nat.le_of_ble_eq_true rfl, Nat.le_of_ble_eq_true rfl⟩) (l_min hK hM) rfl rfl hl.1 rfl (lv_room (Nat.le_of_ble_eq_true rfl)) md_L_law_546 ⟨Nat.le_of_ble_eq_true rfl, Nat.le_of_ble_eq_true rfl⟩) hM hS hA (fun r_6 v_8 H_9 L_10 e_7 hM hS => ?_)
  refine lv_pop hx hb md_L_law_549 rfl ?_
  refine lv_goto (tgt := 672) hx hb md_L_law_550 (by decide) ?_
  exact kk _ _ _ _ ls hM hS (lv_sub hl [0, 1, 2, 3] rfl)
set_option maxHeartbeats 4000000 in
set_option maxRecDepth 100000 in
theorem lc_9 {p : Program} {l : Launch} {e : Env} {s : State} {m : MethodId} {below : List Frame} {meth : Method} {c : Code} {D : va_G} {cL cO : ClassId} {h1 q1 h2 q2 : Nat} {g ad tb : Nat → Nat} {b L : Nat} {xs : Nat → Int32} (hL : L ≤ 3072) (C0 : lw_At p s m meth c b L xs) (hK : va_K D cls9 (NK cL cO) s) (hE : FW ad (fun q : Nat => s.heap.size ≤ q) s s.heap) (hT : TW tb (fun q : Nat => s.heap.size ≤ q) s s.heap) {j : Nat} (hj6 : j + 6 ≤ L) (u : Nat → Nat → Int64) (v : MT) (H : Heap) (locs : List Loc) (hM : LWd D cL cO h1 q1 g h2 q2 (fun q : Nat => s.heap.size ≤ q) u v H) (hS : va_S (fun q : Nat => s.heap.size ≤ q) s.heap H locs) (ls : Array Slot) (hl : lv_has ls 4 [(0, .ref b), (1, .ref h1), (2, .ref h2), (3, .int (nI j))])
    (kk : ∀ (u : Nat → Nat → Int64) (v : MT) (H : Heap) (locs : List Loc) (ls : Array Slot), LWd D cL cO h1 q1 g h2 q2 (fun q : Nat => s.heap.size ≤ q) u v H → va_S (fun q : Nat => s.heap.size ≤ q) s.heap H locs → lv_has ls 4 [(0, .ref b), (1, .ref h1), (2, .ref h2), (3, .int (nI j))] → W p l e room_1 s m #[Value.ref b] below meth c H locs 8 65 (lw_Z below #[Value.ref b] s) (F0 m 672 ls [])) : W p l e room_1 s m #[Value.ref b] below meth c H locs 8 65 (lw_Z below #[Value.ref b] s) (F0 m 553 ls []) := by
  obtain ⟨hx, hb, hr, hml, hown, hts, hX, hbl, hlocks, hgv⟩ := C0
  have hA : ∀ q : Nat, s.heap.size ≤ q → (fun q : Nat => s.heap.size ≤ q) q := fun _ h => h
  have hbA : ¬ (fun q : Nat => s.heap.size ≤ q) b := Nat.not_le.mpr hbl
  have ht : ∀ w ∈ lw_tbl, w.before #[Value.ref b] s = true := hts
  refine lv_aload_n hx hb md_L_law_553 rfl (lv_at hl 1 rfl) ?_
  refine lv_aload_n hx hb md_L_law_554 rfl (lv_at hl 0 rfl) ?_
  refine lv_iload_n hx hb md_L_law_555 rfl (lv_at hl 3 rfl) ?_
  refine lv_iconst (v := 1) hx hb md_L_law_556 (by decide) ?_
  refine lv_iadd hx hb md_L_law_557 ?_
  refine va_sld hx hb hX hbl hbA hS (ix_in (k := 1) hj6 (by decide) hL) md_L_law_558 ?_
  refine lv_aload_n hx hb md_L_law_559 rfl (lv_at hl 0 rfl) ?_
  refine lv_iload_n hx hb md_L_law_560 rfl (lv_at hl 3 rfl) ?_
  refine lv_iconst (v := 2) hx hb md_L_law_561 (by decide) ?_
  refine lv_iadd hx hb md_L_law_562 ?_
  refine va_sld hx hb hX hbl hbA hS (ix_in (k := 2) hj6 (by decide) hL) md_L_law_563 ?_
  refine l_ncalli (va_runV (C := "NumberProbe") (As := [.int (xs ((nI j) + 1).toNatClampNeg), .int (xs ((nI j) + 2).toNatClampNeg)]) (rest := []) ⟨hx, hb, hml, hown, hts⟩ (mt_N_sort l D cL cO h1 q1 g ad tb _ u (xs ((nI j) + 1).toNatClampNeg) (xs ((nI j) + 2).toNatClampNeg)) (cwV 2 hts (gl_V tm_280 tm_281 tm_282 tm_24 tm_283) rfl rfl rfl (by decide +kernel) ⟨Nat.le_of_ble_eq_true rfl, Nat.le_of_ble_eq_true rfl⟩) (l_nin hK hE hT hM hS hA) rfl rfl hl.1 rfl (lv_room (Nat.le_of_ble_eq_true rfl)) md_L_law_564 ⟨Nat.le_of_ble_eq_true rfl, Nat.le_of_ble_eq_true rfl⟩) hM hS hA (fun r_1 u_3 H_4 L_5 e_2 hM hS => ?_)
  refine lv_pop hx hb md_L_law_567 rfl ?_
  refine lv_aload_n hx hb md_L_law_568 rfl (lv_at hl 2 rfl) ?_
  refine lv_aload_n hx hb md_L_law_569 rfl (lv_at hl 0 rfl) ?_
  refine lv_iload_n hx hb md_L_law_570 rfl (lv_at hl 3 rfl) ?_
  refine lv_iconst (v := 1) hx hb md_L_law_571 (by decide) ?_
  refine lv_iadd hx hb md_L_law_572 ?_
  refine va_sld hx hb hX hbl hbA hS (ix_in (k := 1) hj6 (by decide) hL) md_L_law_573 ?_
  refine lv_aload_n hx hb md_L_law_574 rfl (lv_at hl 0 rfl) ?_
  refine lv_iload_n hx hb md_L_law_575 rfl (lv_at hl 3 rfl) ?_
  refine lv_iconst (v := 2) hx hb md_L_law_576 (by decide) ?_
  refine lv_iadd hx hb md_L_law_577 ?_
  refine va_sld hx hb hX hbl hbA hS (ix_in (k := 2) hj6 (by decide) hL) md_L_law_578 ?_
  refine l_mcalli (va_runV (C := "NumberProbeModel") (As := [.int (xs ((nI j) + 1).toNatClampNeg), .int (xs ((nI j) + 2).toNatClampNeg)]) (rest := []) ⟨hx, hb, hml, hown, hts⟩ (mt_M_sort l D cL h2 q2 _ v (xs ((nI j) + 1).toNatClampNeg) (xs ((nI j) + 2).toNatClampNeg)) (cwV 2 hts (gl_V tm_535 tm_536 tm_537 tm_25 tm_538) rfl rfl rfl (by decide +kernel) ⟨Nat.le_of_ble_eq_true rfl, Nat.le_of_ble_eq_true rfl⟩) (l_min hK hM) rfl rfl hl.1 rfl (lv_room (Nat.le_of_ble_eq_true rfl)) md_L_law_579 ⟨Nat.le_of_ble_eq_true rfl, Nat.le_of_ble_eq_true rfl⟩) hM hS hA (fun r_6 v_8 H_9 L_10 e_7 hM hS => ?_)
  refine lv_pop hx hb md_L_law_582 rfl ?_
  refine lv_goto (tgt := 672) hx hb md_L_law_583 (by decide) ?_
  exact kk _ _ _ _ ls hM hS (lv_sub hl [0, 1, 2, 3] rfl)
set_option maxHeartbeats 4000000 in
set_option maxRecDepth 100000 in
theorem lc_10 {p : Program} {l : Launch} {e : Env} {s : State} {m : MethodId} {below : List Frame} {meth : Method} {c : Code} {D : va_G} {cL cO : ClassId} {h1 q1 h2 q2 : Nat} {g ad tb : Nat → Nat} {b L : Nat} {xs : Nat → Int32} (hL : L ≤ 3072) (C0 : lw_At p s m meth c b L xs) (hK : va_K D cls9 (NK cL cO) s) (hE : FW ad (fun q : Nat => s.heap.size ≤ q) s s.heap) (hT : TW tb (fun q : Nat => s.heap.size ≤ q) s s.heap) {j : Nat} (hj6 : j + 6 ≤ L) (u : Nat → Nat → Int64) (v : MT) (H : Heap) (locs : List Loc) (hM : LWd D cL cO h1 q1 g h2 q2 (fun q : Nat => s.heap.size ≤ q) u v H) (hS : va_S (fun q : Nat => s.heap.size ≤ q) s.heap H locs) (ls : Array Slot) (hl : lv_has ls 4 [(0, .ref b), (1, .ref h1), (2, .ref h2), (3, .int (nI j))])
    (kk : ∀ (u : Nat → Nat → Int64) (v : MT) (H : Heap) (locs : List Loc) (ls : Array Slot), LWd D cL cO h1 q1 g h2 q2 (fun q : Nat => s.heap.size ≤ q) u v H → va_S (fun q : Nat => s.heap.size ≤ q) s.heap H locs → lv_has ls 4 [(0, .ref b), (1, .ref h1), (2, .ref h2), (3, .int (nI j))] → W p l e room_1 s m #[Value.ref b] below meth c H locs 8 65 (lw_Z below #[Value.ref b] s) (F0 m 672 ls [])) : W p l e room_1 s m #[Value.ref b] below meth c H locs 8 65 (lw_Z below #[Value.ref b] s) (F0 m 586 ls []) := by
  obtain ⟨hx, hb, hr, hml, hown, hts, hX, hbl, hlocks, hgv⟩ := C0
  have hA : ∀ q : Nat, s.heap.size ≤ q → (fun q : Nat => s.heap.size ≤ q) q := fun _ h => h
  have hbA : ¬ (fun q : Nat => s.heap.size ≤ q) b := Nat.not_le.mpr hbl
  have ht : ∀ w ∈ lw_tbl, w.before #[Value.ref b] s = true := hts
  refine lv_aload_n hx hb md_L_law_586 rfl (lv_at hl 1 rfl) ?_
  refine lv_aload_n hx hb md_L_law_587 rfl (lv_at hl 0 rfl) ?_
  refine lv_iload_n hx hb md_L_law_588 rfl (lv_at hl 3 rfl) ?_
  refine lv_iconst (v := 1) hx hb md_L_law_589 (by decide) ?_
  refine lv_iadd hx hb md_L_law_590 ?_
  refine va_sld hx hb hX hbl hbA hS (ix_in (k := 1) hj6 (by decide) hL) md_L_law_591 ?_
  refine lv_aload_n hx hb md_L_law_592 rfl (lv_at hl 0 rfl) ?_
  refine lv_iload_n hx hb md_L_law_593 rfl (lv_at hl 3 rfl) ?_
  refine lv_iconst (v := 2) hx hb md_L_law_594 (by decide) ?_
  refine lv_iadd hx hb md_L_law_595 ?_
  refine va_sld hx hb hX hbl hbA hS (ix_in (k := 2) hj6 (by decide) hL) md_L_law_596 ?_
  refine lv_aload_n hx hb md_L_law_597 rfl (lv_at hl 0 rfl) ?_
  refine lv_iload_n hx hb md_L_law_598 rfl (lv_at hl 3 rfl) ?_
  refine lv_iconst (v := 3) hx hb md_L_law_599 (by decide) ?_
  refine lv_iadd hx hb md_L_law_600 ?_
  refine va_sld hx hb hX hbl hbA hS (ix_in (k := 3) hj6 (by decide) hL) md_L_law_601 ?_
  refine lv_aload_n hx hb md_L_law_602 rfl (lv_at hl 0 rfl) ?_
  refine lv_iload_n hx hb md_L_law_603 rfl (lv_at hl 3 rfl) ?_
  refine lv_iconst (v := 4) hx hb md_L_law_604 (by decide) ?_
  refine lv_iadd hx hb md_L_law_605 ?_
  refine va_sld hx hb hX hbl hbA hS (ix_in (k := 4) hj6 (by decide) hL) md_L_law_606 ?_
  refine l_ncalli (va_runV (C := "NumberProbe") (As := [.int (xs ((nI j) + 1).toNatClampNeg), .int (xs ((nI j) + 2).toNatClampNeg), .int (xs ((nI j) + 3).toNatClampNeg), .int (xs ((nI j) + 4).toNatClampNeg)]) (rest := []) ⟨hx, hb, hml, hown, hts⟩ (mt_N_series l D cL cO h1 q1 g ad tb _ u (xs ((nI j) + 1).toNatClampNeg) (xs ((nI j) + 2).toNatClampNeg) (xs ((nI j) + 3).toNatClampNeg) (xs ((nI j) + 4).toNatClampNeg)) (cwV 4 hts (gl_V tm_304 tm_305 tm_306 tm_24 tm_307) rfl rfl rfl (by decide +kernel) ⟨Nat.le_of_ble_eq_true rfl, Nat.le_of_ble_eq_true rfl⟩) (l_nin hK hE hT hM hS hA) rfl rfl hl.1 rfl (lv_room (Nat.le_of_ble_eq_true rfl)) md_L_law_607 ⟨Nat.le_of_ble_eq_true rfl, Nat.le_of_ble_eq_true rfl⟩) hM hS hA (fun r_1 u_3 H_4 L_5 e_2 hM hS => ?_)
  refine lv_pop hx hb md_L_law_610 rfl ?_
  refine lv_aload_n hx hb md_L_law_611 rfl (lv_at hl 2 rfl) ?_
  refine lv_aload_n hx hb md_L_law_612 rfl (lv_at hl 0 rfl) ?_
  refine lv_iload_n hx hb md_L_law_613 rfl (lv_at hl 3 rfl) ?_
  refine lv_iconst (v := 1) hx hb md_L_law_614 (by decide) ?_
  refine lv_iadd hx hb md_L_law_615 ?_
  refine va_sld hx hb hX hbl hbA hS (ix_in (k := 1) hj6 (by decide) hL) md_L_law_616 ?_
  refine lv_aload_n hx hb md_L_law_617 rfl (lv_at hl 0 rfl) ?_
  refine lv_iload_n hx hb md_L_law_618 rfl (lv_at hl 3 rfl) ?_
  refine lv_iconst (v := 2) hx hb md_L_law_619 (by decide) ?_
  refine lv_iadd hx hb md_L_law_620 ?_
  refine va_sld hx hb hX hbl hbA hS (ix_in (k := 2) hj6 (by decide) hL) md_L_law_621 ?_
  refine lv_aload_n hx hb md_L_law_622 rfl (lv_at hl 0 rfl) ?_
  refine lv_iload_n hx hb md_L_law_623 rfl (lv_at hl 3 rfl) ?_
  refine lv_iconst (v := 3) hx hb md_L_law_624 (by decide) ?_
  refine lv_iadd hx hb md_L_law_625 ?_
  refine va_sld hx hb hX hbl hbA hS (ix_in (k := 3) hj6 (by decide) hL) md_L_law_626 ?_
  refine lv_aload_n hx hb md_L_law_627 rfl (lv_at hl 0 rfl) ?_
  refine lv_iload_n hx hb md_L_law_628 rfl (lv_at hl 3 rfl) ?_
  refine lv_iconst (v := 4) hx hb md_L_law_629 (by decide) ?_
  refine lv_iadd hx hb md_L_law_630 ?_
  refine va_sld hx hb hX hbl hbA hS (ix_in (k := 4) hj6 (by decide) hL) md_L_law_631 ?_
  refine l_mcalli (va_runV (C := "NumberProbeModel") (As := [.int (xs ((nI j) + 1).toNatClampNeg), .int (xs ((nI j) + 2).toNatClampNeg), .int (xs ((nI j) + 3).toNatClampNeg), .int (xs ((nI j) + 4).toNatClampNeg)]) (rest := []) ⟨hx, hb, hml, hown, hts⟩ (mt_M_series l D cL h2 q2 _ v (xs ((nI j) + 1).toNatClampNeg) (xs ((nI j) + 2).toNatClampNeg) (xs ((nI j) + 3).toNatClampNeg) (xs ((nI j) + 4).toNatClampNeg)) (cwV 4 hts (gl_V tm_539 tm_540 tm_541 tm_25 tm_542) rfl rfl rfl (by decide +kernel) ⟨Nat.le_of_ble_eq_true rfl, Nat.le_of_ble_eq_true rfl⟩) (l_min hK hM) rfl rfl hl.1 rfl (lv_room (Nat.le_of_ble_eq_true rfl)) md_L_law_632 ⟨Nat.le_of_ble_eq_true rfl, Nat.le_of_ble_eq_true rfl⟩) hM hS hA (fun r_6 v_8 H_9 L_10 e_7 hM hS => ?_)
  refine lv_pop hx hb md_L_law_635 rfl ?_
  refine lv_goto (tgt := 672) hx hb md_L_law_636 (by decide) ?_
  exact kk _ _ _ _ ls hM hS (lv_sub hl [0, 1, 2, 3] rfl)
set_option maxHeartbeats 4000000 in
set_option maxRecDepth 100000 in
theorem lc_11 {p : Program} {l : Launch} {e : Env} {s : State} {m : MethodId} {below : List Frame} {meth : Method} {c : Code} {D : va_G} {cL cO : ClassId} {h1 q1 h2 q2 : Nat} {g ad tb : Nat → Nat} {b L : Nat} {xs : Nat → Int32} (hL : L ≤ 3072) (C0 : lw_At p s m meth c b L xs) (hK : va_K D cls9 (NK cL cO) s) (hE : FW ad (fun q : Nat => s.heap.size ≤ q) s s.heap) (hT : TW tb (fun q : Nat => s.heap.size ≤ q) s s.heap) {j : Nat} (hj6 : j + 6 ≤ L) (u : Nat → Nat → Int64) (v : MT) (H : Heap) (locs : List Loc) (hM : LWd D cL cO h1 q1 g h2 q2 (fun q : Nat => s.heap.size ≤ q) u v H) (hS : va_S (fun q : Nat => s.heap.size ≤ q) s.heap H locs) (ls : Array Slot) (hl : lv_has ls 4 [(0, .ref b), (1, .ref h1), (2, .ref h2), (3, .int (nI j))])
    (kk : ∀ (u : Nat → Nat → Int64) (v : MT) (H : Heap) (locs : List Loc) (ls : Array Slot), LWd D cL cO h1 q1 g h2 q2 (fun q : Nat => s.heap.size ≤ q) u v H → va_S (fun q : Nat => s.heap.size ≤ q) s.heap H locs → lv_has ls 4 [(0, .ref b), (1, .ref h1), (2, .ref h2), (3, .int (nI j))] → W p l e room_1 s m #[Value.ref b] below meth c H locs 8 65 (lw_Z below #[Value.ref b] s) (F0 m 672 ls [])) : W p l e room_1 s m #[Value.ref b] below meth c H locs 8 65 (lw_Z below #[Value.ref b] s) (F0 m 639 ls []) := by
  obtain ⟨hx, hb, hr, hml, hown, hts, hX, hbl, hlocks, hgv⟩ := C0
  have hA : ∀ q : Nat, s.heap.size ≤ q → (fun q : Nat => s.heap.size ≤ q) q := fun _ h => h
  have hbA : ¬ (fun q : Nat => s.heap.size ≤ q) b := Nat.not_le.mpr hbl
  have ht : ∀ w ∈ lw_tbl, w.before #[Value.ref b] s = true := hts
  refine lv_aload_n hx hb md_L_law_639 rfl (lv_at hl 1 rfl) ?_
  refine lv_aload_n hx hb md_L_law_640 rfl (lv_at hl 0 rfl) ?_
  refine lv_iload_n hx hb md_L_law_641 rfl (lv_at hl 3 rfl) ?_
  refine lv_iconst (v := 1) hx hb md_L_law_642 (by decide) ?_
  refine lv_iadd hx hb md_L_law_643 ?_
  refine va_sld hx hb hX hbl hbA hS (ix_in (k := 1) hj6 (by decide) hL) md_L_law_644 ?_
  refine lv_aload_n hx hb md_L_law_645 rfl (lv_at hl 0 rfl) ?_
  refine lv_iload_n hx hb md_L_law_646 rfl (lv_at hl 3 rfl) ?_
  refine lv_iconst (v := 2) hx hb md_L_law_647 (by decide) ?_
  refine lv_iadd hx hb md_L_law_648 ?_
  refine va_sld hx hb hX hbl hbA hS (ix_in (k := 2) hj6 (by decide) hL) md_L_law_649 ?_
  refine l_ncalli (va_runV (C := "NumberProbe") (As := [.int (xs ((nI j) + 1).toNatClampNeg), .int (xs ((nI j) + 2).toNatClampNeg)]) (rest := []) ⟨hx, hb, hml, hown, hts⟩ (mt_N_polynomial l D cL cO h1 q1 g ad tb _ u (xs ((nI j) + 1).toNatClampNeg) (xs ((nI j) + 2).toNatClampNeg)) (cwV 2 hts (gl_V tm_308 tm_309 tm_310 tm_24 tm_311) rfl rfl rfl (by decide +kernel) ⟨Nat.le_of_ble_eq_true rfl, Nat.le_of_ble_eq_true rfl⟩) (l_nin hK hE hT hM hS hA) rfl rfl hl.1 rfl (lv_room (Nat.le_of_ble_eq_true rfl)) md_L_law_650 ⟨Nat.le_of_ble_eq_true rfl, Nat.le_of_ble_eq_true rfl⟩) hM hS hA (fun r_1 u_3 H_4 L_5 e_2 hM hS => ?_)
  refine lv_aload_n hx hb md_L_law_653 rfl (lv_at hl 2 rfl) ?_
  refine lv_aload_n hx hb md_L_law_654 rfl (lv_at hl 0 rfl) ?_
  refine lv_iload_n hx hb md_L_law_655 rfl (lv_at hl 3 rfl) ?_
  refine lv_iconst (v := 1) hx hb md_L_law_656 (by decide) ?_
  refine lv_iadd hx hb md_L_law_657 ?_
  refine va_sld hx hb hX hbl hbA hS (ix_in (k := 1) hj6 (by decide) hL) md_L_law_658 ?_
  refine lv_aload_n hx hb md_L_law_659 rfl (lv_at hl 0 rfl) ?_
  refine lv_iload_n hx hb md_L_law_660 rfl (lv_at hl 3 rfl) ?_
  refine lv_iconst (v := 2) hx hb md_L_law_661 (by decide) ?_
  refine lv_iadd hx hb md_L_law_662 ?_
  refine va_sld hx hb hX hbl hbA hS (ix_in (k := 2) hj6 (by decide) hL) md_L_law_663 ?_
  refine l_mcalli (va_runV (C := "NumberProbeModel") (As := [.int (xs ((nI j) + 1).toNatClampNeg), .int (xs ((nI j) + 2).toNatClampNeg)]) (rest := [.int r_1]) ⟨hx, hb, hml, hown, hts⟩ (mt_M_polynomial l D cL h2 q2 _ v (xs ((nI j) + 1).toNatClampNeg) (xs ((nI j) + 2).toNatClampNeg)) (cwV 2 hts (gl_V tm_543 tm_544 tm_545 tm_25 tm_546) rfl rfl rfl (by decide +kernel) ⟨Nat.le_of_ble_eq_true rfl, Nat.le_of_ble_eq_true rfl⟩) (l_min hK hM) rfl rfl hl.1 rfl (lv_room (Nat.le_of_ble_eq_true rfl)) md_L_law_664 ⟨Nat.le_of_ble_eq_true rfl, Nat.le_of_ble_eq_true rfl⟩) hM hS hA (fun r_6 v_8 H_9 L_10 e_7 hM hS => ?_)
  refine lv_icmp_eq (tgt := 672) hx hb md_L_law_667 (by decide) (fun c_11 => ?_) (fun c_11 => ?_)
  · exact kk _ _ _ _ ls hM hS (lv_sub hl [0, 1, 2, 3] rfl)
  · exact absurd (e_2.trans e_7.symm) c_11
