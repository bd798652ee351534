set_option maxHeartbeats 4000000 in
set_option maxRecDepth 100000 in
theorem law_loop {p : Program} {l : Launch} {e : Env} {s : State} {m : MethodId} {below : List Frame} {meth : Method} {c : Code} {D : va_G} {cL cO : ClassId} {h1 q1 h2 q2 : Nat} {g ad tb : Nat → Nat} {b L : Nat} {xs : Nat → Int32} (hL : L ≤ 3072) (C0 : lw_At p s m meth c b L xs) (hK : va_K D cls9 (NK cL cO) s) (hE : FW ad (fun q : Nat => s.heap.size ≤ q) s s.heap) (hT : TW tb (fun q : Nat => s.heap.size ≤ q) s s.heap) : ∀ (n j : Nat), j ≤ L + 6 → L + 1 ≤ j + n → ∀ (u : Nat → Nat → Int64) (v : MT) (H : Heap) (locs : List Loc), LWd D cL cO h1 q1 g h2 q2 (fun q : Nat => s.heap.size ≤ q) u v H → va_S (fun q : Nat => s.heap.size ≤ q) s.heap H locs → ∀ (ls : Array Slot), lv_has ls 4 [(0, .ref b), (1, .ref h1), (2, .ref h2), (3, .int (nI j))] → W p l e room_1 s m #[Value.ref b] below meth c H locs 8 65 (lw_Z below #[Value.ref b] s) (F0 m 18 ls []) := by
  have C1 := C0
  obtain ⟨hx, hb, hr, hml, hown, hts, hX, hbl, hlocks, hgv⟩ := C0
  have hA : ∀ q : Nat, s.heap.size ≤ q → (fun q : Nat => s.heap.size ≤ q) q := fun _ h => h
  have hbA : ¬ (fun q : Nat => s.heap.size ≤ q) b := Nat.not_le.mpr hbl
  have ht : ∀ w ∈ lw_tbl, w.before #[Value.ref b] s = true := hts
  intro n
  induction n with
  | zero =>
    intro j hj hn u v H locs hM hS ls hl
    refine lv_iload_n hx hb md_L_law_18 rfl (lv_at hl 3 rfl) ?_
    refine lv_aload_n hx hb md_L_law_19 rfl (lv_at hl 0 rfl) ?_
    refine va_slen hx hb hX hbl hbA hS md_L_law_20 ?_
    refine lv_bipush (v := 6) hx hb md_L_law_21 (by decide) ?_
    refine lv_isub hx hb md_L_law_23 ?_
    refine lv_icmp_gt (tgt := 678) hx hb md_L_law_24 (by decide) (fun c9 => ?_) (fun c9 => ?_)
    · refine lv_iconst (v := 1) hx hb md_L_law_678 (by decide) ?_
      refine va_forget (fun q hq => hS.2.2 q hq) ?_
      refine W.widen (k := 600000) (n := 7302250) (by omega) (by omega) ?_
      exact lw_ret hx hb hr hlocks md_L_law_679
    · exact absurd (lw_cond hL (by omega) c9) (by omega)
  | succ n ih =>
    intro j hj hn u v H locs hM hS ls hl
    refine lv_iload_n hx hb md_L_law_18 rfl (lv_at hl 3 rfl) ?_
    refine lv_aload_n hx hb md_L_law_19 rfl (lv_at hl 0 rfl) ?_
    refine va_slen hx hb hX hbl hbA hS md_L_law_20 ?_
    refine lv_bipush (v := 6) hx hb md_L_law_21 (by decide) ?_
    refine lv_isub hx hb md_L_law_23 ?_
    refine lv_icmp_gt (tgt := 678) hx hb md_L_law_24 (by decide) (fun c9 => ?_) (fun c9 => ?_)
    · refine lv_iconst (v := 1) hx hb md_L_law_678 (by decide) ?_
      refine va_forget (fun q hq => hS.2.2 q hq) ?_
      refine W.widen (k := 600000) (n := 7302250) (by omega) (by omega) ?_
      exact lw_ret hx hb hr hlocks md_L_law_679
    · have hj6 : j + 6 ≤ L := lw_cond hL (by omega) c9
      have kk : ∀ (u : Nat → Nat → Int64) (v : MT) (H : Heap) (locs : List Loc) (ls : Array Slot), LWd D cL cO h1 q1 g h2 q2 (fun q : Nat => s.heap.size ≤ q) u v H → va_S (fun q : Nat => s.heap.size ≤ q) s.heap H locs → lv_has ls 4 [(0, .ref b), (1, .ref h1), (2, .ref h2), (3, .int (nI j))] → W p l e room_1 s m #[Value.ref b] below meth c H locs 8 65 (lw_Z below #[Value.ref b] s) (F0 m 672 ls []) := by
        intro u v H locs ls hM hS hl
        refine lv_iinc (v := nI (j + 6)) (lv' := [(3, .int (nI (j + 6))), (0, .ref b), (1, .ref h1), (2, .ref h2)]) hx hb md_L_law_672 hl (k := 3) rfl (by rw [← nI_add]; rfl) (by decide) rfl (fun ls hl => ?_)
        refine lv_goto (tgt := 18) hx hb md_L_law_675 (by decide) ?_
        exact ih (j + 6) (by omega) (by omega) u v H locs hM hS ls (lv_sub hl [1, 2, 3, 0] rfl)
      refine lv_aload_n hx hb md_L_law_27 rfl (lv_at hl 0 rfl) ?_
      refine lv_iload_n hx hb md_L_law_28 rfl (lv_at hl 3 rfl) ?_
      refine va_sld hx hb hX hbl hbA hS (vp_in_nI (by omega) (by omega)) md_L_law_29 ?_
      refine lv_bipush (v := 15) hx hb md_L_law_30 (by decide) ?_
      refine lv_iand hx hb md_L_law_32 ?_
      generalize (xs (nI j).toNatClampNeg) &&& 15 = x9
      by_cases k0 : x9 = 0
      · refine lv_tableIn (off := 63) (tgt := 96) hx hb md_L_law_33 (by rw [k0]; decide) (by rw [k0]; decide) (by rw [k0]; rfl) (by decide) ?_
        exact lc_0 hL C1 hK hE hT hj6 u v H locs hM hS ls hl kk
      by_cases k1 : x9 = 1
      · refine lv_tableIn (off := 136) (tgt := 169) hx hb md_L_law_33 (by rw [k1]; decide) (by rw [k1]; decide) (by rw [k1]; rfl) (by decide) ?_
        exact lc_1 hL C1 hK hE hT hj6 u v H locs hM hS ls hl kk
      by_cases k2 : x9 = 2
      · refine lv_tableIn (off := 179) (tgt := 212) hx hb md_L_law_33 (by rw [k2]; decide) (by rw [k2]; decide) (by rw [k2]; rfl) (by decide) ?_
        exact lc_2 hL C1 hK hE hT hj6 u v H locs hM hS ls hl kk
      by_cases k3 : x9 = 3
      · refine lv_tableIn (off := 212) (tgt := 245) hx hb md_L_law_33 (by rw [k3]; decide) (by rw [k3]; decide) (by rw [k3]; rfl) (by decide) ?_
        exact lc_3 hL C1 hK hE hT hj6 u v H locs hM hS ls hl kk
      by_cases k4 : x9 = 4
      · refine lv_tableIn (off := 275) (tgt := 308) hx hb md_L_law_33 (by rw [k4]; decide) (by rw [k4]; decide) (by rw [k4]; rfl) (by decide) ?_
        exact lc_4 hL C1 hK hE hT hj6 u v H locs hM hS ls hl kk
      by_cases k5 : x9 = 5
      · refine lv_tableIn (off := 338) (tgt := 371) hx hb md_L_law_33 (by rw [k5]; decide) (by rw [k5]; decide) (by rw [k5]; rfl) (by decide) ?_
        exact lc_5 hL C1 hK hE hT hj6 u v H locs hM hS ls hl kk
      by_cases k6 : x9 = 6
      · refine lv_tableIn (off := 391) (tgt := 424) hx hb md_L_law_33 (by rw [k6]; decide) (by rw [k6]; decide) (by rw [k6]; rfl) (by decide) ?_
        exact lc_6 hL C1 hK hE hT hj6 u v H locs hM hS ls hl kk
      by_cases k7 : x9 = 7
      · refine lv_tableIn (off := 434) (tgt := 467) hx hb md_L_law_33 (by rw [k7]; decide) (by rw [k7]; decide) (by rw [k7]; rfl) (by decide) ?_
        exact lc_7 hL C1 hK hE hT hj6 u v H locs hM hS ls hl kk
      by_cases k8 : x9 = 8
      · refine lv_tableIn (off := 477) (tgt := 510) hx hb md_L_law_33 (by rw [k8]; decide) (by rw [k8]; decide) (by rw [k8]; rfl) (by decide) ?_
        exact lc_8 hL C1 hK hE hT hj6 u v H locs hM hS ls hl kk
      by_cases k9 : x9 = 9
      · refine lv_tableIn (off := 520) (tgt := 553) hx hb md_L_law_33 (by rw [k9]; decide) (by rw [k9]; decide) (by rw [k9]; rfl) (by decide) ?_
        exact lc_9 hL C1 hK hE hT hj6 u v H locs hM hS ls hl kk
      by_cases k10 : x9 = 10
      · refine lv_tableIn (off := 553) (tgt := 586) hx hb md_L_law_33 (by rw [k10]; decide) (by rw [k10]; decide) (by rw [k10]; rfl) (by decide) ?_
        exact lc_10 hL C1 hK hE hT hj6 u v H locs hM hS ls hl kk
      by_cases k11 : x9 = 11
      · refine lv_tableIn (off := 606) (tgt := 639) hx hb md_L_law_33 (by rw [k11]; decide) (by rw [k11]; decide) (by rw [k11]; rfl) (by decide) ?_
        exact lc_11 hL C1 hK hE hT hj6 u v H locs hM hS ls hl kk
      refine lv_tableOut (tgt := 672) hx hb md_L_law_33 (by have := lv_neT k0 (a := 0) rfl; have := lv_neT k1 (a := 1) rfl; have := lv_neT k2 (a := 2) rfl; have := lv_neT k3 (a := 3) rfl; have := lv_neT k4 (a := 4) rfl; have := lv_neT k5 (a := 5) rfl; have := lv_neT k6 (a := 6) rfl; have := lv_neT k7 (a := 7) rfl; have := lv_neT k8 (a := 8) rfl; have := lv_neT k9 (a := 9) rfl; have := lv_neT k10 (a := 10) rfl; have := lv_neT k11 (a := 11) rfl; omega) (by decide) ?_
      exact kk _ _ _ _ ls hM hS hl
set_option maxHeartbeats 4000000 in
set_option maxRecDepth 100000 in
theorem whole_start {p : Program} {e : Env} {s : State} {m : MethodId} {below : List Frame} {meth : Method} {c : Code} (l : Launch) {b L : Nat} {xs : Nat → Int32} (hL : L ≤ 3072) (C0 : lw_At p s m meth c b L xs) : W p l e room_1 s m #[Value.ref b] below meth c s.heap [] 0 0 (lw_Z below #[Value.ref b] s) (entryFrame m ([Value.ref b] : List Value).toArray 4) := by
  obtain ⟨hx, hb, hr, hml, hown, hts, hX, hbl, hlocks, hgv⟩ := id C0
  have hA : ∀ q : Nat, s.heap.size ≤ q → (fun q : Nat => s.heap.size ≤ q) q := fun _ h => h
  have htg : ∀ w ∈ gw_tbl, w.before #[Value.ref b] s = true := fun w h => hts w (lw_gw h)
  obtain ⟨ad, tb, hE, hT⟩ := lw_env hgv hts
  have hiN : (Cond.instantiable "NumberProbe" 1).before #[Value.ref b] s = true := (hts _ (List.mem_of_getElem? (i := 32) (by decide +kernel)))
  have hiM : (Cond.instantiable "NumberProbeModel" 12).before #[Value.ref b] s = true := (hts _ (List.mem_of_getElem? (i := 313) (by decide +kernel)))
  have hAO : va_AOA .long s := (show (Cond.arrayOver (.array .long)).before #[Value.ref b] s = true from (hts _ (List.mem_of_getElem? (i := 40) (by decide +kernel))))
  obtain ⟨c0, iS0, hKn0⟩ := u_known (C := "NumberProbe") (T := TN) (N := 1) (n := 1) htg inN hiN
  obtain ⟨c1, iS1, hKn1⟩ := u_known (C := "NumberProbeModel") (T := TM) (N := 12) (n := 12) htg inM hiM
  obtain ⟨D, hKc⟩ : ∃ (D : va_G), ∀ (k : Nat) (q : vw_C), cls9[k]? = some q → u_Kn s q.1 q.2.1 q.2.2 (D.1 k) (D.2 k) := by
    refine ⟨(fun k => if k = 0 then c0 else c1, fun k => if k = 0 then iS0 else iS1), ?_⟩
    intro k q hq
    match k, hq with
    | 0, hq => cases hq; exact hKn0
    | 1, hq => cases hq; exact hKn1
    | k + 2, hq => simp [cls9] at hq
  obtain ⟨cL, kL, comp, f1, f2, f3⟩ := Cond.arrayClass_spec (htg _ tm_45)
  have hKL : va_K D cls9 [(cL, .long)] s := ⟨hKc, fun k q h => by
    match k, h with
    | 0, h => cases h; exact ⟨fun n z => ⟨fun k h => (by cases h), kL, f2, comp, f3⟩, f1⟩
    | k + 1, h => simp at h⟩
  have hS : va_S (fun q : Nat => s.heap.size ≤ q) s.heap s.heap [] := va_S.rf
  have hP : va_P D cls9 [] s.heap := fun k q h => by simp at h
  have hD : va_D (fun q : Nat => s.heap.size ≤ q) [] := ⟨fun i j p q h => by simp at h, fun k q h => by simp at h⟩
  have hl := lv_entry ([.ref b]) (n := 4) (Nat.le_of_ble_eq_true rfl)
  rw [lg_entry_eq]
  generalize (lg_sl ([.ref b]) ++ List.replicate (4 - (lg_sl ([.ref b])).length) Slot.unset).toArray = ls at hl ⊢
  have hl : lv_has ls 4 [(0, .ref b)] := hl
  refine va_new (ci := 0) (fs := [.null]) (C := "NumberProbe") (T := TN) (N := 1) hx hb htg inN tyN tyN_ok hown (htg _ tm_31) hiN (htg _ tm_24) hKL hP hD hS hA rfl (fun j hj => by rcases (show j = 0 by omega) with rfl; rfl) (Nat.le_of_ble_eq_true rfl) (Nat.le_of_ble_eq_true rfl) md_L_law_0 (fun h1 H hP hD hS => ?_)
  have hP : va_P D cls9 (n0W h1) H := hP
  have hD : va_D (fun q : Nat => s.heap.size ≤ q) (n0W h1) := hD
  refine W.widen (k := 1) (n := 1) (by omega) (by omega) ?_
  refine lv_dup hx hb md_L_law_3 rfl ?_
  have hFc := va_free (wc := n0W h1) hD hS hA [0] rfl
  refine va_callv (va_runI (As := []) (rest := [.ref h1]) ⟨hx, hb, hml, hown, hts⟩ (mt_N_init l D cL h1 H.size) (cwI 0 hts (gl_c tm_35) rfl rfl rfl (htg _ tm_24) (htg _ tm_33) (htg _ tm_34) rfl (by decide +kernel) ⟨Nat.le_of_ble_eq_true rfl, Nat.le_of_ble_eq_true rfl⟩) ⟨fun a U g mk q => by obtain ⟨q0, q1, qP, qK, qD, qO⟩ := q; exact ⟨q0, q1, qP, va_K.moved (u := U) (U := U.calling g mk a) (Vm.Alike.refl U.vm) qK, qD, qO⟩, fun U hU hW => ⟨rfl, by rw [hU], by rw [hU]; exact hP, va_K.moved hW.alike hKL, hD.weaken (fun _ _ _ _ => trivial), va_AOA.warm hW hAO⟩⟩ rfl rfl hl.1 rfl (lv_room (Nat.le_of_ble_eq_true rfl)) md_L_law_4 ⟨Nat.le_of_ble_eq_true rfl, Nat.le_of_ble_eq_true rfl⟩) hS (fun q _ h => hFc q h) hFc (fun u t H1 locs ht hvm hw hB hz1 hk1 hS => ?_)
  obtain ⟨q1, cO, g⟩ := u
  obtain ⟨hB1, hK1⟩ := hB
  rw [ht] at hB1
  have hK : va_K D cls9 (NK cL cO) s := va_K.moved hvm.symm hK1
  obtain ⟨hP, hD⟩ := va_join (wr := []) (w1 := nWs h1 q1 g cL cO (fun _ _ => 0)) hP hD [0] [] rfl rfl (by decide) (by decide) hk1 hFc hB1.1 hB1.2
  generalize H1 = H at hP hS ⊢
  have hP : va_P D cls9 (nWs h1 q1 g cL cO (fun _ _ => 0)) H := hP
  have hD : va_D (fun q : Nat => s.heap.size ≤ q) (nWs h1 q1 g cL cO (fun _ _ => 0)) := hD
  refine W.widen (k := 6) (n := 29) (by omega) (by omega) ?_
  refine lv_astore_n (lv' := [(1, .ref h1), (0, .ref b)]) hx hb md_L_law_7 rfl hl (by decide) rfl (fun ls hl => ?_)
  refine va_new (ci := 1) (fs := m0) (C := "NumberProbeModel") (T := TM) (N := 12) hx hb htg inM tyM tyM_ok hown (htg _ tm_312) hiM (htg _ tm_25) hK hP hD hS hA rfl (fun j hj => by rcases (show j = 0 ∨ j = 1 ∨ j = 2 ∨ j = 3 ∨ j = 4 ∨ j = 5 ∨ j = 6 ∨ j = 7 ∨ j = 8 ∨ j = 9 ∨ j = 10 ∨ j = 11 by omega) with rfl | rfl | rfl | rfl | rfl | rfl | rfl | rfl | rfl | rfl | rfl | rfl <;> rfl) (Nat.le_of_ble_eq_true rfl) (Nat.le_of_ble_eq_true rfl) md_L_law_8 (fun h2 H hP hD hS => ?_)
  have hP : va_P D cls9 (nWs h1 q1 g cL cO (fun _ _ => 0) ++ m0W h2) H := hP
  have hD : va_D (fun q : Nat => s.heap.size ≤ q) (nWs h1 q1 g cL cO (fun _ _ => 0) ++ m0W h2) := hD
  refine W.widen (k := 7) (n := 41) (by omega) (by omega) ?_
  refine lv_dup hx hb md_L_law_11 rfl ?_
  have hPc := hP.sub (ws' := m0W h2) [6] rfl
  have hDc := hD.sub (ws' := m0W h2) [6] (by decide) rfl
  have hFc := va_free (wc := m0W h2) hD hS hA [6] rfl
  refine va_callv (va_runI (As := []) (rest := [.ref h2]) ⟨hx, hb, hml, hown, hts⟩ (mt_M_init l D h2 H.size) (cwI 0 hts (gl_c tm_316) rfl rfl rfl (htg _ tm_25) (htg _ tm_314) (htg _ tm_315) rfl (by decide +kernel) ⟨Nat.le_of_ble_eq_true rfl, Nat.le_of_ble_eq_true rfl⟩) ⟨fun a U g mk q => by obtain ⟨q0, q1, qP, qK, qD⟩ := q; exact ⟨q0, q1, qP, va_K.moved (u := U) (U := U.calling g mk a) (Vm.Alike.refl U.vm) qK, qD⟩, fun U hU hW => ⟨rfl, by rw [hU], by rw [hU]; exact hPc, va_K.moved hW.alike (hK.sub (tys' := []) [] rfl), hDc.weaken (fun _ _ _ _ => trivial)⟩⟩ rfl rfl hl.1 rfl (lv_room (Nat.le_of_ble_eq_true rfl)) md_L_law_12 ⟨Nat.le_of_ble_eq_true rfl, Nat.le_of_ble_eq_true rfl⟩) hS (fun q _ h => hFc q h) hFc (fun u t H1 locs ht hvm hw hB hz1 hk1 hS => ?_)
  obtain ⟨q2, cA⟩ := u
  obtain ⟨hB2, hK2⟩ := hB
  rw [ht] at hB2
  have hK2 : va_K D cls9 [(cA, .long)] s := va_K.moved hvm.symm hK2
  have eA : cA = cL := Option.some.inj ((va_nm_long (hK2.2 0 _ rfl).2).symm.trans (va_nm_long (hKL.2 0 _ rfl).2))
  subst eA
  obtain ⟨hP, hD⟩ := va_join (wr := nWs h1 q1 g cA cO (fun _ _ => 0)) (w1 := mWs h2 q2 cA mZ) hP hD [6] [0, 1, 2, 3, 4, 5] rfl rfl (by decide) (by decide) hk1 hFc hB2.1 hB2.2
  have hM : LWd D cA cO h1 q1 g h2 q2 (fun q : Nat => s.heap.size ≤ q) (fun _ _ => 0) mZ H1 := ⟨hP, hD⟩
  refine W.widen (k := 8) (n := 65) (by omega) (by omega) ?_
  refine lv_astore_n (lv' := [(2, .ref h2), (1, .ref h1), (0, .ref b)]) hx hb md_L_law_15 rfl hl (by decide) rfl (fun ls hl => ?_)
  refine lv_iconst (v := 0) hx hb md_L_law_16 (by decide) ?_
  refine lv_istore_n (lv' := [(3, .int 0), (2, .ref h2), (1, .ref h1), (0, .ref b)]) hx hb md_L_law_17 rfl hl (by decide) rfl (fun ls hl => ?_)
  exact law_loop hL C0 hK hE hT (L + 1) 0 (by omega) (by omega) _ _ _ _ hM hS ls (lv_sub hl [3, 2, 1, 0] rfl)
set_option maxHeartbeats 4000000 in
theorem lw_walk (l : Launch) (b : Addr) (xs : List Int32) : MetFree l x (headSpec (Jvm.Cond.code x code maxLocals ret :: tables_1) room_1) (lw_P b xs) (fun _ _ _ _ _ => True) lw_Q := by
  refine MetFree.of_bodyS (code := code) (maxLocals := maxLocals) (ret := ret) (by decide) ?_ ?_
  · intro args s m h hn
    obtain ⟨meth, c, h1, h2, h3, h4, h5, h6, -, -⟩ := Cond.code_spec hn (atoms_spec (ws := Jvm.Cond.code x code maxLocals ret :: tables_1) h _ List.mem_cons_self)
    exact ⟨meth, c, h1, h2, h3, h4, h5, h6⟩
  · intro p e s m args below meth c s₁ B hml0 hP _
    obtain ⟨rfl, hx, hbd, hgv⟩ := hP
    obtain ⟨scr, harrAt, hlist, hof, hsmall⟩ := hx
    obtain ⟨hcb, hkn, -, -⟩ := State.arrayAt?_spec harrAt
    have hown : s.vm.findClass R_law = some m.cls := findClass_of_methodNamed B.named
    have hts0 : ∀ c ∈ (Jvm.Cond.code x code maxLocals ret :: tables_1), c.before #[Value.ref b] s = true := atoms_spec (ws := Jvm.Cond.code x code maxLocals ret :: tables_1) B.pre
    have hts : ∀ w ∈ lw_tbl, w.before #[Value.ref b] s = true := k2_hts_sels lw_privs (fun w hw => hts0 w (List.mem_cons_of_mem _ hw)) lw_privs_ok
    have hml : c.maxLocals = 4 := B.maxLocals_eq (hts0 _ List.mem_cons_self)
    have X₀ : Stand p l e room_1 s m #[Value.ref b] below meth c s₁ [] 0 0 := Stand.of_body B
    have hh0 : s₁.heap = s.heap := by rw [B.state]; rfl
    have hsz : scr.slots.size = xs.length := by rw [← Array.length_toList, hlist, List.length_map]
    have hval : ∀ j : Nat, j < xs.length → scr.slots[j]? = some (.int (xs.getD j 0)) := fun j hj => by
      rw [← Array.getElem?_toList, hlist]
      simp [hj]
    have hbl : b < s.heap.size := (Array.getElem?_eq_some_iff.mp hcb).1
    have hX : va_X b xs.length (fun j => xs.getD j 0) s s.heap := ⟨scr, hcb, hof, hkn, hsz, hval⟩
    have K : W p l e room_1 s m #[Value.ref b] below meth c s₁.heap [] 0 0 (lw_Z below #[Value.ref b] s) (entryFrame m ([Value.ref b] : List Value).toArray 4) := by
      rw [hh0]
      exact whole_start l hbd ⟨B.exec, B.bytes, B.returns, hml, hown, hts, hX, hbl, B.notSynchronized, hgv⟩
    obtain ⟨t, a1, o, b1, b2, b3⟩ := K s₁ rfl X₀
    exact ⟨t, o, a1, b1, b2, b3⟩
theorem lw_pre_spec {args : Array Value} {s : State} (h : (Jvm.Cond.and given_1 narrow_1).before args s = true) (hr : rest_1_c.before args s = true) : ∃ (b : Addr) (xs : List Int32), lw_P b xs args s := by
  have hs := flat_of_before _ h
  have hq := flat_of_before _ hr
  have hc : (Cond.count 1).before args s = true := hs _ (by decide +kernel)
  have harr : (Cond.arrayOf (.arg 0) .int).before args s = true := hs _ (by decide +kernel)
  have hle : (Cond.le (.length (.arg 0)) (.int 3072)).before args s = true := hs _ (by decide +kernel)
  have hlen : (Cond.isInt (.length (.arg 0))).before args s = true := hq _ (by decide +kernel)
  have hall : (Cond.all (.arg 0) (.isInt (.elem (.arg 0) (.index 0)))).before args s = true := hq _ (by decide +kernel)
  obtain ⟨b, xs, hb, hx⟩ := State.ints_of_pre rfl harr hlen hall
  have hsm : xs.length < 2 ^ 31 := hx.choose_spec.2.2.2
  have hev : (Term.length (.arg 0)).eval args s none [] s = some (.int xs.length.toInt32) := hx.length_eval hb
  have hv := Cond.le_ints hev (show (Term.int 3072).eval args s none [] s = some (.int 3072) from rfl)
  have hd : xs.length.toInt32 ≤ 3072 := by
    simpa [Cond.before, Cond.holds, hv] using hle
  have hN : xs.length ≤ 3072 := (Int32.ofNat_le_ofNat hsm (by decide)).mp (show Int32.ofNat xs.length ≤ Int32.ofNat 3072 from hd)
  exact ⟨b, xs, Cond.one_arg hc (show args[0]? = some (.ref b) from hb), hx, hN, h⟩
theorem lw_comes (l : Launch) : Comes l x (Jvm.Cond.code x code maxLocals ret :: tables_1) room_1 (fun tb e args s => Calls_1 tb e args s ∧ rest_1 tb e args s ∧ Pre_1 tb e args s)
    (fun _ _ args s o t => lw_Q args s o t) := by
  intro p e ha hc hk s m args below hf hfit hheap happ hpre
  obtain ⟨b, xs, hP⟩ := lw_pre_spec hpre.2.2 hpre.2.1
  obtain ⟨k, o, h1, h2, h3, hQ⟩ := lw_walk l b xs p e ha hc hk s m args below hf ((Spec.applies_iff_loose hf).mp happ).1 hP trivial
  exact ⟨k, o, h1, h2, h3, hQ⟩
theorem lw_frame {s t : State} {o : Outcome} {args : Array Value} (h : Framed s o t [] 600000 7302250) :
    Framed s o t (fieldLocs frame_1_writes args s ++ arrayLocs frame_1_arrays args s ++ staticLocs frame_1_statics s) 600000 7302250 := h
theorem lw_limb (L : Cond) (hL : ∀ (args : Array Value) (s t : State), L.after args s (.returned (some (.int 1))) t = true) :
    ArmFor flags0 classFile x code maxLocals ret World_1 tables_1 room_1 Calls_1 rest_1 Pre_1
      (fun tb e a s o t => postC L tb e a s o t ∧ Framed s o t (fieldLocs frame_1_writes a s ++ arrayLocs frame_1_arrays a s ++ staticLocs frame_1_statics s) 600000 7302250) := by
  intro l _ _ _ p e ha hc hk s m args below hf hfit hheap happ hpre
  obtain ⟨k, o, h1, h2, h3, rfl, hF⟩ := lw_comes l p e ha hc hk s m args below hf hfit hheap happ hpre
  exact ⟨k, _, h1, h2, h3, hL args s _, lw_frame hF⟩
theorem i_vc : Claimed_1_1 ∧ Claimed_1_2 := ⟨lw_limb limb_1_1 (fun args s t => by simp [limb_1_1, Cond.after, Cond.holds, Cond.value]), lw_limb limb_1_2 (fun args s t => Cond.after_iff.mpr (by
  first | (rw [show limb_1_2 = Cond.eq .result (.int 1) from rfl, Cond.eq_ints (x := 1) (y := 1) rfl rfl]; simp; done) | (simp [limb_1_2, Cond.value, Term.eval]; done)))⟩
