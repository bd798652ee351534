/-! the constructors -/
abbrev m0 : List Value := [.null, .int 0, .int 0, .int 0, .int 0, .int 0, .int 0, .long 0, .long 0, .int 0, .int 0, .long 0]
abbrev mZ : MT := ((false, false, false, false, false, false, 0, 0, 0, 0, 0), fun _ => 0)
abbrev m0W (h0 : Nat) : va_W := [(h0, .inr (1, m0))]
abbrev n0W (h0 : Nat) : va_W := [(h0, .inr (0, [.null]))]
set_option maxHeartbeats 400000 in
set_option maxRecDepth 100000 in
theorem mt_M_init (l : Launch) (D : va_G) (h0 sz : Nat) : Met l my_M_init mw_M_init ({ frames := 1, cells := 1, slots := 24, locals := 12 } : Room) (va_Pc [.ref h0] (fun U => U.heap.size = sz ∧ va_P D cls9 (m0W h0) U.heap ∧ va_K D cls9 [] U ∧ va_D (fun _ => True) (m0W h0))) (va_Qv (fun (_ : Nat × ClassId) => True) (fun (q : Nat × ClassId) t => MWd D q.2 h0 q.1 (va_A (m0W h0) sz) mZ t.heap ∧ va_K D cls9 [(q.2, .long)] t) (va_A (m0W h0) sz)) 1 24 (va_A (m0W h0) sz) := by
  refine Met.ofW (cc := mc_M_init) (maxL := 1) (ret := none) (by decide) rfl ?_
  intro p e s m args below meth c s₁ B hml hv
  obtain ⟨rfl, hsz, hP, hK, hD0⟩ := hv
  have hx := B.exec
  have hb := B.bytes
  have hr := B.returns
  have hts := atoms_spec (ws := mw_M_init) B.pre
  have ht : ∀ w ∈ gw_tbl, w.before _ s = true := fun w h => hts w (List.mem_cons_of_mem _ h)
  have hown : s.vm.findClass "NumberProbeModel" = some m.cls := findClass_of_methodNamed B.named
  have hlocks := B.notSynchronized
  have hin : meth.name = "<init>" := (name_of_methodNamed B.named B.method).1
  subst hsz
  have hD : va_D (va_A (m0W h0) s.heap.size) (m0W h0) := hD0.self (sz := s.heap.size)
  generalize hAe : va_A (m0W h0) s.heap.size = A at hD ⊢
  have hA : ∀ q : Nat, s.heap.size ≤ q → A q := fun q h => by rw [← hAe]; exact Or.inr h
  have hS : va_S A s.heap s.heap [] := va_S.rf
  have hl := lv_entry ([.ref h0]) (n := 1) (Nat.le_of_ble_eq_true rfl)
  rw [lg_entry_eq]
  generalize (lg_sl ([.ref h0]) ++ List.replicate (1 - (lg_sl ([.ref h0])).length) Slot.unset).toArray = ls at hl ⊢
  have hl : lv_has ls 1 [(0, .ref h0)] := hl
  refine lv_aload_n hx hb md_M_init_0 rfl (lv_at hl 0 rfl) ?_
  refine W.objInit hx hb hown (ht _ tm_317) (ht _ tm_37) (ht _ tm_38) rfl (by rw [hml]; exact hl.1) rfl md_M_init_1 (Nat.le_of_ble_eq_true rfl) (Nat.le_of_ble_eq_true rfl) ?_
  refine W.eq (g2 := F0 m 4 ls []) rfl ?_
  refine lv_aload_n hx hb md_M_init_4 rfl (lv_at hl 0 rfl) ?_
  refine lv_bipush (v := 24) hx hb md_M_init_5 (by decide) ?_
  refine va_newa (atype := .long) (ty := .long) (n := 24) (a0 := (24, .inr (.inl (fun _ => 0)))) (N' := 24) hx hb (ht _ tm_45) rfl hK hP hD hS hA (fun cA => rfl) (by decide) (by decide) (by decide) (Nat.le_of_ble_eq_true rfl) (Nat.le_of_ble_eq_true rfl) md_M_init_7 (fun q cA H hK hP hD hS => ?_)
  have hP : va_P D cls9 [(h0, .inr (1, m0)), (q, .inl (cA, 24, .inr (.inl (fun _ => 0))))] H := hP
  have hD : va_D A [(h0, .inr (1, m0)), (q, .inl (cA, 24, .inr (.inl (fun _ => 0))))] := hD
  refine W.widen (k := 1) (n := 24) (by omega) (by omega) ?_
  refine va_putF (D := D) (ci := 1) (v := .ref q) (ty := .array .long) (C := "NumberProbeModel") (T := TM) (N := 12) hx hb ht inM tyM tyM_ok nmM hown hK hP hD hS 0 rfl rfl 0 (by decide) (ht _ tm_318) (fun _ h9 => h9) rfl hin rfl (by decide +kernel) rfl rfl (Nat.le_of_ble_eq_true rfl) md_M_init_9 (fun H locs hP hD hS => ?_)
  have hM : MWd D cA h0 q A mZ H := ⟨hP, hD⟩
  exact W.vret hx hb hr (fun t ht2 hW => ⟨⟨(q, cA), rfl, trivial, by show MWd D cA h0 q A mZ t.heap; rw [ht2]; exact hM, va_K.moved hW.alike hK⟩, hS.F ht2⟩) hS.2.2 md_M_init_12
set_option maxHeartbeats 4000000 in
set_option maxRecDepth 100000 in
theorem mt_N_init (l : Launch) (D : va_G) (cL : ClassId) (h0 sz : Nat) : Met l my_N_init mw_N_init ({ frames := 1, cells := 5, slots := 28, locals := 12 } : Room) (va_Pc [.ref h0] (fun U => U.heap.size = sz ∧ va_P D cls9 (n0W h0) U.heap ∧ va_K D cls9 [(cL, .long)] U ∧ va_D (fun _ => True) (n0W h0) ∧ va_AOA .long U)) (va_Qv (fun (_ : Nat × ClassId × (Nat → Nat)) => True) (fun (q : Nat × ClassId × (Nat → Nat)) t => NWd D cL q.2.1 h0 q.1 q.2.2 (va_A (n0W h0) sz) (fun _ _ => 0) t.heap ∧ va_K D cls9 (NK cL q.2.1) t) (va_A (n0W h0) sz)) 5 28 (va_A (n0W h0) sz) := by
  refine Met.ofW (cc := mc_N_init) (maxL := 1) (ret := none) (by decide) rfl ?_
  intro p e s m args below meth c s₁ B hml hv
  obtain ⟨rfl, hsz, hP, hK, hD0, hO⟩ := hv
  have hx := B.exec
  have hb := B.bytes
  have hr := B.returns
  have hts := atoms_spec (ws := mw_N_init) B.pre
  have ht : ∀ w ∈ gw_tbl, w.before _ s = true := fun w h => hts w (List.mem_cons_of_mem _ h)
  have hown : s.vm.findClass "NumberProbe" = some m.cls := findClass_of_methodNamed B.named
  have hlocks := B.notSynchronized
  have hin : meth.name = "<init>" := (name_of_methodNamed B.named B.method).1
  subst hsz
  have hD : va_D (va_A (n0W h0) s.heap.size) (n0W h0) := hD0.self (sz := s.heap.size)
  generalize hAe : va_A (n0W h0) s.heap.size = A at hD ⊢
  have hA : ∀ q : Nat, s.heap.size ≤ q → A q := fun q h => by rw [← hAe]; exact Or.inr h
  have hS : va_S A s.heap s.heap [] := va_S.rf
  have hl := lv_entry ([.ref h0]) (n := 1) (Nat.le_of_ble_eq_true rfl)
  rw [lg_entry_eq]
  generalize (lg_sl ([.ref h0]) ++ List.replicate (1 - (lg_sl ([.ref h0])).length) Slot.unset).toArray = ls at hl ⊢
  have hl : lv_has ls 1 [(0, .ref h0)] := hl
  have hcy : s.vm.findClass "[J" = some cL := va_nm_long (hK.2 0 _ rfl).2
  refine lv_aload_n hx hb md_N_init_0 rfl (lv_at hl 0 rfl) ?_
  refine W.objInit hx hb hown (ht _ tm_36) (ht _ tm_37) (ht _ tm_38) rfl (by rw [hml]; exact hl.1) rfl md_N_init_1 (Nat.le_of_ble_eq_true rfl) (Nat.le_of_ble_eq_true rfl) ?_
  refine W.eq (g2 := F0 m 4 ls []) rfl ?_
  refine lv_aload_n hx hb md_N_init_4 rfl (lv_at hl 0 rfl) ?_
  refine lv_iconst (v := 4) hx hb md_N_init_5 (by decide) ?_
  refine lv_bipush (v := 6) hx hb md_N_init_6 (by decide) ?_
  have hz : ∀ c : ClassId, Jvm.Free.Multi.innerC c 6 (defaultValue .long) = vp_cell c (6, .inr (.inl (fun _ => 0))) := fun c => arrV_new c 6 (.long 0)
  have hcl : (Cond.classLink "NumberProbe" 9 ("[" ++ (FieldType.array FieldType.long).toString)).before ([.ref h0] : List Value).toArray s = true := by
    have e9 : "[" ++ (FieldType.array FieldType.long).toString = "[[J" := by decide +kernel
    rw [e9]; exact ht _ tm_39
  have hcy2 : s.vm.findClass (FieldType.array FieldType.long).toString = some cL := by
    have e9 : (FieldType.array FieldType.long).toString = "[J" := by decide +kernel
    rw [e9]; exact hcy
  refine va_mna (X := n0W h0) (L := []) (f := fun _ => .inr (0, [])) (N' := 4) (K' := 6) (z := (6, .inr (.inl (fun _ => 0)))) hx hb hown hcl hO (ht _ tm_45) hcy2 hK hP hD hS hA (by decide) (by decide) (by decide) (by decide) (by decide) (by decide) (by decide) (by decide) (by decide) (Nat.le_of_ble_eq_true rfl) (Nat.le_of_ble_eq_true rfl) hz md_N_init_8 (fun q r cA H hinj hnot hK hP hD hS => ?_)
  have el : ((n0W h0 ++ [(q, (Sum.inl (cA, 4, .inr (.inr (.inr (.inr (fun i => if i < 4 then some (r i) else none))))) : va_E))]) ++ va_pl ([] ++ (List.range 4).map r) (vr_up (fun _ => .inr (0, [])) ((List.range 4).map r) (.inl (cL, (6, .inr (.inl (fun _ => 0))))))) = [(h0, .inr (0, [.null])), (q, .inl (cA, 4, .inr (.inr (.inr (.inr (fun i => if i < 4 then some (r i) else none)))))), (r 0, .inl (cL, 6, .inr (.inl (fun _ => 0)))), (r 1, .inl (cL, 6, .inr (.inl (fun _ => 0)))), (r 2, .inl (cL, 6, .inr (.inl (fun _ => 0)))), (r 3, .inl (cL, 6, .inr (.inl (fun _ => 0))))] := by
    simp [va_pl, vr_up, List.range, List.range.loop]
  rw [el] at hP hD
  refine W.widen (k := 5) (n := 28) (by omega) (by omega) ?_
  refine va_putF (D := D) (ci := 0) (v := .ref q) (ty := .array (.array .long)) (C := "NumberProbe") (T := TN) (N := 1) hx hb ht inN tyN tyN_ok nmN hown hK hP hD hS 0 rfl rfl 0 (by decide) (ht _ tm_41) (fun _ h9 => h9) rfl hin rfl (by decide +kernel) rfl rfl (Nat.le_of_ble_eq_true rfl) md_N_init_12 (fun H locs hP hD hS => ?_)
  have hM : NWd D cL cA h0 q r A (fun _ _ => 0) H := ⟨hP, hD⟩
  exact W.vret hx hb hr (fun t ht2 hW => ⟨⟨(q, cA, r), rfl, trivial, by show NWd D cL cA h0 q r A _ t.heap; rw [ht2]; exact hM, va_K.moved hW.alike hK⟩, hS.F ht2⟩) hS.2.2 md_N_init_15
