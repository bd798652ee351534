/-! THE CLAIM OUT OF ONE WALK OF THE LAW'S BODY. Your part is whole_start (and what it stands on); all else here is the same for every law, but numbers. -/
def R_law : String := "NumberProbeLaw"
def lw_P (b : Addr) (xs : List Int32) (args : Array Value) (s : State) : Prop := args = #[.ref b] ∧ s.IntsAt b xs ∧ xs.length ≤ 3072 ∧ (Jvm.Cond.and given_1 narrow_1).before args s = true
def lw_Q (_ : Array Value) (s : State) (o : Outcome) (t : State) : Prop := o = .returned (some (.int 1)) ∧ Framed s o t [] 600000 7302250
def lw_Z (below : List Frame) (a : Array Value) (s : State) : State → Prop := fun t => ∃ o, t.status = .running ∧ Ended t below o ∧ lw_Q a s o t
/-- the law's own end, with 1 on the stack, nothing written that was there before, its room as the claim has it -/
theorem lw_ret {p : Program} {l : Launch} {e : Env} {s : State} {m : MethodId} {below : List Frame} {meth : Method} {c : Code} {b : Nat} (hx : p.tables.exec = Jvm.exec) (hb : c.code = code) (hr : meth.sig.returnType = ret) (hlocks : meth.locks = false) {pc : Nat} {H : Heap} {ls : Array Slot} (hdg : decode code pc = .ok (.ireturn, 1)) : W p l e room_1 s m #[Value.ref b] below meth c H [] 600000 7302250 (lw_Z below #[Value.ref b] s) (F0 m pc ls [.int 1]) := by
  intro T hT X
  obtain ⟨fs, hret, hrun, hended, hW, hframe⟩ := X.leave (v := some (.int 1)) (hlocks := hlocks) (fun h => by rw [hr] at h; cases h)
  have hmeth' : T.vm.method? m = some meth := X.method'
  refine ⟨T.setFrames fs, ?_, .returned (some (.int 1)), hrun, hended, rfl, ⟨_, rfl⟩, hW, hframe⟩
  jvm_step X.here [X.here.top, hx, hb, hdg, hmeth', hr, ret, narrow_b1]
  (try refine ⟨rfl, ?_⟩); (try refine ⟨rfl, ?_⟩)
  first | (intro acts; rw [hret _ acts rfl rfl rfl]) | rw [hret _ _ rfl rfl rfl]
  exact Steps.refl _
/-- what holds at the law's entry: the machine, the code, the tables' words (any of lw_tbl by 'hts w (by decide +kernel)'), the script of L ints xs at the cell b, what the Statement gives of the start (any of its parts by flat_of_before) -/
def lw_At (p : Program) (s : State) (m : MethodId) (meth : Method) (c : Code) (b L : Nat) (xs : Nat → Int32) : Prop :=
  p.tables.exec = Jvm.exec ∧ c.code = code ∧ meth.sig.returnType = ret ∧ c.maxLocals = 4 ∧ s.vm.findClass R_law = some m.cls ∧ (∀ w ∈ lw_tbl, w.before #[Value.ref b] s = true) ∧ va_X b L xs s s.heap ∧ b < s.heap.size ∧ meth.locks = false ∧ (Jvm.Cond.and given_1 narrow_1).before #[Value.ref b] s = true
abbrev lWs (h1 q1 : Nat) (g : Nat → Nat) (h2 q2 : Nat) (cL cO : ClassId) (u : Nat → Nat → Int64) (v : MT) : va_W := nWs h1 q1 g cL cO u ++ mWs h2 q2 cL v
def LWd (D : va_G) (cL cO : ClassId) (h1 q1 : Nat) (g : Nat → Nat) (h2 q2 : Nat) (A : Nat → Prop) (u : Nat → Nat → Int64) (v : MT) (H : Heap) : Prop := va_P D cls9 (lWs h1 q1 g h2 q2 cL cO u v) H ∧ va_D A (lWs h1 q1 g h2 q2 cL cO u v)
theorem lw_gw {w : Cond} (h : w ∈ gw_tbl) : w ∈ lw_tbl := (List.mem_filter.mp h).1
theorem gl_V {c2 : Cond} {own C : String} {idx : Nat} {y : MethodName} (h1 : Cond.methodLink own idx y ∈ gw_tbl) (h2 : Cond.instanceMethod y ∈ gw_tbl) (h3 : Cond.selects C y y ∈ gw_tbl) (h4 : Cond.initialized C ∈ gw_tbl) (hc : c2 ∈ gw_tbl) : GoodIn lw_tbl (wsV own idx C y (c2 :: gw_tbl)) := fun w h => by
  have h9 : w ∈ gw_tbl := by
    rcases List.mem_append.mp h with h | h
    · rcases List.mem_cons.mp h with rfl | h
      · exact h1
      · rcases List.mem_cons.mp h with rfl | h
        · exact h2
        · rcases List.mem_cons.mp h with rfl | h
          · exact h3
          · rw [List.mem_singleton.mp h]; exact h4
    · exact (List.mem_cons.mp h).elim (fun e => e ▸ hc) id
  exact ⟨lw_gw h9, good_of_word (gw_good h9)⟩
theorem gl_c {c2 : Cond} (hc : c2 ∈ gw_tbl) : GoodIn lw_tbl (c2 :: gw_tbl) := fun w h => by
  have h9 : w ∈ gw_tbl := (List.mem_cons.mp h).elim (fun e => e ▸ hc) id
  exact ⟨lw_gw h9, good_of_word (gw_good h9)⟩
section LROWS
variable {p : Program} {l : Launch} {e : Env} {R : Room} {s : State} {m : MethodId} {args : Array Value} {below : List Frame} {meth : Method} {c : Code} {H : Heap} {locs : List Loc} {cells slots : Nat} {Q : State → Prop} {pc : Nat} {ls : Array Slot} {rest st0 : List Value} {a : Array Value} {A0 : Nat → Prop} {D : va_G} {cL cO : ClassId} {h1 q1 h2 q2 : Nat} {g ad tb : Nat → Nat} {u : Nat → Nat → Int64} {v : MT}
theorem l_nfree (hM : LWd D cL cO h1 q1 g h2 q2 A0 u v H) (hS : va_S A0 s.heap H locs) (hA : ∀ q, s.heap.size ≤ q → A0 q) : ∀ q, NA h1 q1 g cL cO u H.size q → A0 q := va_free (wc := nWs h1 q1 g cL cO u) hM.2 hS hA [0, 1, 2, 3, 4, 5] rfl
theorem l_mfree (hM : LWd D cL cO h1 q1 g h2 q2 A0 u v H) (hS : va_S A0 s.heap H locs) (hA : ∀ q, s.heap.size ≤ q → A0 q) : ∀ q, MA h2 q2 cL v H.size q → A0 q := va_free (wc := mWs h2 q2 cL v) hM.2 hS hA [6, 7] rfl
theorem l_npart (hM : LWd D cL cO h1 q1 g h2 q2 A0 u v H) : NWd D cL cO h1 q1 g A0 u H := ⟨hM.1.sub (ws' := nWs h1 q1 g cL cO u) [0, 1, 2, 3, 4, 5] rfl, hM.2.sub (ws' := nWs h1 q1 g cL cO u) [0, 1, 2, 3, 4, 5] (by decide) rfl⟩
theorem l_mpart (hM : LWd D cL cO h1 q1 g h2 q2 A0 u v H) : MWd D cL h2 q2 A0 v H := ⟨hM.1.sub (ws' := mWs h2 q2 cL v) [6, 7] rfl, hM.2.sub (ws' := mWs h2 q2 cL v) [6, 7] (by decide) rfl⟩
theorem l_nin {av : List Value} (hK : va_K D cls9 (NK cL cO) s) (hE : FW ad A0 s s.heap) (hT : TW tb A0 s s.heap) (hM : LWd D cL cO h1 q1 g h2 q2 A0 u v H) (hS : va_S A0 s.heap H locs) (hA : ∀ q, s.heap.size ≤ q → A0 q) : PreV s H "NumberProbe" h1 (NPc D cL cO h1 q1 g ad tb H.size u av) av :=
  ⟨nfb, va_recv hK hM.1 (ci := 0) (q0 := 0) rfl rfl, fun U hU hW => ⟨rfl, by rw [hU], by rw [hU]; exact (l_npart hM).1, va_K.moved hW.alike hK, (l_npart hM).2.weaken (fun _ _ _ _ => trivial), by rw [hU]; exact (FW.moved hW.alike (hE.kept hS.2.1)).narrow (l_nfree hM hS hA), by rw [hU]; exact (TW.moved hW.alike (hT.kept hS.2.1)).narrow (l_nfree hM hS hA)⟩⟩
theorem l_min {av : List Value} (hK : va_K D cls9 (NK cL cO) s) (hM : LWd D cL cO h1 q1 g h2 q2 A0 u v H) : PreV s H "NumberProbeModel" h2 (MPc D cL h2 q2 H.size v av) av :=
  m_in (locs := []) (hK.sub (tys' := [(cL, .long)]) [0] rfl) (l_mpart hM)
theorem l_nend {H1 : Heap} {u1 : Nat → Nat → Int64} (hM : LWd D cL cO h1 q1 g h2 q2 A0 u v H) (hFc : ∀ q, NA h1 q1 g cL cO u H.size q → A0 q) (hk1 : ∀ q : Nat, q < H.size → ¬ NA h1 q1 g cL cO u H.size q → H1[q]? = H[q]?) (h9 : NWd D cL cO h1 q1 g (NA h1 q1 g cL cO u H.size) u1 H1) : LWd D cL cO h1 q1 g h2 q2 A0 u1 v H1 := by
  obtain ⟨hP, hD⟩ := va_join (wr := mWs h2 q2 cL v) (w1 := nWs h1 q1 g cL cO u1) hM.1 hM.2 [0, 1, 2, 3, 4, 5] [6, 7] rfl rfl (by decide) (by decide) hk1 hFc h9.1 h9.2
  exact ⟨hP.sub (ws' := lWs h1 q1 g h2 q2 cL cO u1 v) [2, 3, 4, 5, 6, 7, 0, 1] rfl, hD.sub (ws' := lWs h1 q1 g h2 q2 cL cO u1 v) [2, 3, 4, 5, 6, 7, 0, 1] (by decide) rfl⟩
theorem l_mend {H1 : Heap} {v1 : MT} (hM : LWd D cL cO h1 q1 g h2 q2 A0 u v H) (hFc : ∀ q, MA h2 q2 cL v H.size q → A0 q) (hk1 : ∀ q : Nat, q < H.size → ¬ MA h2 q2 cL v H.size q → H1[q]? = H[q]?) (h9 : MWd D cL h2 q2 (MA h2 q2 cL v H.size) v1 H1) : LWd D cL cO h1 q1 g h2 q2 A0 u v1 H1 :=
  va_join (wr := nWs h1 q1 g cL cO u) (w1 := mWs h2 q2 cL v1) hM.1 hM.2 [6, 7] [0, 1, 2, 3, 4, 5] rfl rfl (by decide) (by decide) hk1 hFc h9.1 h9.2
theorem l_ncalli {post : Int32 → (Nat → Nat → Int64) → Prop} (hr : va_Run p l e R s m args below meth c H locs cells slots 0 0 (F0 m pc ls st0) rest (NQi D cL cO h1 q1 g (NA h1 q1 g cL cO u H.size) post a) (NA h1 q1 g cL cO u H.size)) (hM : LWd D cL cO h1 q1 g h2 q2 A0 u v H) (hS : va_S A0 s.heap H locs) (hA : ∀ q, s.heap.size ≤ q → A0 q)
    (kk : ∀ (r : Int32) (u1 : Nat → Nat → Int64) (H1 : Heap) (locs1 : List Loc), post r u1 → LWd D cL cO h1 q1 g h2 q2 A0 u1 v H1 → va_S A0 s.heap H1 locs1 → W p l e R s m args below meth c H1 locs1 cells slots Q (F0 m (pc + 3) ls (.int r :: rest))) : W p l e R s m args below meth c H locs cells slots Q (F0 m pc ls st0) := by
  have hFc := l_nfree hM hS hA
  refine va_calli hr hS (fun q _ h => hFc q h) hFc (fun r u1 t H1 locs1 ht _ hw hB _ hk1 hS1 => ?_)
  rw [ht] at hB
  exact kk r u1 H1 locs1 hw (l_nend hM hFc hk1 hB) hS1
theorem l_mcalli {post : Int32 → MT → Prop} (hr : va_Run p l e R s m args below meth c H locs cells slots 0 0 (F0 m pc ls st0) rest (MQi D cL h2 q2 (MA h2 q2 cL v H.size) post a) (MA h2 q2 cL v H.size)) (hM : LWd D cL cO h1 q1 g h2 q2 A0 u v H) (hS : va_S A0 s.heap H locs) (hA : ∀ q, s.heap.size ≤ q → A0 q)
    (kk : ∀ (r : Int32) (v1 : MT) (H1 : Heap) (locs1 : List Loc), post r v1 → LWd D cL cO h1 q1 g h2 q2 A0 u v1 H1 → va_S A0 s.heap H1 locs1 → W p l e R s m args below meth c H1 locs1 cells slots Q (F0 m (pc + 3) ls (.int r :: rest))) : W p l e R s m args below meth c H locs cells slots Q (F0 m pc ls st0) := by
  have hFc := l_mfree hM hS hA
  refine va_calli hr hS (fun q _ h => hFc q h) hFc (fun r v1 t H1 locs1 ht _ hw hB _ hk1 hS1 => ?_)
  rw [ht] at hB
  exact kk r v1 H1 locs1 hw (l_mend hM hFc hk1 hB) hS1
theorem l_ncalll {post : Int64 → (Nat → Nat → Int64) → Prop} (hr : va_Run p l e R s m args below meth c H locs cells slots 0 0 (F0 m pc ls st0) rest (NQl D cL cO h1 q1 g (NA h1 q1 g cL cO u H.size) post a) (NA h1 q1 g cL cO u H.size)) (hM : LWd D cL cO h1 q1 g h2 q2 A0 u v H) (hS : va_S A0 s.heap H locs) (hA : ∀ q, s.heap.size ≤ q → A0 q)
    (kk : ∀ (r : Int64) (u1 : Nat → Nat → Int64) (H1 : Heap) (locs1 : List Loc), post r u1 → LWd D cL cO h1 q1 g h2 q2 A0 u1 v H1 → va_S A0 s.heap H1 locs1 → W p l e R s m args below meth c H1 locs1 cells slots Q (F0 m (pc + 3) ls (.long r :: rest))) : W p l e R s m args below meth c H locs cells slots Q (F0 m pc ls st0) := by
  have hFc := l_nfree hM hS hA
  refine va_calll hr hS (fun q _ h => hFc q h) hFc (fun r u1 t H1 locs1 ht _ hw hB _ hk1 hS1 => ?_)
  rw [ht] at hB
  exact kk r u1 H1 locs1 hw (l_nend hM hFc hk1 hB) hS1
theorem l_mcalll {post : Int64 → MT → Prop} (hr : va_Run p l e R s m args below meth c H locs cells slots 0 0 (F0 m pc ls st0) rest (MQl D cL h2 q2 (MA h2 q2 cL v H.size) post a) (MA h2 q2 cL v H.size)) (hM : LWd D cL cO h1 q1 g h2 q2 A0 u v H) (hS : va_S A0 s.heap H locs) (hA : ∀ q, s.heap.size ≤ q → A0 q)
    (kk : ∀ (r : Int64) (v1 : MT) (H1 : Heap) (locs1 : List Loc), post r v1 → LWd D cL cO h1 q1 g h2 q2 A0 u v1 H1 → va_S A0 s.heap H1 locs1 → W p l e R s m args below meth c H1 locs1 cells slots Q (F0 m (pc + 3) ls (.long r :: rest))) : W p l e R s m args below meth c H locs cells slots Q (F0 m pc ls st0) := by
  have hFc := l_mfree hM hS hA
  refine va_calll hr hS (fun q _ h => hFc q h) hFc (fun r v1 t H1 locs1 ht _ hw hB _ hk1 hS1 => ?_)
  rw [ht] at hB
  exact kk r v1 H1 locs1 hw (l_mend hM hFc hk1 hB) hS1
end LROWS
theorem ix_in {j L k : Nat} (h : j + 6 ≤ L) (hk : k < 6) (hL : L ≤ 3072) : vp_in (nI j + nI k) L := by
  rw [nI_add]; exact vp_in_nI (by omega) (by omega)
theorem lw_cond {j L : Nat} (hL : L ≤ 3072) (hj : j ≤ 4000) (h : ¬ nI L - 6 < nI j) : j + 6 ≤ L := by
  rw [Int32.not_lt] at h
  have h := Int32.le_iff_toInt_le.mp h
  have e6 : (6 : Int32).toInt = 6 := rfl
  have eL : (nI L).toInt = L := nI_toInt (by omega)
  rw [nI_toInt (by omega), Jvm.Kit.i32_sub (by rw [eL, e6]; omega) (by rw [eL, e6]; omega), eL, e6] at h
  omega
