/-! the reference's object: its scratch fields and its cells -/
def TM : u_T := fun k => match k with
  | 0 => ("NumberProbeModel", "cell", "[J", true)
  | 1 => ("NumberProbeModel", "xSign", "Z", false)
  | 2 => ("NumberProbeModel", "ySign", "Z", false)
  | 3 => ("NumberProbeModel", "xNan", "Z", false)
  | 4 => ("NumberProbeModel", "yNan", "Z", false)
  | 5 => ("NumberProbeModel", "xInfinite", "Z", false)
  | 6 => ("NumberProbeModel", "yInfinite", "Z", false)
  | 7 => ("NumberProbeModel", "xMantissa", "J", false)
  | 8 => ("NumberProbeModel", "yMantissa", "J", false)
  | 9 => ("NumberProbeModel", "xPower", "I", false)
  | 10 => ("NumberProbeModel", "yPower", "I", false)
  | _ => ("NumberProbeModel", "high", "J", false)
def tyM : Nat → FieldType := fun k => match k with
  | 0 => .array .long
  | 1 => .boolean
  | 2 => .boolean
  | 3 => .boolean
  | 4 => .boolean
  | 5 => .boolean
  | 6 => .boolean
  | 7 => .long
  | 8 => .long
  | 9 => .int
  | 10 => .int
  | _ => .long
def TN : u_T := fun _ => ("NumberProbe", "numbers", "[[J", true)
def tyN : Nat → FieldType := fun _ => .array (.array .long)
theorem inM : ∀ w ∈ u_ws "NumberProbeModel" TM 12, w ∈ gw_tbl := by decide +kernel
theorem inN : ∀ w ∈ u_ws "NumberProbe" TN 1, w ∈ gw_tbl := by decide +kernel
theorem nmM : ∀ a, a < 12 → ∀ b, b < 12 → a ≠ b → (TM a).2.1 ≠ (TM b).2.1 := by decide +kernel
theorem nmN : ∀ a, a < 1 → ∀ b, b < 1 → a ≠ b → (TN a).2.1 ≠ (TN b).2.1 := by decide +kernel
theorem tyM_ok : ∀ k, k < 12 → parseFieldDescriptor (TM k).2.2.1 = some (tyM k) := by decide +kernel
theorem tyN_ok : ∀ k, k < 1 → parseFieldDescriptor (TN k).2.2.1 = some (tyN k) := by decide +kernel
abbrev cls9 : List vw_C := [("NumberProbe", TN, 1), ("NumberProbeModel", TM, 12)]
abbrev MT : Type := (Bool × Bool × Bool × Bool × Bool × Bool × Int64 × Int64 × Int32 × Int32 × Int64) × (Nat → Int64)
abbrev mF (q0 : Nat) (u : MT) : List Value := [.ref q0, .int (jb u.1.1), .int (jb u.1.2.1), .int (jb u.1.2.2.1), .int (jb u.1.2.2.2.1), .int (jb u.1.2.2.2.2.1), .int (jb u.1.2.2.2.2.2.1), .long u.1.2.2.2.2.2.2.1, .long u.1.2.2.2.2.2.2.2.1, .int u.1.2.2.2.2.2.2.2.2.1, .int u.1.2.2.2.2.2.2.2.2.2.1, .long u.1.2.2.2.2.2.2.2.2.2.2]
abbrev mWs (h0 q0 : Nat) (cL : ClassId) (u : MT) : va_W := [(h0, .inr (1, mF q0 u)), (q0, .inl (cL, 24, .inr (.inl u.2)))]
def MWd (D : va_G) (cL : ClassId) (h0 q0 : Nat) (A : Nat → Prop) (u : MT) (H : Heap) : Prop := va_P D cls9 (mWs h0 q0 cL u) H ∧ va_D A (mWs h0 q0 cL u)
abbrev MPc (D : va_G) (cL : ClassId) (h0 q0 sz : Nat) (u : MT) (av : List Value) : Array Value → State → Prop := va_Pc (.ref h0 :: av) (fun U => U.heap.size = sz ∧ va_P D cls9 (mWs h0 q0 cL u) U.heap ∧ va_K D cls9 [(cL, .long)] U ∧ va_D (fun _ => True) (mWs h0 q0 cL u))
abbrev MA (h0 q0 : Nat) (cL : ClassId) (u : MT) (sz : Nat) : Nat → Prop := va_A (mWs h0 q0 cL u) sz
abbrev MQl (D : va_G) (cL : ClassId) (h0 q0 : Nat) (A : Nat → Prop) (post : Int64 → MT → Prop) : Array Value → State → Outcome → State → Prop := va_Ql post (fun (u : MT) t => MWd D cL h0 q0 A u t.heap) A
abbrev MQi (D : va_G) (cL : ClassId) (h0 q0 : Nat) (A : Nat → Prop) (post : Int32 → MT → Prop) : Array Value → State → Outcome → State → Prop := va_Qi post (fun (u : MT) t => MWd D cL h0 q0 A u t.heap) A
abbrev MQv (D : va_G) (cL : ClassId) (h0 q0 : Nat) (A : Nat → Prop) (post : MT → Prop) : Array Value → State → Outcome → State → Prop := va_Qv post (fun (u : MT) t => MWd D cL h0 q0 A u t.heap) A
theorem mfb {D : va_G} {cL : ClassId} {h0 q0 sz : Nat} {u : MT} {av : List Value} : FrameBlind (MPc D cL h0 q0 sz u av) := fun a U g mk q => by
  obtain ⟨q0, q1, qP, qK, qD⟩ := q
  exact ⟨q0, q1, qP, va_K.moved (u := U) (U := U.calling g mk a) (Vm.Alike.refl U.vm) qK, qD⟩
/-- what a contract of the reference begins with -/
theorem m_in {D : va_G} {cL : ClassId} {h0 q0 : Nat} {u : MT} {s : State} {H : Heap} {A : Nat → Prop} {locs : List Loc} {av : List Value} (hK : va_K D cls9 [(cL, .long)] s) (hM : MWd D cL h0 q0 A u H) : PreV s H "NumberProbeModel" h0 (MPc D cL h0 q0 H.size u av) av :=
  ⟨mfb, va_recv hK hM.1 (ci := 1) (q0 := 0) rfl rfl, fun U hU hW => ⟨rfl, by rw [hU], by rw [hU]; exact hM.1, va_K.moved hW.alike hK, hM.2.weaken (fun _ _ _ _ => trivial)⟩⟩
section MCALL
variable {p : Program} {l : Launch} {e : Env} {R : Room} {s : State} {m : MethodId} {args : Array Value} {below : List Frame} {meth : Method} {c : Code} {H : Heap} {locs : List Loc} {cells slots : Nat} {Q : State → Prop} {pc : Nat} {ls : Array Slot} {rest st0 : List Value} {a : Array Value} {A0 : Nat → Prop} {D : va_G} {cL : ClassId} {h0 q0 : Nat} {u : MT}
theorem m_call_end {H1 : Heap} {u1 : MT} (hM : MWd D cL h0 q0 A0 u H) (hFc : ∀ q, MA h0 q0 cL u H.size q → A0 q) (hk1 : ∀ q : Nat, q < H.size → ¬ MA h0 q0 cL u H.size q → H1[q]? = H[q]?) (h1 : MWd D cL h0 q0 (MA h0 q0 cL u H.size) u1 H1) : MWd D cL h0 q0 A0 u1 H1 :=
  va_join (wr := []) (w1 := mWs h0 q0 cL u1) hM.1 hM.2 [0, 1] [] rfl rfl (by decide) (by decide) hk1 hFc h1.1 h1.2
theorem m_free (hM : MWd D cL h0 q0 A0 u H) (hS : va_S A0 s.heap H locs) (hA : ∀ q, s.heap.size ≤ q → A0 q) : ∀ q, MA h0 q0 cL u H.size q → A0 q := va_free (wc := mWs h0 q0 cL u) hM.2 hS hA [0, 1] rfl
theorem m_calll {post : Int64 → MT → Prop} (hr : va_Run p l e R s m args below meth c H locs cells slots 0 0 (F0 m pc ls st0) rest (MQl D cL h0 q0 (MA h0 q0 cL u H.size) post a) (MA h0 q0 cL u H.size)) (hM : MWd D cL h0 q0 A0 u H) (hS : va_S A0 s.heap H locs) (hA : ∀ q, s.heap.size ≤ q → A0 q)
    (kk : ∀ (r : Int64) (u1 : MT) (H1 : Heap) (locs1 : List Loc), post r u1 → MWd D cL h0 q0 A0 u1 H1 → va_S A0 s.heap H1 locs1 → W p l e R s m args below meth c H1 locs1 cells slots Q (F0 m (pc + 3) ls (.long r :: rest))) : W p l e R s m args below meth c H locs cells slots Q (F0 m pc ls st0) := by
  have hFc := m_free hM hS hA
  refine va_calll hr hS (fun q _ h => hFc q h) hFc (fun r u1 t H1 locs1 ht _ hw hB _ hk1 hS1 => ?_)
  rw [ht] at hB
  exact kk r u1 H1 locs1 hw (m_call_end hM hFc hk1 hB) hS1
theorem m_calli {post : Int32 → MT → Prop} (hr : va_Run p l e R s m args below meth c H locs cells slots 0 0 (F0 m pc ls st0) rest (MQi D cL h0 q0 (MA h0 q0 cL u H.size) post a) (MA h0 q0 cL u H.size)) (hM : MWd D cL h0 q0 A0 u H) (hS : va_S A0 s.heap H locs) (hA : ∀ q, s.heap.size ≤ q → A0 q)
    (kk : ∀ (r : Int32) (u1 : MT) (H1 : Heap) (locs1 : List Loc), post r u1 → MWd D cL h0 q0 A0 u1 H1 → va_S A0 s.heap H1 locs1 → W p l e R s m args below meth c H1 locs1 cells slots Q (F0 m (pc + 3) ls (.int r :: rest))) : W p l e R s m args below meth c H locs cells slots Q (F0 m pc ls st0) := by
  have hFc := m_free hM hS hA
  refine va_calli hr hS (fun q _ h => hFc q h) hFc (fun r u1 t H1 locs1 ht _ hw hB _ hk1 hS1 => ?_)
  rw [ht] at hB
  exact kk r u1 H1 locs1 hw (m_call_end hM hFc hk1 hB) hS1
theorem m_callv {post : MT → Prop} (hr : va_Run p l e R s m args below meth c H locs cells slots 0 0 (F0 m pc ls st0) rest (MQv D cL h0 q0 (MA h0 q0 cL u H.size) post a) (MA h0 q0 cL u H.size)) (hM : MWd D cL h0 q0 A0 u H) (hS : va_S A0 s.heap H locs) (hA : ∀ q, s.heap.size ≤ q → A0 q)
    (kk : ∀ (u1 : MT) (H1 : Heap) (locs1 : List Loc), post u1 → MWd D cL h0 q0 A0 u1 H1 → va_S A0 s.heap H1 locs1 → W p l e R s m args below meth c H1 locs1 cells slots Q (F0 m (pc + 3) ls rest)) : W p l e R s m args below meth c H locs cells slots Q (F0 m pc ls st0) := by
  have hFc := m_free hM hS hA
  refine va_callv hr hS (fun q _ h => hFc q h) hFc (fun u1 t H1 locs1 ht _ hw hB _ hk1 hS1 => ?_)
  rw [ht] at hB
  exact kk u1 H1 locs1 hw (m_call_end hM hFc hk1 hB) hS1
/-- a cell is written -/
theorem m_ast {cc : ByteArray} (hexec : p.tables.exec = Jvm.exec) (hb : c.code = cc) (hK : va_K D cls9 [(cL, .long)] s) (hM : MWd D cL h0 q0 A0 u H) (hS : va_S A0 s.heap H locs) {i : Int32} {x : Int64} (hin : vp_in i 24) (hdg : decode cc pc = .ok (.lastore, 1))
    (kk : ∀ (u1 : MT) (H1 : Heap) (locs1 : List Loc), MWd D cL h0 q0 A0 u1 H1 → va_S A0 s.heap H1 locs1 → W p l e R s m args below meth c H1 locs1 cells slots Q (F0 m (pc + 1) ls rest)) : W p l e R s m args below meth c H locs cells slots Q (F0 m pc ls (.long x :: .int i :: .ref q0 :: rest)) := by
  refine va_last hexec hb hK hM.1 hM.2 hS 1 0 rfl rfl hin hdg (fun H1 locs1 hP hD hS1 => ?_)
  exact kk (u.1, vp_updL u.2 i.toNatClampNeg x) H1 locs1 ⟨hP, hD⟩ hS1
end MCALL
/-- takeX, takeY: the fields of an operand -/
def mtX (f : Int32) (b : Int64) (u : MT) : MT := ((rf_isS f b, u.1.2.1, rf_isN f b, u.1.2.2.2.1, rf_isI f b, u.1.2.2.2.2.2.1, rf_man f b, u.1.2.2.2.2.2.2.2.1, rf_pow f b, u.1.2.2.2.2.2.2.2.2.2.1, u.1.2.2.2.2.2.2.2.2.2.2), u.2)
def mtY (f : Int32) (b : Int64) (u : MT) : MT := ((u.1.1, rf_isS f b, u.1.2.2.1, rf_isN f b, u.1.2.2.2.2.1, rf_isI f b, u.1.2.2.2.2.2.2.1, rf_man f b, u.1.2.2.2.2.2.2.2.2.1, rf_pow f b, u.1.2.2.2.2.2.2.2.2.2.2), u.2)
theorem rn_idx {k i : Int32} (h1 : rn_in k 4 = true) (h2 : rn_in i 6 = true) : vp_in (k * 6 + i) 24 := by
  obtain ⟨a, b⟩ := of_decide_eq_true h1
  obtain ⟨c, d⟩ := of_decide_eq_true h2
  rw [Int32.not_lt] at a c
  rw [Int32.not_le] at b d
  have a := Int32.le_iff_toInt_le.mp a
  have b := Int32.lt_iff_toInt_lt.mp b
  have c := Int32.le_iff_toInt_le.mp c
  have d := Int32.lt_iff_toInt_lt.mp d
  rw [Int32.toInt_zero] at a c
  have e4 : (4 : Int32).toInt = 4 := rfl
  have e6 : (6 : Int32).toInt = 6 := rfl
  rw [e4] at b
  rw [e6] at d
  have m : (k * 6).toInt = k.toInt * 6 := by
    rw [Jvm.Kit.i32_mul (by rw [e6]; omega) (by rw [e6]; omega), e6]
  have z : (k * 6 + i).toInt = k.toInt * 6 + i.toInt := by
    rw [Jvm.Kit.i32_add (by rw [m]; omega) (by rw [m]; omega), m]
  rw [vp_in_iff, z]
  omega
theorem rn_i6 {i : Int32} (h2 : rn_in i 6 = true) : vp_in i 24 ∧ vp_in (6 + i) 24 := by
  obtain ⟨c, d⟩ := of_decide_eq_true h2
  rw [Int32.not_lt] at c
  rw [Int32.not_le] at d
  have c := Int32.le_iff_toInt_le.mp c
  have d := Int32.lt_iff_toInt_lt.mp d
  rw [Int32.toInt_zero] at c
  have e6 : (6 : Int32).toInt = 6 := rfl
  rw [e6] at d
  have z : (6 + i).toInt = 6 + i.toInt := by
    rw [Jvm.Kit.i32_add (by rw [e6]; omega) (by rw [e6]; omega), e6]
  rw [vp_in_iff, vp_in_iff, z]
  omega
