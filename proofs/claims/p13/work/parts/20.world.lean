/-! what nobody writes: the two formats' objects, the tables -/
def FW (ad : Nat → Nat) (A : Nat → Prop) (U : State) (H : Heap) : Prop :=
  (∀ k, k < 2 → va_O "NumberProbe$Format" (ad k) A U H) ∧
  va_Ef 2 "NumberProbe$Format" "fractionBits" "I" (fun k => .int (kf_b k)) ad A U H ∧
  va_Ef 2 "NumberProbe$Format" "exponentOfSpecials" "I" (fun k => .int (kf_s k)) ad A U H ∧
  va_Ef 2 "NumberProbe$Format" "leastExponent" "I" (fun k => .int (kf_l k)) ad A U H ∧
  va_Ef 2 "NumberProbe$Format" "magnitudeMask" "J" (fun k => .long (kf_m k)) ad A U H ∧
  va_Ef 2 "NumberProbe$Format" "infinity" "J" (fun k => .long (kf_i k)) ad A U H ∧
  va_Ef 2 "NumberProbe$Format" "nan" "J" (fun k => .long (kf_n k)) ad A U H ∧
  va_Z "NumberProbe$Format" "SINGLE" "LNumberProbe$Format;" (.ref (ad 0)) A U H ∧
  va_Z "NumberProbe$Format" "DOUBLE" "LNumberProbe$Format;" (.ref (ad 1)) A U H
theorem FW.moved {ad : Nat → Nat} {A : Nat → Prop} {u U : State} {H : Heap} (hvm : u.vm.Alike U.vm) (h : FW ad A u H) : FW ad A U H :=
  ⟨fun k hk => va_O.moved hvm (h.1 k hk), va_Ef.moved hvm h.2.1, va_Ef.moved hvm h.2.2.1, va_Ef.moved hvm h.2.2.2.1, va_Ef.moved hvm h.2.2.2.2.1, va_Ef.moved hvm h.2.2.2.2.2.1, va_Ef.moved hvm h.2.2.2.2.2.2.1, va_Z.moved hvm h.2.2.2.2.2.2.2.1, va_Z.moved hvm h.2.2.2.2.2.2.2.2⟩
theorem FW.kept {ad : Nat → Nat} {A : Nat → Prop} {U : State} {H H1 : Heap} (h : FW ad A U H) (hq : ∀ a : Nat, a < H.size → ¬ A a → H1[a]? = H[a]?) : FW ad A U H1 :=
  ⟨fun k hk => (h.1 k hk).kept hq, h.2.1.kept hq, h.2.2.1.kept hq, h.2.2.2.1.kept hq, h.2.2.2.2.1.kept hq, h.2.2.2.2.2.1.kept hq, h.2.2.2.2.2.2.1.kept hq, h.2.2.2.2.2.2.2.1.kept hq, h.2.2.2.2.2.2.2.2.kept hq⟩
theorem FW.narrow {ad : Nat → Nat} {A B : Nat → Prop} {U : State} {H : Heap} (h : FW ad A U H) (hAB : ∀ q, B q → A q) : FW ad B U H :=
  ⟨fun k hk => (h.1 k hk).narrow hAB, h.2.1.narrow hAB, h.2.2.1.narrow hAB, h.2.2.2.1.narrow hAB, h.2.2.2.2.1.narrow hAB, h.2.2.2.2.2.1.narrow hAB, h.2.2.2.2.2.2.1.narrow hAB, h.2.2.2.2.2.2.2.1.narrow hAB, h.2.2.2.2.2.2.2.2.narrow hAB⟩
def tw_n (i : Nat) : String := match i with | 0 => "SINGLE_BOUNDARIES" | 1 => "DOUBLE_BOUNDARIES" | 2 => "INT_BOUNDARIES" | _ => "LONG_BOUNDARIES"
def tw_l (i : Nat) : Nat := match i with | 2 => 15 | _ => 21
def TW (tb : Nat → Nat) (A : Nat → Prop) (U : State) (H : Heap) : Prop := ∀ i, i < 4 → va_Z "NumberProbe" (tw_n i) "[J" (.ref (tb i)) A U H ∧ ∃ f : Nat → Int64, va_T .long (tb i) (tw_l i) (fun j => .long (f j)) A U H
theorem TW.moved {tb : Nat → Nat} {A : Nat → Prop} {u U : State} {H : Heap} (hvm : u.vm.Alike U.vm) (h : TW tb A u H) : TW tb A U H := fun i hi => ⟨va_Z.moved hvm (h i hi).1, (h i hi).2.elim fun f hf => ⟨f, va_T.moved hvm hf⟩⟩
theorem TW.kept {tb : Nat → Nat} {A : Nat → Prop} {U : State} {H H1 : Heap} (h : TW tb A U H) (hq : ∀ a : Nat, a < H.size → ¬ A a → H1[a]? = H[a]?) : TW tb A U H1 := fun i hi => ⟨(h i hi).1.kept hq, (h i hi).2.elim fun f hf => ⟨f, hf.kept hq⟩⟩
theorem TW.narrow {tb : Nat → Nat} {A B : Nat → Prop} {U : State} {H : Heap} (h : TW tb A U H) (hAB : ∀ q, B q → A q) : TW tb B U H := fun i hi => ⟨(h i hi).1.narrow hAB, (h i hi).2.elim fun f hf => ⟨f, hf.narrow hAB⟩⟩
theorem fb_0 {av : List Value} : FrameBlind (va_Pc av (fun _ => True)) := fun _ _ _ _ q => ⟨q.1, trivial⟩
theorem fb_E {av : List Value} {ad : Nat → Nat} : FrameBlind (va_Pc av (fun U => FW ad (fun _ => False) U U.heap)) := fun a U g mk q => ⟨q.1, FW.moved (u := U) (U := U.calling g mk a) (Vm.Alike.refl U.vm) q.2⟩
theorem fb_T {av : List Value} {tb : Nat → Nat} : FrameBlind (va_Pc av (fun U => TW tb (fun _ => False) U U.heap)) := fun a U g mk q => ⟨q.1, TW.moved (u := U) (U := U.calling g mk a) (Vm.Alike.refl U.vm) q.2⟩
theorem fw_use {ad : Nat → Nat} {A : Nat → Prop} {s : State} {H : Heap} {locs : List Loc} (hE : FW ad A s s.heap) (hS : va_S A s.heap H locs) {U : State} (hU : U.heap = H) (hW : s.WarmedH U.vm) : FW ad (fun _ => False) U U.heap := by
  rw [hU]
  exact (FW.moved hW.alike (hE.kept hS.2.1)).narrow (fun _ h => h.elim)
theorem tw_use {tb : Nat → Nat} {A : Nat → Prop} {s : State} {H : Heap} {locs : List Loc} (hT : TW tb A s s.heap) (hS : va_S A s.heap H locs) {U : State} (hU : U.heap = H) (hW : s.WarmedH U.vm) : TW tb (fun _ => False) U U.heap := by
  rw [hU]
  exact (TW.moved hW.alike (hT.kept hS.2.1)).narrow (fun _ h => h.elim)
theorem fw_recv {ad : Nat → Nat} {A : Nat → Prop} {s : State} {H : Heap} {locs : List Loc} (hE : FW ad A s s.heap) {k : Nat} (hk : k < 2) (hS : va_S A s.heap H locs) : ∃ cell : Cell, H[ad k]? = some cell ∧ cell.vm.isStatics = false ∧ s.vm.findClass "NumberProbe$Format" = some cell.cls := by
  obtain ⟨cell, h1, h2, h3, -⟩ := (hE.1 k hk).kept hS.2.1
  exact ⟨cell, h1, h2, h3⟩
/-- a walk of a method that writes nothing -/
abbrev WP (p : Program) (l : Launch) (e : Env) (ws : List Cond) (rm : Room) (s : State) (m : MethodId) (av : List Value) (below : List Frame) (meth : Method) (c : Code) (Qc : Array Value → State → Outcome → State → Prop) (g : JFrame) : Prop :=
  W p l e (headSpec ws rm).room s m av.toArray below meth c s.heap [] 0 0 (MQ below Qc av.toArray s 0 0 (fun _ => False)) g
theorem lu_0 {k b : Int32} (h : k < b) (hn : (b.toInt - k.toInt).toNat ≤ 0) : False := by
  have := Int32.lt_iff_toInt_lt.mp h
  omega
theorem lu_s {k b : Int32} {n : Nat} (h : k < b) (hn : (b.toInt - k.toInt).toNat ≤ n + 1) : (b.toInt - (k + 1).toInt).toNat ≤ n := by
  have h1 := Int32.lt_iff_toInt_lt.mp h
  have h2 := b.toInt_lt
  have h3 := k.le_toInt
  have e : (k + 1).toInt = k.toInt + 1 := Jvm.Kit.i32_add (by show -2 ^ 31 ≤ k.toInt + 1; omega) (by show k.toInt + 1 < 2 ^ 31; omega)
  rw [e]
  omega
theorem ld_0 {k : Int32} (h : 0 < k) (hn : k.toInt.toNat ≤ 0) : False := by
  have := Int32.lt_iff_toInt_lt.mp h
  rw [Int32.toInt_zero] at this
  omega
theorem ld_s {k : Int32} {n : Nat} (h : 0 < k) (hn : k.toInt.toNat ≤ n + 1) : (k + (-10)).toInt.toNat ≤ n := by
  have h1 := Int32.lt_iff_toInt_lt.mp h
  rw [Int32.toInt_zero] at h1
  have h2 := k.toInt_lt
  have e : (k + (-10)).toInt = k.toInt + (-10) := Jvm.Kit.i32_add (by show -2 ^ 31 ≤ k.toInt + (-10); omega) (by show k.toInt + (-10) < 2 ^ 31; omega)
  rw [e]
  omega
theorem lh_s {k : Int32} {n : Nat} (h : 0 < k) (hn : k.toInt.toNat ≤ n + 1) : (k / 2).toInt.toNat ≤ n := by
  have h1 := Int32.lt_iff_toInt_lt.mp h
  rw [Int32.toInt_zero] at h1
  have e : (k / 2).toInt = k.toInt.tdiv 2 := Jvm.Kit.i32_div (by intro q; exact absurd q.2 (by decide))
  rw [e, Int.tdiv_eq_ediv_of_nonneg (by omega)]
  omega
theorem lg_s {k : Int32} {n : Nat} (h : 0 ≤ k) (hn : (k.toInt + 1).toNat ≤ n + 1) : ((k + (-1)).toInt + 1).toNat ≤ n := by
  have h1 := Int32.le_iff_toInt_le.mp h
  rw [Int32.toInt_zero] at h1
  have h2 := k.toInt_lt
  have e : (k + (-1)).toInt = k.toInt + (-1) := Jvm.Kit.i32_add (by show -2 ^ 31 ≤ k.toInt + (-1); omega) (by show k.toInt + (-1) < 2 ^ 31; omega)
  rw [e]
  omega
theorem lg_0 {k : Int32} (h : 0 ≤ k) (hn : (k.toInt + 1).toNat ≤ 0) : False := by
  have := Int32.le_iff_toInt_le.mp h
  rw [Int32.toInt_zero] at this
  omega
