/-! fresh objects: all 0 (for the part of one call) -/
theorem z_siz (f : Int32) : rf_siz f 0 = 0 := by unfold rf_siz; simp
theorem z_isN (f : Int32) : rf_isN f 0 = false := by unfold rf_isN; rw [z_siz]; unfold rf_if; split <;> decide
theorem z_isI (f : Int32) : rf_isI f 0 = false := by unfold rf_isI; rw [z_siz]; unfold rf_if; split <;> decide
theorem z_isS (f : Int32) : rf_isS f 0 = false := by unfold rf_isS; simp
theorem z_man (f : Int32) : rf_man f 0 = 0 := by
  unfold rf_man; rw [z_siz]; unfold rf_fr
  by_cases h : f = 0
  · rw [if_pos h]; decide
  · rw [if_neg h]; decide
theorem z_pow (f : Int32) : rf_pow f 0 = rf_le f := by
  unfold rf_pow; rw [z_siz]; unfold rf_fr rf_le
  by_cases h : f = 0
  · rw [if_pos h, if_pos h]; decide
  · rw [if_neg h, if_neg h]; decide
theorem z_pla (f : Int32) : rf_pla f 0 = 0 := by unfold rf_pla; rw [z_isN, z_isS, z_siz]; rfl
theorem z_le63 (f : Int32) : ¬ 63 < rf_le f + 0 := by
  unfold rf_le
  by_cases h : f = 0
  · rw [if_pos h]; decide
  · rw [if_neg h]; decide
theorem z_le63b (f : Int32) : rf_le f + 0 ≤ 63 := by
  unfold rf_le
  by_cases h : f = 0
  · rw [if_pos h]; decide
  · rw [if_neg h]; decide
theorem z_shl (n : Int32) : jl_shl 0 n = 0 := by unfold jl_shl; simp
theorem z_ush (n : Int32) : jl_ush 0 n = 0 := by
  unfold jl_ush
  show ((0 : UInt64) >>> _).toInt64 = 0
  rw [UInt64.zero_shiftRight]; rfl
theorem z_nan {k : Nat} (hk : k < 2) : cf_nan k 0 = false := by rcases pf_2 hk with rfl | rfl <;> decide
theorem z_rbv {k : Nat} (hk : k < 2) : cf_rbv k 0 = 0 := by rcases pf_2 hk with rfl | rfl <;> decide
theorem z_ris {k : Nat} (hk : k < 2) : cf_ris k 0 = 0 := by rcases pf_2 hk with rfl | rfl <;> decide
def jd_cmp (x y : Int64) : Int32 := if y ≤ x then (if x = y then 0 else 1) else -1
theorem z_cmp : jd_cmp 0 0 = 0 := by decide
theorem nz_dbz2 {w op : Int32} {y : Int64} (h : cn_flt w = false → y = 0) : cn_dbz w op y = cn_dbz w op 0 := by
  by_cases q : cn_flt w = true
  · unfold cn_dbz; rw [q]; simp
  · rw [h (by simpa using q)]
def nz_ope (k op a b t : Int32) : Int32 := if cn_num k a = true ∧ cn_num k b = true ∧ cn_num k t = true ∧ cn_opn k op = true then (if cn_dbz k op 0 = true then -2 else 0) else -1
def mz_ope (k op a b t : Int32) : Int32 := if rn_in k 4 = true ∧ rn_in op (if 2 ≤ k then 15 else 9) = true ∧ rn_in a 6 = true ∧ rn_in b 6 = true ∧ rn_in t 6 = true then (if ¬ k ≤ 1 ∧ (op = 3 ∨ op = 4) then -2 else 0) else -1
def nz_wid (k o : Int32) : Int32 := if cn_wid k < cn_wid o then o else k
def nz_asg (k a op o b : Int32) : Int32 := if cn_num k a = true ∧ cn_num o b = true ∧ ¬ op < 0 ∧ ¬ 3 < op then (if cn_dbz (nz_wid k o) op 0 = true then -2 else 0) else -1
def rf_rk (k : Int32) : Int32 := (k + 2) - (k + 2) / 4 * 4
def mz_wid (k o : Int32) : Int32 := if rf_rk k ≤ rf_rk o then o else k
def mz_asg (k a op o b : Int32) : Int32 := if rn_in k 4 = true ∧ rn_in a 6 = true ∧ rn_in op 4 = true ∧ rn_in o 4 = true ∧ rn_in b 6 = true then (if ¬ mz_wid k o ≤ 1 ∧ op = 3 then -2 else 0) else -1
def nz_cmp (k a b : Int32) : Int32 := if cn_num k a = true ∧ cn_num k b = true then 90 else -1
def mz_cmp (k a b : Int32) : Int32 := if rn_in k 4 = true ∧ rn_in a 6 = true ∧ rn_in b 6 = true then 90 else -1
def nz_ord (k a b : Int32) : Int32 := if cn_num k a = true ∧ cn_num k b = true then 0 else -1
def mz_ord (k a b : Int32) : Int32 := if rn_in k 4 = true ∧ rn_in a 6 = true ∧ rn_in b 6 = true then 0 else -1
def nz_srt (k i : Int32) : Int32 := if cn_num k i = true then (if cn_flt k = true then 76 else 0) else -1
def mz_srt (k i : Int32) : Int32 := if rn_in k 4 = true ∧ rn_in i 6 = true then (if k ≤ 1 then 76 else 0) else -1
theorem rn_23 {k : Int32} (h : rn_in k 4 = true) (h1 : ¬ k ≤ 1) : k = 2 ∨ k = 3 := by
  obtain ⟨a, b⟩ := of_decide_eq_true h
  rw [Int32.not_lt] at a
  rw [Int32.not_le] at b h1
  have a := Int32.le_iff_toInt_le.mp a
  have b := Int32.lt_iff_toInt_lt.mp b
  have h1 := Int32.lt_iff_toInt_lt.mp h1
  have e1 : (1 : Int32).toInt = 1 := rfl
  have e4 : (4 : Int32).toInt = 4 := rfl
  rw [e4] at b
  rw [e1] at h1
  rcases (show k.toInt = 2 ∨ k.toInt = 3 by omega) with q | q
  · exact Or.inl (Int32.toInt_inj.mp q)
  · exact Or.inr (Int32.toInt_inj.mp q)
theorem rn_03 {k : Int32} (h : rn_in k 4 = true) : k = 0 ∨ k = 1 ∨ k = 2 ∨ k = 3 := by
  by_cases h1 : k ≤ 1
  · obtain ⟨a, b⟩ := of_decide_eq_true h
    rw [Int32.not_lt] at a
    have a := Int32.le_iff_toInt_le.mp a
    have h1 := Int32.le_iff_toInt_le.mp h1
    rw [Int32.toInt_zero] at a
    have e1 : (1 : Int32).toInt = 1 := rfl
    rw [e1] at h1
    rcases (show k.toInt = 0 ∨ k.toInt = 1 by omega) with q | q
    · exact Or.inl (Int32.toInt_inj.mp q)
    · exact Or.inr (Or.inl (Int32.toInt_inj.mp q))
  · exact Or.inr (Or.inr (rn_23 h h1))
theorem rn_op (op : Int32) : rn_in op 9 = decide (¬ op < 0 ∧ ¬ 8 < op) ∧ rn_in op 15 = decide (¬ op < 0 ∧ ¬ 14 < op) ∧ rn_in op 4 = decide (¬ op < 0 ∧ ¬ 3 < op) := by
  unfold rn_in
  have e9 : (9 : Int32).toInt = 9 := rfl
  have e8 : (8 : Int32).toInt = 8 := rfl
  have e15 : (15 : Int32).toInt = 15 := rfl
  have e14 : (14 : Int32).toInt = 14 := rfl
  have e4 : (4 : Int32).toInt = 4 := rfl
  have e3 : (3 : Int32).toInt = 3 := rfl
  refine ⟨?_, ?_, ?_⟩ <;> apply decide_eq_decide.mpr <;> simp only [Int32.le_iff_toInt_le, Int32.lt_iff_toInt_lt, e9, e8, e15, e14, e4, e3] <;> constructor <;> intro ⟨a, b⟩ <;> exact ⟨a, by omega⟩
theorem zq_ope (k op a b t : Int32) : nz_ope k op a b t = mz_ope k op a b t := by
  unfold nz_ope mz_ope
  rw [cn_rn, cn_rn, cn_rn]
  by_cases h : rn_in k 4 = true
  · obtain ⟨o9, o15, -⟩ := rn_op op
    rcases rn_03 h with rfl | rfl | rfl | rfl
    · rw [show (if (2 : Int32) ≤ 0 then (15 : Int32) else 9) = 9 from by decide, o9]
      have e1 : cn_opn 0 op = decide (¬ op < 0 ∧ ¬ 8 < op) := rfl
      have e2 : ¬ cn_dbz 0 op 0 = true := by unfold cn_dbz; simp [show cn_flt 0 = true from by decide]
      rw [e1, if_neg e2, if_neg (show ¬ (¬ (0 : Int32) ≤ 1 ∧ (op = 3 ∨ op = 4)) from fun q => q.1 (by decide))]
      by_cases z : decide (¬ op < 0 ∧ ¬ 8 < op) = true <;> by_cases ha : rn_in a 6 = true <;> by_cases hb : rn_in b 6 = true <;> by_cases ht : rn_in t 6 = true <;> simp [z, ha, hb, ht, h]
    · rw [show (if (2 : Int32) ≤ 1 then (15 : Int32) else 9) = 9 from by decide, o9]
      have e1 : cn_opn 1 op = decide (¬ op < 0 ∧ ¬ 8 < op) := rfl
      have e2 : ¬ cn_dbz 1 op 0 = true := by unfold cn_dbz; simp [show cn_flt 1 = true from by decide]
      rw [e1, if_neg e2, if_neg (show ¬ (¬ (1 : Int32) ≤ 1 ∧ (op = 3 ∨ op = 4)) from fun q => q.1 (by decide))]
      by_cases z : decide (¬ op < 0 ∧ ¬ 8 < op) = true <;> by_cases ha : rn_in a 6 = true <;> by_cases hb : rn_in b 6 = true <;> by_cases ht : rn_in t 6 = true <;> simp [z, ha, hb, ht, h]
    · rw [show (if (2 : Int32) ≤ 2 then (15 : Int32) else 9) = 15 from by decide, o15]
      have e1 : cn_opn 2 op = decide (¬ op < 0 ∧ ¬ 14 < op) := rfl
      have e2 : cn_dbz 2 op 0 = decide (op = 3 ∨ op = 4) := by unfold cn_dbz; simp [show cn_flt 2 = false from by decide]
      rw [e1, e2]
      by_cases y : op = 3 ∨ op = 4 <;> by_cases z : decide (¬ op < 0 ∧ ¬ 14 < op) = true <;> by_cases ha : rn_in a 6 = true <;> by_cases hb : rn_in b 6 = true <;> by_cases ht : rn_in t 6 = true <;> simp [y, z, ha, hb, ht, h] <;> decide
    · rw [show (if (2 : Int32) ≤ 3 then (15 : Int32) else 9) = 15 from by decide, o15]
      have e1 : cn_opn 3 op = decide (¬ op < 0 ∧ ¬ 14 < op) := rfl
      have e2 : cn_dbz 3 op 0 = decide (op = 3 ∨ op = 4) := by unfold cn_dbz; simp [show cn_flt 3 = false from by decide]
      rw [e1, e2]
      by_cases y : op = 3 ∨ op = 4 <;> by_cases z : decide (¬ op < 0 ∧ ¬ 14 < op) = true <;> by_cases ha : rn_in a 6 = true <;> by_cases hb : rn_in b 6 = true <;> by_cases ht : rn_in t 6 = true <;> simp [y, z, ha, hb, ht, h] <;> decide
  · simp [h]
theorem zq_asg (k a op o b : Int32) : nz_asg k a op o b = mz_asg k a op o b := by
  unfold nz_asg mz_asg
  rw [cn_rn, cn_rn]
  obtain ⟨-, -, o4⟩ := rn_op op
  by_cases h : rn_in k 4 = true
  · by_cases g : rn_in o 4 = true
    · rw [o4]
      have key : (cn_dbz (nz_wid k o) op 0 = true) = (¬ mz_wid k o ≤ 1 ∧ (op = 3 ∨ op = 4)) := by
        rcases rn_03 h with rfl | rfl | rfl | rfl <;> rcases rn_03 g with rfl | rfl | rfl | rfl <;> (unfold cn_dbz; simp only [decide_eq_true_eq]; apply propext; constructor <;> (intro q; first | exact absurd q.1 (by decide) | exact ⟨by decide, q.2.1⟩ | exact ⟨by decide, q.2, trivial⟩))
      by_cases z : ¬ op < 0 ∧ ¬ 3 < op
      · have n4 : ¬ op = 4 := by
          intro q; subst q; exact z.2 (by decide)
        simp only [key, h, g, z, Bool.true_and, decide_true]
        by_cases ha : rn_in a 6 = true <;> by_cases hb : rn_in b 6 = true <;> simp [ha, hb, z, n4]
      · rw [if_neg (fun q => z q.2.2), if_neg (fun q => z (of_decide_eq_true q.2.2.1))]
    · simp [g]
  · simp [h]
theorem zq_cmp (k a b : Int32) : nz_cmp k a b = mz_cmp k a b := by
  unfold nz_cmp mz_cmp; rw [cn_rn, cn_rn]
  by_cases h : rn_in k 4 = true <;> by_cases ha : rn_in a 6 = true <;> by_cases hb : rn_in b 6 = true <;> simp [h, ha, hb]
theorem zq_ord (k a b : Int32) : nz_ord k a b = mz_ord k a b := by
  unfold nz_ord mz_ord; rw [cn_rn, cn_rn]
  by_cases h : rn_in k 4 = true <;> by_cases ha : rn_in a 6 = true <;> by_cases hb : rn_in b 6 = true <;> simp [h, ha, hb]
theorem zq_srt (k i : Int32) : nz_srt k i = mz_srt k i := by
  unfold nz_srt mz_srt; rw [cn_rn]
  by_cases h : rn_in k 4 = true
  · rcases rn_03 h with rfl | rfl | rfl | rfl <;> by_cases ha : rn_in i 6 = true <;> simp [h, ha] <;> decide
  · simp [h]
