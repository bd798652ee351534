/-! what the reference's calls answer, where the arguments alone decide it -/
def mq_put (k i : Int32) : Int32 := if rn_in k 4 = true ∧ rn_in i 6 = true then 0 else -1
def mq_bou (k i w : Int32) : Int32 := if rn_in k 4 = true ∧ rn_in i 6 = true ∧ rn_in w (if k = 2 then 15 else 21) = true then 0 else -1
def mq_cnv (k i o t : Int32) : Int32 := if rn_in k 4 = true ∧ rn_in i 6 = true ∧ rn_in o 4 = true ∧ rn_in t 6 = true then 0 else -1
def mq_ser (a b n t : Int32) : Int32 := if rn_in a 6 = true ∧ rn_in b 6 = true ∧ rn_in n 41 = true ∧ rn_in t 6 = true then 0 else -1
def mq_pol (x t : Int32) : Int32 := if rn_in x 6 = true ∧ rn_in t 6 = true then 0 else -1
theorem lp_in {k : Int32} (h0 : 0 ≤ k) (hi : k ≤ 4) {N : Nat} (hN : 4 < N) : vp_in k N := by
  have h0 := Int32.le_iff_toInt_le.mp h0
  have hi := Int32.le_iff_toInt_le.mp hi
  rw [Int32.toInt_zero] at h0
  have e4 : (4 : Int32).toInt = 4 := rfl
  rw [e4] at hi
  rw [vp_in_iff]
  omega
theorem lp_st {k : Int32} (h0 : 0 ≤ k) (hi : k ≤ 4) : k + (-1) ≤ 4 := by
  have h0 := Int32.le_iff_toInt_le.mp h0
  have hi := Int32.le_iff_toInt_le.mp hi
  rw [Int32.toInt_zero] at h0
  have e4 : (4 : Int32).toInt = 4 := rfl
  have e1 : (-1 : Int32).toInt = -1 := rfl
  rw [e4] at hi
  rw [Int32.le_iff_toInt_le, e4, Jvm.Kit.i32_add (by rw [e1]; omega) (by rw [e1]; omega), e1]
  omega
theorem m_kd {k : Int32} (h1 : k ≤ 1) (h2 : 2 ≤ k) : False := by
  have h1 := Int32.le_iff_toInt_le.mp h1
  have h2 := Int32.le_iff_toInt_le.mp h2
  have e1 : (1 : Int32).toInt = 1 := rfl
  have e2 : (2 : Int32).toInt = 2 := rfl
  rw [e1] at h1
  rw [e2] at h2
  omega
theorem rn_n4 {k : Int32} (h : rn_in k 4 = true) : ¬ k = 4 := by
  intro q
  subst q
  exact absurd h (by decide)
