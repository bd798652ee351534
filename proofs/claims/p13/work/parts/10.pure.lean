/-! ROUNDING, over natural numbers: no machine here. rn_len: the length in bits; rn_rt n d: n / d to the nearest, ties to even; rn_st M k: M shifted right by k, its last bit standing for what was lost; rn_of: the magnitude bits of m * 2 ^ (least + d). -/
def rn_len (m : Nat) : Nat := if m = 0 then 0 else m.log2 + 1
theorem rn_len_0 : rn_len 0 = 0 := rfl
theorem rn_len_pos {m : Nat} (h : m ≠ 0) : 0 < rn_len m := by
  unfold rn_len; rw [if_neg h]; omega
theorem rn_len_lt (m : Nat) : m < 2 ^ rn_len m := by
  unfold rn_len
  by_cases h : m = 0
  · subst h; simp
  · rw [if_neg h]; exact Nat.lt_log2_self
theorem rn_len_le {m : Nat} (h : m ≠ 0) : 2 ^ (rn_len m - 1) ≤ m := by
  unfold rn_len
  rw [if_neg h, Nat.add_sub_cancel]
  exact Nat.log2_self_le h
theorem rn_len_eq {m k : Nat} (h1 : 2 ^ k ≤ m) (h2 : m < 2 ^ (k + 1)) : rn_len m = k + 1 := by
  have h0 : m ≠ 0 := by
    have : 0 < 2 ^ k := Nat.two_pow_pos k
    omega
  unfold rn_len
  rw [if_neg h0, (Nat.log2_eq_iff h0).mpr ⟨h1, h2⟩]
theorem rn_len_up {m k : Nat} (h : m < 2 ^ k) : rn_len m ≤ k := by
  by_cases h0 : m = 0
  · subst h0; rw [rn_len_0]; omega
  · unfold rn_len
    rw [if_neg h0]
    have := (Nat.log2_lt (k := k) h0).mpr h
    omega
theorem rn_len_lo {m k : Nat} (h : 2 ^ k ≤ m) : k < rn_len m := by
  have h0 : m ≠ 0 := by
    have : 0 < 2 ^ k := Nat.two_pow_pos k
    omega
  unfold rn_len
  rw [if_neg h0]
  have := (Nat.le_log2 (k := k) h0).mpr h
  omega
theorem rn_len_mul {m : Nat} (h : m ≠ 0) (k : Nat) : rn_len (m * 2 ^ k) = rn_len m + k := by
  have hp := rn_len_pos h
  have h1 := rn_len_le h
  have h2 := rn_len_lt m
  obtain ⟨j, hj⟩ : ∃ j, rn_len m = j + 1 := ⟨rn_len m - 1, by omega⟩
  rw [hj] at h1 h2 ⊢
  rw [Nat.add_sub_cancel] at h1
  rw [show j + 1 + k = (j + k) + 1 by omega]
  apply rn_len_eq
  · rw [Nat.pow_add]; exact Nat.mul_le_mul_right _ h1
  · rw [show j + k + 1 = (j + 1) + k by omega, Nat.pow_add]; exact Nat.mul_lt_mul_of_pos_right h2 (Nat.two_pow_pos k)
theorem rn_len_div {m k : Nat} (h : m / 2 ^ k ≠ 0) : rn_len m = rn_len (m / 2 ^ k) + k := by
  have hp := rn_len_pos h
  have h1 := rn_len_le h
  have h2 := rn_len_lt (m / 2 ^ k)
  obtain ⟨j, hj⟩ : ∃ j, rn_len (m / 2 ^ k) = j + 1 := ⟨rn_len (m / 2 ^ k) - 1, by omega⟩
  rw [hj] at h1 h2 ⊢
  rw [Nat.add_sub_cancel] at h1
  rw [show j + 1 + k = (j + k) + 1 by omega]
  apply rn_len_eq
  · rw [Nat.pow_add]; exact (Nat.le_div_iff_mul_le (Nat.two_pow_pos k)).mp h1
  · rw [show j + k + 1 = (j + 1) + k by omega, Nat.pow_add]; exact (Nat.div_lt_iff_lt_mul (Nat.two_pow_pos k)).mp h2
/-! THE TWO CLASSES AS FUNCTIONS: each method of the class (cf_: Format, cn_: NumberProbe) and of the reference (rf_) as a function of its arguments, in the machine's own operations. k: the format's place (0 SINGLE, 1 DOUBLE). -/
def jl_shl (x : Int64) (y : Int32) : Int64 := x <<< (y.toInt64 &&& 63)
def jl_shr (x : Int64) (y : Int32) : Int64 := x >>> (y.toInt64 &&& 63)
def jl_ush (x : Int64) (y : Int32) : Int64 := (x.toUInt64 >>> (y.toInt64.toUInt64 &&& Int64.toUInt64 63)).toInt64
def ji_shl (x y : Int32) : Int32 := x <<< (y &&& 31)
def ji_shr (x y : Int32) : Int32 := x >>> (y &&& 31)
def ji_ush (x y : Int32) : Int32 := (x.toUInt32 >>> (y.toUInt32 &&& Int32.toUInt32 31)).toInt32
def jl_rem (x y : Int64) : Int64 := x - x / y * y
def jb (b : Bool) : Int32 := if b then 1 else 0
theorem jb_0 {b : Bool} : jb b = 0 ↔ b = false := by cases b <;> decide
theorem jb_n0 {b : Bool} : ¬ jb b = 0 ↔ b = true := by cases b <;> decide
theorem jb_eq {a b : Bool} : jb a = jb b ↔ a = b := by cases a <;> cases b <;> decide
-- the fields of the two formats
def kf_b (k : Nat) : Int32 := match k with | 0 => 23 | _ => 52
def kf_s (k : Nat) : Int32 := match k with | 0 => 255 | _ => 2047
def kf_l (k : Nat) : Int32 := match k with | 0 => -149 | _ => -1074
def kf_m (k : Nat) : Int64 := match k with | 0 => 0x7FFFFFFF | _ => 0x7FFFFFFFFFFFFFFF
def kf_i (k : Nat) : Int64 := match k with | 0 => 0x7F800000 | _ => 0x7FF0000000000000
def kf_n (k : Nat) : Int64 := match k with | 0 => 0x7FC00000 | _ => 0x7FF8000000000000
-- Integer, Long
def jd_inlz4 (n i : Int32) : Int32 := n - ji_ush i 1
def jd_inlz3 (n i : Int32) : Int32 := if i < 4 then jd_inlz4 n i else jd_inlz4 (n + (-2)) (ji_ush i 2)
def jd_inlz2 (n i : Int32) : Int32 := if i < 16 then jd_inlz3 n i else jd_inlz3 (n + (-4)) (ji_ush i 4)
def jd_inlz1 (n i : Int32) : Int32 := if i < 256 then jd_inlz2 n i else jd_inlz2 (n + (-8)) (ji_ush i 8)
def jd_inlz (i : Int32) : Int32 := if 0 < i then (if i < 65536 then jd_inlz1 31 i else jd_inlz1 (31 + (-16)) (ji_ush i 16)) else if i = 0 then 32 else 0
def jd_nlz (x : Int64) : Int32 := if (jl_ush x 32).toInt32 = 0 then 32 + jd_inlz x.toInt32 else jd_inlz (jl_ush x 32).toInt32
-- Format
def cf_mag (k : Nat) (x : Int64) : Int64 := x &&& kf_m k
def cf_nan (k : Nat) (x : Int64) : Bool := decide (kf_i k < cf_mag k x)
def cf_inf (k : Nat) (x : Int64) : Bool := decide (cf_mag k x = kf_i k)
def cf_zer (k : Nat) (x : Int64) : Bool := decide (cf_mag k x = 0)
def cf_neg (k : Nat) (x : Int64) : Int64 := if cf_nan k x then x else x ^^^ (kf_m k ^^^ (-1))
def cf_sgn (k : Nat) (n : Bool) (m : Int64) : Int64 := if n then m ||| (kf_m k ^^^ (-1)) else m
def cf_num (k : Nat) (b : Int64) : Int64 := if cf_nan k b then kf_n k else cf_sgn k (decide (¬ (b &&& (kf_m k + 1)) = 0)) (cf_mag k b)
def cf_fld (k : Nat) (x : Int64) : Int32 := (jl_ush x (kf_b k)).toInt32 &&& kf_s k
def cf_sig (k : Nat) (x : Int64) : Int64 := if cf_fld k x = 0 then x &&& (jl_shl 1 (kf_b k) - 1) else (x &&& (jl_shl 1 (kf_b k) - 1)) ||| jl_shl 1 (kf_b k)
def cf_exp (k : Nat) (x : Int64) : Int32 := kf_l k + (if cf_fld k x < 1 then 1 else cf_fld k x) - 1
def cf_wid (s : Int64) : Int32 := jd_nlz s - 11
def cf_dig (v : Int64) (d : Int32) : Int64 := jl_ush v (d * 10) &&& 1023
def cf_ris (k : Nat) (x : Int64) : Int64 := if 0 ≤ x then x else x ^^^ kf_m k
def cf_rbv (k : Nat) (x : Int64) : Int64 := if cf_zer k x then 0 else cf_ris k x
def cf_les (k : Nat) (x y : Int64) : Int64 := if cf_nan k x ∨ cf_nan k y then kf_n k else if cf_ris k x ≤ cf_ris k y then x else y
def cf_gre (k : Nat) (x y : Int64) : Int64 := if cf_nan k x ∨ cf_nan k y then kf_n k else if cf_ris k y ≤ cf_ris k x then x else y
def cf_wre (v r : Int64) : Int64 := if r = 0 then v else v ||| 1
def cf_shr (v : Int64) (b : Int32) : Int64 := if 64 ≤ b then cf_wre 0 v else cf_wre (jl_ush v b) (v - jl_shl (jl_ush v b) b)
def cf_cut (v : Int64) (c : Int32) : Int64 := if 64 ≤ c then 0 else
  if jl_shl 1 (c - 1) < v - jl_shl (jl_ush v c) c ∨ (v - jl_shl (jl_ush v c) c = jl_shl 1 (c - 1) ∧ (jl_ush v c &&& 1) = 1) then jl_ush v c + 1 else jl_ush v c
/-- the end of rounded: the value m, shifted to the top, cut at c, its last place l -/
def cf_rn2 (k : Nat) (n : Bool) (m : Int64) (c l : Int32) : Int64 := if kf_s k - 1 ≤ l - kf_l k then cf_sgn k n (kf_i k) else cf_sgn k n (jl_shl (l - kf_l k).toInt64 (kf_b k) + cf_cut m c)
def cf_rnd (k : Nat) (n : Bool) (m : Int64) (e : Int32) : Int64 := if m = 0 then cf_sgn k n 0 else
  if e - (jd_nlz m - 1) + (62 - kf_b k) < kf_l k then cf_rn2 k n (jl_shl m (jd_nlz m - 1)) ((62 - kf_b k) + (kf_l k - (e - (jd_nlz m - 1) + (62 - kf_b k)))) (kf_l k)
  else cf_rn2 k n (jl_shl m (jd_nlz m - 1)) (62 - kf_b k) (e - (jd_nlz m - 1) + (62 - kf_b k))
/-- finiteSum -/
def cf_fsm (k : Nat) (g s : Int64) : Int64 :=
  let a := jl_shl (cf_sig k g) 9
  let b := cf_shr (jl_shl (cf_sig k s) 9) (cf_exp k g - cf_exp k s)
  let same := decide (g < 0) == decide (s < 0)
  let total := if same then a + b else a - b
  cf_rnd k (decide (g < 0) && (same || decide (¬ total = 0))) total (cf_exp k g - 9)
def cf_sum (k : Nat) (x y : Int64) : Int64 := if cf_nan k x ∨ cf_nan k y then kf_n k else
  if cf_inf k x then (if cf_inf k y ∧ ¬ x = y then kf_n k else x) else
  if cf_inf k y then y else
  if cf_mag k y ≤ cf_mag k x then cf_fsm k x y else cf_fsm k y x
def cf_pstep (a b : Int64) (d : Int32) (q : Int64 × Int64) : Int64 × Int64 := (jl_ush q.1 10 + a * cf_dig b d, q.2 ||| cf_dig q.1 0)
def cf_ploop (a b : Int64) : Nat → Int64 × Int64 → Int64 × Int64
  | 0, q => q
  | n + 1, q => cf_ploop a b n (cf_pstep a b (nI (5 - n)) q)
def cf_fpr (k : Nat) (n : Bool) (x y : Int64) : Int64 :=
  let sx := cf_wid (cf_sig k x)
  let sy := cf_wid (cf_sig k y)
  let q := cf_ploop (jl_shl (cf_sig k x) sx) (jl_shl (cf_sig k y) sy) 6 (0, 0)
  cf_rnd k n (cf_wre q.1 q.2) (cf_exp k x - sx + cf_exp k y - sy + 50)
def cf_mul (k : Nat) (x y : Int64) : Int64 :=
  let n := !(decide (x < 0) == decide (y < 0))
  if cf_nan k x ∨ cf_nan k y then kf_n k else
  if cf_inf k x ∨ cf_inf k y then (if cf_zer k x ∨ cf_zer k y then kf_n k else cf_sgn k n (kf_i k)) else
  if cf_zer k x ∨ cf_zer k y then cf_sgn k n 0 else cf_fpr k n x y
def cf_qstep (d : Int64) (q : Int64 × Int64) : Int64 × Int64 := (jl_shl q.1 10 + jl_shl q.2 10 / d, jl_rem (jl_shl q.2 10) d)
def cf_qloop (d : Int64) : Nat → Int64 × Int64 → Int64 × Int64
  | 0, q => q
  | n + 1, q => cf_qloop d n (cf_qstep d q)
def cf_fqu (k : Nat) (n : Bool) (x y : Int64) : Int64 :=
  let sx := cf_wid (cf_sig k x)
  let sy := cf_wid (cf_sig k y)
  let a := jl_shl (cf_sig k x) sx
  let d := jl_shl (cf_sig k y) sy
  let q := cf_qloop d 6 (a / d, jl_rem a d)
  cf_rnd k n (cf_wre q.1 q.2) (cf_exp k x - sx - cf_exp k y + sy - 60)
def cf_div (k : Nat) (x y : Int64) : Int64 :=
  let n := !(decide (x < 0) == decide (y < 0))
  if cf_nan k x ∨ cf_nan k y ∨ (cf_inf k x ∧ cf_inf k y) ∨ (cf_zer k x ∧ cf_zer k y) then kf_n k else
  if cf_inf k x ∨ cf_zer k y then cf_sgn k n (kf_i k) else
  if cf_zer k x ∨ cf_inf k y then cf_sgn k n 0 else cf_fqu k n x y
def cf_rloop (d : Int64) : Nat → Int32 → Int64 → Int64
  | 0, _, r => r
  | n + 1, l, r => if 0 < l then cf_rloop d n (l - 10) (jl_rem (jl_shl r (if 10 < l then 10 else l)) d) else r
def cf_rem (k : Nat) (x y : Int64) : Int64 := if cf_nan k x ∨ cf_nan k y ∨ cf_inf k x ∨ cf_zer k y then kf_n k else
  if cf_mag k x < cf_mag k y then x else
  cf_rnd k (decide (x < 0)) (cf_rloop (cf_sig k y) 300 (cf_exp k x - cf_exp k y) (jl_rem (cf_sig k x) (cf_sig k y))) (cf_exp k y)
/-- nearestTo: of format j, in format k -/
def cf_nto (k j : Nat) (x : Int64) : Int64 := if cf_nan j x then kf_n k else if cf_inf j x then cf_sgn k (decide (x < 0)) (kf_i k) else cf_rnd k (decide (x < 0)) (cf_sig j x) (cf_exp j x)
def cf_ntw (k : Nat) (w : Int64) : Int64 :=
  let m := if w < 0 then -w else w
  if m < 0 then cf_rnd k true (jl_ush m 1) 1 else cf_rnd k (decide (w < 0)) m 0
def cf_twz (k : Nat) (x : Int64) : Int64 := if cf_nan k x then 0 else
  if jd_nlz (cf_sig k x) ≤ cf_exp k x then (if x < 0 then -0x8000000000000000 else 0x7FFFFFFFFFFFFFFF) else
  let w := if 0 ≤ cf_exp k x then jl_shl (cf_sig k x) (cf_exp k x) else if -64 < cf_exp k x then jl_ush (cf_sig k x) (-cf_exp k x) else 0
  if x < 0 then -w else w
-- the reference
def rf_fr (f : Int32) : Int32 := if f = 0 then 23 else 52
def rf_le (f : Int32) : Int32 := if f = 0 then -149 else -1074
def rf_sb (f : Int32) : Int64 := if f = 0 then 0x80000000 else -0x8000000000000000
def rf_if (f : Int32) : Int64 := if f = 0 then 0x7F800000 else 0x7FF0000000000000
def rf_na (f : Int32) : Int64 := if f = 0 then 0x7FC00000 else 0x7FF8000000000000
def rf_isS (f : Int32) (b : Int64) : Bool := decide (¬ (b &&& rf_sb f) = 0)
def rf_siz (f : Int32) (b : Int64) : Int64 := b &&& (rf_sb f - 1)
def rf_isN (f : Int32) (b : Int64) : Bool := decide (rf_if f < rf_siz f b)
def rf_lst (m : Int64) (n k : Int32) : Int32 := if jl_ush m (n + k) = 0 then n else n + k
def rf_lloop (m : Int64) : Nat → Int32 → Int32 → Int32
  | 0, n, _ => n
  | j + 1, n, k => if 0 < k then rf_lloop m j (rf_lst m n k) (k / 2) else n
def rf_len (m : Int64) : Int32 := if m = 0 then 0 else rf_lloop m 7 0 32 + 1
def rf_sgn (f : Int32) (s : Bool) (b : Int64) : Int64 := if s then b ||| rf_sb f else b
def rf_man (f : Int32) (b : Int64) : Int64 := if jl_shl 1 (rf_fr f) ≤ rf_siz f b then (rf_siz f b &&& (jl_shl 1 (rf_fr f) - 1)) ||| jl_shl 1 (rf_fr f) else rf_siz f b
def rf_pow (f : Int32) (b : Int64) : Int32 := rf_le f + (if (jl_ush (rf_siz f b) (rf_fr f)).toInt32 = 0 then 0 else (jl_ush (rf_siz f b) (rf_fr f)).toInt32 - 1)
def rf_isI (f : Int32) (b : Int64) : Bool := decide (rf_siz f b = rf_if f)
/-- round, behind the shift -/
def rf_kep (m : Int64) (h : Int32) : Int64 := if h ≤ 0 then jl_shl m (-h) else
  if jl_shl 1 (h - 1) < m - jl_shl (jl_ush m h) h ∨ (m - jl_shl (jl_ush m h) h = jl_shl 1 (h - 1) ∧ ¬ (jl_ush m h &&& 1) = 0) then jl_ush m h + 1 else jl_ush m h
def rf_rn3 (f : Int32) (s : Bool) (q : Int64) (u : Int32) : Int64 := if 3000 < u then rf_sgn f s (rf_if f) else
  if jl_ush (rf_if f) (rf_fr f) ≤ u.toInt64 then rf_sgn f s (rf_if f) else
  rf_sgn f s (if rf_if f < jl_shl u.toInt64 (rf_fr f) + q then rf_if f else jl_shl u.toInt64 (rf_fr f) + q)
def rf_rn2 (f : Int32) (s : Bool) (m : Int64) (e h : Int32) : Int64 := if 63 < h then rf_sgn f s 0 else rf_rn3 f s (rf_kep m h) (e + h - rf_le f)
def rf_rnd (f : Int32) (s : Bool) (m : Int64) (e : Int32) : Int64 := if m = 0 then rf_sgn f s 0 else
  rf_rn2 f s m e (if rf_len m - rf_fr f - 1 < rf_le f - e then rf_le f - e else rf_len m - rf_fr f - 1)
def rf_shd (m : Int64) (n : Int32) : Int64 := if 62 < n then (if m = 0 then 0 else 1) else if jl_shl (jl_ush m n) n = m then jl_ush m n else jl_ush m n ||| 1
def rf_add (f : Int32) (x y : Int64) : Int64 :=
  if rf_isN f x ∨ rf_isN f y ∨ (rf_isI f x ∧ rf_isI f y ∧ ¬ rf_isS f x = rf_isS f y) then rf_na f else
  if rf_isI f x then x else if rf_isI f y then y else
  if rf_man f x = 0 ∧ rf_man f y = 0 then (if rf_isS f x ∧ rf_isS f y then x else 0) else
  let e := if rf_pow f y < rf_pow f x then rf_pow f x else rf_pow f y
  let a := rf_shd (jl_shl (rf_man f x) 8) (e - rf_pow f x)
  let b := rf_shd (jl_shl (rf_man f y) 8) (e - rf_pow f y)
  let s := (if rf_isS f x then -a else a) + (if rf_isS f y then -b else b)
  if s = 0 then 0 else rf_rnd f (decide (s < 0)) (if s < 0 then -s else s) (e - 8)
def rf_fli (f : Int32) (x : Int64) : Int64 := if rf_isN f x then x else x ^^^ rf_sb f
def rf_lo32 (x : Int64) : Int64 := x &&& 0xFFFFFFFF
/-- product: the low word, the high one -/
def rf_one (a b : Int64) : Int64 := jl_ush a 32 * rf_lo32 b + jl_ush (rf_lo32 a * rf_lo32 b) 32
def rf_two (a b : Int64) : Int64 := rf_lo32 a * jl_ush b 32 + rf_lo32 (rf_one a b)
def rf_plo (a b : Int64) : Int64 := jl_shl (rf_two a b) 32 ||| rf_lo32 (rf_lo32 a * rf_lo32 b)
def rf_phi (a b : Int64) : Int64 := jl_ush a 32 * jl_ush b 32 + jl_ush (rf_one a b) 32 + jl_ush (rf_two a b) 32
def rf_mu2 (f : Int32) (s : Bool) (lo hi : Int64) (e : Int32) : Int64 := if hi = 0 ∧ jl_ush lo 62 = 0 then rf_rnd f s lo e else
  let t := rf_len hi + 2
  let m := rf_shd (jl_ush lo 1) (t - 1) ||| jl_shl hi (64 - t)
  rf_rnd f s (if (lo &&& 1) = 0 then m else m ||| 1) (e + t)
def rf_mul (f : Int32) (x y : Int64) : Int64 :=
  let s := !(rf_isS f x == rf_isS f y)
  if rf_isN f x ∨ rf_isN f y ∨ (rf_isI f x ∧ rf_man f y = 0) ∨ (rf_isI f y ∧ rf_man f x = 0) then rf_na f else
  if rf_isI f x ∨ rf_isI f y then rf_sgn f s (rf_if f) else
  rf_mu2 f s (rf_plo (rf_man f x) (rf_man f y)) (rf_phi (rf_man f x) (rf_man f y)) (rf_pow f x + rf_pow f y)
def rf_dst (d : Int64) (q : Int64 × Int64) : Int64 × Int64 := if d ≤ q.2 then (jl_shl q.1 1 + 1, jl_shl (q.2 - d) 1) else (jl_shl q.1 1, jl_shl q.2 1)
def rf_dloop (d : Int64) : Nat → Int64 × Int64 → Int64 × Int64
  | 0, q => q
  | n + 1, q => rf_dloop d n (rf_dst d q)
def rf_div (f : Int32) (x y : Int64) : Int64 :=
  let s := !(rf_isS f x == rf_isS f y)
  let z := decide (rf_man f y = 0) && !rf_isI f y
  if rf_isN f x ∨ rf_isN f y ∨ (rf_isI f x ∧ rf_isI f y) ∨ (z ∧ rf_man f x = 0) then rf_na f else
  if rf_isI f x ∨ z then rf_sgn f s (rf_if f) else
  if rf_isI f y ∨ rf_man f x = 0 then rf_sgn f s 0 else
  let u := 53 - rf_len (rf_man f x)
  let d := 53 - rf_len (rf_man f y)
  let q := rf_dloop (jl_shl (rf_man f y) d) 58 (0, jl_shl (rf_man f x) u)
  rf_rnd f s (if q.2 = 0 then q.1 else q.1 ||| 1) (rf_pow f x - u - rf_pow f y + d - 57)
def rf_rloop (d : Int64) : Nat → Int64 → Int64
  | 0, r => r
  | n + 1, r => rf_rloop d n (jl_rem (jl_shl r 1) d)
def rf_rem (f : Int32) (x y : Int64) : Int64 := if rf_isN f x ∨ rf_isN f y ∨ rf_isI f x ∨ rf_man f y = 0 then rf_na f else
  if rf_isI f y ∨ rf_man f x = 0 then x else
  let d := rf_pow f y - rf_pow f x
  if 10 < d then x else
  if 0 ≤ d then rf_rnd f (rf_isS f x) (jl_rem (rf_man f x) (jl_shl (rf_man f y) d)) (rf_pow f x) else
  rf_rnd f (rf_isS f x) (rf_rloop (rf_man f y) (-d).toNatClampNeg (jl_rem (rf_man f x) (rf_man f y))) (rf_pow f y)
def rf_pla (f : Int32) (b : Int64) : Int64 := if rf_isN f b then rf_na 1 else if rf_isS f b then -1 - rf_siz f b else rf_siz f b
def rf_ope (f op : Int32) (x y : Int64) : Int64 :=
  if op = 0 then rf_add f x y else if op = 1 then rf_add f x (rf_fli f y) else if op = 2 then rf_mul f x y else if op = 3 then rf_div f x y else if op = 4 then rf_rem f x y else
  if op = 5 then (if rf_isN f x ∨ rf_isN f y then rf_na f else if rf_pla f x ≤ rf_pla f y then x else y) else
  if op = 6 then (if rf_isN f x ∨ rf_isN f y then rf_na f else if rf_pla f y ≤ rf_pla f x then x else y) else
  if op = 7 then rf_fli f x else if rf_isN f x then x else rf_siz f x
def rf_nor (kind : Int32) (v : Int64) : Int64 := if kind = 3 then v else if kind = 2 then v.toInt32.toInt64 else
  if kind = 0 then (if rf_isN kind (v &&& 0xFFFFFFFF) then rf_na kind else v &&& 0xFFFFFFFF) else if rf_isN kind v then rf_na kind else v
def rf_ofw (f : Int32) (v : Int64) : Int64 := if v = -0x8000000000000000 then rf_rnd f true (jl_shl 1 62) 1 else rf_rnd f (decide (v < 0)) (if v < 0 then -v else v) 0
def rf_tow (f : Int32) (b : Int64) : Int64 := if rf_isN f b then 0 else
  if rf_isI f b ∨ 63 < rf_pow f b + rf_len (rf_man f b) then (if rf_isS f b then -0x8000000000000000 else 0x7FFFFFFFFFFFFFFF) else
  let m := if 0 ≤ rf_pow f b then jl_shl (rf_man f b) (rf_pow f b) else if rf_pow f b < -62 then 0 else jl_ush (rf_man f b) (-rf_pow f b)
  if rf_isS f b then -m else m
def rf_bou (v : Int64) : Int64 := if 2147483647 < v then 2147483647 else if v < -2147483648 then -2147483648 else v
def rf_con (kind : Int32) (v : Int64) (to : Int32) : Int64 := if kind = to then v else
  if 1 < kind then (if 1 < to then rf_nor to v else rf_ofw to v) else
  if to = 3 then rf_tow kind v else if to = 2 then rf_bou (rf_tow kind v) else
  if rf_isN kind v then rf_na to else if rf_siz kind v = rf_if kind then rf_sgn to (rf_isS kind v) (rf_if to) else
  rf_rnd to (rf_isS kind v) (rf_man kind v) (rf_pow kind v)
def rf_whl (kind op : Int32) (x y : Int64) : Int64 :=
  let n : Int32 := y.toInt32 &&& (if kind = 3 then 63 else 31)
  if op = 0 then x + y else if op = 1 then x - y else if op = 2 then x * y else if op = 3 then x / y else if op = 4 then jl_rem x y else
  if op = 5 then (if x < y then x else y) else if op = 6 then (if y < x then x else y) else if op = 7 then -x else if op = 8 then (if x < 0 then -x else x) else
  if op = 9 then jl_shl x n else if op = 10 then jl_shr x n else if op = 11 then (if kind = 3 then jl_ush x n else jl_ush (x &&& 0xFFFFFFFF) n) else
  if op = 12 then x &&& y else if op = 13 then x ||| y else x ^^^ y
/-! longs and ints as the integers behind them: zL, zI -/
def zL (z : Int) : Int64 := Int64.ofInt z
def zI (z : Int) : Int32 := Int32.ofInt z
theorem zL_of (x : Int64) : x = zL x.toInt := (Int64.ofInt_toInt x).symm
theorem zI_of (x : Int32) : x = zI x.toInt := (Int32.ofInt_toInt x).symm
theorem zL_add (a b : Int) : zL a + zL b = zL (a + b) := (Int64.ofInt_add a b).symm
theorem zL_sub (a b : Int) : zL a - zL b = zL (a - b) := (Int64.ofInt_sub a b).symm
theorem zL_mul (a b : Int) : zL a * zL b = zL (a * b) := (Int64.ofInt_mul a b).symm
theorem zL_neg (a : Int) : -zL a = zL (-a) := (Int64.ofInt_neg a).symm
theorem zI_add (a b : Int) : zI a + zI b = zI (a + b) := (Int32.ofInt_add a b).symm
theorem zI_sub (a b : Int) : zI a - zI b = zI (a - b) := (Int32.ofInt_sub a b).symm
theorem zI_mul (a b : Int) : zI a * zI b = zI (a * b) := (Int32.ofInt_mul a b).symm
theorem zI_neg (a : Int) : -zI a = zI (-a) := (Int32.ofInt_neg a).symm
theorem zL_toInt {z : Int} (h1 : -9223372036854775808 ≤ z) (h2 : z < 9223372036854775808) : (zL z).toInt = z := Int64.toInt_ofInt_of_le h1 h2
theorem zI_toInt {z : Int} (h1 : -2147483648 ≤ z) (h2 : z < 2147483648) : (zI z).toInt = z := Int32.toInt_ofInt_of_le h1 h2
theorem zL_lt {a b : Int} (h1 : -9223372036854775808 ≤ a) (h2 : a < 9223372036854775808) (h3 : -9223372036854775808 ≤ b) (h4 : b < 9223372036854775808) : zL a < zL b ↔ a < b := by
  rw [Int64.lt_iff_toInt_lt, zL_toInt h1 h2, zL_toInt h3 h4]
theorem zL_le {a b : Int} (h1 : -9223372036854775808 ≤ a) (h2 : a < 9223372036854775808) (h3 : -9223372036854775808 ≤ b) (h4 : b < 9223372036854775808) : zL a ≤ zL b ↔ a ≤ b := by
  rw [Int64.le_iff_toInt_le, zL_toInt h1 h2, zL_toInt h3 h4]
theorem zL_eq {a b : Int} (h1 : -9223372036854775808 ≤ a) (h2 : a < 9223372036854775808) (h3 : -9223372036854775808 ≤ b) (h4 : b < 9223372036854775808) : zL a = zL b ↔ a = b := by
  rw [← Int64.toInt_inj, zL_toInt h1 h2, zL_toInt h3 h4]
theorem zI_lt {a b : Int} (h1 : -2147483648 ≤ a) (h2 : a < 2147483648) (h3 : -2147483648 ≤ b) (h4 : b < 2147483648) : zI a < zI b ↔ a < b := by
  rw [Int32.lt_iff_toInt_lt, zI_toInt h1 h2, zI_toInt h3 h4]
theorem zI_le {a b : Int} (h1 : -2147483648 ≤ a) (h2 : a < 2147483648) (h3 : -2147483648 ≤ b) (h4 : b < 2147483648) : zI a ≤ zI b ↔ a ≤ b := by
  rw [Int32.le_iff_toInt_le, zI_toInt h1 h2, zI_toInt h3 h4]
theorem zI_eq {a b : Int} (h1 : -2147483648 ≤ a) (h2 : a < 2147483648) (h3 : -2147483648 ≤ b) (h4 : b < 2147483648) : zI a = zI b ↔ a = b := by
  rw [← Int32.toInt_inj, zI_toInt h1 h2, zI_toInt h3 h4]
theorem zL_i (z : Int) : (zL z).toInt32 = zI z := Int64.toInt32_ofInt
theorem zI_l {z : Int} (h1 : -2147483648 ≤ z) (h2 : z < 2147483648) : (zI z).toInt64 = zL z := by
  apply Int64.toInt_inj.mp
  rw [Int32.toInt_toInt64, zI_toInt h1 h2, zL_toInt (by omega) (by omega)]
theorem zL_lN (n : Nat) : zL (n : Int) = lN n := Int64.ofInt_eq_ofNat
theorem zI_nI (n : Nat) : zI (n : Int) = nI n := Int32.ofInt_eq_ofNat
/-- the bits as a natural number -/
theorem zL_tn (z : Int) : (zL z).toBitVec.toNat = (z % 18446744073709551616).toNat := by
  show (BitVec.ofInt 64 z).toNat = _
  rw [BitVec.toNat_ofInt]
  rfl
theorem zI_tn (z : Int) : (zI z).toBitVec.toNat = (z % 4294967296).toNat := by
  show (BitVec.ofInt 32 z).toNat = _
  rw [BitVec.toNat_ofInt]
  rfl
theorem zL_inj {x : Int64} {z : Int} (h : x.toBitVec.toNat = (z % 18446744073709551616).toNat) : x = zL z := by
  apply Int64.toBitVec_inj.mp
  apply BitVec.eq_of_toNat_eq
  rw [h, zL_tn]
theorem zI_inj {x : Int32} {z : Int} (h : x.toBitVec.toNat = (z % 4294967296).toNat) : x = zI z := by
  apply Int32.toBitVec_inj.mp
  apply BitVec.eq_of_toNat_eq
  rw [h, zI_tn]
theorem zL_mod (z : Int) : zL (z % 18446744073709551616) = zL z := by
  apply zL_inj
  rw [zL_tn, Int.emod_emod_of_dvd _ (Int.dvd_refl _)]
theorem zL_wrap {a b : Int} (h : a % 18446744073709551616 = b % 18446744073709551616) : zL a = zL b := by rw [← zL_mod a, h, zL_mod]
/-! shifts by a number that is known -/
theorem z_c : ∀ k, k < 64 → ((nI k).toInt64 &&& 63) = lN k := by decide +kernel
theorem z_cu : ∀ k, k < 64 → ((nI k).toInt64.toUInt64 &&& Int64.toUInt64 63) = UInt64.ofNat k := by decide +kernel
theorem z_sm : ∀ k, k < 64 → (BitVec.ofNat 64 k).smod 64 = BitVec.ofNat 64 k := by decide +kernel
theorem z_tn : ∀ k, k < 64 → (UInt64.ofNat k).toNat = k := by decide +kernel
theorem zL_shl (z : Int) {k : Nat} (hk : k < 64) : jl_shl (zL z) (zI k) = zL (z * 2 ^ k) := by
  unfold jl_shl
  rw [zI_nI, z_c k hk]
  apply zL_inj
  rw [Int64.toBitVec_shiftLeft]
  show ((zL z).toBitVec <<< ((BitVec.ofNat 64 k).smod 64).toNat).toNat = _
  rw [z_sm k hk, BitVec.toNat_ofNat, Nat.mod_eq_of_lt (by omega), BitVec.toNat_shiftLeft, zL_tn, Nat.shiftLeft_eq]
  have h0 : 0 ≤ z % 18446744073709551616 := Int.emod_nonneg _ (by decide)
  have e1 : z * 2 ^ k = z % 18446744073709551616 * 2 ^ k + 18446744073709551616 * (z / 18446744073709551616 * 2 ^ k) := by
    rw [← Int.mul_assoc, ← Int.add_mul, Int.emod_add_mul_ediv]
  rw [e1, Int.add_mul_emod_self_left]
  generalize z % 18446744073709551616 = y at h0
  obtain ⟨n, rfl⟩ := Int.eq_ofNat_of_zero_le h0
  have e2 : ((2 ^ k : Nat) : Int) = (2 : Int) ^ k := by rw [Int.natCast_pow]; rfl
  rw [← e2, ← Int.natCast_mul, Int.toNat_natCast]
  show n * 2 ^ k % 18446744073709551616 = _
  omega
theorem zL_ush {n : Nat} (hn : n < 18446744073709551616) {k : Nat} (hk : k < 64) : jl_ush (zL n) (zI k) = zL ((n / 2 ^ k : Nat) : Int) := by
  unfold jl_ush
  rw [zI_nI, z_cu k hk]
  apply zL_inj
  show ((zL n).toUInt64 >>> UInt64.ofNat k).toNat = _
  rw [UInt64.toNat_shiftRight, z_tn k hk, Nat.mod_eq_of_lt hk, Nat.shiftRight_eq_div_pow]
  show (zL n).toBitVec.toNat / 2 ^ k = _
  rw [zL_tn, show ((n : Int) % 18446744073709551616).toNat = n by omega]
  have : n / 2 ^ k ≤ n := Nat.div_le_self _ _
  generalize n / 2 ^ k = q at this
  omega
theorem zL_mask (z : Int) {k : Nat} (hk : k ≤ 64) : zL z &&& zL (2 ^ k - 1) = zL (z % 2 ^ k) := by
  apply zL_inj
  rw [Int64.toBitVec_and, BitVec.toNat_and, zL_tn, zL_tn]
  have hp : (0 : Int) < 2 ^ k := Int.pow_pos (by decide)
  have hle : (2 : Int) ^ k ≤ 18446744073709551616 := by
    have := Nat.pow_le_pow_right (n := 2) (by decide) hk
    have h2 : ((2 ^ k : Nat) : Int) ≤ ((2 ^ 64 : Nat) : Int) := Int.ofNat_le.mpr this
    rw [Int.natCast_pow] at h2
    exact h2
  have e1 : (((2 : Int) ^ k - 1) % 18446744073709551616).toNat = 2 ^ k - 1 := by
    rw [Int.emod_eq_of_lt (by omega) (by omega)]
    have : ((2 ^ k : Nat) : Int) = (2 : Int) ^ k := by rw [Int.natCast_pow]; rfl
    omega
  rw [e1, Nat.and_two_pow_sub_one_eq_mod]
  have h0 : 0 ≤ z % 18446744073709551616 := Int.emod_nonneg _ (by decide)
  have h1 : 0 ≤ z % 2 ^ k := Int.emod_nonneg _ (by omega)
  have h2 : z % 2 ^ k < 2 ^ k := Int.emod_lt_of_pos _ hp
  rw [Int.emod_eq_of_lt h1 (by omega)]
  have hd : (2 : Int) ^ k ∣ 18446744073709551616 := by
    refine ⟨2 ^ (64 - k), ?_⟩
    rw [← Int.pow_add, show k + (64 - k) = 64 by omega]
    rfl
  rw [← Int.emod_emod_of_dvd z hd]
  generalize z % 18446744073709551616 = y at h0
  obtain ⟨n, rfl⟩ := Int.eq_ofNat_of_zero_le h0
  have : ((2 ^ k : Nat) : Int) = (2 : Int) ^ k := by rw [Int.natCast_pow]; rfl
  rw [← this, ← Int.natCast_emod, Int.toNat_natCast, Int.toNat_natCast]
/-! bits that don't meet -/
theorem zL_orp {m a i : Nat} (h : m < 2 ^ i) (hl : 2 ^ i * a + m < 18446744073709551616) : zL (m : Int) ||| zL ((2 ^ i * a : Nat) : Int) = zL ((m + 2 ^ i * a : Nat) : Int) := by
  apply zL_inj
  rw [Int64.toBitVec_or, BitVec.toNat_or, zL_tn, zL_tn]
  have e1 : ((m : Int) % 18446744073709551616).toNat = m := by omega
  have e2 : (((2 ^ i * a : Nat) : Int) % 18446744073709551616).toNat = 2 ^ i * a := by omega
  rw [e1, e2, Nat.or_comm, ← Nat.two_pow_add_eq_or_of_lt h]
  omega
theorem zL_xorp {m a i : Nat} (h : m < 2 ^ i) (hl : 2 ^ i * a + m < 18446744073709551616) : zL (m : Int) ^^^ zL ((2 ^ i * a : Nat) : Int) = zL ((m + 2 ^ i * a : Nat) : Int) := by
  apply zL_inj
  rw [Int64.toBitVec_xor, BitVec.toNat_xor, zL_tn, zL_tn]
  have e1 : ((m : Int) % 18446744073709551616).toNat = m := by omega
  have e2 : (((2 ^ i * a : Nat) : Int) % 18446744073709551616).toNat = 2 ^ i * a := by omega
  have e3 : m ^^^ 2 ^ i * a = 2 ^ i * a ||| m := by
    apply Nat.eq_of_testBit_eq
    intro j
    rw [Nat.testBit_xor, Nat.testBit_or, Nat.testBit_two_pow_mul]
    rcases Nat.lt_or_ge j i with g | g
    · simp [Nat.not_le.mpr g]
    · have : m.testBit j = false := Nat.testBit_lt_two_pow (Nat.lt_of_lt_of_le h (Nat.pow_le_pow_right (by decide) g))
      simp [this]
  rw [e1, e2, e3, ← Nat.two_pow_add_eq_or_of_lt h]
  omega
theorem zL_xorb {m a i : Nat} (h : m < 2 ^ i) (hl : 2 ^ i * a + m < 18446744073709551616) : zL ((m + 2 ^ i * a : Nat) : Int) ^^^ zL ((2 ^ i * a : Nat) : Int) = zL (m : Int) := by
  rw [← zL_xorp h hl]
  apply Int64.toBitVec_inj.mp
  rw [Int64.toBitVec_xor, Int64.toBitVec_xor, BitVec.xor_assoc, BitVec.xor_self, BitVec.xor_zero]
theorem zL_not (z : Int) : zL z ^^^ (-1) = zL (-1 - z) := by
  rw [Int64.xor_comm, Int64.neg_one_xor, Int64.not_eq_neg_sub, zL_neg, show (1 : Int64) = zL 1 from rfl, zL_sub]
  congr 1; omega
theorem zL_or1 {n : Nat} (h : n < 18446744073709551616) : zL (n : Int) ||| 1 = zL ((2 * (n / 2) + 1 : Nat) : Int) := by
  have e : zL (n : Int) ||| 1 = zL ((n % 2 : Nat) : Int) ||| (zL ((2 ^ 1 * (n / 2) : Nat) : Int) ||| 1) := by
    have := zL_orp (m := n % 2) (a := n / 2) (i := 1) (by omega) (by omega)
    rw [← Int64.or_assoc, this, show n % 2 + 2 ^ 1 * (n / 2) = n by omega]
  have e1 := zL_orp (m := 1) (a := n / 2) (i := 1) (by decide) (by omega)
  rw [show zL ((1 : Nat) : Int) = 1 from rfl] at e1
  rw [e, Int64.or_comm (zL ((2 ^ 1 * (n / 2) : Nat) : Int)) 1, ← Int64.or_assoc]
  have e2 : zL ((n % 2 : Nat) : Int) ||| 1 = 1 := by
    rcases (show n % 2 = 0 ∨ n % 2 = 1 by omega) with q | q <;> rw [q] <;> decide
  rw [e2, e1, show 1 + 2 ^ 1 * (n / 2) = 2 * (n / 2) + 1 by omega]
theorem zL_and1 (n : Nat) : zL (n : Int) &&& 1 = zL ((n % 2 : Nat) : Int) := by
  have := zL_mask (n : Int) (k := 1) (by decide)
  rw [show zL (2 ^ 1 - 1) = 1 from by decide] at this
  rw [this]; congr 1
theorem zI_mask (z : Int) {k : Nat} (hk : k ≤ 32) : zI z &&& zI (2 ^ k - 1) = zI (z % 2 ^ k) := by
  apply zI_inj
  rw [Int32.toBitVec_and, BitVec.toNat_and, zI_tn, zI_tn]
  have hp : (0 : Int) < 2 ^ k := Int.pow_pos (by decide)
  have hle : (2 : Int) ^ k ≤ 4294967296 := by
    have := Nat.pow_le_pow_right (n := 2) (by decide) hk
    have h2 : ((2 ^ k : Nat) : Int) ≤ ((2 ^ 32 : Nat) : Int) := Int.ofNat_le.mpr this
    rw [Int.natCast_pow] at h2
    exact h2
  have e1 : (((2 : Int) ^ k - 1) % 4294967296).toNat = 2 ^ k - 1 := by
    rw [Int.emod_eq_of_lt (by omega) (by omega)]
    have : ((2 ^ k : Nat) : Int) = (2 : Int) ^ k := by rw [Int.natCast_pow]; rfl
    omega
  rw [e1, Nat.and_two_pow_sub_one_eq_mod]
  have h0 : 0 ≤ z % 4294967296 := Int.emod_nonneg _ (by decide)
  have h1 : 0 ≤ z % 2 ^ k := Int.emod_nonneg _ (by omega)
  have h2 : z % 2 ^ k < 2 ^ k := Int.emod_lt_of_pos _ hp
  rw [Int.emod_eq_of_lt h1 (by omega)]
  have hd : (2 : Int) ^ k ∣ 4294967296 := by
    refine ⟨2 ^ (32 - k), ?_⟩
    rw [← Int.pow_add, show k + (32 - k) = 32 by omega]
    rfl
  rw [← Int.emod_emod_of_dvd z hd]
  generalize z % 4294967296 = y at h0
  obtain ⟨n, rfl⟩ := Int.eq_ofNat_of_zero_le h0
  have : ((2 ^ k : Nat) : Int) = (2 : Int) ^ k := by rw [Int.natCast_pow]; rfl
  rw [← this, ← Int.natCast_emod, Int.toNat_natCast, Int.toNat_natCast]
theorem zL_div {a b : Nat} (ha : a < 9223372036854775808) (hb : b < 9223372036854775808) : zL (a : Int) / zL (b : Int) = zL ((a / b : Nat) : Int) := by
  apply Int64.toInt_inj.mp
  have hq : a / b ≤ a := Nat.div_le_self _ _
  rw [Int64.toInt_div, zL_toInt (by omega) (by omega), zL_toInt (by omega) (by omega), ← Int.ofNat_tdiv]
  generalize a / b = q at hq
  rw [zL_toInt (by omega) (by omega)]
  exact Jvm.Kit.bmod64 (by omega) (by omega)
theorem zL_rem {a b : Nat} (ha : a < 9223372036854775808) (hb : b < 9223372036854775808) : jl_rem (zL (a : Int)) (zL (b : Int)) = zL ((a % b : Nat) : Int) := by
  unfold jl_rem
  rw [zL_div ha hb, zL_mul, zL_sub]
  congr 1
  have := Nat.div_add_mod a b
  rw [Nat.mul_comm] at this
  rw [← Int.natCast_mul]
  omega
theorem pf_2 {k : Nat} (h : k < 2) : k = 0 ∨ k = 1 := by omega
/-! leading zeros; rounded -/
theorem z_cu32 : ∀ k, k < 32 → ((nI k).toUInt32 &&& Int32.toUInt32 31) = UInt32.ofNat k := by decide +kernel
theorem z_tn32 : ∀ k, k < 32 → (UInt32.ofNat k).toNat = k := by decide +kernel
theorem zI_ush {n : Nat} (hn : n < 4294967296) {k : Nat} (hk : k < 32) : ji_ush (zI n) (zI k) = zI ((n / 2 ^ k : Nat) : Int) := by
  unfold ji_ush
  rw [zI_nI k, z_cu32 k hk]
  apply zI_inj
  show ((zI n).toUInt32 >>> UInt32.ofNat k).toNat = _
  rw [UInt32.toNat_shiftRight, z_tn32 k hk, Nat.mod_eq_of_lt hk, Nat.shiftRight_eq_div_pow]
  show (zI n).toBitVec.toNat / 2 ^ k = _
  rw [zI_tn, show ((n : Int) % 4294967296).toNat = n by omega]
  have : n / 2 ^ k ≤ n := Nat.div_le_self _ _
  generalize n / 2 ^ k = q at this
  omega
theorem nz4 {c : Int} {i : Nat} (h0 : i ≠ 0) (h : i < 4) : jd_inlz4 (zI (31 - c)) (zI i) = zI (32 - c - rn_len i) := by
  unfold jd_inlz4
  have e := zI_ush (n := i) (by omega) (k := 1) (by decide)
  rw [show zI ((1 : Nat) : Int) = 1 from rfl] at e
  rw [e, zI_sub]
  congr 1
  have l : rn_len i = i / 2 + 1 := by
    rcases (show i = 1 ∨ i = 2 ∨ i = 3 by omega) with rfl | rfl | rfl <;> decide
  rw [l]; omega
theorem nz_up {i j : Nat} (h : 2 ^ j ≤ i) : i / 2 ^ j ≠ 0 ∧ rn_len i = rn_len (i / 2 ^ j) + j := by
  have h0 : i / 2 ^ j ≠ 0 := Nat.ne_of_gt (Nat.div_pos h (Nat.two_pow_pos j))
  exact ⟨h0, rn_len_div h0⟩
theorem nz3 {c : Int} {i : Nat} (h0 : i ≠ 0) (h : i < 16) : jd_inlz3 (zI (31 - c)) (zI i) = zI (32 - c - rn_len i) := by
  unfold jd_inlz3
  rw [show (4 : Int32) = zI 4 from rfl, show (-2 : Int32) = zI (-2) from rfl, show (2 : Int32) = zI ((2 : Nat) : Int) from rfl, zI_ush (by omega) (by decide), zI_add]
  by_cases g : 4 ≤ i
  · obtain ⟨a, b⟩ := nz_up (i := i) (j := 2) g
    rw [if_neg (by rw [zI_lt (by omega) (by omega) (by omega) (by omega)]; omega), show 31 - c + -2 = 31 - (c + 2) by omega, nz4 a (by omega), b]
    congr 1; omega
  · rw [if_pos (by rw [zI_lt (by omega) (by omega) (by omega) (by omega)]; omega), nz4 h0 (by omega)]
theorem nz2 {c : Int} {i : Nat} (h0 : i ≠ 0) (h : i < 256) : jd_inlz2 (zI (31 - c)) (zI i) = zI (32 - c - rn_len i) := by
  unfold jd_inlz2
  rw [show (16 : Int32) = zI 16 from rfl, show (-4 : Int32) = zI (-4) from rfl, show (4 : Int32) = zI ((4 : Nat) : Int) from rfl, zI_ush (by omega) (by decide), zI_add]
  by_cases g : 16 ≤ i
  · obtain ⟨a, b⟩ := nz_up (i := i) (j := 4) g
    rw [if_neg (by rw [zI_lt (by omega) (by omega) (by omega) (by omega)]; omega), show 31 - c + -4 = 31 - (c + 4) by omega, nz3 a (by omega), b]
    congr 1; omega
  · rw [if_pos (by rw [zI_lt (by omega) (by omega) (by omega) (by omega)]; omega), nz3 h0 (by omega)]
theorem nz1 {c : Int} {i : Nat} (h0 : i ≠ 0) (h : i < 65536) : jd_inlz1 (zI (31 - c)) (zI i) = zI (32 - c - rn_len i) := by
  unfold jd_inlz1
  rw [show (256 : Int32) = zI 256 from rfl, show (-8 : Int32) = zI (-8) from rfl, show (8 : Int32) = zI ((8 : Nat) : Int) from rfl, zI_ush (by omega) (by decide), zI_add]
  by_cases g : 256 ≤ i
  · obtain ⟨a, b⟩ := nz_up (i := i) (j := 8) g
    rw [if_neg (by rw [zI_lt (by omega) (by omega) (by omega) (by omega)]; omega), show 31 - c + -8 = 31 - (c + 8) by omega, nz2 a (by omega), b]
    congr 1; omega
  · rw [if_pos (by rw [zI_lt (by omega) (by omega) (by omega) (by omega)]; omega), nz2 h0 (by omega)]
theorem nz_i {i : Nat} (h : i < 4294967296) : jd_inlz (zI i) = zI (32 - rn_len i) := by
  unfold jd_inlz
  rcases Nat.lt_or_ge i 2147483648 with g | g
  · by_cases h0 : i = 0
    · subst h0; decide
    · rw [show (0 : Int32) = zI 0 from rfl, if_pos (by rw [zI_lt (by omega) (by omega) (by omega) (by omega)]; omega)]
      rw [show (65536 : Int32) = zI 65536 from rfl, show (-16 : Int32) = zI (-16) from rfl, show (16 : Int32) = zI ((16 : Nat) : Int) from rfl, zI_ush (by omega) (by decide), show (31 : Int32) = zI (31 - 0) from rfl, zI_add]
      by_cases g2 : 65536 ≤ i
      · obtain ⟨a, b⟩ := nz_up (i := i) (j := 16) g2
        rw [if_neg (by rw [zI_lt (by omega) (by omega) (by omega) (by omega)]; omega), show 31 - 0 + -16 = 31 - (16 : Int) by omega, nz1 a (by omega), b]
        congr 1; omega
      · rw [if_pos (by rw [zI_lt (by omega) (by omega) (by omega) (by omega)]; omega), nz1 h0 (by omega)]
        congr 1
  · have e : zI (i : Int) = zI ((i : Int) - 4294967296) := by
      apply zI_inj; rw [zI_tn]; omega
    have l : rn_len i = 32 := rn_len_eq (k := 31) (by omega) (by omega)
    rw [e, show (0 : Int32) = zI 0 from rfl, if_neg (by rw [zI_lt (by omega) (by omega) (by omega) (by omega)]; omega), if_neg (by rw [zI_eq (by omega) (by omega) (by omega) (by omega)]; omega), l]
    rfl
theorem nz_l {m : Nat} (h : m < 9223372036854775808) : jd_nlz (zL m) = zI (64 - rn_len m) := by
  unfold jd_nlz
  have e1 : jl_ush (zL m) 32 = zL ((m / 2 ^ 32 : Nat) : Int) := zL_ush (n := m) (by omega) (k := 32) (by decide)
  rw [e1, zL_i, zL_i, show (0 : Int32) = zI 0 from rfl]
  by_cases g : m / 2 ^ 32 = 0
  · rw [g, if_pos (show zI ((0 : Nat) : Int) = zI 0 from rfl), nz_i (i := m) (by omega), show (32 : Int32) = zI 32 from rfl, zI_add]
    congr 1; omega
  · have b := rn_len_div g
    rw [if_neg (by rw [zI_eq (by omega) (by omega) (by omega) (by omega)]; omega), nz_i (i := m / 2 ^ 32) (by omega), b]
    congr 1; omega
/-- a significand shifted up to 53 bits -/
theorem ca_wid {m : Nat} (h0 : m ≠ 0) (h : m < 2 ^ 53) : ∃ j : Nat, j + rn_len m = 53 ∧ cf_wid (zL m) = zI (j : Int) ∧ jl_shl (zL m) (zI (j : Int)) = zL ((m * 2 ^ j : Nat) : Int) ∧ 2 ^ 52 ≤ m * 2 ^ j ∧ m * 2 ^ j < 2 ^ 53 := by
  have L1 := rn_len_pos h0
  have L2 : rn_len m ≤ 53 := rn_len_up h
  have L3 := rn_len_le h0
  have L4 := rn_len_lt m
  refine ⟨53 - rn_len m, by omega, ?_, ?_, ?_, ?_⟩
  · unfold cf_wid
    rw [nz_l (by omega), show (11 : Int32) = zI 11 from rfl, zI_sub]
    congr 1; omega
  · rw [zL_shl _ (by omega), Int.natCast_mul, Int.natCast_pow]; rfl
  · have := Nat.mul_le_mul_right (2 ^ (53 - rn_len m)) L3
    rw [← Nat.pow_add, show rn_len m - 1 + (53 - rn_len m) = 52 by omega] at this
    exact this
  · have := Nat.mul_lt_mul_of_pos_right L4 (Nat.two_pow_pos (53 - rn_len m))
    rw [← Nat.pow_add, show rn_len m + (53 - rn_len m) = 53 by omega] at this
    exact this
/-! what keeps the class and the reference from dividing by 0, for any longs at all -/
theorem zL_ofN (x : Int64) : ∃ n : Nat, n < 18446744073709551616 ∧ x = zL (n : Int) := by
  have h0 : 0 ≤ x.toInt % 18446744073709551616 := Int.emod_nonneg _ (by decide)
  obtain ⟨n, hn⟩ := Int.eq_ofNat_of_zero_le h0
  refine ⟨n, by omega, ?_⟩
  rw [← hn, zL_mod]
  exact zL_of x
theorem zL_maskN (n : Nat) {k : Nat} (hk : k ≤ 64) : zL (n : Int) &&& zL (2 ^ k - 1) = zL ((n % 2 ^ k : Nat) : Int) := by
  rw [zL_mask _ hk, Int.natCast_emod, Int.natCast_pow]
  rfl
theorem fa_sig {k : Nat} (hk : k < 2) (x : Int64) : ∃ m : Nat, m < 2 ^ 53 ∧ cf_sig k x = zL (m : Int) ∧ (cf_zer k x = false → m ≠ 0) := by
  obtain ⟨n, hn, rfl⟩ := zL_ofN x
  rcases pf_2 hk with rfl | rfl
  · have e1 : cf_mag 0 (zL (n : Int)) = zL ((n % 2 ^ 31 : Nat) : Int) := zL_maskN n (k := 31) (by decide)
    have e2 : cf_fld 0 (zL (n : Int)) = zI ((n / 2 ^ 23 % 2 ^ 8 : Nat) : Int) := by
      unfold cf_fld
      rw [show kf_b 0 = zI ((23 : Nat) : Int) from rfl, zL_ush hn (by decide), zL_i, show kf_s 0 = zI (2 ^ 8 - 1) from by decide, zI_mask _ (by decide), Int.natCast_emod]
      rfl
    have e3 : zL (n : Int) &&& (jl_shl 1 (kf_b 0) - 1) = zL ((n % 2 ^ 23 : Nat) : Int) := by
      rw [show jl_shl 1 (kf_b 0) - 1 = zL (2 ^ 23 - 1) from by decide]; exact zL_maskN n (by decide)
    have e4 : jl_shl 1 (kf_b 0) = zL ((2 ^ 23 * 1 : Nat) : Int) := by decide
    have e5 : cf_zer 0 (zL (n : Int)) = decide (n % 2 ^ 31 = 0) := by
      unfold cf_zer
      rw [e1]
      apply decide_eq_decide.mpr
      rw [show (0 : Int64) = zL 0 from rfl, zL_eq (by omega) (by omega) (by omega) (by omega)]
      omega
    unfold cf_sig
    rw [e2, e3, e5]
    by_cases h : n / 2 ^ 23 % 2 ^ 8 = 0
    · refine ⟨n % 2 ^ 23, by omega, by rw [h]; exact if_pos rfl, fun q => ?_⟩
      have := of_decide_eq_false q
      omega
    · refine ⟨n % 2 ^ 23 + 2 ^ 23 * 1, by omega, ?_, fun _ => by omega⟩
      rw [if_neg (by rw [show (0 : Int32) = zI 0 from rfl, zI_eq (by omega) (by omega) (by omega) (by omega)]; omega), e4]
      exact zL_orp (by omega) (by omega)
  · have e1 : cf_mag 1 (zL (n : Int)) = zL ((n % 2 ^ 63 : Nat) : Int) := zL_maskN n (k := 63) (by decide)
    have e2 : cf_fld 1 (zL (n : Int)) = zI ((n / 2 ^ 52 % 2 ^ 11 : Nat) : Int) := by
      unfold cf_fld
      rw [show kf_b 1 = zI ((52 : Nat) : Int) from rfl, zL_ush hn (by decide), zL_i, show kf_s 1 = zI (2 ^ 11 - 1) from by decide, zI_mask _ (by decide), Int.natCast_emod]
      rfl
    have e3 : zL (n : Int) &&& (jl_shl 1 (kf_b 1) - 1) = zL ((n % 2 ^ 52 : Nat) : Int) := by
      rw [show jl_shl 1 (kf_b 1) - 1 = zL (2 ^ 52 - 1) from by decide]; exact zL_maskN n (by decide)
    have e4 : jl_shl 1 (kf_b 1) = zL ((2 ^ 52 * 1 : Nat) : Int) := by decide
    have e5 : cf_zer 1 (zL (n : Int)) = decide (n % 2 ^ 63 = 0) := by
      unfold cf_zer
      rw [e1]
      apply decide_eq_decide.mpr
      rw [show (0 : Int64) = zL 0 from rfl, zL_eq (by omega) (by omega) (by omega) (by omega)]
      omega
    unfold cf_sig
    rw [e2, e3, e5]
    by_cases h : n / 2 ^ 52 % 2 ^ 11 = 0
    · refine ⟨n % 2 ^ 52, by omega, by rw [h]; exact if_pos rfl, fun q => ?_⟩
      have := of_decide_eq_false q
      omega
    · refine ⟨n % 2 ^ 52 + 2 ^ 52 * 1, by omega, ?_, fun _ => by omega⟩
      rw [if_neg (by rw [show (0 : Int32) = zI 0 from rfl, zI_eq (by omega) (by omega) (by omega) (by omega)]; omega), e4]
      exact zL_orp (by omega) (by omega)
theorem fa_sig0 {k : Nat} (hk : k < 2) {x : Int64} (h : cf_zer k x = false) : ¬ cf_sig k x = 0 := by
  obtain ⟨m, h1, h2, h3⟩ := fa_sig hk x
  have h4 := h3 h
  rw [h2, show (0 : Int64) = zL 0 from rfl, zL_eq (by omega) (by omega) (by omega) (by omega)]
  omega
/-- the divisor of the class's quotient -/
theorem fa_wid0 {k : Nat} (hk : k < 2) {x : Int64} (h : cf_zer k x = false) : ¬ jl_shl (cf_sig k x) (cf_wid (cf_sig k x)) = 0 := by
  obtain ⟨m, h1, h2, h3⟩ := fa_sig hk x
  obtain ⟨j, j1, j2, j3, j4, j5⟩ := ca_wid (h3 h) h1
  rw [h2, j2, j3, show (0 : Int64) = zL 0 from rfl, zL_eq (by omega) (by omega) (by omega) (by omega)]
  omega
/-- the reference's significand -/
theorem fa_man (f : Int32) (b : Int64) : ∃ m : Nat, m < 2 ^ 53 ∧ rf_man f b = zL (m : Int) := by
  obtain ⟨n, hn, rfl⟩ := zL_ofN b
  unfold rf_man rf_siz rf_sb rf_fr
  by_cases h : f = 0
  · simp only [if_pos h]
    have e1 : zL (n : Int) &&& ((0x80000000 : Int64) - 1) = zL ((n % 2 ^ 31 : Nat) : Int) := by
      rw [show (0x80000000 : Int64) - 1 = zL (2 ^ 31 - 1) from by decide]; exact zL_maskN n (by decide)
    have e2 : jl_shl 1 23 = zL ((2 ^ 23 * 1 : Nat) : Int) := by decide
    have e3 : jl_shl 1 23 - 1 = zL (2 ^ 23 - 1) := by decide
    rw [e1, e3, zL_maskN _ (by decide), e2]
    by_cases g : n % 2 ^ 31 < 2 ^ 23 * 1
    · exact ⟨n % 2 ^ 31, by omega, by rw [if_neg (by rw [zL_le (by omega) (by omega) (by omega) (by omega)]; omega)]⟩
    · refine ⟨n % 2 ^ 31 % 2 ^ 23 + 2 ^ 23 * 1, by omega, ?_⟩
      rw [if_pos (by rw [zL_le (by omega) (by omega) (by omega) (by omega)]; omega)]
      exact zL_orp (by omega) (by omega)
  · simp only [if_neg h]
    have e1 : zL (n : Int) &&& ((-0x8000000000000000 : Int64) - 1) = zL ((n % 2 ^ 63 : Nat) : Int) := by
      rw [show (-0x8000000000000000 : Int64) - 1 = zL (2 ^ 63 - 1) from by decide]; exact zL_maskN n (by decide)
    have e2 : jl_shl 1 52 = zL ((2 ^ 52 * 1 : Nat) : Int) := by decide
    have e3 : jl_shl 1 52 - 1 = zL (2 ^ 52 - 1) := by decide
    rw [e1, e3, zL_maskN _ (by decide), e2]
    by_cases g : n % 2 ^ 63 < 2 ^ 52 * 1
    · exact ⟨n % 2 ^ 63, by omega, by rw [if_neg (by rw [zL_le (by omega) (by omega) (by omega) (by omega)]; omega)]⟩
    · refine ⟨n % 2 ^ 63 % 2 ^ 52 + 2 ^ 52 * 1, by omega, ?_⟩
      rw [if_pos (by rw [zL_le (by omega) (by omega) (by omega) (by omega)]; omega)]
      exact zL_orp (by omega) (by omega)
theorem fa_man_shl {f : Int32} {b : Int64} (h : ¬ rf_man f b = 0) {d : Int32} (h1 : 0 ≤ d) (h2 : d ≤ 10) : ¬ jl_shl (rf_man f b) d = 0 := by
  obtain ⟨m, m1, m2⟩ := fa_man f b
  have h1' : (0 : Int) ≤ d.toInt := by have := Int32.le_iff_toInt_le.mp h1; exact this
  have h2' : d.toInt ≤ 10 := by have := Int32.le_iff_toInt_le.mp h2; exact this
  obtain ⟨j, hj⟩ := Int.eq_ofNat_of_zero_le h1'
  have ed : d = zI (j : Int) := by rw [← hj]; exact zI_of d
  have hm : m ≠ 0 := by
    intro q
    apply h
    rw [m2, q]
    rfl
  have p1 : 2 ^ j ≤ 2 ^ 10 := Nat.pow_le_pow_right (by decide) (by omega)
  have p2 : 0 < 2 ^ j := Nat.two_pow_pos j
  have p3 : m * 2 ^ j ≤ m * 2 ^ 10 := Nat.mul_le_mul_left _ p1
  have p4 : 0 < m * 2 ^ j := Nat.mul_pos (by omega) p2
  rw [m2, ed, zL_shl _ (by omega), show (m : Int) * 2 ^ j = ((m * 2 ^ j : Nat) : Int) by rw [Int.natCast_mul, Int.natCast_pow]; rfl, show (0 : Int64) = zL 0 from rfl, zL_eq (by omega) (by omega) (by omega) (by omega)]
  omega
/-- a bit of it that is set -/
theorem fa_bit {m : Nat} (h : m ≠ 0) (h1 : m < 2 ^ 53) : ∃ j : Nat, j < 53 ∧ ¬ (jl_ush (zL (m : Int)) (zI (j : Int)) &&& 1) = 0 := by
  have L1 := rn_len_pos h
  have L2 : rn_len m ≤ 53 := rn_len_up h1
  have L3 := rn_len_le h
  have L4 := rn_len_lt m
  refine ⟨rn_len m - 1, by omega, ?_⟩
  have e : m / 2 ^ (rn_len m - 1) = 1 := by
    apply Nat.div_eq_of_lt_le
    · rw [Nat.one_mul]; exact L3
    · rw [show (1 + 1) * 2 ^ (rn_len m - 1) = 2 ^ (rn_len m - 1 + 1) by rw [Nat.pow_succ]; omega, Nat.sub_add_cancel L1]; exact L4
  rw [zL_ush (by omega) (by omega), e]
  decide
