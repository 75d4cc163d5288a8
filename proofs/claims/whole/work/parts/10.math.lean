/-! Digits of a whole number in a base, by floor division; rows of digits that keep a number. -/
/-- digit k of x in base B -/
def lm_lb (B x : Int) (k : Nat) : Int := x / B ^ k % B
theorem lm_pw {B : Int} (hB : 0 < B) (k : Nat) : 0 < B ^ k := Int.pow_pos hB
theorem lm_uq {x m q r : Int} (hm : 0 < m) (h : r + m * q = x) (h0 : 0 ≤ r) (h1 : r < m) : x / m = q ∧ x % m = r := (Int.ediv_emod_unique hm).mpr ⟨h, h0, h1⟩
theorem lm_dm (x m : Int) : m * (x / m) + x % m = x := Int.mul_ediv_add_emod x m
theorem lm_lb0 {B : Int} (hB : 0 < B) (x : Int) (k : Nat) : 0 ≤ lm_lb B x k := Int.emod_nonneg _ (by omega)
theorem lm_lb1 {B : Int} (hB : 0 < B) (x : Int) (k : Nat) : lm_lb B x k < B := Int.emod_lt_of_pos _ hB
theorem lm_dd {B : Int} (hB : 0 < B) (x : Int) (k : Nat) : x / B ^ (k + 1) = x / B ^ k / B := by
  rw [Int.pow_succ, Int.ediv_ediv_of_nonneg (Int.le_of_lt (lm_pw hB k))]
theorem lm_dj {B : Int} (hB : 0 < B) (x : Int) (j k : Nat) : x / B ^ (j + k) = x / B ^ j / B ^ k := by
  rw [Int.pow_add, Int.ediv_ediv_of_nonneg (Int.le_of_lt (lm_pw hB j))]
/-- one digit more -/
theorem lm_md {B : Int} (hB : 0 < B) (x : Int) (k : Nat) : x % B ^ (k + 1) = x % B ^ k + B ^ k * lm_lb B x k := by
  have hp := lm_pw hB k
  have e1 := lm_dm x (B ^ k)
  have e2 := lm_dm (x / B ^ k) B
  have b0 := Int.emod_nonneg x (show B ^ k ≠ 0 by omega)
  have b1 := Int.emod_lt_of_pos x hp
  have d0 := lm_lb0 hB x k
  have d1 := lm_lb1 hB x k
  have hm : B ^ k * lm_lb B x k ≤ B ^ k * (B - 1) := Int.mul_le_mul_of_nonneg_left (by omega) (by omega)
  have hn : 0 ≤ B ^ k * lm_lb B x k := Int.mul_nonneg (by omega) d0
  refine (lm_uq (q := x / B ^ k / B) (lm_pw hB (k + 1)) ?_ (by omega) ?_).2
  · rw [Int.pow_succ]; unfold lm_lb; grind
  · rw [Int.pow_succ]; rw [Int.mul_sub, Int.mul_one] at hm; omega
/-- a digit depends on the number below the next power alone -/
theorem lm_lbm {B : Int} (hB : 0 < B) (x : Int) {k n : Nat} (h : k < n) : lm_lb B (x % B ^ n) k = lm_lb B x k := by
  obtain ⟨j, rfl⟩ : ∃ j, n = k + (1 + j) := ⟨n - k - 1, by omega⟩
  have e := lm_dm x (B ^ (k + (1 + j)))
  unfold lm_lb
  have h1 : x = x % B ^ (k + (1 + j)) + B ^ k * (B * (B ^ j * (x / B ^ (k + (1 + j))))) := by
    have : B ^ (k + (1 + j)) = B ^ k * (B * B ^ j) := by rw [Int.pow_add, Int.pow_add, Int.pow_one]
    grind
  conv => rhs; rw [h1]
  rw [Int.add_mul_ediv_left _ _ (by have := lm_pw hB k; omega), Int.add_mul_emod_self_left]
/-- all digits alike: alike below the power -/
theorem lm_ext {B : Int} (hB : 0 < B) {x y : Int} {n : Nat} (h : ∀ k, k < n → lm_lb B x k = lm_lb B y k) : x % B ^ n = y % B ^ n := by
  induction n with
  | zero => simp [Int.emod_one]
  | succ n ih => rw [lm_md hB, lm_md hB, ih (fun k hk => h k (by omega)), h n (by omega)]
theorem lm_ext' {B : Int} (hB : 0 < B) {x y : Int} {n : Nat} (h : x % B ^ n = y % B ^ n) : ∀ k, k < n → lm_lb B x k = lm_lb B y k := fun k hk => by
  rw [← lm_lbm hB x hk, ← lm_lbm hB y hk, h]
theorem lm_m3 (a b c n : Int) : (a % n + b % n + c) % n = (c + (a + b)) % n := by
  rw [show a % n + b % n + c = a % n + (b % n + c) by omega, Int.emod_add_emod, show a + (b % n + c) = b % n + (a + c) by omega, Int.emod_add_emod]
  congr 1
  omega
/-- the carry of a sum at digit k -/
theorem lm_add {B : Int} (hB : 0 < B) (x y c : Int) (k : Nat) :
    lm_lb B (x + y + c) k = (lm_lb B x k + lm_lb B y k + (x % B ^ k + y % B ^ k + c) / B ^ k) % B ∧
    (x % B ^ (k + 1) + y % B ^ (k + 1) + c) / B ^ (k + 1) = (lm_lb B x k + lm_lb B y k + (x % B ^ k + y % B ^ k + c) / B ^ k) / B := by
  have hp := lm_pw hB k
  constructor
  · unfold lm_lb
    have e1 := lm_dm x (B ^ k)
    have e2 := lm_dm y (B ^ k)
    have h1 : x + y + c = (x % B ^ k + y % B ^ k + c) + B ^ k * (x / B ^ k + y / B ^ k) := by grind
    rw [h1, Int.add_mul_ediv_left _ _ (by omega)]
    exact (lm_m3 _ _ _ B).symm
  · rw [lm_md hB, lm_md hB, Int.pow_succ, ← Int.ediv_ediv_of_nonneg (Int.le_of_lt hp)]
    congr 1
    have h1 : x % B ^ k + B ^ k * lm_lb B x k + (y % B ^ k + B ^ k * lm_lb B y k) + c = (x % B ^ k + y % B ^ k + c) + B ^ k * (lm_lb B x k + lm_lb B y k) := by grind
    rw [h1, Int.add_mul_ediv_left _ _ (by omega)]
    omega
/-- the number that a row of digits is -/
def lm_val (B : Int) (d : Nat → Int) : Nat → Int
  | 0 => 0
  | n + 1 => lm_val B d n + B ^ n * d n
theorem lm_val_congr {B : Int} {d e : Nat → Int} {n : Nat} (h : ∀ k, k < n → d k = e k) : lm_val B d n = lm_val B e n := by
  induction n with
  | zero => rfl
  | succ n ih =>
    show lm_val B d n + B ^ n * d n = lm_val B e n + B ^ n * e n
    rw [ih (fun k hk => h k (by omega)), h n (by omega)]
/-- digits of x make x, below the power -/
theorem lm_val_lb {B : Int} (hB : 0 < B) {d : Nat → Int} {x : Int} {n : Nat} (h : ∀ k, k < n → d k = lm_lb B x k) : lm_val B d n = x % B ^ n := by
  induction n with
  | zero => simp [lm_val, Int.emod_one]
  | succ n ih =>
    show lm_val B d n + B ^ n * d n = x % B ^ (n + 1)
    rw [lm_md hB, ih (fun k hk => h k (by omega)), h n (by omega)]
theorem lm_val_in {B : Int} (hB : 0 < B) {d : Nat → Int} {n : Nat} (h : ∀ k, k < n → 0 ≤ d k ∧ d k < B) : 0 ≤ lm_val B d n ∧ lm_val B d n < B ^ n := by
  induction n with
  | zero => simp [lm_val]
  | succ n ih =>
    obtain ⟨h1, h2⟩ := ih (fun k hk => h k (by omega))
    obtain ⟨h3, h4⟩ := h n (by omega)
    have hp := lm_pw hB n
    have h5 : B ^ n * d n ≤ B ^ n * (B - 1) := Int.mul_le_mul_of_nonneg_left (by omega) (by omega)
    have h6 : 0 ≤ B ^ n * d n := Int.mul_nonneg (by omega) h3
    rw [Int.mul_sub, Int.mul_one] at h5
    show 0 ≤ lm_val B d n + B ^ n * d n ∧ lm_val B d n + B ^ n * d n < B ^ (n + 1)
    rw [Int.pow_succ]
    omega
/-- ... and the number has these digits -/
theorem lm_lb_val {B : Int} (hB : 0 < B) {d : Nat → Int} {n : Nat} (h : ∀ k, k < n → 0 ≤ d k ∧ d k < B) : ∀ k, k < n → lm_lb B (lm_val B d n) k = d k := by
  induction n with
  | zero => intro k hk; omega
  | succ n ih =>
    intro k hk
    obtain ⟨h1, h2⟩ := lm_val_in hB (fun k hk => h k (by omega : k < n + 1)) (n := n)
    obtain ⟨h3, h4⟩ := h n (by omega)
    have hp := lm_pw hB n
    show lm_lb B (lm_val B d n + B ^ n * d n) k = d k
    by_cases hkn : k = n
    · subst hkn
      unfold lm_lb
      rw [Int.add_mul_ediv_left _ _ (by omega), Int.ediv_eq_zero_of_lt h1 h2, Int.zero_add, Int.emod_eq_of_lt h3 h4]
    · rw [← lm_lbm hB _ (show k < n by omega), Int.add_mul_emod_self_left, lm_lbm hB _ (show k < n by omega)]
      exact ih (fun k hk => h k (by omega)) k (by omega)
