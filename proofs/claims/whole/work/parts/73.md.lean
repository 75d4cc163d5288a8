/-! left, halve, divide -/
theorem mOr_eq (z : Nat → Nat) (j i : Nat) : mOr z j i = z (1100 + j / 16) ||| mBit z 0 i * 2 ^ (j % 16) := rfl
theorem bit_le (z : Nat → Nat) (b i : Nat) : mBit z b i ≤ 1 := by
  unfold mBit
  have := Nat.mod_lt (z (1100 * b + i / 16) / 2 ^ (i % 16)) (show 0 < 2 by decide)
  omega
theorem p2_bit (M : Int) (i : Nat) : M % 2 ^ (i + 1) = M % 2 ^ i + 2 ^ i * (M / 2 ^ i % 2) := lm_md (B := 2) (by decide) M i
theorem top_bit {x : Int} {j : Nat} (h0 : 0 ≤ x) (h1 : x < 2 ^ j) : x / 2 ^ j % 2 = 0 := by
  rw [Int.ediv_eq_zero_of_lt h0 h1]
  rfl
theorem mLfZ_is {k : Nat} {M : Int} : ∀ n i z, i + n + k ≤ 17600 → zIs z 0 M → zIs z 1 (M % 2 ^ i * 2 ^ k) → zIs (mLfZ k n i z) 1 (M % 2 ^ (i + n) * 2 ^ k) ∧ zO z (mLfZ k n i z) 1 := by
  intro n
  induction n with
  | zero => exact fun i z _ _ h1 => ⟨h1, zO.rfl⟩
  | succ n ih =>
    intro i z hk h0 h1
    unfold mLfZ
    rw [mOr_eq]
    have hp := p2_0 i
    have hpk := p2_0 k
    have b0 := Int.emod_nonneg M (show (2 : Int) ^ i ≠ 0 by omega)
    have b1 := Int.emod_lt_of_pos M hp
    have hlt : M % 2 ^ i * 2 ^ k < 2 ^ (i + k) := by
      rw [Int.pow_add]
      exact Int.mul_lt_mul_of_pos_right b1 hpk
    obtain ⟨s1, s2⟩ := zSet (j := i + k) (bt := mBit z 0 i) h1 (by omega) (bit_le z 0 i) (top_bit h1.1 hlt)
    have e : M % 2 ^ i * 2 ^ k + (mBit z 0 i : Int) * 2 ^ (i + k) = M % 2 ^ (i + 1) * 2 ^ k := by
      rw [p2_bit, mBit_is h0 (by omega), Int.pow_add]
      grind
    rw [e] at s1
    obtain ⟨t1, t2⟩ := ih (i + 1) _ (by omega) (s2.zIs (by decide) h0) s1
    rw [show i + 1 + n = i + (n + 1) by omega] at t1
    exact ⟨t1, s2.trans t2⟩
theorem mHvZ_is {k : Nat} {M : Int} : ∀ n i z, k ≤ i → i + n ≤ 17600 → zIs z 0 M → zIs z 1 (M % 2 ^ i / 2 ^ k) → zIs (mHvZ k n i z) 1 (M % 2 ^ (i + n) / 2 ^ k) ∧ zO z (mHvZ k n i z) 1 := by
  intro n
  induction n with
  | zero => exact fun i z _ _ _ h1 => ⟨h1, zO.rfl⟩
  | succ n ih =>
    intro i z hki hk h0 h1
    unfold mHvZ
    rw [mOr_eq]
    have hp := p2_0 i
    have hpk := p2_0 k
    have b0 := Int.emod_nonneg M (show (2 : Int) ^ i ≠ 0 by omega)
    have b1 := Int.emod_lt_of_pos M hp
    have ei : (2 : Int) ^ i = 2 ^ (i - k) * 2 ^ k := by
      rw [← Int.pow_add]
      congr 1
      omega
    have hlt : M % 2 ^ i / 2 ^ k < 2 ^ (i - k) := by
      rw [Int.ediv_lt_iff_lt_mul hpk, ← ei]
      exact b1
    obtain ⟨s1, s2⟩ := zSet (j := i - k) (bt := mBit z 0 i) h1 (by omega) (bit_le z 0 i) (top_bit h1.1 hlt)
    have e : M % 2 ^ i / 2 ^ k + (mBit z 0 i : Int) * 2 ^ (i - k) = M % 2 ^ (i + 1) / 2 ^ k := by
      rw [p2_bit, mBit_is h0 (by omega)]
      have : M % 2 ^ i + 2 ^ i * (M / 2 ^ i % 2) = M % 2 ^ i + 2 ^ k * (M / 2 ^ i % 2 * 2 ^ (i - k)) := by
        generalize M / 2 ^ i % 2 = a
        generalize M % 2 ^ i = c
        rw [ei]
        grind
      rw [this, Int.add_mul_ediv_left _ _ (by omega)]
    rw [e] at s1
    obtain ⟨t1, t2⟩ := ih (i + 1) _ (by omega) (by omega) (s2.zIs (by decide) h0) s1
    rw [show i + 1 + n = i + (n + 1) by omega] at t1
    exact ⟨t1, s2.trans t2⟩
theorem mDv_is {d : Int64} (hd : 1 ≤ d.toInt) (hd2 : d.toInt < 4611686018427387904) {M : Int} : ∀ n r z, n ≤ 17600 → zIs z 0 M → Int64.toInt r = M / 2 ^ n % d.toInt → zIs z 1 (M / 2 ^ n / d.toInt * 2 ^ n) →
    zIs (mDvZ d n r z) 1 (M / d.toInt) ∧ (mDvR d n r z).toInt = M % d.toInt ∧ zO z (mDvZ d n r z) 1 := by
  intro n
  induction n with
  | zero =>
    intro r z _ _ hr h1
    unfold mDvZ mDvR
    rw [Int.pow_zero, Int.ediv_one] at hr h1
    rw [Int.mul_one] at h1
    exact ⟨h1, hr, zO.rfl⟩
  | succ n ih =>
    intro r z hn h0 hr h1
    have hbit := mBit_is h0 (k := n) (by omega)
    have hble := bit_le z 0 n
    have r0 := Int.emod_nonneg (M / 2 ^ (n + 1)) (show d.toInt ≠ 0 by omega)
    have r1 := Int.emod_lt_of_pos (M / 2 ^ (n + 1)) (show 0 < d.toInt by omega)
    have hs : (mDvS z n r).toInt = 2 * r.toInt + mBit z 0 n := by
      unfold mDvS
      have e2 : (2 : Int64).toInt = 2 := rfl
      rw [Int64.toInt_add, Int64.toInt_mul, Int32.toInt_toInt64, nI_toInt (by omega), e2]
      rw [Int.bmod_eq_of_le (n := 2 * r.toInt) (by omega) (by omega), Int.bmod_eq_of_le (by omega) (by omega)]
    have hq : M / 2 ^ n = 2 * (M / 2 ^ (n + 1)) + mBit z 0 n := by
      rw [hbit]
      have e1 := lm_dd (B := 2) (by decide) M n
      have e2 := lm_dm (M / 2 ^ n) 2
      rw [e1]
      exact e2.symm
    have hdm := lm_dm (M / 2 ^ (n + 1)) d.toInt
    generalize hbt : (mBit z 0 n : Int) = bt at *
    generalize M / 2 ^ (n + 1) = a at *
    generalize hA : a / d.toInt = A at *
    have hd0 : (0 : Int) < d.toInt := by omega
    unfold mDvZ mDvR
    by_cases hlt : lg_cmp (mDvS z n r) d < 0
    · rw [if_pos hlt, if_pos hlt]
      rw [lg_cmp_lt, Int64.lt_iff_toInt_lt, hs] at hlt
      obtain ⟨u1, u2⟩ := lm_uq (x := M / 2 ^ n) (m := d.toInt) (q := 2 * A) (r := 2 * r.toInt + bt) hd0 (by rw [hq, ← hdm, hr]; grind) (by omega) hlt
      refine ih _ z (by omega) h0 (by rw [hs, u2]) ?_
      rw [u1, show 2 * A * 2 ^ n = A * 2 ^ (n + 1) by rw [Int.pow_succ]; grind]
      exact h1
    · rw [if_neg hlt, if_neg hlt]
      rw [lg_cmp_lt, Int64.lt_iff_toInt_lt, hs] at hlt
      have hs2 : (mDvS z n r - d).toInt = 2 * r.toInt + bt - d.toInt := by
        rw [Int64.toInt_sub, hs, Int.bmod_eq_of_le (by omega) (by omega)]
      obtain ⟨u1, u2⟩ := lm_uq (x := M / 2 ^ n) (m := d.toInt) (q := 2 * A + 1) (r := 2 * r.toInt + bt - d.toInt) hd0 (by rw [hq, ← hdm, hr]; grind) (by omega) (by omega)
      have hz : A * 2 ^ (n + 1) / 2 ^ n % 2 = 0 := by
        rw [Int.pow_succ, show A * (2 ^ n * 2) = 2 ^ n * (2 * A) by grind, Int.mul_ediv_cancel_left _ (by have := p2_0 n; omega), Int.mul_emod_right]
      obtain ⟨s1, s2⟩ := zSet (j := n) (bt := 1) h1 (by omega) (Nat.le_refl _) hz
      have e : A * 2 ^ (n + 1) + ((1 : Nat) : Int) * 2 ^ n = M / 2 ^ n / d.toInt * 2 ^ n := by
        rw [u1, Int.pow_succ, Int.natCast_one]; grind
      rw [e] at s1
      obtain ⟨t1, t2, t3⟩ := ih _ _ (by omega) (s2.zIs (by decide) h0) (by rw [hs2, u2]) s1
      exact ⟨t1, t2, s2.trans t3⟩
/-! the product: columns of digits -/
/-- the sum of f over n numbers from i on -/
def sS (f : Nat → Int) : Nat → Nat → Int
  | 0, _ => 0
  | n + 1, i => f i + sS f n (i + 1)
theorem sS_end (f : Nat → Int) : ∀ n i, sS f (n + 1) i = sS f n i + f (i + n) := by
  intro n
  induction n with
  | zero => intro i; simp [sS]
  | succ n ih =>
    intro i
    show f i + sS f (n + 1) (i + 1) = f i + sS f n (i + 1) + f (i + (n + 1))
    rw [ih (i + 1), show i + 1 + n = i + (n + 1) by omega]
    omega
theorem sS_app (f : Nat → Int) : ∀ n m i, sS f (n + m) i = sS f n i + sS f m (i + n) := by
  intro n
  induction n with
  | zero => intro m i; simp [sS]
  | succ n ih =>
    intro m i
    rw [show n + 1 + m = n + m + 1 by omega]
    show f i + sS f (n + m) (i + 1) = f i + sS f n (i + 1) + sS f m (i + (n + 1))
    rw [ih m (i + 1), show i + 1 + n = i + (n + 1) by omega]
    omega
theorem sS_congr {f g : Nat → Int} : ∀ n i, (∀ k, i ≤ k → k < i + n → f k = g k) → sS f n i = sS g n i := by
  intro n
  induction n with
  | zero => intros; rfl
  | succ n ih =>
    intro i h
    show f i + sS f n (i + 1) = g i + sS g n (i + 1)
    rw [h i (by omega) (by omega), ih (i + 1) (fun k a b => h k (by omega) (by omega))]
theorem sS_zero : ∀ n i, sS (fun _ => 0) n i = 0 := by
  intro n
  induction n with
  | zero => intros; rfl
  | succ n ih =>
    intro i
    show (0 : Int) + sS (fun _ => 0) n (i + 1) = 0
    rw [ih]; rfl
theorem sS_add (f g : Nat → Int) : ∀ n i, sS (fun k => f k + g k) n i = sS f n i + sS g n i := by
  intro n
  induction n with
  | zero => intros; rfl
  | succ n ih =>
    intro i
    show f i + g i + sS _ n (i + 1) = f i + sS f n (i + 1) + (g i + sS g n (i + 1))
    rw [ih]; omega
theorem sS_mul (c : Int) (f : Nat → Int) : ∀ n i, sS (fun k => c * f k) n i = c * sS f n i := by
  intro n
  induction n with
  | zero => intro i; simp [sS]
  | succ n ih =>
    intro i
    show c * f i + sS _ n (i + 1) = c * (f i + sS f n (i + 1))
    rw [ih, Int.mul_add]
theorem sS_sh (f : Nat → Int) (s : Nat) : ∀ n i, sS (fun k => f (k + s)) n i = sS f n (i + s) := by
  intro n
  induction n with
  | zero => intros; rfl
  | succ n ih =>
    intro i
    show f (i + s) + sS (fun k => f (k + s)) n (i + 1) = f (i + s) + sS f n (i + s + 1)
    rw [ih, show i + 1 + s = i + s + 1 by omega]
theorem sS_val (H : Int) (d : Nat → Int) : ∀ n, sS (fun k => H ^ k * d k) n 0 = lm_val H d n := by
  intro n
  induction n with
  | zero => rfl
  | succ n ih =>
    rw [sS_end, ih, Nat.zero_add]
    rfl
/-- the column k of the product of a digits of X and m digits of Y -/
def cC (X Y : Nat → Int) (m k : Nat) (i : Nat) : Int := if i ≤ k ∧ k < i + m then X i * Y (k - i) else 0
theorem cC_sum {H : Int} (X Y : Nat → Int) (m N : Nat) : ∀ a, a + m ≤ N + 1 → sS (fun k => H ^ k * sS (cC X Y m k) a 0) N 0 = lm_val H X a * lm_val H Y m ∨ (N + 1 = a + m ∧ m = 0) ∨ N < a + m := by
  intro a
  induction a with
  | zero =>
    intro _
    left
    rw [sS_congr (g := fun _ => 0) N 0 (fun k _ _ => by simp [sS]), sS_zero]
    simp [lm_val]
  | succ a ih =>
    intro hN
    by_cases hN2 : N < a + 1 + m
    · exact Or.inr (Or.inr hN2)
    · left
      have ih := ih (by omega)
      have ih : sS (fun k => H ^ k * sS (cC X Y m k) a 0) N 0 = lm_val H X a * lm_val H Y m := by
        rcases ih with h | h | h
        · exact h
        · omega
        · omega
      rw [sS_congr (g := fun k => H ^ k * sS (cC X Y m k) a 0 + H ^ k * cC X Y m k a) N 0 (fun k _ _ => by rw [sS_end, Nat.zero_add, Int.mul_add]), sS_add, ih]
      have e1 : sS (fun k => H ^ k * cC X Y m k a) N 0 = H ^ a * X a * lm_val H Y m := by
        obtain ⟨q, rfl⟩ : ∃ q, N = a + (m + q) := ⟨N - a - m, by omega⟩
        rw [sS_app, sS_app]
        rw [sS_congr (g := fun _ => 0) a 0 (fun k h1 h2 => by unfold cC; rw [if_neg (by omega)]; omega), sS_zero]
        rw [sS_congr (g := fun _ => 0) q (0 + a + m) (fun k h1 h2 => by unfold cC; rw [if_neg (by omega)]; omega), sS_zero]
        have e2 : sS (fun k => H ^ k * cC X Y m k a) m (0 + a) = sS (fun k => H ^ (k + a) * cC X Y m (k + a) a) m 0 := (sS_sh (fun k => H ^ k * cC X Y m k a) a m 0).symm
        rw [e2, sS_congr (g := fun k => H ^ a * X a * (H ^ k * Y k)) m 0 (fun k h1 h2 => by
          unfold cC
          rw [if_pos (by omega), Nat.add_sub_cancel, Int.pow_add]
          grind), sS_mul, sS_val]
        omega
      rw [e1]
      show _ = (lm_val H X a + H ^ a * X a) * lm_val H Y m
      grind
theorem mMuRH {z : Nat → Nat} {k : Nat} : ∀ c i r u, ((mMuR z k c i r : Nat) : Int) + 281474976710656 * (mMuH z k c i r u : Nat) = r + 281474976710656 * u + sS (fun i => (z i : Int) * z (1100 + k - i)) c i := by
  intro c
  induction c with
  | zero => intro i r u; simp [mMuR, mMuH, sS]
  | succ c ih =>
    intro i r u
    unfold mMuR mMuH
    rw [ih]
    show _ = (r : Int) + 281474976710656 * u + ((z i : Int) * z (1100 + k - i) + sS _ c (i + 1))
    have e1 : ((z i * z (1100 + k - i) : Nat) : Int) = (z i : Int) * z (1100 + k - i) := Int.natCast_mul _ _
    rw [← e1]
    generalize z i * z (1100 + k - i) = p
    have e2 : 2 ^ 48 = 281474976710656 := by decide
    rw [e2]
    omega
theorem cC_col {X Y : Nat → Int} {n2 m2 k : Nat} (hm : k + 1 - m2 ≤ min n2 (k + 1)) : sS (fun i => X i * Y (k - i)) (mMuC n2 k m2) (k + 1 - m2) = sS (cC X Y m2 k) n2 0 := by
  unfold mMuC
  generalize ha : k + 1 - m2 = a at *
  generalize hb : min n2 (k + 1) = b at *
  have e : n2 = a + ((b - a) + (n2 - b)) := by omega
  conv => rhs; rw [e]
  rw [sS_app, sS_app]
  rw [sS_congr (f := cC X Y m2 k) (g := fun _ => 0) a 0 (fun i h1 h2 => by unfold cC; rw [if_neg (by omega)]), sS_zero]
  rw [sS_congr (f := cC X Y m2 k) (g := fun _ => 0) (n2 - b) (0 + a + (b - a)) (fun i h1 h2 => by unfold cC; rw [if_neg (by omega)]), sS_zero]
  rw [sS_congr (f := cC X Y m2 k) (g := fun i => X i * Y (k - i)) (b - a) (0 + a) (fun i h1 h2 => by unfold cC; rw [if_pos (by omega)])]
  rw [Nat.zero_add]
  omega
