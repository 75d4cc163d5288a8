/-! carries -/
/-- the carry at digit k of x + m y + c -/
def cY (B x m y c : Int) (k : Nat) : Int := (x % B ^ k + m * (y % B ^ k) + c) / B ^ k
theorem cY_0 {B x m y c : Int} : cY B x m y c 0 = c := by unfold cY; simp [Int.emod_one]
theorem lm_lin {B : Int} (hB : 0 < B) (x m y c : Int) (k : Nat) :
    lm_lb B (x + m * y + c) k = (lm_lb B x k + m * lm_lb B y k + cY B x m y c k) % B ∧ cY B x m y c (k + 1) = (lm_lb B x k + m * lm_lb B y k + cY B x m y c k) / B := by
  have hp := lm_pw hB k
  unfold cY
  constructor
  · unfold lm_lb
    have e1 := lm_dm x (B ^ k)
    have e2 := lm_dm y (B ^ k)
    have h1 : x + m * y + c = (x % B ^ k + m * (y % B ^ k) + c) + B ^ k * (x / B ^ k + m * (y / B ^ k)) := by grind
    rw [h1, Int.add_mul_ediv_left _ _ (by omega)]
    generalize (x % B ^ k + m * (y % B ^ k) + c) / B ^ k = q
    generalize x / B ^ k = a
    generalize y / B ^ k = b
    have hab : (a + m * b) % B = (a % B + m * (b % B)) % B := by
      have e3 := lm_dm a B
      have e4 := lm_dm b B
      have : a + m * b = (a % B + m * (b % B)) + B * (a / B + m * (b / B)) := by grind
      rw [this, Int.add_mul_emod_self_left]
    rw [Int.add_comm q, Int.add_emod (a % B + m * (b % B)) q B, Int.add_emod (a + m * b) q B, hab]
  · rw [lm_md hB, lm_md hB, Int.pow_succ, ← Int.ediv_ediv_of_nonneg (Int.le_of_lt hp)]
    congr 1
    have h1 : x % B ^ k + B ^ k * lm_lb B x k + m * (y % B ^ k + B ^ k * lm_lb B y k) + c = (x % B ^ k + m * (y % B ^ k) + c) + B ^ k * (lm_lb B x k + m * lm_lb B y k) := by grind
    rw [h1, Int.add_mul_ediv_left _ _ (by omega)]
    omega
theorem cY_in {B x m y c : Int} (hB : 0 < B) (hm : 0 ≤ m) (hc : 0 ≤ c) (hc1 : c ≤ m) (k : Nat) : 0 ≤ cY B x m y c k ∧ cY B x m y c k ≤ m := by
  have hp := lm_pw hB k
  have b0 := Int.emod_nonneg x (show B ^ k ≠ 0 by omega)
  have b1 := Int.emod_lt_of_pos x hp
  have d0 := Int.emod_nonneg y (show B ^ k ≠ 0 by omega)
  have d1 := Int.emod_lt_of_pos y hp
  have h1 : m * (y % B ^ k) ≤ m * (B ^ k - 1) := Int.mul_le_mul_of_nonneg_left (by omega) hm
  have h2 : 0 ≤ m * (y % B ^ k) := Int.mul_nonneg hm d0
  rw [Int.mul_sub, Int.mul_one] at h1
  unfold cY
  constructor
  · exact Int.ediv_nonneg (by omega) (by omega)
  · have : (x % B ^ k + m * (y % B ^ k) + c) / B ^ k < m + 1 := by
      rw [Int.ediv_lt_iff_lt_mul hp, Int.add_mul, Int.one_mul]
      omega
    omega
/-- digits above s are those of the number divided -/
theorem lm_sh {B : Int} (hB : 0 < B) (x : Int) (s k : Nat) : lm_lb B x (s + k) = lm_lb B (x / B ^ s) k := by
  unfold lm_lb
  rw [lm_dj hB]
theorem uNI (x y : Int64) (h : (uN x : Int) + uN y < 18446744073709551616) : (uN (x + y) : Int) = uN x + uN y := by
  rw [uN_add]; omega
theorem uNM (x y : Int64) (h : (uN x : Int) * uN y < 18446744073709551616) : (uN (x * y) : Int) = uN x * uN y := by
  rw [uN_mul]
  have : uN x * uN y < 18446744073709551616 := by
    rw [← Int.natCast_mul] at h
    omega
  rw [Nat.mod_eq_of_lt this]
  exact Int.natCast_mul _ _
theorem uN_h (x : Int64) : (uN (j_lu x (nI 32)) : Int) = (uN x : Int) / 4294967296 := by
  rw [show uN (j_lu x (nI 32)) = uN x / 2 ^ 32 from uN_sk x (by decide)]
  omega
theorem lm_sum {a b c : Int} (h : a < 4294967296 ∧ b < 4294967296 ∧ c ≤ 1) : a + b + c < 18446744073709551616 := by omega
/-- the row that is added, as the loop reads it: digits of y from st on -/
def rdY (i j wj st n : Nat) (F : FF) (y : Int) : Prop := ∀ (k : Nat) (G : FF), st ≤ k → k < st + n → (∀ t, t ≠ i → G t = F t) → (∀ t, k ≤ t → G i t = F i t) → dI (rAt wj (G j) (nI (k - st))) = lm_lb bB y (k - st)
theorem rdY.of {i j wj st n : Nat} {F : FF} {y : Int} (hw : 1 ≤ wj ∧ wj ≤ 256) (h : rIs wj (F j) y) (hc : cN bB wj y) (hn : n ≤ 1000) (hij : j ≠ i ∨ (j = i ∧ st = 0 ∧ n ≤ wj)) : rdY i j wj st n F y := by
  intro k G h1 h2 h3 h4
  rcases hij with hij | ⟨hij, hst, hnw⟩
  · rw [h3 j hij]
    exact rAt_is hw h hc (by omega)
  · subst hij hst
    rw [Nat.sub_zero, rAt_lo hw.2 (by omega), h4 k (by omega)]
    exact h k (by omega)
theorem gAdd_is {i j wj st n : Nat} {F : FF} {x y : Int} {fl : Int32} {c : Int64} {c0 : Int} (hfl : (fl = nI 0) ∨ fl = -1) (hc : (uN c : Int) = c0) (hc1 : c0 ≤ 1) (hx : ∀ k, st ≤ k → k < st + n → dI (F i k) = lm_lb bB x k) (hy : rdY i j wj st n F y) :
    (∀ t, t ≠ i → gAdd i j wj st fl n st c F t = F t) ∧ (∀ t, t < st → gAdd i j wj st fl n st c F i t = F i t) ∧ (∀ t, st ≤ t → t < st + n → dI (gAdd i j wj st fl n st c F i t) = lm_lb bB (x / bB ^ st + 1 * (if fl = nI 0 then y else -y - 1) + c0) (t - st)) := by
  have hfd : ∀ a : Int32, ∀ k, dI a = lm_lb bB y k → dI (a ^^^ fl) = lm_lb bB (if fl = nI 0 then y else -y - 1) k := by
    intro a k ha
    rcases hfl with h | h
    · subst h
      rw [if_pos rfl, ← ha, nI_0]
      congr 1
      exact Int32.xor_zero
    · subst h
      rw [if_neg (by decide), dI_cpl, lm_cpl bB0, ha]
      rfl
  generalize (if fl = nI 0 then y else -y - 1) = y' at *
  obtain ⟨h1, h2, -, h4⟩ := gl_up (G := fun n k c F => gAdd i j wj st fl n k c F) (i := i) (dg := fun k c F => (sAdd i j wj st fl k c F).toInt32) (cy := fun k c F => j_lu (sAdd i j wj st fl k c F) (nI 32)) (fun _ _ _ => rfl) (fun _ _ _ _ => rfl)
    (fun k c => (uN c : Int) = cY bB (x / bB ^ st) 1 y' c0 (k - st)) (fun k => lm_lb bB (x / bB ^ st + 1 * y' + c0) (k - st)) F st n c (by rw [Nat.sub_self, cY_0]; exact hc)
    (fun k c G hk hkn hi hj hu => by
      obtain ⟨t, rfl⟩ : ∃ t, k = st + t := ⟨k - st, by omega⟩
      have hr := hfd _ _ (hy (st + t) G hk hkn hj hu)
      have hxk := hx (st + t) hk hkn
      rw [lm_sh bB0] at hxk
      rw [← hu (st + t) (Nat.le_refl _)] at hxk
      simp only [Nat.add_sub_cancel_left, show st + t + 1 - st = t + 1 from by omega] at *
      obtain ⟨l1, l2⟩ := lm_lin bB0 (x / bB ^ st) 1 y' c0 t
      have hcy := cY_in (x := x / bB ^ st) (y := y') bB0 (m := 1) (c := c0) (by decide) (by have := hc; omega) hc1 t
      have u1 := uN_un (G i (st + t))
      have u2 := uN_un (rAt wj (G j) (nI t) ^^^ fl)
      have b1 := dI_1 (G i (st + t))
      have b2 := dI_1 (rAt wj (G j) (nI t) ^^^ fl)
      have us : (uN (sAdd i j wj st fl (st + t) c G) : Int) = lm_lb bB (x / bB ^ st) t + 1 * lm_lb bB y' t + cY bB (x / bB ^ st) 1 y' c0 t := by
        unfold sAdd
        rw [Nat.add_sub_cancel_left]
        rw [uNI _ _ (by rw [uNI _ _ (by omega)]; omega), uNI _ _ (by omega), u1, u2, hi, hxk, hr]
        omega
      constructor
      · rw [dI_l, us, l1]
      · rw [uN_h, us, l2])
  exact ⟨h1, h2, h4⟩
theorem gMul_is {i j wj st n : Nat} {F : FF} {x y : Int} {d : Int64} {m : Int} (hd : (uN d : Int) = m) (hm : m < 4294967296) (hx : ∀ k, st ≤ k → k < st + n → dI (F i k) = lm_lb bB x k) (hy : rdY i j wj st n F y) :
    (∀ t, t ≠ i → gMul i j wj st d n st 0 F t = F t) ∧ (∀ t, t < st → gMul i j wj st d n st 0 F i t = F i t) ∧ (∀ t, st ≤ t → t < st + n → dI (gMul i j wj st d n st 0 F i t) = lm_lb bB (x / bB ^ st + m * y + 0) (t - st)) := by
  obtain ⟨h1, h2, -, h4⟩ := gl_up (G := fun n k c F => gMul i j wj st d n k c F) (i := i) (dg := fun k c F => (sMul i j wj st d k c F).toInt32) (cy := fun k c F => j_lu (sMul i j wj st d k c F) (nI 32)) (fun _ _ _ => rfl) (fun _ _ _ _ => rfl)
    (fun k c => (uN c : Int) = cY bB (x / bB ^ st) m y 0 (k - st)) (fun k => lm_lb bB (x / bB ^ st + m * y + 0) (k - st)) F st n 0 (by rw [Nat.sub_self, cY_0]; rfl)
    (fun k c G hk hkn hi hj hu => by
      obtain ⟨t, rfl⟩ : ∃ t, k = st + t := ⟨k - st, by omega⟩
      have hr := (hy (st + t) G hk hkn hj hu)
      have hxk := hx (st + t) hk hkn
      rw [lm_sh bB0] at hxk
      rw [← hu (st + t) (Nat.le_refl _)] at hxk
      simp only [Nat.add_sub_cancel_left, show st + t + 1 - st = t + 1 from by omega] at *
      obtain ⟨l1, l2⟩ := lm_lin bB0 (x / bB ^ st) m y 0 t
      have hm0 : 0 ≤ m := by omega
      have hcy := cY_in (x := x / bB ^ st) (y := y) bB0 (m := m) (c := 0) hm0 (by decide) hm0 t
      have u1 := uN_un (G i (st + t))
      have u2 := uN_un (rAt wj (G j) (nI t))
      have b1 := dI_1 (G i (st + t))
      have b2 := dI_1 (rAt wj (G j) (nI t))
      have b3 := dI_0 (rAt wj (G j) (nI t))
      have hmul : m * dI (rAt wj (G j) (nI t)) ≤ 4294967295 * 4294967295 := Int.mul_le_mul (by omega) (by omega) b3 (by decide)
      have hmul0 : 0 ≤ m * dI (rAt wj (G j) (nI t)) := Int.mul_nonneg hm0 b3
      have um : (uN (d * rUn (rAt wj (G j) (nI t))) : Int) = m * dI (rAt wj (G j) (nI t)) := by
        rw [uNM _ _ (by rw [hd, u2]; omega), hd, u2]
      have us : (uN (sMul i j wj st d (st + t) c G) : Int) = lm_lb bB (x / bB ^ st) t + m * lm_lb bB y t + cY bB (x / bB ^ st) m y 0 t := by
        unfold sMul
        rw [Nat.add_sub_cancel_left]
        rw [uNI _ _ (by rw [uNI _ _ (by omega)]; omega), uNI _ _ (by omega), um, u1, hi, hxk, hr]
        omega
      constructor
      · rw [dI_l, us, l1]
      · rw [uN_h, us, l2])
  exact ⟨h1, h2, h4⟩
