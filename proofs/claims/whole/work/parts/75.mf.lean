/-! halve, left and divide, with signs -/
def hvI (x : Int) (k : Nat) : Int := if x < 0 then -((x.natAbs : Int) / 2 ^ k) else (x.natAbs : Int) / 2 ^ k
theorem hv_abs (x : Int) (k : Nat) : ((hvI x k).natAbs : Int) = (x.natAbs : Int) / 2 ^ k := by
  have := Int.ediv_nonneg (a := (x.natAbs : Int)) (b := 2 ^ k) (by omega) (Int.le_of_lt (p2_0 k))
  unfold hvI
  split <;> omega
theorem isL_le {V : Int} {n k : Nat} (h : isL V n) (hV : 0 ≤ V) : n ≤ k ↔ V / 2 ^ k = 0 := by
  have hp := p2_0 k
  constructor
  · intro q
    have := p2_le q
    exact Int.ediv_eq_zero_of_lt hV (by have := h.1; omega)
  · intro q
    rcases h.2 with q2 | q2
    · omega
    · have e := lm_dm V (2 ^ k)
      have l := Int.emod_lt_of_pos V hp
      rw [q, Int.mul_zero, Int.zero_add] at e
      have := p2_lt (s := n - 1) (t := k) (by omega)
      omega
theorem hv_is {sg : Nat → Int32} {z : Nat → Nat} {x : Int} {k f : Nat} (hk : k ≤ 8192) (hx : bV sg z 0 x) (hs : (x.natAbs : Int) < bH ^ 600) :
    bV (mHfS sg k f z) (mHfZ sg k f z) 1 (hvI x k + if f = 0 then 0 else (sI x).toInt) := by
  obtain ⟨c1, c2⟩ := mClr_is 1 z
  have h0 := c2.zIs (show (0 : Nat) ≠ 1 by decide) hx.1
  have hN := mBits_is h0
  have hNl : mBits (mClr 1 cZ 0 z) 0 ≤ 17600 := by
    rcases hN.2 with q | q
    · omega
    · have hlt := hx.1.2.1
      rw [bH_17600] at hlt
      have := p2_lt (s := mBits (mClr 1 cZ 0 z) 0 - 1) (t := 17600) (by omega)
      omega
  have hM0 : 0 ≤ (x.natAbs : Int) := by omega
  have hpk := p2_0 k
  have hmk := Int.emod_lt_of_pos (x.natAbs : Int) hpk
  have hmk0 := Int.emod_nonneg (x.natAbs : Int) (show (2 : Int) ^ k ≠ 0 by omega)
  have e0 : (x.natAbs : Int) % 2 ^ k / 2 ^ k = 0 := Int.ediv_eq_zero_of_lt hmk0 hmk
  have key : zIs (mHvZ k (mBits (mClr 1 cZ 0 z) 0 - k) k (mClr 1 cZ 0 z)) 1 ((x.natAbs : Int) / 2 ^ k) ∧ zO (mClr 1 cZ 0 z) (mHvZ k (mBits (mClr 1 cZ 0 z) 0 - k) k (mClr 1 cZ 0 z)) 1 := by
    obtain ⟨a1, a2⟩ := mHvZ_is (k := k) (M := (x.natAbs : Int)) (mBits (mClr 1 cZ 0 z) 0 - k) k (mClr 1 cZ 0 z) (Nat.le_refl _) (by omega) h0 (by rw [e0]; exact c1)
    refine ⟨?_, a2⟩
    have e1 : (x.natAbs : Int) % 2 ^ (k + (mBits (mClr 1 cZ 0 z) 0 - k)) = x.natAbs := by
      refine Int.emod_eq_of_lt hM0 ?_
      have := p2_le (s := mBits (mClr 1 cZ 0 z) 0) (t := k + (mBits (mClr 1 cZ 0 z) 0 - k)) (by omega)
      have := hN.1
      omega
    rw [e1] at a1
    exact a1
  have hsg : bV (mHvS (upd sg 1 (nI 0)) k (mHfN z)) (mHvZ k (mBits (mClr 1 cZ 0 z) 0 - k) k (mClr 1 cZ 0 z)) 1 (hvI x k) := by
    refine ⟨by rw [hv_abs]; exact key.1, ?_⟩
    unfold mHvS mHfN
    rw [pk_us, pk_un (by decide), hx.2]
    have hle := isL_le (k := k) hN hM0
    have hq0 := Int.ediv_nonneg (a := (x.natAbs : Int)) (b := 2 ^ k) hM0 (Int.le_of_lt hpk)
    by_cases q : mBits (mClr 1 cZ 0 z) 0 ≤ k
    · rw [if_pos q]
      have := hle.mp q
      unfold hvI
      rw [this]
      split <;> rfl
    · rw [if_neg q]
      have := mt hle.mpr q
      have hz : x = 0 → (x.natAbs : Int) / 2 ^ k = 0 := fun q => by subst q; simp
      apply sI_c
      · unfold hvI; split <;> omega
      · unfold hvI; split <;> omega
  unfold mHfZ mHfS mHvTZ mHvTS
  rw [show mHvZ k (mHfN z - k) k (mClr 1 cZ 0 z) = mHvZ k (mBits (mClr 1 cZ 0 z) 0 - k) k (mClr 1 cZ 0 z) from rfl]
  have hsg0 : mHvS (upd sg 1 (nI 0)) k (mHfN z) 0 = sI x := by
    unfold mHvS
    rw [pk_un (by decide), pk_un (by decide), hx.2]
  generalize mHvS (upd sg 1 (nI 0)) k (mHfN z) = sg' at *
  generalize mHvZ k (mBits (mClr 1 cZ 0 z) 0 - k) k (mClr 1 cZ 0 z) = z' at *
  by_cases hf0 : f = 0
  · rw [if_pos hf0, if_pos hf0, if_pos hf0, Int.add_zero]
    exact hsg
  · rw [if_neg hf0, if_neg hf0, if_neg hf0, hsg0]
    obtain ⟨l1, l2, l3⟩ := mLong_is (sI x).toInt64 2 z' sg'
    have hb1 : bV (mLongG (sI x).toInt64 2 sg') (mLongZ (sI x).toInt64 2 z') 1 (hvI x k) := ⟨l2.zIs (by decide) hsg.1, by rw [l3 1 (by decide)]; exact hsg.2⟩
    rw [Int32.toInt_toInt64] at l1
    have hle : ((hvI x k).natAbs : Int) ≤ x.natAbs := by
      rw [hv_abs]
      exact Int.ediv_le_self _ hM0
    have hsb : ((sI x).toInt.natAbs : Int) ≤ 1 := by
      rcases Int.lt_trichotomy x 0 with q | q | q
      · rw [sI_n q]; decide
      · rw [q]; decide
      · rw [sI_p q]; decide
    obtain ⟨m1, -, -⟩ := mComb_is (b := 1) (q := 2) (f := 0) (by decide) (by decide) hb1 l1 (by
      have h1 : bH ^ 600 * bH ≤ bH ^ 1100 := by rw [← Int.pow_succ]; exact bH_le (by decide)
      have h2 := lm_pw bH0 600
      have h3 : bH ^ 600 * 2 ≤ bH ^ 600 * bH := Int.mul_le_mul_of_nonneg_left (by decide) (Int.le_of_lt h2)
      omega)
    rw [if_pos rfl] at m1
    exact m1
theorem lf_is {sg : Nat → Int32} {z : Nat → Nat} {x : Int} {k : Nat} (hk : k ≤ 8192) (hx : bV sg z 0 x) (hs : (x.natAbs : Int) < 2 ^ 8192) :
    mBits (mClr 1 cZ 0 z) 0 ≤ 8192 ∧ bV (upd (upd sg 1 (nI 0)) 1 ((upd sg 1 (nI 0)) 0)) (mLfZ k (mBits (mClr 1 cZ 0 z) 0) 0 (mClr 1 cZ 0 z)) 1 (x * 2 ^ k) := by
  obtain ⟨c1, c2⟩ := mClr_is 1 z
  have h0 := c2.zIs (show (0 : Nat) ≠ 1 by decide) hx.1
  have hN := mBits_is h0
  have hNl : mBits (mClr 1 cZ 0 z) 0 ≤ 8192 := by
    rcases hN.2 with q | q
    · omega
    · have := p2_lt (s := mBits (mClr 1 cZ 0 z) 0 - 1) (t := 8192) (by omega)
      omega
  refine ⟨hNl, ?_⟩
  have hM0 : 0 ≤ (x.natAbs : Int) := by omega
  have hpk := p2_0 k
  obtain ⟨a1, a2⟩ := mLfZ_is (k := k) (M := (x.natAbs : Int)) (mBits (mClr 1 cZ 0 z) 0) 0 (mClr 1 cZ 0 z) (by omega) h0 (by
    rw [Int.pow_zero, Int.emod_one, Int.zero_mul]; exact c1)
  rw [Nat.zero_add, Int.emod_eq_of_lt hM0 hN.1] at a1
  refine ⟨?_, ?_⟩
  · rw [Int.natAbs_mul, Int.natCast_mul, Int.natAbs_of_nonneg (Int.le_of_lt hpk)]
    exact a1
  · rw [pk_us, pk_un (by decide), hx.2]
    apply sI_c
    · constructor
      · intro q; exact Int.mul_neg_of_neg_of_pos q hpk
      · intro q
        rcases Int.lt_or_le x 0 with q2 | q2
        · exact q2
        · have := Int.mul_nonneg q2 (Int.le_of_lt hpk); omega
    · constructor
      · intro q; rw [q, Int.zero_mul]
      · intro q
        rcases Int.mul_eq_zero.mp q with q2 | q2
        · exact q2
        · omega
/-! rounding of magnitudes -/
theorem hv_pos {x : Int} (h : ¬ x < 0) (k : Nat) : hvI x k = x / 2 ^ k := by
  unfold hvI
  rw [if_neg h, show (x.natAbs : Int) = x by omega]
theorem hv_neg {x : Int} (h : x < 0) (k : Nat) : hvI x k = if x % 2 ^ k = 0 then x / 2 ^ k else x / 2 ^ k + 1 := by
  have hp := p2_0 k
  have e := lm_dm x (2 ^ k)
  have b0 := Int.emod_nonneg x (show (2 : Int) ^ k ≠ 0 by omega)
  have b1 := Int.emod_lt_of_pos x hp
  unfold hvI
  rw [if_pos h, show (x.natAbs : Int) = -x by omega]
  by_cases q : x % 2 ^ k = 0
  · rw [if_pos q]
    have := (lm_uq (x := -x) (m := 2 ^ k) (q := -(x / 2 ^ k)) (r := 0) hp (by rw [Int.mul_neg]; omega) (by omega) hp).1
    omega
  · rw [if_neg q]
    have := (lm_uq (x := -x) (m := 2 ^ k) (q := -(x / 2 ^ k) - 1) (r := 2 ^ k - x % 2 ^ k) hp (by rw [Int.mul_sub, Int.mul_neg, Int.mul_one]; omega) (by omega) (by omega)).1
    omega
theorem tz_mod {x : Int} {t k : Nat} (h : tzI x t) : x % 2 ^ k = 0 ↔ k ≤ t := by
  constructor
  · intro q
    rcases Nat.lt_or_ge t k with q2 | q2
    · exfalso
      have e : x % 2 ^ k % 2 ^ (t + 1) = x % 2 ^ (t + 1) := Int.emod_emod_of_dvd _ (p2_dvd (by omega))
      rw [q, Int.zero_emod] at e
      unfold tzI at h
      have := p2_0 t
      omega
    · exact q2
  · intro q
    have e : x % 2 ^ (t + 1) % 2 ^ k = x % 2 ^ k := Int.emod_emod_of_dvd _ (p2_dvd (by omega))
    rw [← e, show x % 2 ^ (t + 1) = 2 ^ t from h]
    exact Int.emod_eq_zero_of_dvd (p2_dvd q)
def upN (x : Int) (b : Nat) : Int := if 1 ≤ b ∧ (2 ^ (b - 1) < x % 2 ^ b ∨ (x % 2 ^ b = 2 ^ (b - 1) ∧ x / 2 ^ b % 2 = 1)) then 1 else 0
theorem upN_1 {x : Int} {b : Nat} (h : upI x b) : upN x b = 1 := if_pos h
theorem upN_0 {x : Int} {b : Nat} (h : ¬ upI x b) : upN x b = 0 := if_neg h
/-- the model's rounding, by the size's bits, is the class's -/
theorem near_up {x : Int} {b t : Nat} (hb : 1 ≤ b) (ht : tzI x t) :
    (((x.natAbs : Int) / 2 ^ (b - 1) % 2 = 1 ∧ (t < b - 1 ∨ (x.natAbs : Int) / 2 ^ b % 2 = 1)) → hvI x b + (sI x).toInt = x / 2 ^ b + upN x b) ∧
    ((¬ (x.natAbs : Int) / 2 ^ (b - 1) % 2 = 1 ∨ (b - 1 ≤ t ∧ ¬ (x.natAbs : Int) / 2 ^ b % 2 = 1)) → hvI x b = x / 2 ^ b + upN x b) := by
  obtain ⟨k, rfl⟩ : ∃ k, b = k + 1 := ⟨b - 1, by omega⟩
  rw [Nat.add_sub_cancel]
  have hP := p2_0 k
  have e2 : (2 : Int) ^ (k + 1) = 2 * 2 ^ k := by rw [Int.pow_succ]; omega
  have tk := tz_mod (k := k) ht
  have tk1 := tz_mod (k := k + 1) ht
  have hx0 := tzI_nz ht
  have eup : upI x (k + 1) ↔ (2 ^ k < x % 2 ^ (k + 1) ∨ (x % 2 ^ (k + 1) = 2 ^ k ∧ x / 2 ^ (k + 1) % 2 = 1)) := by
    unfold upI
    rw [Nat.add_sub_cancel]
    exact ⟨fun z => z.2, fun z => ⟨by omega, z⟩⟩
  -- x = 2P q + P b1 + r
  have m1 := p2_bit x k
  have m2 := lm_dd (B := 2) (by decide) x k
  have eq1 := lm_dm x (2 ^ (k + 1))
  have r0 := Int.emod_nonneg x (show (2 : Int) ^ k ≠ 0 by omega)
  have r1 := Int.emod_lt_of_pos x hP
  rcases Int.lt_or_gt_of_ne hx0 with hx | hx
  · rw [hv_neg hx, sI_n hx, show (x.natAbs : Int) = -x by omega, show (-1 : Int32).toInt = -1 from rfl]
    -- digits of -x
    have hq : x / 2 ^ k = 2 * (x / 2 ^ (k + 1)) + x / 2 ^ k % 2 := by rw [m2]; omega
    have hex := lm_dm x (2 ^ k)
    by_cases hr : x % 2 ^ k = 0
    · have n1 : -x / 2 ^ k = -(x / 2 ^ k) := (lm_uq (x := -x) (m := 2 ^ k) (r := 0) hP (by rw [Int.mul_neg]; omega) (by omega) hP).1
      have n2 : -x / 2 ^ (k + 1) = -x / 2 ^ k / 2 := lm_dd (B := 2) (by decide) (-x) k
      rw [n2, n1]
      rw [hr, Int.zero_add] at m1
      have hkt := tk.mp hr
      generalize x / 2 ^ k = a at *
      generalize x / 2 ^ (k + 1) = q at *
      rcases (show a % 2 = 0 ∨ a % 2 = 1 by omega) with ha | ha
      · rw [ha, Int.mul_zero] at m1
        rw [m1]
        have hnu : ¬ upI x (k + 1) := by rw [eup, m1]; omega
        rw [upN_0 hnu, if_pos rfl]
        constructor
        · intro ⟨h1, h2⟩; omega
        · intro _; omega
      · rw [ha, Int.mul_one] at m1
        rw [m1, if_neg (by omega)]
        constructor
        · intro ⟨h1, h2⟩
          have hnu : ¬ upI x (k + 1) := by rw [eup, m1]; omega
          rw [upN_0 hnu]
          omega
        · intro h
          have hnu : upI x (k + 1) := by rw [eup, m1]; omega
          rw [upN_1 hnu]
    · have n1 : -x / 2 ^ k = -(x / 2 ^ k) - 1 := (lm_uq (x := -x) (m := 2 ^ k) (r := 2 ^ k - x % 2 ^ k) hP (by rw [Int.mul_sub, Int.mul_neg, Int.mul_one]; omega) (by omega) (by omega)).1
      have n2 : -x / 2 ^ (k + 1) = -x / 2 ^ k / 2 := lm_dd (B := 2) (by decide) (-x) k
      rw [n2, n1]
      have hkt := mt tk.mpr hr
      generalize x / 2 ^ k = a at *
      generalize x / 2 ^ (k + 1) = q at *
      rcases (show a % 2 = 0 ∨ a % 2 = 1 by omega) with ha | ha
      · rw [ha, Int.mul_zero, Int.add_zero] at m1
        have hnu : ¬ upI x (k + 1) := by rw [eup, m1]; omega
        rw [upN_0 hnu, m1, if_neg hr]
        constructor
        · intro ⟨h1, h2⟩; omega
        · intro h
          rcases h with h | h <;> omega
      · rw [ha, Int.mul_one] at m1
        have hnu : upI x (k + 1) := by rw [eup, m1]; omega
        rw [upN_1 hnu, m1, if_neg (by omega)]
        constructor
        · intro ⟨h1, h2⟩; omega
        · intro h; omega
  · rw [hv_pos (by omega), sI_p hx, show (x.natAbs : Int) = x by omega, show (nI 1).toInt = 1 from rfl]
    constructor
    · intro ⟨h1, h2⟩
      rw [h1, Int.mul_one] at m1
      have hnu : upI x (k + 1) := by
        rw [eup, m1]
        rcases h2 with h2 | h2
        · have : ¬ x % 2 ^ k = 0 := fun q => by have := tk.mp q; omega
          omega
        · rcases Int.lt_or_eq_of_le r0 with q | q
          · omega
          · exact Or.inr ⟨by omega, h2⟩
      rw [upN_1 hnu]
    · intro h
      have hnu : ¬ upI x (k + 1) := by
        rw [eup, m1]
        rcases h with h | ⟨h, h2⟩
        · have : x / 2 ^ k % 2 = 0 := by omega
          rw [this, Int.mul_zero]
          omega
        · have hz := tk.mpr h
          rw [hz]
          rcases (show x / 2 ^ k % 2 = 0 ∨ x / 2 ^ k % 2 = 1 by omega) with q | q <;> rw [q] <;> omega
      rw [upN_0 hnu, Int.add_zero]
