theorem mMulZ_go {z0 : Nat → Nat} {X Y : Int} {n2 m2 : Nat} (hX : zIs z0 0 X) (hY : zIs z0 1 Y) (hn : n2 + m2 ≤ 1100) (hXl : X < bH ^ n2) (hYl : Y < bH ^ m2) (hz : zIs z0 2 0) :
    zIs (mMuZ n2 m2 (n2 + m2) 0 0 z0) 2 (X * Y) ∧ zO z0 (mMuZ n2 m2 (n2 + m2) 0 0 z0) 2 := by
  have hX0 := hX.1
  have hY0 := hY.1
  have hXY0 : 0 ≤ X * Y := Int.mul_nonneg hX0 hY0
  have hXYl : X * Y < bH ^ (n2 + m2) := by
    rw [Int.pow_add]
    have h1 : X * Y ≤ (bH ^ n2 - 1) * (bH ^ m2 - 1) := Int.mul_le_mul (by omega) (by omega) hY0 (by have := lm_pw bH0 n2; omega)
    have e : (bH ^ n2 - 1) * (bH ^ m2 - 1) = bH ^ n2 * bH ^ m2 - bH ^ n2 - bH ^ m2 + 1 := by grind
    have := lm_pw bH0 n2
    have := lm_pw bH0 m2
    omega
  let dx : Nat → Int := fun i => (z0 i : Int)
  let dy : Nat → Int := fun i => (z0 (1100 + i) : Int)
  have vx : lm_val bH dx n2 = X := by
    rw [lm_val_lb bH0 (x := X) (fun k hk => by have := hX.2.2 k (by omega); rw [Nat.mul_zero, Nat.zero_add] at this; exact this), Int.emod_eq_of_lt hX0 hXl]
  have vy : lm_val bH dy m2 = Y := by
    rw [lm_val_lb bH0 (x := Y) (fun k hk => by have := hY.2.2 k (by omega); rw [Nat.mul_one] at this; exact this), Int.emod_eq_of_lt hY0 hYl]
  -- the sum of the columns below k
  let Pk : Nat → Int := fun k => sS (fun k => bH ^ k * sS (cC dx dy m2 k) n2 0) k 0
  have hP : Pk (n2 + m2) = X * Y := by
    rcases cC_sum (H := bH) dx dy m2 (n2 + m2) n2 (by omega) with h | h | h
    · show sS _ _ _ = _
      rw [h, vx, vy]
    · omega
    · omega
  have hPs : ∀ k, Pk (k + 1) = Pk k + bH ^ k * sS (cC dx dy m2 k) n2 0 := by
    intro k
    show sS _ _ _ = sS _ _ _ + _
    rw [sS_end, Nat.zero_add]
  have key : ∀ (n k r : Nat) (z : Nat → Nat), k + n = n2 + m2 → (∀ p, p < 2200 ∨ 2200 + k ≤ p → z p = z0 p) → (∀ t, t < k → z (2200 + t) < 65536) → Pk k = lm_val bH (fun t => (z (2200 + t) : Int)) k + bH ^ k * (r : Int) →
      (∀ p, p < 2200 ∨ 2200 + (n2 + m2) ≤ p → mMuZ n2 m2 n k r z p = z0 p) ∧ (∀ t, t < n2 + m2 → mMuZ n2 m2 n k r z (2200 + t) < 65536) ∧ ∃ r' : Nat, Pk (n2 + m2) = lm_val bH (fun t => (mMuZ n2 m2 n k r z (2200 + t) : Int)) (n2 + m2) + bH ^ (n2 + m2) * (r' : Int) := by
    intro n
    induction n with
    | zero =>
      intro k r z hk hu hlt hv
      have : k = n2 + m2 := by omega
      subst this
      exact ⟨hu, hlt, r, hv⟩
    | succ n ih =>
      intro k r z hk hu hlt hv
      unfold mMuZ
      have hcol : sS (fun i => (z i : Int) * z (1100 + k - i)) (mMuC n2 k m2) (k + 1 - m2) = sS (cC dx dy m2 k) n2 0 := by
        rw [← cC_col (X := dx) (Y := dy) (by omega)]
        refine sS_congr _ _ (fun i h1 h2 => ?_)
        unfold mMuC at h2
        have hik : i ≤ k := by omega
        rw [hu i (by omega), hu (1100 + k - i) (by omega), show 1100 + k - i = 1100 + (k - i) by omega]
      have hRH := mMuRH (z := z) (k := k) (mMuC n2 k m2) (k + 1 - m2) r 0
      rw [hcol] at hRH
      change ((mMuR1 z n2 m2 k r : Nat) : Int) + 281474976710656 * (mMuH1 z n2 m2 k r : Nat) = _ at hRH
      generalize mMuR1 z n2 m2 k r = R at *
      generalize mMuH1 z n2 m2 k r = U at *
      have hPk := hPs k
      generalize sS (cC dx dy m2 k) n2 0 = S at *
      refine ih (k + 1) _ _ (by omega) ?_ ?_ ?_
      · intro p hp
        rw [va_up_ne _ _ (by omega)]
        exact hu p (by omega)
      · intro t ht
        by_cases htk : t = k
        · subst htk; rw [va_up_self]; omega
        · rw [va_up_ne _ _ (by omega)]; exact hlt t (by omega)
      · have e1 : lm_val bH (fun t => ((va_up z (2200 + k) (R % 65536) (2200 + t) : Nat) : Int)) (k + 1) = lm_val bH (fun t => (z (2200 + t) : Int)) k + bH ^ k * ((R % 65536 : Nat) : Int) := by
          show lm_val bH _ k + bH ^ k * ((va_up z (2200 + k) (R % 65536) (2200 + k) : Nat) : Int) = _
          rw [va_up_self, lm_val_congr (e := fun t => (z (2200 + t) : Int)) (fun t ht => by rw [va_up_ne _ _ (by omega)])]
        rw [e1, hPk, hv, Int.pow_succ]
        have e2 : (r : Int) + S = ((R % 65536 : Nat) : Int) + 65536 * ((R / 2 ^ 16 + U * 4294967296 : Nat) : Int) := by
          have e3 : (2 : Nat) ^ 16 = 65536 := by decide
          rw [e3]
          omega
        generalize ((R / 2 ^ 16 + U * 4294967296 : Nat) : Int) = c at *
        generalize ((R % 65536 : Nat) : Int) = d at *
        have e4 : bH ^ k * (r : Int) + bH ^ k * S = bH ^ k * d + bH ^ k * bH * c := by
          rw [← Int.mul_add, e2]
          show bH ^ k * (d + bH * c) = _
          grind
        omega
  obtain ⟨k1, k2, r', k3⟩ := key (n2 + m2) 0 0 z0 (by omega) (fun p _ => rfl) (fun t ht => by omega) (by
    show (0 : Int) = lm_val bH _ 0 + bH ^ 0 * ((0 : Nat) : Int)
    simp [lm_val])
  rw [hP] at k3
  generalize mMuZ n2 m2 (n2 + m2) 0 0 z0 = z' at *
  have hdl : ∀ t, t < n2 + m2 → 0 ≤ (z' (2200 + t) : Int) ∧ (z' (2200 + t) : Int) < bH := by
    intro t ht
    have := k2 t ht
    unfold bH
    omega
  have hvi := lm_val_in bH0 (d := fun t => (z' (2200 + t) : Int)) hdl
  have hvl := lm_lb_val bH0 (d := fun t => (z' (2200 + t) : Int)) hdl
  have hr0 : r' = 0 := by
    rcases Nat.eq_zero_or_pos r' with q | q
    · exact q
    · exfalso
      have := Int.mul_le_mul_of_nonneg_left (show (1 : Int) ≤ (r' : Int) by omega) (Int.le_of_lt (lm_pw bH0 (n2 + m2)))
      omega
  rw [hr0, Int.natCast_zero, Int.mul_zero, Int.add_zero] at k3
  rw [← k3] at hvl
  refine ⟨⟨hXY0, ?_, fun j hj => ?_⟩, fun p hp => k1 p (by omega)⟩
  · have := bH_le hn
    omega
  · rw [show 1100 * 2 + j = 2200 + j by omega]
    by_cases hjn : j < n2 + m2
    · exact (hvl j hjn).symm
    · rw [k1 _ (by omega), lm_top bH0 (n := n2 + m2) (by omega) (by omega), if_neg (by omega)]
      have := hz.2.2 j hj
      rw [lm_0] at this
      exact this
theorem mMulN_is {z : Nat → Nat} {b : Nat} {M : Int} (h : zIs z b M) {N : Nat} (hM : M < bH ^ N) : M < bH ^ (mMulN z b) ∧ mMulN z b ≤ N := by
  have hb := mBits_is h
  unfold mMulN
  have e : ∀ n : Nat, bH ^ n = 2 ^ (16 * n) := fun n => by
    have := bH_2 n 0
    rw [Int.pow_zero, Int.mul_one, Nat.add_zero] at this
    exact this.symm
  constructor
  · rw [e]
    have := p2_le (s := mBits z b) (t := 16 * ((mBits z b + 15) / 16)) (by omega)
    have := hb.1
    omega
  · rcases hb.2 with q | q
    · omega
    · rw [e] at hM
      have := p2_lt (s := mBits z b - 1) (t := 16 * N) (by omega)
      omega
theorem sI_mul (x y : Int) : sI x * sI y = sI (x * y) := by
  rcases Int.lt_trichotomy x 0 with h | h | h <;> rcases Int.lt_trichotomy y 0 with h2 | h2 | h2
  · rw [sI_n h, sI_n h2, sI_p (Int.mul_pos_of_neg_of_neg h h2)]; decide
  · subst h2; rw [Int.mul_zero, sI_n h]; decide
  · rw [sI_n h, sI_p h2, sI_n (Int.mul_neg_of_neg_of_pos h h2)]; decide
  · subst h; rw [Int.zero_mul, sI_n h2]; decide
  · subst h; subst h2; decide
  · subst h; rw [Int.zero_mul, sI_p h2]; decide
  · rw [sI_p h, sI_n h2, sI_n (Int.mul_neg_of_pos_of_neg h h2)]; decide
  · subst h2; rw [Int.mul_zero, sI_p h]; decide
  · rw [sI_p h, sI_p h2, sI_p (Int.mul_pos h h2)]; decide
/-- buffer 2 becomes x y -/
theorem mMul_is {sg : Nat → Int32} {z : Nat → Nat} {x y : Int} {n m : Nat} (hx : bV sg z 0 x) (hy : bV sg z 1 y) (hxl : (x.natAbs : Int) < bH ^ n) (hyl : (y.natAbs : Int) < bH ^ m) (hnm : n + m ≤ 1100) :
    mMulN (mClr 2 cZ 0 z) 0 + mMulN (mClr 2 cZ 0 z) 1 ≤ 1100 ∧ bV (mMulG sg) (mMulZ z) 2 (x * y) ∧ zO z (mMulZ z) 2 ∧ ∀ c, c ≠ 2 → mMulG sg c = sg c := by
  obtain ⟨c1, c2⟩ := mClr_is 2 z
  have h0 := c2.zIs (show (0 : Nat) ≠ 2 by decide) hx.1
  have h1 := c2.zIs (show (1 : Nat) ≠ 2 by decide) hy.1
  obtain ⟨a1, a2⟩ := mMulN_is h0 hxl
  obtain ⟨b1, b2⟩ := mMulN_is h1 hyl
  obtain ⟨k1, k2⟩ := mMulZ_go h0 h1 (by omega) a1 b1 c1
  refine ⟨by omega, ⟨?_, ?_⟩, c2.trans k2, fun c hc => ?_⟩
  · rw [Int.natAbs_mul, Int.natCast_mul]
    exact k1
  · unfold mMulG
    rw [pk_us, pk_un (by decide), pk_un (by decide), hx.2, hy.2, sI_mul]
  · unfold mMulG
    rw [pk_un hc, pk_un hc]
