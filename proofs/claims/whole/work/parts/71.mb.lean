/-! adding, taking away, comparing sizes -/
theorem mAddZ_is {b q : Nat} {z : Nat → Nat} {X Y : Int} (hbq : b ≠ q) (hX : zIs z b X) (hY : zIs z q Y) (hs : X + Y < bH ^ 1100) : zIs (mAddZ b q cZ 0 0 z) b (X + Y) ∧ zO z (mAddZ b q cZ 0 0 z) b := by
  have _ := hbq
  have hc := cZ_eq
  obtain ⟨cy, z', e, hi, h1, h2⟩ := zl_up (G := fun n k cy z => mAddZ b q n k cy z) (fin := fun _ _ z => z) (b := 1100 * b) (dg := fun k cy z => (z (1100 * b + k) + z (1100 * q + k) + cy) % 65536) (cy := fun k cy z => (z (1100 * b + k) + z (1100 * q + k) + cy) / 65536) (fun _ _ _ => rfl) (fun _ _ _ _ => rfl)
    (fun k cy => (cy : Int) = cY bH X 1 Y 0 k) (fun k => lm_lb bH (X + 1 * Y + 0) k) z 0 cZ 0 (by rw [cY_0]; rfl)
    (fun k cy y _ hk hi hu => by
      obtain ⟨l1, l2⟩ := lm_lin bH0 X 1 Y 0 k
      have k1 : (y (1100 * b + k) : Int) = lm_lb bH X k := by rw [hu _ (by omega)]; exact hX.2.2 k (by omega)
      have k2 : (y (1100 * q + k) : Int) = lm_lb bH Y k := by rw [hu _ (by omega)]; exact hY.2.2 k (by omega)
      rw [l1, l2, ← hi, ← k1, ← k2]
      unfold bH
      constructor <;> omega)
  have e : mAddZ b q cZ 0 0 z = z' := e
  rw [e]
  rw [show X + 1 * Y + 0 = X + Y by omega] at h2
  have := hX.1
  have := hY.1
  exact ⟨⟨by omega, hs, fun j hj => h2 j (by omega) (by omega)⟩, fun p hp => h1 p (by omega)⟩
theorem mX_0 {y : Int32} {a c : Nat} (h : 0 ≤ y) : mX y a c = a := if_pos h
theorem mX_1 {y : Int32} {a c : Nat} (h : ¬ 0 ≤ y) : mX y a c = c := if_neg h
theorem mSubZ_is {y : Int32} {b q : Nat} {z : Nat → Nat} {X Y : Int} (hbq : b ≠ q) (hX : zIs z b X) (hY : zIs z q Y) (hs : if 0 ≤ y then Y ≤ X else X ≤ Y) : zIs (mSubZ y b q cZ 0 0 z) b (if 0 ≤ y then X - Y else Y - X) ∧ zO z (mSubZ y b q cZ 0 0 z) b := by
  have hc := cZ_eq
  generalize hU : (if 0 ≤ y then X else Y) = U
  generalize hV : (if 0 ≤ y then Y else X) = V
  have hUV : (if 0 ≤ y then X - Y else Y - X) = U - V := by
    by_cases h : 0 ≤ y
    · rw [if_pos h] at hU hV ⊢; rw [hU, hV]
    · rw [if_neg h] at hU hV ⊢; rw [hU, hV]
  rw [hUV]
  have hm : ∀ (k : Nat) (z' : Nat → Nat), k < 1100 → z' (1100 * b + k) = z (1100 * b + k) → z' (1100 * q + k) = z (1100 * q + k) → (mX y (z' (1100 * b + k)) (z' (1100 * q + k)) : Int) = lm_lb bH U k ∧ (mX y (z' (1100 * q + k)) (z' (1100 * b + k)) : Int) = lm_lb bH V k := by
    intro k z' hk e1 e2
    rw [e1, e2]
    by_cases h : 0 ≤ y
    · rw [if_pos h] at hU hV
      rw [mX_0 h, mX_0 h, ← hU, ← hV]
      exact ⟨hX.2.2 k hk, hY.2.2 k hk⟩
    · rw [if_neg h] at hU hV
      rw [mX_1 h, mX_1 h, ← hU, ← hV]
      exact ⟨hY.2.2 k hk, hX.2.2 k hk⟩
  obtain ⟨cy, z', e, hi, h1, h2⟩ := zl_up (G := fun n k cy z => mSubZ y b q n k cy z) (fin := fun _ _ z => z) (b := 1100 * b)
    (dg := fun k bw z => if mX y (z (1100 * b + k)) (z (1100 * q + k)) < mX y (z (1100 * q + k)) (z (1100 * b + k)) + bw then 65536 + mX y (z (1100 * b + k)) (z (1100 * q + k)) - mX y (z (1100 * q + k)) (z (1100 * b + k)) - bw else mX y (z (1100 * b + k)) (z (1100 * q + k)) - mX y (z (1100 * q + k)) (z (1100 * b + k)) - bw)
    (cy := fun k bw z => if mX y (z (1100 * b + k)) (z (1100 * q + k)) < mX y (z (1100 * q + k)) (z (1100 * b + k)) + bw then 1 else 0) (fun _ _ _ => rfl)
    (fun n k c z => by
      show mSubZ y b q (n + 1) k c z = _
      conv => lhs; unfold mSubZ
      by_cases h : mX y (z (1100 * b + k)) (z (1100 * q + k)) < mX y (z (1100 * q + k)) (z (1100 * b + k)) + c
      · simp only [if_pos h]
      · simp only [if_neg h])
    (fun k cy => -(cy : Int) = cY bH U (-1) V 0 k ∧ cy < 2) (fun k => lm_lb bH (U + -1 * V + 0) k) z 0 cZ 0 (by rw [cY_0]; exact ⟨rfl, by decide⟩)
    (fun k bw z' _ hk hi hu => by
      obtain ⟨l1, l2⟩ := lm_lin bH0 U (-1) V 0 k
      obtain ⟨k1, k2⟩ := hm k z' (by omega) (hu _ (by omega)) (hu _ (by omega))
      have a1 := lm_lb1 bH0 U k
      have a2 := lm_lb1 bH0 V k
      rw [l1, l2, ← hi.1, ← k1, ← k2]
      rw [← k1] at a1
      rw [← k2] at a2
      have hbw := hi.2
      unfold bH at *
      generalize mX y (z' (1100 * b + k)) (z' (1100 * q + k)) = s at *
      generalize mX y (z' (1100 * q + k)) (z' (1100 * b + k)) = t at *
      by_cases h : s < t + bw
      · simp only [if_pos h]
        refine ⟨by omega, by omega, by omega⟩
      · simp only [if_neg h]
        refine ⟨by omega, by omega, by omega⟩)
  have e : mSubZ y b q cZ 0 0 z = z' := e
  rw [e]
  rw [show U + -1 * V + 0 = U - V by omega] at h2
  have hX0 := hX.1
  have hY0 := hY.1
  have hX1 := hX.2.1
  have hY1 := hY.2.1
  refine ⟨⟨?_, ?_, fun j hj => h2 j (by omega) (by omega)⟩, fun p hp => h1 p (by omega)⟩
  · by_cases h : 0 ≤ y
    · rw [if_pos h] at hU hV hs; omega
    · rw [if_neg h] at hU hV hs; omega
  · by_cases h : 0 ≤ y
    · rw [if_pos h] at hU hV hs; omega
    · rw [if_neg h] at hU hV hs; omega
theorem mSgD_is {x y : Nat} (hx : x < 65536) (hy : y < 65536) : mSgD x y = sI ((x : Int) - y) := by
  have e : (nI x - nI y).toInt = (x : Int) - y := pk_sub_toInt (by omega) (by omega)
  have z0 : (0 : Int32).toInt = 0 := rfl
  unfold mSgD sI
  by_cases h : 0 ≤ nI x - nI y
  · rw [if_pos h]
    rw [Int32.le_iff_toInt_le, e, z0] at h
    rw [if_neg (show ¬ (x : Int) - y < 0 by omega)]
    by_cases h2 : nI x - nI y ≤ 0
    · rw [if_pos h2]
      rw [Int32.le_iff_toInt_le, e, z0] at h2
      rw [if_pos (by omega)]
    · rw [if_neg h2]
      rw [Int32.le_iff_toInt_le, e, z0] at h2
      rw [if_neg (by omega)]
  · rw [if_neg h]
    rw [Int32.le_iff_toInt_le, e, z0] at h
    rw [if_pos (by omega)]
theorem mCmp_is {z : Nat → Nat} {b q : Nat} {X Y : Int} (hX : zIs z b X) (hY : zIs z q Y) : ∀ n, n < 1100 → mCmp z b q (mCmpK z b q n) = sI (X % bH ^ (n + 1) - Y % bH ^ (n + 1)) := by
  intro n
  have lt : ∀ k, k < 1100 → z (1100 * b + k) < 65536 ∧ z (1100 * q + k) < 65536 := by
    intro k hk
    have h1 := lm_lb1 bH0 X k
    have h2 := lm_lb1 bH0 Y k
    rw [← hX.2.2 k hk] at h1
    rw [← hY.2.2 k hk] at h2
    unfold bH at *
    omega
  induction n with
  | zero =>
    intro hn
    unfold mCmpK mCmp
    rw [mSgD_is (lt 0 hn).1 (lt 0 hn).2, hX.2.2 0 hn, hY.2.2 0 hn]
    unfold lm_lb
    rw [Nat.zero_add, Int.pow_one]
    simp
  | succ n ih =>
    intro hn
    unfold mCmpK
    have hp := lm_pw bH0 (n + 1)
    have x0 := Int.emod_nonneg X (show bH ^ (n + 1) ≠ 0 by omega)
    have x1 := Int.emod_lt_of_pos X hp
    have y0 := Int.emod_nonneg Y (show bH ^ (n + 1) ≠ 0 by omega)
    have y1 := Int.emod_lt_of_pos Y hp
    rw [lm_md bH0 X (n + 1), lm_md bH0 Y (n + 1)]
    have k1 := hX.2.2 (n + 1) hn
    have k2 := hY.2.2 (n + 1) hn
    rw [← k1, ← k2]
    by_cases h : z (1100 * b + (n + 1)) = z (1100 * q + (n + 1))
    · rw [if_pos h, ih (by omega), h]
      congr 1
      omega
    · rw [if_neg h]
      unfold mCmp
      rw [mSgD_is (lt _ hn).1 (lt _ hn).2]
      generalize z (1100 * b + (n + 1)) = a at *
      generalize z (1100 * q + (n + 1)) = c at *
      have e : X % bH ^ (n + 1) + bH ^ (n + 1) * a - (Y % bH ^ (n + 1) + bH ^ (n + 1) * c) = X % bH ^ (n + 1) - Y % bH ^ (n + 1) + bH ^ (n + 1) * ((a : Int) - c) := by grind
      rw [e]
      rcases Int.lt_or_gt_of_ne (show (a : Int) - c ≠ 0 by omega) with h6 | h6
      · have := Int.mul_le_mul_of_nonneg_left (show (a : Int) - c ≤ -1 by omega) (Int.le_of_lt hp)
        rw [sI_n h6, sI_n (by omega)]
      · have := Int.mul_le_mul_of_nonneg_left (show 1 ≤ (a : Int) - c by omega) (Int.le_of_lt hp)
        rw [sI_p h6, sI_p (by omega)]
theorem mBy_is {z : Nat → Nat} {b q : Nat} {X Y : Int} (hX : zIs z b X) (hY : zIs z q Y) : mBy z b q = sI (X - Y) := by
  unfold mBy
  rw [mCmp_is hX hY _ (by rw [cZ_eq]; decide), cZ_eq]
  show sI (X % bH ^ 1100 - Y % bH ^ 1100) = _
  rw [Int.emod_eq_of_lt hX.1 hX.2.1, Int.emod_eq_of_lt hY.1 hY.2.1]
theorem sI_neg (x : Int) : -(sI x) = sI (-x) := by
  rcases Int.lt_trichotomy x 0 with h | h | h
  · rw [sI_n h, sI_p (by omega)]; decide
  · subst h; decide
  · rw [sI_p h, sI_n (by omega)]; decide
theorem sI_eq {x y : Int} (h : sI x = sI y) : (x < 0 ↔ y < 0) ∧ (x = 0 ↔ y = 0) := by
  rcases Int.lt_trichotomy x 0 with h1 | h1 | h1 <;> rcases Int.lt_trichotomy y 0 with h2 | h2 | h2
  all_goals first | (constructor <;> omega) | skip
  all_goals (exfalso; revert h)
  · rw [sI_n h1, h2]; decide
  · rw [sI_n h1, sI_p h2]; decide
  · rw [h1, sI_n h2]; decide
  · rw [h1, sI_p h2]; decide
  · rw [sI_p h1, sI_n h2]; decide
  · rw [sI_p h1, h2]; decide
/-- combine: b becomes x + y, where y is what buffer q keeps, or its opposite -/
theorem mComb_is {sg : Nat → Int32} {z : Nat → Nat} {b q f : Nat} {x y : Int} (hbq : b ≠ q) (hf : f < 2) (hx : bV sg z b x) (hy : bV sg z q y) (hs : (x.natAbs : Int) + y.natAbs < bH ^ 1100) :
    bV (upd sg b (mCombS sg b q (mOth sg q f) z)) (mCombZ sg b q (mOth sg q f) z) b (if f = 0 then x + y else x - y) ∧ zO z (mCombZ sg b q (mOth sg q f) z) b ∧ ∀ c, c ≠ b → upd sg b (mCombS sg b q (mOth sg q f) z) c = sg c := by
  have ho : mOth sg q f = sI (if f = 0 then y else -y) := by
    unfold mOth
    rw [hy.2]
    split
    · rfl
    · rw [sI_neg]
  generalize hy' : (if f = 0 then y else -y) = y' at *
  have hr : (if f = 0 then x + y else x - y) = x + y' := by
    by_cases h : f = 0
    · rw [if_pos h] at hy' ⊢; omega
    · rw [if_neg h] at hy' ⊢; omega
  have habs : (y.natAbs : Int) = y'.natAbs := by
    by_cases h : f = 0
    · rw [if_pos h] at hy'; omega
    · rw [if_neg h] at hy'; omega
  have hY := hy.1
  have hX := hx.1
  rw [habs] at hs hY
  rw [hr, ho]
  have key : zIs (mCombZ sg b q (sI y') z) b ((x + y').natAbs : Int) ∧ zO z (mCombZ sg b q (sI y') z) b ∧ mCombS sg b q (sI y') z = sI (x + y') := by
    unfold mCombZ mCombS
    rw [hx.2]
    by_cases h1 : sI x = 0
    · rw [if_pos h1, if_pos h1]
      have h1 := (sI_0 x).mp h1
      obtain ⟨a1, a2⟩ := mAddZ_is hbq hX hY hs
      rw [show (x.natAbs : Int) + y'.natAbs = (x + y').natAbs by omega] at a1
      exact ⟨a1, a2, by rw [h1, Int.zero_add]⟩
    · rw [if_neg h1, if_neg h1]
      have h1 := mt (sI_0 x).mpr h1
      by_cases h2 : sI y' = 0
      · rw [if_pos h2, if_pos h2]
        have h2 := (sI_0 y').mp h2
        obtain ⟨a1, a2⟩ := mAddZ_is hbq hX hY hs
        rw [show (x.natAbs : Int) + y'.natAbs = (x + y').natAbs by omega] at a1
        exact ⟨a1, a2, by rw [h2, Int.add_zero]⟩
      · rw [if_neg h2, if_neg h2]
        have h2 := mt (sI_0 y').mpr h2
        by_cases h3 : sI x = sI y'
        · rw [if_pos h3, if_pos h3]
          have h4 := sI_eq h3
          obtain ⟨a1, a2⟩ := mAddZ_is hbq hX hY hs
          rw [show (x.natAbs : Int) + y'.natAbs = (x + y').natAbs by omega] at a1
          exact ⟨a1, a2, sI_c (by omega) (by omega)⟩
        · rw [if_neg h3, if_neg h3, mBy_is hX hY]
          have h4 : (x < 0 ∧ 0 < y') ∨ (0 < x ∧ y' < 0) := by
            rcases Int.lt_or_gt_of_ne h1 with a | a <;> rcases Int.lt_or_gt_of_ne h2 with c | c
            · exact absurd (by rw [sI_n a, sI_n c]) h3
            · exact Or.inl ⟨a, c⟩
            · exact Or.inr ⟨a, c⟩
            · exact absurd (by rw [sI_p a, sI_p c]) h3
          have hge := sI_ge ((x.natAbs : Int) - y'.natAbs)
          obtain ⟨a1, a2⟩ := mSubZ_is (y := sI ((x.natAbs : Int) - y'.natAbs)) hbq hX hY (by
            by_cases h5 : 0 ≤ sI ((x.natAbs : Int) - y'.natAbs)
            · rw [if_pos h5]; have := hge.mp h5; omega
            · rw [if_neg h5]; have := mt hge.mpr h5; omega)
          refine ⟨?_, a2, ?_⟩
          · by_cases h5 : 0 ≤ sI ((x.natAbs : Int) - y'.natAbs)
            · rw [if_pos h5] at a1
              have := hge.mp h5
              rw [show ((x + y').natAbs : Int) = (x.natAbs : Int) - y'.natAbs by omega]; exact a1
            · rw [if_neg h5] at a1
              have := mt hge.mpr h5
              rw [show ((x + y').natAbs : Int) = (y'.natAbs : Int) - x.natAbs by omega]; exact a1
          · by_cases h6 : sI ((x.natAbs : Int) - y'.natAbs) = 0
            · rw [if_pos h6]
              have := (sI_0 _).mp h6
              rw [show x + y' = 0 by omega]
              rfl
            · rw [if_neg h6]
              have h6 := mt (sI_0 _).mpr h6
              by_cases h5 : 0 ≤ sI ((x.natAbs : Int) - y'.natAbs)
              · rw [if_pos h5]
                have := hge.mp h5
                exact sI_c (by omega) (by omega)
              · rw [if_neg h5]
                have := mt hge.mpr h5
                exact sI_c (by omega) (by omega)
  refine ⟨⟨key.1, by rw [pk_us]; exact key.2.2⟩, key.2.1, fun c hc => pk_un hc⟩
