theorem gDv_rDv {i : Nat} {d : Int64} {V : Int} {Z : FF} {N : Nat} (hd : 1 ≤ d.toInt) (hd2 : d.toInt < 4611686018427387904) (hV : rIs N (Z i) V) : ∀ n r F, n ≤ N → Int64.toInt r = V / bB ^ n % d.toInt → (∀ j, j ≠ i → F j = Z j) → (∀ t, t < n → F i t = Z i t) → (∀ t, n ≤ t → t < N → dI (F i t) = lm_lb bB (V / d.toInt) t) →
    (∀ j, j ≠ i → gDv i d n r F j = Z j) ∧ (∀ t, t < N → dI (gDv i d n r F i t) = lm_lb bB (V / d.toInt) t) ∧ (rDv i d n r F).toInt = V % d.toInt := by
  intro n
  induction n with
  | zero =>
    intro r F _ hr hj _ hd
    unfold gDv rDv
    rw [Int.pow_zero, Int.ediv_one] at hr
    exact ⟨hj, fun t ht => hd t (by omega) ht, hr⟩
  | succ n ih =>
    intro r F hn hr hj hu hdg
    unfold gDv rDv
    have r0 := Int.emod_nonneg (V / bB ^ (n + 1)) (show d.toInt ≠ 0 by omega)
    have r1 := Int.emod_lt_of_pos (V / bB ^ (n + 1)) (show 0 < d.toInt by omega)
    obtain ⟨g1, g2⟩ := gDl_is (x := F i n) hd hd2 32 r (nI 0) (Nat.le_refl _) (by omega) (by omega)
    have hx : dI (F i n) = lm_lb bB V n := by rw [hu n (by omega)]; exact hV n (by omega)
    have hb0 := dI_0 (F i n)
    have hb1 := dI_1 (F i n)
    have p32 : (2 : Int) ^ 32 = 4294967296 := by decide
    rw [p32, Int.emod_eq_of_lt hb0 hb1] at g1 g2
    have e1 : V / bB ^ n = bB * (V / bB ^ (n + 1)) + lm_lb bB V n := by
      rw [lm_dd bB0]
      exact (lm_dm (V / bB ^ n) bB).symm
    have e2 := lm_dm (V / bB ^ (n + 1)) d.toInt
    have e3 : V / bB ^ n = (r.toInt * 4294967296 + dI (F i n)) + d.toInt * (4294967296 * (V / bB ^ (n + 1) / d.toInt)) := by
      rw [e1, hx, hr]
      show 4294967296 * (V / bB ^ (n + 1)) + _ = _
      generalize V / bB ^ (n + 1) = q at *
      grind
    have e4 : V / bB ^ n % d.toInt = (r.toInt * 4294967296 + dI (F i n)) % d.toInt := by rw [e3, Int.add_mul_emod_self_left]
    have e5 : lm_lb bB (V / d.toInt) n = (r.toInt * 4294967296 + dI (F i n)) / d.toInt % 4294967296 := by
      unfold lm_lb
      rw [Int.ediv_ediv_of_nonneg (by omega), Int.mul_comm, ← Int.ediv_ediv_of_nonneg (Int.le_of_lt (lm_pw bB0 n)), e3, Int.add_mul_ediv_left _ _ (by omega)]
      show _ % (4294967296 : Int) = _
      rw [Int.add_mul_emod_self_left]
    refine ih _ _ (by omega) (by rw [g1, e4]) ?_ ?_ ?_
    · intro j hji
      rw [va_up_ne _ _ hji]; exact hj j hji
    · intro t ht
      rw [va_up_self, pk_un (by omega)]; exact hu t (by omega)
    · intro t a b
      rw [va_up_self]
      by_cases htk : t = n
      · subst htk
        rw [pk_us, g2, e5, dI_nI (by decide)]
        congr 1
        omega
      · rw [pk_un htk]; exact hdg t (by omega) b
theorem gDivB_is {i w : Nat} {d : Int64} {F : FF} {x : Int} (hw : 1 ≤ w ∧ w ≤ 256) (hd : 1 ≤ d.toInt) (hd2 : d.toInt < 4611686018427387904) (hx : rIs w (F i) x) (hc : cN bB w x) :
    (∀ j, j ≠ i → gDivB i w d F j = F j) ∧ rIs w (gDivB i w d F i) (x / d.toInt) ∧ (rDivB i w d F).toInt = x % d.toInt := by
  have hin := cN_in bB0 hc
  have z0 : (0 : Int64).toInt = 0 := rfl
  unfold gDivB rDivB
  by_cases hn : x < 0
  · have hng : ¬ rNeg w (F i) = 0 := fun z => (rNeg_0 hw.1 hx hc).mp z hn
    rw [if_neg hng, if_neg hng]
    obtain ⟨c1, c2⟩ := gCpl_is i w F hx
    obtain ⟨g1, g2, g3⟩ := gDv_rDv hd hd2 c2 w 0 (gCpl i w 0 F) (Nat.le_refl _) (by rw [z0, Int.ediv_eq_zero_of_lt (by omega) (by omega)]; rfl) (fun _ _ => rfl) (fun _ _ => rfl) (fun t a b => by omega)
    obtain ⟨k1, k2⟩ := gCpl_is i w _ (show rIs w (gDv i d w 0 (gCpl i w 0 F) i) ((-x - 1) / d.toInt) from fun t ht => g2 t ht)
    have e := lm_dm (-x - 1) d.toInt
    have b0 := Int.emod_nonneg (-x - 1) (show d.toInt ≠ 0 by omega)
    have b1 := Int.emod_lt_of_pos (-x - 1) (show 0 < d.toInt by omega)
    obtain ⟨u1, u2⟩ := lm_uq (x := x) (m := d.toInt) (q := -((-x - 1) / d.toInt) - 1) (r := d.toInt - 1 - (-x - 1) % d.toInt) (by omega) (by grind) (by omega) (by omega)
    refine ⟨fun j hj => (k1 j hj).trans ((g1 j hj).trans (c1 j hj)), ?_, ?_⟩
    · rw [u1]; exact k2
    · rw [u2, Int64.toInt_sub, Int64.toInt_sub, g3]
      have o : (1 : Int64).toInt = 1 := rfl
      rw [o, Int.bmod_eq_of_le (n := d.toInt - 1) (by omega) (by omega), Int.bmod_eq_of_le (by omega) (by omega)]
  · have hng : rNeg w (F i) = 0 := (rNeg_0 hw.1 hx hc).mpr hn
    rw [if_pos hng, if_pos hng]
    obtain ⟨g1, g2, g3⟩ := gDv_rDv hd hd2 hx w 0 F (Nat.le_refl _) (by rw [z0, Int.ediv_eq_zero_of_lt (by omega) (by omega)]; rfl) (fun _ _ => rfl) (fun _ _ => rfl) (fun t a b => by omega)
    exact ⟨g1, fun t ht => g2 t ht, g3⟩
theorem rWid_is {w : Nat} {f : Nat → Int32} {x : Int} (hw : 1 ≤ w ∧ w ≤ 256) (h : rIs w f x) (hc : cN bB w x) (rWid : Nat → (Nat → Int32) → Nat → Int32) (hW : ∀ k, rWid w f k = if k < w then f k else rAt w f (nI w)) (n : Nat) : rIs n (rWid w f) x := by
  intro k hk
  rw [hW]
  by_cases hkw : k < w
  · rw [if_pos hkw]; exact h k hkw
  · rw [if_neg hkw, rAt_is hw h hc (by omega), lm_top bB0 (cN_in bB0 hc) (Nat.le_refl _), lm_top bB0 (cN_in bB0 hc) (by omega)]
/-! comparing -/
theorem jCmp_is (a b : Int32) : jCmp (rUn a) (rUn b) = sI (dI a - dI b) := by
  have ha := uN_un a
  have hb := uN_un b
  have a1 := dI_1 a
  have b1 := dI_1 b
  have ia := uN_int (rUn a)
  have ib := uN_int (rUn b)
  rw [if_pos (by omega)] at ia ib
  unfold jCmp sI
  by_cases h : 0 ≤ lg_cmp (rUn a) (rUn b)
  · rw [if_pos h]
    rw [lg_cmp_ge, Int64.le_iff_toInt_le] at h
    rw [if_neg (show ¬ dI a - dI b < 0 by omega)]
    by_cases h2 : lg_cmp (rUn a) (rUn b) = 0
    · rw [if_pos h2]
      rw [lg_cmp_eq] at h2
      rw [h2] at ha
      rw [if_pos (by omega)]
    · rw [if_neg h2, if_neg]
      intro z
      apply h2
      rw [lg_cmp_eq, ← Int64.toInt_inj]
      omega
  · rw [if_neg h]
    rw [lg_cmp_ge, Int64.le_iff_toInt_le] at h
    rw [if_pos (by omega)]
theorem sI_0 (x : Int) : sI x = 0 ↔ x = 0 := by
  unfold sI
  by_cases h : x < 0
  · rw [if_pos h]; exact ⟨fun z => absurd z (by decide), fun z => by omega⟩
  · rw [if_neg h]
    by_cases h2 : x = 0
    · rw [if_pos h2]; exact ⟨fun _ => h2, fun _ => by decide⟩
    · rw [if_neg h2]; exact ⟨fun z => absurd z (by decide), fun z => absurd z h2⟩
theorem sI_n {x : Int} (h : x < 0) : sI x = -1 := if_pos h
theorem sI_p {x : Int} (h : 0 < x) : sI x = nI 1 := by unfold sI; rw [if_neg (by omega), if_neg (by omega)]
theorem sI_c {x y : Int} (h1 : x < 0 ↔ y < 0) (h2 : x = 0 ↔ y = 0) : sI x = sI y := by
  unfold sI
  simp only [h1, h2]
theorem rOrdL_is {wi wj : Nat} {fi fj : Nat → Int32} {x y : Int} (hi : 1 ≤ wi ∧ wi ≤ 256) (hj : 1 ≤ wj ∧ wj ≤ 256) (hx : rIs wi fi x) (hy : rIs wj fj y) (hcx : cN bB wi x) (hcy : cN bB wj y) : ∀ n, n < 2 ^ 31 → rOrdL wi wj fi fj n = sI (x % bB ^ n - y % bB ^ n) := by
  intro n
  induction n with
  | zero => intro _; simp [rOrdL, sI, Int.emod_one]
  | succ n ih =>
    intro hn
    unfold rOrdL
    rw [jCmp_is, rAt_is hi hx hcx (by omega), rAt_is hj hy hcy (by omega), ih (by omega)]
    have hp := lm_pw bB0 n
    have x0 := Int.emod_nonneg x (show bB ^ n ≠ 0 by omega)
    have x1 := Int.emod_lt_of_pos x hp
    have y0 := Int.emod_nonneg y (show bB ^ n ≠ 0 by omega)
    have y1 := Int.emod_lt_of_pos y hp
    rw [lm_md bB0 x, lm_md bB0 y]
    generalize lm_lb bB x n = a
    generalize lm_lb bB y n = b
    have e : x % bB ^ n + bB ^ n * a - (y % bB ^ n + bB ^ n * b) = x % bB ^ n - y % bB ^ n + bB ^ n * (a - b) := by grind
    rw [e]
    by_cases h : a - b = 0
    · rw [if_pos ((sI_0 _).mpr h), h, Int.mul_zero, Int.add_zero]
    · rw [if_neg (fun z => h ((sI_0 _).mp z))]
      generalize x % bB ^ n = s at *
      generalize y % bB ^ n = t at *
      generalize a - b = c at *
      rcases Int.lt_or_gt_of_ne h with h6 | h6
      · have := Int.mul_le_mul_of_nonneg_left (show c ≤ -1 by omega) (Int.le_of_lt hp)
        rw [sI_n h6, sI_n (by omega)]
      · have := Int.mul_le_mul_of_nonneg_left (show 1 ≤ c by omega) (Int.le_of_lt hp)
        rw [sI_p h6, sI_p (by omega)]
theorem rOrd_is {wi wj : Nat} {fi fj : Nat → Int32} {x y : Int} (hi : 1 ≤ wi ∧ wi ≤ 256) (hj : 1 ≤ wj ∧ wj ≤ 256) (hx : rIs wi fi x) (hy : rIs wj fj y) (hcx : cN bB wi x) (hcy : cN bB wj y) : rOrd wi wj fi fj = sI (x - y) := by
  unfold rOrd
  have c1 : cN bB (max wi wj) x := cN_mono bB0 hcx (by omega)
  have c2 : cN bB (max wi wj) y := cN_mono bB0 hcy (by omega)
  have i1 := cN_in bB0 c1
  have i2 := cN_in bB0 c2
  have hp := lm_pw bB0 (max wi wj)
  rw [rNeg_is hi.1 hx hcx, rNeg_is hj.1 hy hcy, rOrdL_is hi hj hx hy hcx hcy _ (by omega)]
  have ex : x % bB ^ (max wi wj) = if x < 0 then x + bB ^ (max wi wj) else x := by
    by_cases h : x < 0
    · rw [if_pos h]; exact (lm_uq (m := bB ^ (max wi wj)) (q := -1) hp (by omega) (by omega) (by omega)).2
    · rw [if_neg h]; exact Int.emod_eq_of_lt (by omega) (by omega)
  have ey : y % bB ^ (max wi wj) = if y < 0 then y + bB ^ (max wi wj) else y := by
    by_cases h : y < 0
    · rw [if_pos h]; exact (lm_uq (m := bB ^ (max wi wj)) (q := -1) hp (by omega) (by omega) (by omega)).2
    · rw [if_neg h]; exact Int.emod_eq_of_lt (by omega) (by omega)
  rw [ex, ey]
  generalize bB ^ (max wi wj) = P at *
  by_cases h1 : x < 0 <;> by_cases h2 : y < 0 <;> simp only [h1, h2, if_true, if_false]
  · apply sI_c <;> omega
  · rw [if_neg (by decide), if_neg (by decide), sI_n (by omega)]
  · rw [if_neg (by decide), if_pos (by decide), sI_p (by omega)]
