/-! bits of a buffer -/
theorem bH_2 (n p : Nat) : (2 : Int) ^ (16 * n + p) = bH ^ n * 2 ^ p := by
  rw [Int.pow_add, Int.pow_mul]
  rfl
theorem lm_bitH {q : Int} {p : Nat} (hp : p < 16) : q % bH / 2 ^ p % 2 = q / 2 ^ p % 2 := by
  have hP := p2_0 p
  have e := lm_dm q bH
  have hR : bH = 2 ^ p * (2 * 2 ^ (15 - p)) := by
    have h1 : (2 : Int) * 2 ^ (15 - p) = 2 ^ (16 - p) := by
      rw [show 16 - p = 15 - p + 1 by omega, Int.pow_succ, Int.mul_comm]
    rw [h1, ← Int.pow_add, show p + (16 - p) = 16 by omega]
    rfl
  have h : q = q % bH + 2 ^ p * (2 * (2 ^ (15 - p) * (q / bH))) := by
    have h2 : 2 ^ p * (2 * (2 ^ (15 - p) * (q / bH))) = 2 ^ p * (2 * 2 ^ (15 - p)) * (q / bH) := by grind
    rw [h2, ← hR]
    omega
  conv => rhs; rw [h]
  rw [Int.add_mul_ediv_left _ _ (by omega), Int.add_mul_emod_self_left]
theorem mBit_is {z : Nat → Nat} {b : Nat} {M : Int} (h : zIs z b M) {k : Nat} (hk : k < 17600) : (mBit z b k : Int) = M / 2 ^ k % 2 := by
  unfold mBit
  have h1 := h.2.2 (k / 16) (by omega)
  rw [Int.natCast_emod, Int.natCast_ediv, h1, show ((2 ^ (k % 16) : Nat) : Int) = 2 ^ (k % 16) from Int.natCast_pow 2 _]
  unfold lm_lb
  show _ % (2 : Int) = _
  rw [lm_bitH (Nat.mod_lt _ (by decide)), Int.ediv_ediv_of_nonneg (Int.le_of_lt (lm_pw bH0 _)), ← bH_2]
  congr 3
  omega
theorem mLenL_is {a L : Nat} (h : lgI a L) (ha : a < 65536) : ∀ m n, n + m = 16 → n ≤ L + 1 → mLenL a m n = L + 1 := by
  have hL := lgI_lt h (s := 16) ha
  intro m
  induction m with
  | zero =>
    intro n hn h1
    unfold mLenL
    omega
  | succ m ih =>
    intro n hn h1
    unfold mLenL
    have hp := Nat.two_pow_pos n
    by_cases h0 : a / 2 ^ n = 0
    · rw [if_pos h0]
      have : a < 2 ^ n := by
        rcases Nat.div_eq_zero_iff.mp h0 with q | q <;> omega
      have := lgI_lt h this
      omega
    · rw [if_neg h0]
      have : 2 ^ n ≤ a := by
        rcases Nat.lt_or_ge a (2 ^ n) with q | q
        · exact absurd (Nat.div_eq_of_lt q) h0
        · exact q
      have := lgI_ge h this
      exact ih (n + 1) (by omega) (by omega)
theorem isL_dig {V d : Int} {n L : Nat} {s : Nat} {P : Int} (hP : P = 2 ^ s) (hV0 : 0 ≤ V) (hV1 : V < P) (hd : 2 ^ L ≤ d) (hd2 : d < 2 ^ (L + 1)) (hn : n = s + L + 1) : isL (V + P * d) n := by
  have hp : 0 < P := by rw [hP]; exact p2_0 s
  have m1 := Int.mul_le_mul_of_nonneg_left hd (Int.le_of_lt hp)
  have m2 := Int.mul_le_mul_of_nonneg_left (show d + 1 ≤ 2 ^ (L + 1) by omega) (Int.le_of_lt hp)
  have e1 : P * 2 ^ L = 2 ^ (s + L) := by rw [hP, Int.pow_add]
  have e2 : P * 2 ^ (L + 1) = 2 ^ (s + L + 1) := by rw [hP, Nat.add_assoc, Int.pow_add 2 s (L + 1)]
  rw [e1] at m1
  rw [e2, Int.mul_add, Int.mul_one] at m2
  subst hn
  exact ⟨by omega, Or.inr (by rw [Nat.add_sub_cancel]; omega)⟩
theorem mBits_go {z : Nat → Nat} {b : Nat} {M : Int} (h : zIs z b M) : ∀ n, n ≤ 1100 → isL (M % bH ^ n) (mBitsAt z b (mTop z b n)) := by
  intro n
  induction n with
  | zero => exact fun _ => by simp [isL, Int.emod_one, mTop, mBitsAt]
  | succ n ih =>
    intro hn
    have hd := h.2.2 n (by omega)
    have hp := lm_pw bH0 n
    rw [lm_md bH0, ← hd]
    unfold mTop
    by_cases h0 : z (1100 * b + n) = 0
    · rw [if_pos h0, h0]
      have := ih (by omega)
      rw [show M % bH ^ n + bH ^ n * ((0 : Nat) : Int) = M % bH ^ n by omega]
      exact this
    · rw [if_neg h0]
      obtain ⟨L, hL⟩ := lgI_ex h0
      have hlt : z (1100 * b + n) < 65536 := by
        have := lm_lb1 bH0 M n
        rw [← hd] at this
        unfold bH at this
        omega
      show isL _ (16 * n + mLenL (z (1100 * b + n)) 16 0)
      rw [mLenL_is hL hlt 16 0 (by omega) (by omega)]
      refine isL_dig (L := L) (s := 16 * n) ?_ (Int.emod_nonneg _ (by omega)) (Int.emod_lt_of_pos _ hp) ?_ ?_ (by omega)
      · have := bH_2 n 0
        rw [Int.pow_zero, Int.mul_one, Nat.add_zero] at this
        exact this.symm
      · have := hL.1
        have e : ((2 ^ L : Nat) : Int) = 2 ^ L := Int.natCast_pow 2 L
        omega
      · have := hL.2
        have e : ((2 ^ (L + 1) : Nat) : Int) = 2 ^ (L + 1) := Int.natCast_pow 2 (L + 1)
        omega
theorem mBits_is {z : Nat → Nat} {b : Nat} {M : Int} (h : zIs z b M) : isL M (mBits z b) := by
  have := mBits_go h cZ (by rw [cZ_eq]; exact Nat.le_refl _)
  unfold mBits
  rw [show M % bH ^ cZ = M by rw [cZ_eq]; exact Int.emod_eq_of_lt h.1 h.2.1] at this
  exact this
theorem bH_17600 : bH ^ 1100 = 2 ^ 17600 := by
  have := bH_2 1100 0
  rw [Int.pow_zero, Int.mul_one] at this
  exact this.symm
theorem p2_lt {s t : Nat} (h : (2 : Int) ^ s < 2 ^ t) : s < t := by
  rcases Nat.lt_or_ge s t with q | q
  · exact q
  · have := p2_le q
    omega
/-- a number over zero ends in zeros -/
theorem tzI_ex {M : Int} (h : M ≠ 0) : ∃ t, tzI M t := by
  obtain ⟨t, m, e⟩ := two_odd M.natAbs (by omega)
  have e2 : (M.natAbs : Int) = 2 ^ t + 2 ^ (t + 1) * m := by
    rw [e, Int.natCast_mul, Int.natCast_pow, Int.pow_succ]
    show (2 : Int) ^ t * ((2 * m + 1 : Nat) : Int) = _
    push_cast
    grind
  have hp := p2_0 t
  refine ⟨t, ?_⟩
  unfold tzI
  rcases Int.lt_or_le M 0 with hM | hM
  · refine (lm_uq (m := 2 ^ (t + 1)) (q := -(m : Int) - 1) (p2_0 _) ?_ (by omega) ?_).2
    · have : M = -(2 ^ t + 2 ^ (t + 1) * (m : Int)) := by omega
      rw [this, Int.pow_succ]
      grind
    · rw [Int.pow_succ]; omega
  · refine (lm_uq (m := 2 ^ (t + 1)) (q := (m : Int)) (p2_0 _) (by omega) (by omega) ?_).2
    rw [Int.pow_succ]; omega
theorem tzI_neg {M : Int} {t : Nat} (h : tzI M t) : tzI (-M) t := by
  unfold tzI at *
  have e := lm_dm M (2 ^ (t + 1))
  have hp := p2_0 t
  rw [h] at e
  refine (lm_uq (m := 2 ^ (t + 1)) (q := -(M / 2 ^ (t + 1)) - 1) (p2_0 _) ?_ (by omega) (by rw [Int.pow_succ]; omega)).2
  have e2 : (2 : Int) ^ (t + 1) = 2 ^ t * 2 := Int.pow_succ _ _
  rw [Int.mul_sub, Int.mul_one, Int.mul_neg]
  omega
theorem tzI_abs {x : Int} {t : Nat} : tzI (x.natAbs : Int) t ↔ tzI x t := by
  rcases Int.lt_or_le x 0 with h | h
  · rw [show (x.natAbs : Int) = -x by omega]
    constructor
    · intro q; have := tzI_neg q; rwa [Int.neg_neg] at this
    · exact tzI_neg
  · rw [show (x.natAbs : Int) = x by omega]
theorem tzI_bits {M : Int} {t : Nat} (h : tzI M t) : M / 2 ^ t % 2 = 1 ∧ ∀ k, k < t → M / 2 ^ k % 2 = 0 := by
  unfold tzI at h
  have e := lm_dm M (2 ^ (t + 1))
  have hp := p2_0 t
  rw [h] at e
  have e2 : M = 2 ^ t * (2 * (M / 2 ^ (t + 1)) + 1) := by
    rw [Int.pow_succ] at e
    rw [Int.pow_succ]
    grind
  generalize M / 2 ^ (t + 1) = q at *
  constructor
  · rw [e2, Int.mul_ediv_cancel_left _ (by omega)]
    omega
  · intro k hk
    obtain ⟨j, rfl⟩ : ∃ j, t = k + 1 + j := ⟨t - k - 1, by omega⟩
    have hk0 := p2_0 k
    rw [e2, Int.pow_add, Int.pow_succ, show (2 : Int) ^ k * 2 * 2 ^ j * (2 * q + 1) = 2 ^ k * (2 * (2 ^ j * (2 * q + 1))) by grind, Int.mul_ediv_cancel_left _ (by omega), Int.mul_emod_right]
theorem tzI_lt {z : Nat → Nat} {b : Nat} {M : Int} (h : zIs z b M) {t : Nat} (ht : tzI M t) : t < 17600 := by
  apply p2_lt
  rw [← bH_17600]
  have h0 := h.1
  have h1 := h.2.1
  unfold tzI at ht
  have e := lm_dm M (2 ^ (t + 1))
  have hq : 0 ≤ 2 ^ (t + 1) * (M / 2 ^ (t + 1)) := Int.mul_nonneg (Int.le_of_lt (p2_0 _)) (Int.ediv_nonneg h0 (Int.le_of_lt (p2_0 _)))
  omega
theorem mLow_is {z : Nat → Nat} {b : Nat} {M : Int} (h : zIs z b M) {t : Nat} (ht : tzI M t) : mLow z b t := by
  have hl := tzI_lt h ht
  obtain ⟨b1, b2⟩ := tzI_bits ht
  refine ⟨hl, ?_, fun k hk => ?_, ?_⟩
  · have := mBit_is h hl
    rw [b1] at this
    omega
  · have := mBit_is h (k := k) (by omega)
    rw [b2 k hk] at this
    omega
  · have hb := mBits_is h
    rcases Nat.eq_zero_or_pos (mBits z b) with q | q
    · exfalso
      rw [q] at hb
      have := hb.1
      have := h.1
      exact tzI_nz ht (by rw [Int.pow_zero] at *; omega)
    · exact q
theorem mLenO_is {sg : Nat → Int32} {z : Nat → Nat} {b t : Nat} {x : Int} (h : bV sg z b x) (ht : x < 0 → tzI x t) : isL (mgI x) (mLenO sg z b t) := by
  have hb := mBits_is h.1
  have hg := sI_ge x
  unfold mLenO mgI
  rw [h.2]
  by_cases hx : x < 0
  · rw [if_neg (fun q => hg.mp q hx), if_pos hx]
    have ht := tzI_abs.mpr (ht hx)
    have hM : (x.natAbs : Int) = -x := by omega
    rw [hM] at hb ht
    have hl := mLow_is h.1 (tzI_abs.mpr (tzI_abs.mp (by rw [hM]; exact ht)))
    have h1 := hl.2.2.2
    rcases hb.2 with q | q
    · omega
    · have hlt := hb.1
      obtain ⟨n, hn⟩ : ∃ n, mBits z b = n + 1 := ⟨mBits z b - 1, by omega⟩
      rw [hn] at hlt q ⊢
      rw [Nat.add_sub_cancel] at q ⊢
      by_cases htn : t = n
      · rw [if_pos htn]
        subst htn
        unfold tzI at ht
        rw [Int.emod_eq_of_lt (by omega) hlt] at ht
        refine ⟨by omega, ?_⟩
        rcases Nat.eq_zero_or_pos t with q2 | q2
        · exact Or.inl q2
        · right
          obtain ⟨k, rfl⟩ : ∃ k, t = k + 1 := ⟨t - 1, by omega⟩
          rw [Nat.add_sub_cancel]
          rw [Int.pow_succ] at ht
          have := p2_0 k
          omega
      · rw [if_neg htn]
        refine ⟨by omega, Or.inr ?_⟩
        rw [Nat.add_sub_cancel]
        rcases Int.lt_or_eq_of_le q with q3 | q3
        · omega
        · exfalso
          apply htn
          refine tzI_uq ht ?_
          unfold tzI
          rw [Int.emod_eq_of_lt (by omega) hlt]
          exact q3.symm
  · rw [if_pos (hg.mpr hx), if_neg hx]
    rw [show (x.natAbs : Int) = x by omega] at hb
    exact hb
theorem isL_cN {x : Int} {n w : Nat} (hw : 1 ≤ w) (h : isL (mgI x) n) : n < 32 * w ↔ cN bB w x := by
  have e : bB ^ w = 2 * 2 ^ (32 * w - 1) := by
    have := bB_2 w 0
    rw [Int.pow_zero, Int.mul_one, Nat.add_zero] at this
    rw [← this, show 32 * w = 32 * w - 1 + 1 by omega, Int.pow_succ]
    simp only [Nat.add_sub_cancel]
    omega
  have e1 : cN bB w x ↔ mgI x < 2 ^ (32 * w - 1) := by
    unfold cN mgI
    rw [e]
    split <;> omega
  rw [e1]
  constructor
  · intro q
    have := p2_le (s := n) (t := 32 * w - 1) (by omega)
    have := h.1
    omega
  · intro q
    rcases h.2 with q2 | q2
    · omega
    · have := p2_lt (s := n - 1) (t := 32 * w - 1) (by omega)
      omega
theorem mFits_is {sg : Nat → Int32} {w z : Nat → Nat} {r b t : Nat} {x : Int} (hw : 1 ≤ w r) (h : bV sg z b x) (ht : x < 0 → tzI x t) : (mFits sg w z r b t = 1 ∧ cN bB (w r) x) ∨ (mFits sg w z r b t = 0 ∧ ¬ cN bB (w r) x) := by
  have h1 := isL_cN hw (mLenO_is h ht)
  unfold mFits
  by_cases q : mLenO sg z b t < 16 * (2 * w r)
  · rw [if_pos q]
    exact Or.inl ⟨rfl, h1.mp (by omega)⟩
  · rw [if_neg q]
    exact Or.inr ⟨rfl, fun q2 => q (by have := h1.mpr q2; omega)⟩
/-! setting bits of buffer 1 -/
theorem or_bit {D p b : Nat} (hb : b ≤ 1) (h : D / 2 ^ p % 2 = 0) : D ||| b * 2 ^ p = D + b * 2 ^ p := by
  rcases (show b = 0 ∨ b = 1 by omega) with rfl | rfl
  · simp
  · rw [Nat.one_mul]
    have hp := Nat.two_pow_pos p
    have e1 := Nat.div_add_mod D (2 ^ p)
    have l1 := Nat.mod_lt D hp
    have e2 : D = 2 ^ (p + 1) * (D / 2 ^ p / 2) + D % 2 ^ p := by
      have : D / 2 ^ p = 2 * (D / 2 ^ p / 2) := by omega
      rw [Nat.pow_succ]
      conv => lhs; rw [← e1, this]
      grind
    generalize D / 2 ^ p / 2 = a at *
    generalize D % 2 ^ p = l at *
    have hlt : l < 2 ^ (p + 1) := by rw [Nat.pow_succ]; omega
    have hlt2 : 2 ^ p * 1 + l < 2 ^ (p + 1) := by rw [Nat.pow_succ]; omega
    rw [e2, Nat.two_pow_add_eq_or_of_lt hlt, Nat.or_assoc, Nat.or_comm l, show 2 ^ p ||| l = 2 ^ p * 1 ||| l by rw [Nat.mul_one], ← Nat.two_pow_add_eq_or_of_lt l1, ← Nat.two_pow_add_eq_or_of_lt hlt2, ← Nat.two_pow_add_eq_or_of_lt hlt]
    omega
theorem add_bit {x : Int} {j n : Nat} (hj : j < n) (h0 : 0 ≤ x) (h1 : x < 2 ^ n) (hb : x / 2 ^ j % 2 = 0) : x + 2 ^ j < 2 ^ n := by
  have hp := p2_0 j
  have e1 := lm_dm x (2 ^ j)
  have l1 := Int.emod_lt_of_pos x hp
  have l0 := Int.emod_nonneg x (show (2 : Int) ^ j ≠ 0 by omega)
  obtain ⟨k, rfl⟩ : ∃ k, n = j + (k + 1) := ⟨n - j - 1, by omega⟩
  rw [Int.pow_add, Int.pow_succ] at *
  generalize hq : x / 2 ^ j = q at *
  have hqlt : q < 2 ^ k * 2 := by
    rw [← hq, Int.ediv_lt_iff_lt_mul hp, Int.mul_comm]
    exact h1
  have : q + 2 ≤ 2 ^ k * 2 := by omega
  have := Int.mul_le_mul_of_nonneg_left this (Int.le_of_lt hp)
  rw [Int.mul_add] at this
  omega
theorem zSet {z : Nat → Nat} {M : Int} {j bt : Nat} (h : zIs z 1 M) (hj : j < 17600) (hb : bt ≤ 1) (h0 : M / 2 ^ j % 2 = 0) : zIs (va_up z (1100 + j / 16) (z (1100 + j / 16) ||| bt * 2 ^ (j % 16))) 1 (M + bt * 2 ^ j) ∧ zO z (va_up z (1100 + j / 16) (z (1100 + j / 16) ||| bt * 2 ^ (j % 16))) 1 := by
  have hM0 := h.1
  have hM1 := h.2.1
  have hpj := p2_0 j
  have hp16 : j % 16 < 16 := Nat.mod_lt _ (by decide)
  have hej : (2 : Int) ^ j = bH ^ (j / 16) * 2 ^ (j % 16) := by
    rw [← bH_2]
    congr 1
    omega
  have hd : (z (1100 + j / 16) : Int) = lm_lb bH M (j / 16) := h.2.2 (j / 16) (by omega)
  have hpq := lm_pw bH0 (j / 16)
  have hdb : lm_lb bH M (j / 16) / 2 ^ (j % 16) % 2 = 0 := by
    unfold lm_lb
    rw [lm_bitH hp16, Int.ediv_ediv_of_nonneg (Int.le_of_lt hpq), ← hej]
    exact h0
  have hdn : z (1100 + j / 16) / 2 ^ (j % 16) % 2 = 0 := by
    rw [← hd] at hdb
    have e : ((2 ^ (j % 16) : Nat) : Int) = 2 ^ (j % 16) := Int.natCast_pow 2 _
    rw [← e, ← Int.natCast_ediv] at hdb
    omega
  rw [or_bit hb hdn]
  have dl0 := lm_lb0 bH0 M (j / 16)
  have dl1 := lm_lb1 bH0 M (j / 16)
  have hda := add_bit (x := lm_lb bH M (j / 16)) (n := 16) hp16 dl0 dl1 hdb
  have hdb2 : lm_lb bH M (j / 16) + bt * 2 ^ (j % 16) < bH := by
    rcases (show bt = 0 ∨ bt = 1 by omega) with rfl | rfl
    · simp only [Int.natCast_zero, Int.zero_mul, Int.add_zero]; exact dl1
    · simp only [Int.natCast_one, Int.one_mul]; exact hda
  have hq0 := p2_0 (j % 16)
  have hbt0 : 0 ≤ (bt : Int) * 2 ^ (j % 16) := Int.mul_nonneg (by omega) (by omega)
  have hX : M + bt * 2 ^ j = M + bH ^ (j / 16) * (bt * 2 ^ (j % 16)) := by rw [hej]; grind
  have hbt1 : 0 ≤ (bt : Int) * 2 ^ j := Int.mul_nonneg (by omega) (by omega)
  refine ⟨⟨by omega, ?_, fun q hq => ?_⟩, fun p hp => va_up_ne _ _ (by omega)⟩
  · rw [bH_17600] at hM1 ⊢
    have := add_bit hj hM0 hM1 h0
    rcases (show bt = 0 ∨ bt = 1 by omega) with rfl | rfl
    · simp only [Int.natCast_zero, Int.zero_mul, Int.add_zero]; exact hM1
    · simp only [Int.natCast_one, Int.one_mul]; exact this
  · rw [hX]
    rcases Nat.lt_trichotomy q (j / 16) with hlt | heq | hgt
    · rw [va_up_ne _ _ (by omega), h.2.2 q hq]
      refine (lm_ext' bH0 (n := j / 16) ?_ q hlt).symm
      rw [Int.add_mul_emod_self_left]
    · subst heq
      rw [show 1100 * 1 + j / 16 = 1100 + j / 16 by omega, va_up_self]
      unfold lm_lb
      rw [Int.add_mul_ediv_left _ _ (by omega)]
      rw [Int.natCast_add, Int.natCast_mul, hd, show ((2 ^ (j % 16) : Nat) : Int) = 2 ^ (j % 16) from Int.natCast_pow 2 _]
      rw [← Int.emod_add_emod]
      exact (Int.emod_eq_of_lt (by unfold lm_lb at dl0; omega) hdb2).symm
    · rw [va_up_ne _ _ (by omega), h.2.2 q hq]
      obtain ⟨v, rfl⟩ : ∃ v, q = j / 16 + (1 + v) := ⟨q - j / 16 - 1, by omega⟩
      rw [← Nat.add_assoc, lm_sh bH0 _ (j / 16 + 1), lm_sh bH0 _ (j / 16 + 1), lm_dd bH0, lm_dd bH0, Int.add_mul_ediv_left _ _ (by omega)]
      congr 1
      have e := lm_dm (M / bH ^ (j / 16)) bH
      have hh : lm_lb bH M (j / 16) = M / bH ^ (j / 16) % bH := rfl
      generalize M / bH ^ (j / 16) = a at *
      rw [hh] at hdb2 dl0
      refine (lm_uq (m := bH) (r := a % bH + bt * 2 ^ (j % 16)) bH0 ?_ (by omega) hdb2).1.symm
      omega
