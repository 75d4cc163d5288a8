theorem lm_bit {q : Int} {p : Nat} (hp : p < 32) : q % bB / 2 ^ p % 2 = q / 2 ^ p % 2 := by
  have hP := p2_0 p
  have e := lm_dm q bB
  have hR : bB = 2 ^ p * (2 * 2 ^ (31 - p)) := by
    have : (2 : Int) * 2 ^ (31 - p) = 2 ^ (32 - p) := by
      rw [show 32 - p = 31 - p + 1 by omega, Int.pow_succ, Int.mul_comm]
    rw [this]
    exact (p2_R hp).symm
  have h : q = q % bB + 2 ^ p * (2 * (2 ^ (31 - p) * (q / bB))) := by
    have : 2 ^ p * (2 * (2 ^ (31 - p) * (q / bB))) = bB * (q / bB) := by
      conv => rhs; rw [hR]
      rw [← hR]
      grind
    omega
  conv => rhs; rw [h]
  rw [Int.add_mul_ediv_left _ _ (by omega), Int.add_mul_emod_self_left]
theorem rBit_is {w : Nat} {f : Nat → Int32} {x : Int} (hw : 1 ≤ w ∧ w ≤ 256) (h : rIs w f x) (hc : cN bB w x) {b : Nat} (hb : b < 100000) : dI (rBit w f (nI b)) = x / 2 ^ b % 2 := by
  unfold rBit
  rw [pk_shrN (by omega) _ 5 (by decide), pk_andN (by omega) 5 (by decide), bit1]
  have hj := j_iu_n (rAt w f (nI (b / 2 ^ 5))) (n := b % 2 ^ 5) (Nat.mod_lt _ (by decide))
  rw [rAt_is hw h hc (by omega)] at hj
  rw [dI_nI (by omega)]
  unfold dI at hj
  rw [Int.natCast_emod, hj]
  unfold lm_lb
  show _ % (2 : Int) = _
  rw [lm_bit (Nat.mod_lt _ (by decide)), Int.ediv_ediv_of_nonneg (Int.le_of_lt (lm_pw bB0 _)), ← bB_2]
  congr 3
  omega
/-- t zeros at the low end -/
def tzI (x : Int) (t : Nat) : Prop := x % 2 ^ (t + 1) = 2 ^ t
theorem p2_dvd {s t : Nat} (h : s ≤ t) : (2 : Int) ^ s ∣ 2 ^ t := by
  obtain ⟨k, rfl⟩ : ∃ k, t = s + k := ⟨t - s, by omega⟩
  rw [Int.pow_add]
  exact Int.dvd_mul_right _ _
theorem tzI_uq {x : Int} {s t : Nat} (hs : tzI x s) (ht : tzI x t) : s = t := by
  have key : ∀ s t, s < t → tzI x s → tzI x t → False := by
    intro s t h hs ht
    unfold tzI at hs ht
    have h1 : x % 2 ^ (t + 1) % 2 ^ (s + 1) = x % 2 ^ (s + 1) := Int.emod_emod_of_dvd _ (p2_dvd (by omega))
    rw [ht, hs, Int.emod_eq_zero_of_dvd (p2_dvd (by omega))] at h1
    have := p2_0 s
    omega
  rcases Nat.lt_trichotomy s t with h | h | h
  · exact (key s t h hs ht).elim
  · exact h
  · exact (key t s h ht hs).elim
theorem tzI_nz {x : Int} {t : Nat} (h : tzI x t) : x ≠ 0 := by
  intro z
  subst z
  unfold tzI at h
  rw [Int.zero_emod] at h
  have := p2_0 t
  omega
theorem two_odd : ∀ X : Nat, X ≠ 0 → ∃ t m, X = 2 ^ t * (2 * m + 1) := by
  intro X
  induction X using Nat.strongRecOn with
  | _ X ih =>
    intro h
    by_cases ho : X % 2 = 1
    · exact ⟨0, X / 2, by rw [Nat.pow_zero]; omega⟩
    · obtain ⟨t, m, e⟩ := ih (X / 2) (by omega) (by omega)
      refine ⟨t + 1, m, ?_⟩
      have : X = 2 * (X / 2) := by omega
      rw [this, e, Nat.pow_succ]
      grind
theorem tz_msk {X t m : Nat} (h : X = 2 ^ t * (2 * m + 1)) (hX : X < 2 ^ 32) (ht : t < 32) : (2 ^ 32 - (X + 1)) &&& (X - 1) = 2 ^ t - 1 := by
  have e1 : X = 2 ^ (t + 1) * m + 2 ^ t := by rw [h, Nat.pow_succ]; grind
  have hp : 0 < 2 ^ t := Nat.two_pow_pos t
  have e2 : X - 1 = 2 ^ (t + 1) * m + (2 ^ t - 1) := by omega
  have hlt : 2 ^ t < 2 ^ (t + 1) := by rw [Nat.pow_succ]; omega
  apply Nat.eq_of_testBit_eq
  intro i
  rw [Nat.testBit_and, Nat.testBit_two_pow_sub_succ hX, e2, Nat.testBit_two_pow_mul_add _ (by omega), e1, Nat.testBit_two_pow_mul_add _ hlt, Nat.testBit_two_pow_sub_one, Nat.testBit_two_pow]
  by_cases hi : i < t + 1
  · rw [if_pos hi, if_pos hi]
    by_cases h2 : i < t
    · have : i < 32 := by omega
      have : t ≠ i := by omega
      simp [*]
    · simp [h2]
  · rw [if_neg hi, if_neg hi]
    have : ¬ i < t := by omega
    simp [this]
theorem jNtz_t : ∀ t, t < 32 → (if 0 < nI (2 ^ t - 1) then jt0 (nI (2 ^ t - 1)) (nI 1) else nI (2 ^ t - 1) &&& nI 32) = nI t := by decide +kernel
theorem jNtz_is (v : Int32) (hv : v ≠ 0) : ∃ t, t < 32 ∧ dI v % 2 ^ (t + 1) = 2 ^ t ∧ jNtz v = nI t := by
  have hX := v.toBitVec.isLt
  have h0 : v.toBitVec.toNat ≠ 0 := by
    intro z
    apply hv
    apply dI_eq0.mpr
    unfold dI
    rw [z]; rfl
  obtain ⟨t, m, e⟩ := two_odd _ h0
  have ht : t < 32 := by
    rcases Nat.lt_or_ge t 32 with h | h
    · exact h
    · have h1 : 2 ^ 32 ≤ 2 ^ t := Nat.pow_le_pow_right (by decide) h
      have h2 : 2 ^ t * 1 ≤ 2 ^ t * (2 * m + 1) := Nat.mul_le_mul_left _ (by omega)
      omega
  refine ⟨t, ht, ?_, ?_⟩
  · unfold dI
    have e2 : ((v.toBitVec.toNat : Nat) : Int) = 2 ^ t + 2 ^ (t + 1) * m := by
      rw [e, Int.natCast_mul, Int.natCast_pow, Int.pow_succ]
      show (2 : Int) ^ t * ((2 * m + 1 : Nat) : Int) = _
      push_cast
      grind
    rw [e2, Int.add_mul_emod_self_left]
    apply Int.emod_eq_of_lt (Int.le_of_lt (p2_0 t))
    rw [Int.pow_succ]
    have := p2_0 t
    omega
  · have hm : (v ^^^ (-1)) &&& (v - nI 1) = nI (2 ^ t - 1) := by
      apply dI_inj
      have h1 : dI ((v ^^^ (-1)) &&& (v - nI 1)) = (((v ^^^ (-1)).toBitVec.toNat &&& (v - nI 1).toBitVec.toNat : Nat) : Int) := by
        unfold dI
        show (((v ^^^ (-1)).toBitVec &&& (v - nI 1).toBitVec).toNat : Int) = _
        rw [BitVec.toNat_and]
      have h2 : (v ^^^ (-1)).toBitVec.toNat = 2 ^ 32 - (v.toBitVec.toNat + 1) := by
        have := dI_cpl v
        unfold dI at this
        omega
      have h3 : (v - nI 1).toBitVec.toNat = v.toBitVec.toNat - 1 := by
        have := dI_sub v (nI 1)
        rw [dI_nI (by decide)] at this
        unfold dI at this
        omega
      rw [h1, h2, h3, tz_msk e hX ht, dI_nI]
      have h1 : 2 ^ t ≤ 2 ^ 31 := Nat.pow_le_pow_right (by decide) (by omega)
      omega
    unfold jNtz
    rw [hm]
    exact jNtz_t t ht
theorem rTzL_is {w : Nat} {f : Nat → Int32} {x : Int} (hw : w ≤ 256) (h : rIs w f x) : ∀ n k, k + n = w → x % bB ^ k = 0 → (x % bB ^ w = 0 ∧ rTzL w f n k = nI (32 * w)) ∨ ∃ t, t < 32 * w ∧ tzI x t ∧ rTzL w f n k = nI t := by
  intro n
  induction n with
  | zero =>
    intro k hk hx
    have : k = w := by omega
    subst this
    exact Or.inl ⟨hx, rfl⟩
  | succ n ih =>
    intro k hk hx
    unfold rTzL
    by_cases h0 : f k = 0
    · rw [if_pos h0]
      refine ih (k + 1) (by omega) ?_
      rw [lm_md bB0, hx, ← h k (by omega), h0]
      show 0 + bB ^ k * (0 : Int) = 0
      omega
    · rw [if_neg h0]
      obtain ⟨t, ht, e1, e2⟩ := jNtz_is (f k) h0
      refine Or.inr ⟨32 * k + t, by omega, ?_, by rw [e2, nI_add]⟩
      have hp := lm_pw bB0 k
      have ex := lm_dm x (bB ^ k)
      rw [hx, Int.add_zero] at ex
      rw [h k (by omega)] at e1
      unfold lm_lb at e1
      unfold tzI
      rw [show 32 * k + t + 1 = 32 * k + (t + 1) by omega, bB_2, bB_2]
      generalize x / bB ^ k = q at *
      rw [← ex, Int.mul_emod_mul_of_pos _ _ hp]
      congr 1
      rw [← e1]
      exact (Int.emod_emod_of_dvd _ (by
        have : bB = 2 ^ 32 := rfl
        rw [this]
        exact p2_dvd (by omega))).symm
theorem rTz_is {w : Nat} {f : Nat → Int32} {x : Int} (hw : 1 ≤ w ∧ w ≤ 256) (h : rIs w f x) (hc : cN bB w x) : (x = 0 ∧ rTz w f = nI (32 * w)) ∨ ∃ t, t < 32 * w ∧ tzI x t ∧ rTz w f = nI t := by
  rcases rTzL_is hw.2 h w 0 (by omega) (by simp [Int.emod_one]) with ⟨h1, h2⟩ | h1
  · refine Or.inl ⟨cN_uq bB0 hc (y := 0) ?_ (by rw [h1]; simp), h2⟩
    have := lm_pw bB0 w
    unfold cN
    omega
  · exact Or.inr h1
/-! lengths -/
def lgI (X L : Nat) : Prop := 2 ^ L ≤ X ∧ X < 2 ^ (L + 1)
theorem lgI_ex {X : Nat} (h : X ≠ 0) : ∃ L, lgI X L := ⟨X.log2, Nat.log2_self_le h, Nat.lt_log2_self⟩
theorem lgI_lt {X L s : Nat} (h : lgI X L) (hs : X < 2 ^ s) : L < s := by
  rcases Nat.lt_or_ge L s with z | z
  · exact z
  · have : 2 ^ s ≤ 2 ^ L := Nat.pow_le_pow_right (by decide) z
    have := h.1
    omega
theorem lgI_ge {X L s : Nat} (h : lgI X L) (hs : 2 ^ s ≤ X) : s ≤ L := by
  rcases Nat.lt_or_ge L s with z | z
  · have : 2 ^ (L + 1) ≤ 2 ^ s := Nat.pow_le_pow_right (by decide) z
    have := h.2
    omega
  · exact z
theorem lgI_s {X L s : Nat} (h : lgI X L) (hs : 2 ^ s ≤ X) : lgI (X / 2 ^ s) (L - s) := by
  have hL := lgI_ge h hs
  obtain ⟨k, rfl⟩ : ∃ k, L = s + k := ⟨L - s, by omega⟩
  have hp := Nat.two_pow_pos s
  unfold lgI at *
  rw [Nat.add_sub_cancel_left]
  constructor
  · rw [Nat.le_div_iff_mul_le hp, Nat.mul_comm, ← Nat.pow_add]
    exact h.1
  · rw [Nat.div_lt_iff_lt_mul hp, Nat.mul_comm, ← Nat.pow_add, ← Nat.add_assoc]
    exact h.2
theorem jz_m (n : Nat) {s : Nat} (hs : s ≤ n) (z : Int32) (hz : z + nI s = 0) : nI n + z = nI (n - s) := by
  have : nI n = nI (n - s) + nI s := by rw [nI_add, Nat.sub_add_cancel hs]
  rw [this, Int32.add_assoc, Int32.add_comm (nI s), hz, Int32.add_zero]
theorem ju_n {X : Nat} (hX : X < 2 ^ 32) {k : Nat} (hk : k < 32) : j_iu (nI X) (nI k) = nI (X / 2 ^ k) := pk_ushrN hX (nI k) k (by
    revert k
    decide)
theorem jz4_is {X L n : Nat} (h : lgI X L) (hX : X < 2 ^ 2) (hn : 1 ≤ n) : jz4 (nI X) (nI n) = nI (n - L) := by
  unfold jz4
  rw [ju_n (by omega) (by decide), pk_sub (by omega)]
  congr 1
  have hl := lgI_lt h hX
  unfold lgI at h
  rcases (show L = 0 ∨ L = 1 by omega) with rfl | rfl <;> omega
theorem jz3_is {X L n : Nat} (h : lgI X L) (hX : X < 2 ^ 4) (hn : 3 ≤ n) : jz3 (nI X) (nI n) = nI (n - L) := by
  unfold jz3
  by_cases hc : X < 4
  · rw [if_pos (nI_lt hc (by decide))]
    exact jz4_is h hc (by omega)
  · have hs := lgI_s h (s := 2) (by omega)
    have := lgI_ge h (s := 2) (by omega)
    rw [if_neg (nI_nlt (by omega) (by omega)), ju_n (by omega) (by decide), jz_m n (s := 2) (by omega) _ (by decide), jz4_is hs (by omega) (by omega)]
    congr 1
    omega
theorem jz2_is {X L n : Nat} (h : lgI X L) (hX : X < 2 ^ 8) (hn : 7 ≤ n) : jz2 (nI X) (nI n) = nI (n - L) := by
  unfold jz2
  by_cases hc : X < 16
  · rw [if_pos (nI_lt hc (by decide))]
    exact jz3_is h hc (by omega)
  · have hs := lgI_s h (s := 4) (by omega)
    have := lgI_ge h (s := 4) (by omega)
    rw [if_neg (nI_nlt (by omega) (by omega)), ju_n (by omega) (by decide), jz_m n (s := 4) (by omega) _ (by decide), jz3_is hs (by omega) (by omega)]
    congr 1
    omega
theorem jz1_is {X L n : Nat} (h : lgI X L) (hX : X < 2 ^ 16) (hn : 15 ≤ n) : jz1 (nI X) (nI n) = nI (n - L) := by
  unfold jz1
  by_cases hc : X < 256
  · rw [if_pos (nI_lt hc (by decide))]
    exact jz2_is h hc (by omega)
  · have hs := lgI_s h (s := 8) (by omega)
    have := lgI_ge h (s := 8) (by omega)
    rw [if_neg (nI_nlt (by omega) (by omega)), ju_n (by omega) (by decide), jz_m n (s := 8) (by omega) _ (by decide), jz2_is hs (by omega) (by omega)]
    congr 1
    omega
theorem jz0_is {X L n : Nat} (h : lgI X L) (hX : X < 2 ^ 31) (hn : 31 ≤ n) : jz0 (nI X) (nI n) = nI (n - L) := by
  unfold jz0
  have e : (65536 : Int32) = nI 65536 := by decide
  rw [e]
  by_cases hc : X < 65536
  · rw [if_pos (nI_lt hc (by decide))]
    exact jz1_is h hc (by omega)
  · have hs := lgI_s h (s := 16) (by omega)
    have := lgI_ge h (s := 16) (by omega)
    rw [if_neg (nI_nlt (by omega) (by omega)), ju_n (by omega) (by decide), jz_m n (s := 16) (by omega) _ (by decide), jz1_is hs (by omega) (by omega)]
    congr 1
    omega
theorem jNlz_is (v : Int32) {L : Nat} (h : lgI v.toBitVec.toNat L) : L < 32 ∧ jNlz v = nI (31 - L) := by
  have hX := v.toBitVec.isLt
  have hL := lgI_lt h hX
  refine ⟨hL, ?_⟩
  have z0 : (0 : Int32).toInt = 0 := rfl
  have ht := dI_toInt v
  have hd : dI v = (v.toBitVec.toNat : Int) := rfl
  have hv : v = nI v.toBitVec.toNat := by
    apply dI_inj
    rw [dI_nI hX]; rfl
  have hne : v.toBitVec.toNat ≠ 0 := by
    have := h.1
    have := Nat.two_pow_pos L
    omega
  unfold jNlz
  by_cases h31 : v.toBitVec.toNat < 2 ^ 31
  · rw [if_pos (by rw [Int32.lt_iff_toInt_lt, z0, ht, if_pos (by omega)]; omega)]
    rw [hv]
    rw [hv] at h
    rw [pk_tn hX] at h
    exact jz0_is h h31 (by omega)
  · have := lgI_ge h (s := 31) (by omega)
    rw [if_neg (by rw [Int32.lt_iff_toInt_lt, z0, ht, if_neg (by omega)]; omega), if_neg (by intro z; apply hne; have := dI_eq0.mp z; omega)]
    congr 1
    omega
/-- the number whose bits count for the length -/
def mgI (x : Int) : Int := if x < 0 then -x - 1 else x
def isL (V : Int) (n : Nat) : Prop := V < 2 ^ n ∧ (n = 0 ∨ 2 ^ (n - 1) ≤ V)
theorem p2_le {s t : Nat} (h : s ≤ t) : (2 : Int) ^ s ≤ 2 ^ t := Int.le_of_dvd (p2_0 t) (p2_dvd h)
theorem isL_uq {V : Int} {m n : Nat} (h1 : isL V m) (h2 : isL V n) : m = n := by
  have key : ∀ m n, m < n → isL V m → isL V n → False := by
    intro m n h a b
    rcases b.2 with z | z
    · omega
    · have := p2_le (s := m) (t := n - 1) (by omega)
      have := a.1
      omega
  rcases Nat.lt_trichotomy m n with h | h | h
  · exact (key m n h h1 h2).elim
  · exact h
  · exact (key n m h h2 h1).elim
theorem rBlL_is {f : Nat → Int32} {a : Int32} {V : Int} {w : Nat} (hw : w ≤ 256) (h : ∀ k, k < w → dI (f k ^^^ a) = lm_lb bB V k) : ∀ n, n ≤ w → ∃ m, rBlL f a n = nI m ∧ isL (V % bB ^ n) m := by
  intro n
  induction n with
  | zero => exact fun _ => ⟨0, rfl, by simp [isL, Int.emod_one]⟩
  | succ n ih =>
    intro hn
    unfold rBlL
    have hd := h n (by omega)
    have hxor : f n = a ↔ f n ^^^ a = 0 := by
      constructor
      · intro z; rw [z]; exact Int32.xor_self
      · intro z
        have : (f n ^^^ a) ^^^ a = 0 ^^^ a := by rw [z]
        rw [Int32.xor_assoc, Int32.xor_self, Int32.xor_zero, Int32.zero_xor] at this
        exact this
    have hp := lm_pw bB0 n
    rw [lm_md bB0]
    by_cases h0 : f n = a
    · rw [if_pos h0]
      obtain ⟨m, h1, h2⟩ := ih (by omega)
      refine ⟨m, h1, ?_⟩
      rw [← hd, dI_eq0.mp (hxor.mp h0), Int.mul_zero, Int.add_zero]
      exact h2
    · rw [if_neg h0]
      have hne : dI (f n ^^^ a) ≠ 0 := fun z => h0 (hxor.mpr (dI_eq0.mpr z))
      have hne' : (f n ^^^ a).toBitVec.toNat ≠ 0 := by
        intro z; apply hne; unfold dI; rw [z]; rfl
      obtain ⟨L, hL⟩ := lgI_ex hne'
      obtain ⟨l1, l2⟩ := jNlz_is _ hL
      refine ⟨32 * n + L + 1, ?_, ?_⟩
      · rw [l2, pk_sub (by omega)]
        congr 1
        omega
      · rw [← hd]
        have b0 := Int.emod_nonneg V (show bB ^ n ≠ 0 by omega)
        have b1 := Int.emod_lt_of_pos V hp
        have c1 : (2 : Int) ^ L ≤ dI (f n ^^^ a) := by
          have := hL.1
          unfold dI
          have e : ((2 ^ L : Nat) : Int) = 2 ^ L := Int.natCast_pow 2 L
          omega
        have c2 : dI (f n ^^^ a) + 1 ≤ (2 : Int) ^ (L + 1) := by
          have := hL.2
          unfold dI
          have e : ((2 ^ (L + 1) : Nat) : Int) = 2 ^ (L + 1) := Int.natCast_pow 2 (L + 1)
          omega
        have m1 := Int.mul_le_mul_of_nonneg_left c1 (Int.le_of_lt hp)
        have m2 := Int.mul_le_mul_of_nonneg_left c2 (Int.le_of_lt hp)
        rw [← bB_2] at m1 m2
        rw [Int.mul_add, Int.mul_one] at m2
        refine ⟨?_, Or.inr ?_⟩
        · rw [Nat.add_assoc]
          omega
        · show (2 : Int) ^ (32 * n + L) ≤ _
          omega
theorem rBl_is {w : Nat} {f : Nat → Int32} {x : Int} (hw : 1 ≤ w ∧ w ≤ 256) (h : rIs w f x) (hc : cN bB w x) : ∃ n, rBl w f = nI n ∧ n < 32 * w ∧ isL (mgI x) n := by
  have hin := cN_in bB0 hc
  have ha : dI (rAt w f (nI w)) = if x < 0 then bB - 1 else 0 := by
    rw [rAt_is hw h hc (by omega), lm_top bB0 hin (Nat.le_refl _)]
  have hd : ∀ k, k < w → dI (f k ^^^ rAt w f (nI w)) = lm_lb bB (mgI x) k := by
    intro k hk
    unfold mgI
    by_cases hx : x < 0
    · rw [if_pos hx] at ha ⊢
      have : rAt w f (nI w) = -1 := dI_inj (ha.trans rfl)
      rw [this, dI_cpl, lm_cpl bB0, h k hk]
      rfl
    · rw [if_neg hx] at ha ⊢
      have : rAt w f (nI w) = 0 := dI_inj (ha.trans rfl)
      rw [this, Int32.xor_zero]
      exact h k hk
  obtain ⟨m, h1, h2⟩ := rBlL_is hw.2 hd w (Nat.le_refl _)
  have hV : 0 ≤ mgI x ∧ 2 * mgI x < bB ^ w := by
    have e := bB_ev hw.1
    unfold cN at hc
    unfold mgI
    split <;> omega
  rw [Int.emod_eq_of_lt hV.1 (by omega)] at h2
  refine ⟨m, h1, ?_, h2⟩
  rcases Nat.lt_or_ge m (32 * w) with z | z
  · exact z
  · exfalso
    rcases h2.2 with q | q
    · omega
    · have e1 : bB ^ w = 2 * 2 ^ (32 * w - 1) := by
        have := bB_2 w 0
        rw [Int.pow_zero, Int.mul_one, Nat.add_zero] at this
        rw [← this, show 32 * w = 32 * w - 1 + 1 by omega, Int.pow_succ]
        simp only [Nat.add_sub_cancel]
        omega
      have := p2_le (s := 32 * w - 1) (t := m - 1) (by omega)
      omega
theorem isL_in {x : Int} {n : Nat} (h : isL (mgI x) n) : -(2 ^ n) ≤ x ∧ x < 2 ^ n := by
  have h2 := h.1
  unfold mgI at h2
  have := p2_0 n
  split at h2 <;> omega
/-! rounding -/
def upI (x : Int) (b : Nat) : Prop := 1 ≤ b ∧ (2 ^ (b - 1) < x % 2 ^ b ∨ (x % 2 ^ b = 2 ^ (b - 1) ∧ x / 2 ^ b % 2 = 1))
theorem dI_b {v : Int32} {q : Int} (h : dI v = q % 2) : (v = 0 ↔ q % 2 = 0) ∧ (v = nI 1 ↔ q % 2 = 1) := by
  constructor
  · rw [dI_eq0, h]
  · constructor
    · intro z
      rw [z, dI_nI (by decide)] at h
      exact h.symm
    · intro z
      apply dI_inj
      rw [h, z, dI_nI (by decide)]
      rfl
theorem rUp_is {w : Nat} {f : Nat → Int32} {x : Int} (hw : 1 ≤ w ∧ w ≤ 256) (h : rIs w f x) (hc : cN bB w x) {b : Nat} (hb : b ≤ 8192) : rUp w f b = 0 ↔ ¬ upI x b := by
  unfold rUp
  by_cases hb0 : b = 0
  · rw [if_pos hb0]
    exact ⟨fun _ z => by have := z.1; omega, fun _ => by decide⟩
  · rw [if_neg hb0]
    obtain ⟨k, rfl⟩ : ∃ k, b = k + 1 := ⟨b - 1, by omega⟩
    obtain ⟨a1, a2⟩ := dI_b (rBit_is hw h hc (b := k) (by omega))
    obtain ⟨c1, c2⟩ := dI_b (rBit_is hw h hc (b := k + 1) (by omega))
    have hm := lm_md (B := 2) (by decide) x k
    have hP := p2_0 k
    have b0 := Int.emod_nonneg x (show (2 : Int) ^ k ≠ 0 by omega)
    have b1 := Int.emod_lt_of_pos x hP
    have hm' : x % 2 ^ (k + 1) = x % 2 ^ k + 2 ^ k * (x / 2 ^ k % 2) := hm
    have eup : upI x (k + 1) ↔ (2 ^ k < x % 2 ^ (k + 1) ∨ (x % 2 ^ (k + 1) = 2 ^ k ∧ x / 2 ^ (k + 1) % 2 = 1)) := by
      unfold upI
      rw [Nat.add_sub_cancel]
      exact ⟨fun z => z.2, fun z => ⟨by omega, z⟩⟩
    rw [eup, Nat.add_sub_cancel]
    by_cases hbit : rBit w f (nI k) = 0
    · rw [if_pos hbit]
      rw [a1.mp hbit, Int.mul_zero, Int.add_zero] at hm'
      refine ⟨fun _ z => ?_, fun _ => by decide⟩
      rcases z with z | ⟨z, -⟩ <;> omega
    · rw [if_neg hbit]
      have hb1 : x / 2 ^ k % 2 = 1 := by
        have := mt a1.mpr hbit
        omega
      rw [hb1, Int.mul_one] at hm'
      by_cases htz : rTz w f = nI k
      · rw [if_pos htz]
        have hz : x % 2 ^ (k + 1) = 2 ^ k := by
          rcases rTz_is hw h hc with ⟨z, e⟩ | ⟨t, ht, e1, e2⟩
          · exfalso
            subst z
            rw [Int.zero_ediv] at hb1
            simp at hb1
          · rw [e2] at htz
            have := (nI_eq (by omega) (by omega)).mp htz
            subst this
            exact e1
        by_cases hb2 : rBit w f (nI (k + 1)) = nI 1
        · rw [if_pos hb2]
          exact ⟨fun z => absurd z (by decide), fun z => absurd (Or.inr ⟨hz, c2.mp hb2⟩) z⟩
        · rw [if_neg hb2]
          refine ⟨fun _ z => ?_, fun _ => by decide⟩
          rcases z with z | ⟨-, z⟩
          · omega
          · exact hb2 (c2.mpr z)
      · rw [if_neg htz]
        refine ⟨fun z => absurd z (by decide), fun z => absurd (Or.inl ?_) z⟩
        rcases Int.lt_or_eq_of_le b0 with q | q
        · omega
        · exfalso
          apply htz
          rcases rTz_is hw h hc with ⟨z, e⟩ | ⟨t, ht, e1, e2⟩
          · subst z
            rw [Int.zero_ediv] at hb1
            simp at hb1
          · rw [e2, tzI_uq e1 (show tzI x k by unfold tzI; omega)]
