theorem inc_rest {x : Int} {k : Nat} (h : cY bB x 0 0 1 k = 0) : ∀ n, cY bB x 0 0 1 (k + n) = 0 ∧ lm_lb bB (x + 1) (k + n) = lm_lb bB x (k + n) := by
  have key : ∀ j, cY bB x 0 0 1 j = 0 → lm_lb bB (x + 1) j = lm_lb bB x j ∧ cY bB x 0 0 1 (j + 1) = 0 := by
    intro j hj
    obtain ⟨l1, l2⟩ := lm_lin bB0 x 0 0 1 j
    rw [hj, lm_0] at l1 l2
    have b0 := lm_lb0 bB0 x j
    have b1 := lm_lb1 bB0 x j
    constructor
    · rw [show x + 1 = x + 0 * 0 + 1 by omega, l1]
      unfold bB at *
      omega
    · rw [l2]
      unfold bB at *
      omega
  intro n
  induction n with
  | zero => exact ⟨h, (key k h).1⟩
  | succ n ih =>
    have h2 := (key _ ih.1).2
    exact ⟨h2, (key _ h2).1⟩
theorem gInc_go {i w : Nat} {Z : FF} {x : Int} (hx : rIs w (Z i) x) : ∀ n k F, k + n = w → (∀ j, j ≠ i → F j = Z j) → (∀ t, k ≤ t → F i t = Z i t) → (∀ t, t < k → dI (F i t) = lm_lb bB (x + 1) t) → cY bB x 0 0 1 k = 1 →
    (∀ j, j ≠ i → gInc i n k F j = Z j) ∧ ∀ t, t < w → dI (gInc i n k F i t) = lm_lb bB (x + 1) t := by
  intro n
  induction n with
  | zero => exact fun k F hk hj _ hd _ => ⟨hj, fun t ht => hd t (by omega)⟩
  | succ n ih =>
    intro k F hk hj hu hd hc
    obtain ⟨l1, l2⟩ := lm_lin bB0 x 0 0 1 k
    rw [hc, lm_0] at l1 l2
    have b0 := lm_lb0 bB0 x k
    have b1 := lm_lb1 bB0 x k
    rw [show x + 0 * 0 + 1 = x + 1 by omega] at l1
    have hd1 : dI (F i k + nI 1) = lm_lb bB (x + 1) k := by
      rw [dI_add, hu k (Nat.le_refl _), hx k (by omega), dI_nI (by decide), l1]
      unfold bB at *
      omega
    have f1 : ∀ j, j ≠ i → va_up F i (upd (F i) k (F i k + nI 1)) j = Z j := fun j hji => by rw [va_up_ne _ _ hji]; exact hj j hji
    have f2 : ∀ t, k + 1 ≤ t → va_up F i (upd (F i) k (F i k + nI 1)) i t = Z i t := fun t ht => by rw [va_up_self, pk_un (by omega)]; exact hu t (by omega)
    have f3 : ∀ t, t < k + 1 → dI (va_up F i (upd (F i) k (F i k + nI 1)) i t) = lm_lb bB (x + 1) t := fun t ht => by
      rw [va_up_self]
      by_cases htk : t = k
      · subst htk; rw [pk_us]; exact hd1
      · rw [pk_un htk]; exact hd t (by omega)
    unfold gInc
    by_cases h0 : va_up F i (upd (F i) k (F i k + nI 1)) i k = 0
    · rw [if_pos h0]
      refine ih (k + 1) _ (by omega) f1 f2 f3 ?_
      rw [va_up_self, pk_us] at h0
      rw [h0] at hd1
      have : lm_lb bB (x + 1) k = 0 := hd1.symm
      rw [l2]
      unfold bB at *
      omega
    · rw [if_neg h0]
      refine ⟨f1, fun t ht => ?_⟩
      by_cases htk : t < k + 1
      · exact f3 t htk
      · have hne : lm_lb bB (x + 1) k ≠ 0 := by
          intro z
          apply h0
          apply dI_eq0.mpr
          rw [f3 k (by omega)]; exact z
        have hz : cY bB x 0 0 1 (k + 1) = 0 := by
          rw [l2]
          unfold bB at *
          omega
        obtain ⟨t', rfl⟩ : ∃ t', t = k + 1 + t' := ⟨t - (k + 1), by omega⟩
        rw [f2 _ (by omega), (inc_rest hz t').2]
        exact hx _ ht
theorem gInc_is {i w : Nat} {F : FF} {x : Int} (hx : rIs w (F i) x) : (∀ j, j ≠ i → gInc i w 0 F j = F j) ∧ rIs w (gInc i w 0 F i) (x + 1) :=
  gInc_go hx w 0 F (by omega) (fun _ _ => rfl) (fun _ _ => rfl) (fun t ht => by omega) (by rw [cY_0])
theorem gTurn_is {i w : Nat} {F : FF} {x : Int} (hx : rIs w (F i) x) : (∀ j, j ≠ i → gTurn i w F j = F j) ∧ rIs w (gTurn i w F i) (-x) := by
  obtain ⟨h1, h2⟩ := gCpl_is i w F hx
  obtain ⟨h3, h4⟩ := gInc_is h2
  refine ⟨fun j hj => (h3 j hj).trans (h1 j hj), fun k hk => ?_⟩
  have := h4 k hk
  rw [show -x - 1 + 1 = -x by omega] at this
  exact this
theorem rIs.cM {w : Nat} {f : Nat → Int32} {x : Int} (h : rIs w f x) : rIs w f (cM bB w x) := fun k hk => by rw [cM_lb bB0 w x hk]; exact h k hk
theorem rTurn_is {i w : Nat} {F : FF} {x : Int} (hw : 1 ≤ w) (hx : rIs w (F i) x) (hc : cN bB w x) : (rTurn i w F = nI 1 ∧ cN bB w (-x)) ∨ (rTurn i w F = nI 0 ∧ ¬ cN bB w (-x)) := by
  have h2 := (gTurn_is hx).2
  have e := bB_ev hw
  unfold rTurn
  by_cases hn : x < 0
  · rw [if_neg (fun z => (rNeg_0 hw hx hc).mp z hn)]
    by_cases hcm : cN bB w (-x)
    · rw [if_pos ((rNeg_0 hw h2 hcm).mpr (by omega))]
      exact Or.inl ⟨rfl, hcm⟩
    · have hx2 : cM bB w (-x) = x := by
        refine cN_uq bB0 (n := w) (cM_c bB0 _ _) hc ?_
        rw [cM_m]
        have : -x = x + bB ^ w := by
          unfold cN at hc hcm
          omega
        rw [this, Int.add_emod_right]
      rw [if_neg]
      · exact Or.inr ⟨rfl, hcm⟩
      · intro z
        have h3 := h2.cM
        rw [hx2] at h3
        exact (rNeg_0 hw h3 hc).mp z hn
  · rw [if_pos ((rNeg_0 hw hx hc).mpr hn)]
    refine Or.inl ⟨rfl, ?_⟩
    unfold cN at *
    omega
/-! shifts -/
theorem uN_ll32 (x : Int64) : uN (j_ll x (nI 32)) = uN x * 4294967296 % 18446744073709551616 := by
  have h : (((nI 32).toInt64 &&& 63).toBitVec.smod 64).toNat = 32 := by decide
  show (x.toBitVec <<< (((nI 32).toInt64 &&& 63).toBitVec.smod 64).toNat).toNat = _
  rw [h, BitVec.toNat_shiftLeft, Nat.shiftLeft_eq]
  rfl
theorem sm64 {k : Nat} (hk : k < 32) : (((nI k).toInt64 &&& 63).toBitVec.smod 64).toNat = k := by
  revert k
  decide
theorem uN_llk (x : Int64) {k : Nat} (hk : k < 32) : uN (j_ll x (nI k)) = uN x * 2 ^ k % 18446744073709551616 := by
  show (x.toBitVec <<< (((nI k).toInt64 &&& 63).toBitVec.smod 64).toNat).toNat = _
  rw [sm64 hk, BitVec.toNat_shiftLeft, Nat.shiftLeft_eq]
  rfl
theorem uN_pair (w : Nat) (f : Nat → Int32) (z : Int32) : (uN (rPair w f z) : Int) = dI (rAt w f (z + nI 1)) * 4294967296 + dI (rAt w f z) := by
  unfold rPair
  have u1 := uN_un (rAt w f (z + nI 1))
  have u2 := uN_un (rAt w f z)
  have b1 := dI_1 (rAt w f (z + nI 1))
  have b2 := dI_1 (rAt w f z)
  generalize rUn (rAt w f (z + nI 1)) = a at *
  generalize rUn (rAt w f z) = b at *
  have h1 : uN (j_ll a (nI 32) ||| b) = uN (j_ll a (nI 32)) ||| uN b := UInt64.toNat_or _ _
  have h2 : uN (j_ll a (nI 32)) = 2 ^ 32 * uN a := by rw [uN_ll32]; omega
  rw [h1, h2, ← Nat.two_pow_add_eq_or_of_lt (i := 32) (by omega)]
  omega
theorem bB_2 (n p : Nat) : (2 : Int) ^ (32 * n + p) = bB ^ n * 2 ^ p := by
  rw [Int.pow_add, Int.pow_mul]
  rfl
/-- two digits of q, from a bit on -/
theorem lm_two {q P R : Int} (hP : 0 < P) (hPR : P * R = bB) : (q / bB % bB * bB + q % bB) / P % bB = q / P % bB := by
  have e1 := lm_dm q bB
  have e2 := lm_dm (q / bB) bB
  have h : q = (q / bB % bB * bB + q % bB) + P * (bB * (R * (q / bB / bB))) := by
    have : P * (bB * (R * (q / bB / bB))) = bB * bB * (q / bB / bB) := by
      rw [← hPR]; grind
    grind
  conv => rhs; rw [h]
  rw [Int.add_mul_ediv_left _ _ (by omega), Int.add_mul_emod_self_left]
theorem p2_R {p : Nat} (hp : p < 32) : (2 : Int) ^ p * 2 ^ (32 - p) = bB := by
  rw [← Int.pow_add, show p + (32 - p) = 32 by omega]
  rfl
theorem p2_0 (p : Nat) : (0 : Int) < 2 ^ p := Int.pow_pos (by decide)
theorem gShd_is {i w s : Nat} {F : FF} {x : Int} (hw : 1 ≤ w ∧ w ≤ 256) (hs : s ≤ 8192) (hx : rIs w (F i) x) (hc : cN bB w x) : (∀ j, j ≠ i → gShd i w (s / 32) (s % 32) w 0 F j = F j) ∧ rIs w (gShd i w (s / 32) (s % 32) w 0 F i) (x / 2 ^ s) := by
  have hs2 : s = 32 * (s / 32) + s % 32 := by omega
  have hp : s % 32 < 32 := Nat.mod_lt _ (by decide)
  obtain ⟨h1, -, -, h4⟩ := gl_up (σ := Unit) (G := fun n k _ F => gShd i w (s / 32) (s % 32) n k F) (i := i) (dg := fun k _ F => (j_lu (rPair w (F i) (nI (k + s / 32))) (nI (s % 32))).toInt32) (cy := fun _ _ _ => ()) (fun _ _ _ => rfl) (fun _ _ _ _ => rfl) (fun _ _ => True) (fun k => lm_lb bB (x / 2 ^ s) k) F 0 w () trivial
    (fun k c G _ hk _ hj hu => by
      refine ⟨?_, trivial⟩
      have rd : ∀ t, k ≤ t → t < 2 ^ 31 → dI (rAt w (G i) (nI t)) = lm_lb bB x t := by
        intro t ht ht2
        have e : rAt w (G i) (nI t) = rAt w (F i) (nI t) := by
          unfold rAt
          rw [if_neg (nI_pos ht2), if_neg (nI_pos ht2), nI_clamp ht2, hu t ht, hu (w - 1) (by omega)]
        rw [e]
        exact rAt_is hw hx hc ht2
      have up := uN_pair w (G i) (nI (k + s / 32))
      rw [nI_add, rd _ (by omega) (by omega), rd _ (by omega) (by omega)] at up
      rw [dI_l, show uN (j_lu (rPair w (G i) (nI (k + s / 32))) (nI (s % 32))) = uN (rPair w (G i) (nI (k + s / 32))) / 2 ^ (s % 32) from uN_sk _ (by omega)]
      rw [Int.natCast_ediv, up]
      have e1 : lm_lb bB x (k + s / 32 + 1) = x / bB ^ (k + s / 32) / bB % bB := by unfold lm_lb; rw [lm_dd bB0]
      have e2 : lm_lb bB x (k + s / 32) = x / bB ^ (k + s / 32) % bB := rfl
      rw [e1, e2]
      have e3 : lm_lb bB (x / 2 ^ s) k = x / bB ^ (k + s / 32) / 2 ^ (s % 32) % bB := by
        unfold lm_lb
        conv => lhs; rw [hs2]
        rw [bB_2, Int.ediv_ediv_of_nonneg (Int.le_of_lt (Int.mul_pos (lm_pw bB0 _) (p2_0 _))), Int.ediv_ediv_of_nonneg (Int.le_of_lt (lm_pw bB0 _)), Int.pow_add]
        congr 2
        grind
      rw [e3, show ((2 ^ (s % 32) : Nat) : Int) = 2 ^ (s % 32) from Int.natCast_pow 2 _]
      exact lm_two (p2_0 _) (p2_R hp))
  exact ⟨h1, fun k hk => h4 k (by omega) (by omega)⟩
theorem rAt_i {w : Nat} {f : Nat → Int32} {x : Int} (hw : 1 ≤ w ∧ w ≤ 256) (h : rIs w f x) (hc : cN bB w x) (z : Int32) : dI (rAt w f z) = if z.toInt < 0 then 0 else lm_lb bB x z.toInt.toNat := by
  have z0 : (0 : Int32).toInt = 0 := rfl
  by_cases hz : z < 0
  · rw [if_pos (by rw [Int32.lt_iff_toInt_lt] at hz; omega)]
    unfold rAt
    rw [if_pos hz]
    rfl
  · rw [if_neg (by rw [Int32.lt_iff_toInt_lt] at hz; omega)]
    obtain ⟨j, hj, rfl⟩ := nI_of hz
    rw [rAt_is hw h hc hj, nI_toInt hj]
    rfl
theorem i_sub2 {n h : Nat} (hn : n < 1000) (hh : h < 1000) : (nI n - nI h - nI 1).toInt = (n : Int) - h - 1 ∧ (nI n - nI h - nI 1 + nI 1).toInt = (n : Int) - h := by
  have e0 : (nI n - nI h - nI 1 + nI 1) = nI n - nI h := Int32.sub_add_cancel _ _
  have e1 : (nI n - nI h).toInt = (n : Int) - h := pk_sub_toInt (by omega) (by omega)
  have d0 := dI_toInt (nI n - nI h - nI 1)
  have d1 := dI_sub (nI n - nI h) (nI 1)
  have d2 := dI_sub (nI n) (nI h)
  rw [dI_nI (by omega)] at d1 d2
  rw [dI_nI (by omega)] at d2
  rw [d2] at d1
  refine ⟨?_, by rw [e0]; exact e1⟩
  split at d0 <;> omega
theorem gShu_is {i w s : Nat} {F : FF} {x : Int} (hw : 1 ≤ w ∧ w ≤ 256) (hs : s ≤ 8192) (hx : rIs w (F i) x) (hc : cN bB w x) : (∀ j, j ≠ i → gShu i w (s / 32) (s % 32) w F j = F j) ∧ rIs w (gShu i w (s / 32) (s % 32) w F i) (x * 2 ^ s) := by
  have hs2 : s = 32 * (s / 32) + s % 32 := by omega
  have hp : s % 32 < 32 := Nat.mod_lt _ (by decide)
  obtain ⟨h1, -, h4⟩ := gd_go (σ := Unit) (G := fun n _ F => gShu i w (s / 32) (s % 32) n F) (i := i) (dg := fun n _ F => (j_lu (j_ll (rPair w (F i) (nI n - nI (s / 32) - nI 1)) (nI (s % 32))) (nI 32)).toInt32) (cy := fun _ _ _ => ()) (fun _ _ => rfl) (fun _ _ _ => rfl) (fun _ _ => True) (fun k => lm_lb bB (x * 2 ^ s) k) F w
    (fun k c G hk _ hj hu => by
      refine ⟨?_, trivial⟩
      obtain ⟨i1, i2⟩ := i_sub2 (n := k) (h := s / 32) (by omega) (by omega)
      have up := uN_pair w (G i) (nI k - nI (s / 32) - nI 1)
      have rd : ∀ z : Int32, z.toInt ≤ k → dI (rAt w (G i) z) = if z.toInt < 0 then 0 else lm_lb bB x z.toInt.toNat := by
        intro z hz
        rw [← rAt_i hw hx hc z]
        congr 1
        unfold rAt
        by_cases h0 : z < 0
        · rw [if_pos h0, if_pos h0]
        · obtain ⟨j, hj, rfl⟩ := nI_of h0
          rw [nI_toInt hj] at hz
          rw [if_neg h0, if_neg h0, if_pos (nI_lt (by omega) (by omega)), if_pos (nI_lt (by omega) (by omega)), nI_clamp hj]
          exact hu j (by omega)
      rw [rd _ (by omega), rd _ (by omega), i1, i2] at up
      have u1 := uN_h (j_ll (rPair w (G i) (nI k - nI (s / 32) - nI 1)) (nI (s % 32)))
      rw [show uN (j_ll (rPair w (G i) (nI k - nI (s / 32) - nI 1)) (nI (s % 32))) = _ from uN_llk _ hp] at u1
      rw [dI_l, u1, Int.natCast_emod, Int.natCast_mul, up, show ((2 ^ (s % 32) : Nat) : Int) = 2 ^ (s % 32) from Int.natCast_pow 2 _]
      have hP0 := p2_0 (s % 32)
      have hR0 := p2_0 (32 - s % 32)
      have hPR := p2_R hp
      have hX : x * 2 ^ s = bB ^ (s / 32) * (x * 2 ^ (s % 32)) := by
        conv => lhs; rw [hs2]
        rw [bB_2]; grind
      generalize (2 : Int) ^ (s % 32) = P at *
      generalize (2 : Int) ^ (32 - s % 32) = Q at *
      by_cases hlt : k < s / 32
      · rw [if_pos (by omega), if_pos (by omega)]
        have : lm_lb bB (x * 2 ^ s) k = 0 := by
          obtain ⟨t, ht⟩ : ∃ t, s / 32 = k + (1 + t) := ⟨s / 32 - k - 1, by omega⟩
          rw [hX, ht, Int.pow_add, Int.pow_add, Int.pow_one]
          unfold lm_lb
          rw [show bB ^ k * (bB * bB ^ t) * (x * P) = bB ^ k * (bB * (bB ^ t * (x * P))) by grind, Int.mul_ediv_cancel_left _ (by have := lm_pw bB0 k; omega), Int.mul_emod_right]
        rw [this]
        simp
      · obtain ⟨t, ht⟩ : ∃ t, k = s / 32 + t := ⟨k - s / 32, by omega⟩
        have hlb : lm_lb bB (x * 2 ^ s) k = (x * P) / bB ^ t % bB := by
          unfold lm_lb
          rw [hX, ht, lm_dj bB0, Int.mul_ediv_cancel_left _ (by have := lm_pw bB0 (s / 32); omega)]
        rw [hlb]
        rw [if_neg (by omega), show ((k : Int) - (s / 32 : Nat)).toNat = t by omega]
        by_cases ht0 : t = 0
        · subst ht0
          rw [if_pos (by omega)]
          show (_ : Int) % 4294967296 = _ % 4294967296
          unfold lm_lb
          simp only [Int.pow_zero, Int.ediv_one]
          have e := lm_dm x bB
          have : x * P = x % bB * P + bB * (x / bB * P) := by grind
          rw [this]
          generalize x / bB * P = a
          have e5 : (x % bB * 4294967296 + 0) * P = 4294967296 * (x % bB * P) := by grind
          rw [e5]
          generalize x % bB * P = b
          unfold bB at *
          omega
        · obtain ⟨u, rfl⟩ : ∃ u, t = u + 1 := ⟨t - 1, by omega⟩
          rw [if_neg (by omega), show ((k : Int) - (s / 32 : Nat) - 1).toNat = u by omega]
          have e1 : lm_lb bB x (u + 1) = x / bB ^ u / bB % bB := by unfold lm_lb; rw [lm_dd bB0]
          have e2 : lm_lb bB x u = x / bB ^ u % bB := rfl
          rw [e1, e2]
          have e3 : x * P / bB ^ (u + 1) = x / bB ^ u / Q := by
            rw [Int.ediv_ediv_of_nonneg (Int.le_of_lt (lm_pw bB0 _)), Int.pow_succ]
            have : bB ^ u * bB = bB ^ u * Q * P := by rw [← hPR]; grind
            rw [this, Int.mul_comm x P, Int.mul_comm (bB ^ u * Q) P, Int.mul_ediv_mul_of_pos _ _ hP0]
          rw [e3, ← lm_two hR0 (by rw [Int.mul_comm]; exact hPR)]
          generalize x / bB ^ u = q
          generalize hY : q / bB % bB * bB + q % bB = Y
          show Y * P % 18446744073709551616 / 4294967296 % 4294967296 = Y / Q % bB
          have e4 : Y * P / 4294967296 = Y / Q := by
            have : (4294967296 : Int) = Q * P := by rw [Int.mul_comm]; exact hPR.symm
            rw [this, Int.mul_comm Y P, Int.mul_comm Q P, Int.mul_ediv_mul_of_pos _ _ hP0]
          rw [← e4]
          show _ = Y * P / 4294967296 % 4294967296
          omega)
    w () F (Nat.le_refl _) trivial (fun _ _ => rfl) (fun _ _ => rfl) (fun _ _ => rfl) (fun t a b => by omega)
  exact ⟨h1, fun k hk => h4 k hk⟩
