theorem gPrL_is {i j u wi wu : Nat} {Z : FF} {x y a : Int} (hi : wi ≤ 256) (hu : 1 ≤ wu ∧ wu ≤ 256) (hji : j ≠ i) (hui : u ≠ i) (hy : rIs wu (Z u) y) (hcy : cN bB wu y) {N : Nat} (hN : N ≤ wi) (ha : ∀ t, t < N → dI (Z j t) = lm_lb bB a t) :
    ∀ n k F, k + n = N → (∀ t, t ≠ i → F t = Z t) → rIs wi (F i) (x + a % bB ^ k * y) → (∀ t, t ≠ i → gPrL i j u wi wu n k F t = Z t) ∧ rIs wi (gPrL i j u wi wu n k F i) (x + a % bB ^ N * y) := by
  intro n
  induction n with
  | zero =>
    intro k F hk hj hx
    have : k = N := by omega
    subst this
    exact ⟨hj, hx⟩
  | succ n ih =>
    intro k F hk hj hx
    unfold gPrL
    have hd := ha k (by omega)
    have ud := uN_un (F j k)
    rw [hj j hji, hd] at ud
    obtain ⟨h1, h2, h3⟩ := gMul_is (i := i) (j := u) (wj := wu) (st := k) (n := wi - k) (F := F) (x := x + a % bB ^ k * y) (y := y) (d := rUn (F j k)) (m := lm_lb bB a k) (by rw [hj j hji]; exact ud) (lm_lb1 bB0 _ _) (fun t _ ht => hx t (by omega)) (rdY.of hu (by rw [hj u hui]; exact hy) hcy (by omega) (Or.inl hui))
    refine ih (k + 1) _ (by omega) (fun t ht => (h1 t ht).trans (hj t ht)) ?_
    have hp := lm_pw bB0 k
    have e1 : x + a % bB ^ (k + 1) * y = (x + a % bB ^ k * y) + bB ^ k * (lm_lb bB a k * y) := by
      rw [lm_md bB0]; grind
    intro t ht
    rw [e1]
    by_cases htk : t < k
    · rw [h2 t htk, hx t ht]
      refine lm_ext' bB0 (n := k) ?_ t htk
      rw [Int.add_mul_emod_self_left]
    · obtain ⟨v, rfl⟩ : ∃ v, t = k + v := ⟨t - k, by omega⟩
      rw [h3 (k + v) (by omega) (by omega), lm_sh bB0, Int.add_mul_ediv_left _ _ (by omega), Nat.add_sub_cancel_left, Int.add_zero]
theorem gPr_is {i j u wi wj wu t : Nat} {F : FF} {x y a : Int} (hi : 1 ≤ wi ∧ wi ≤ 256) (hj : 1 ≤ wj ∧ wj ≤ 256) (hu : 1 ≤ wu ∧ wu ≤ 256) (hji : j ≠ i) (hui : u ≠ i) (hx : rIs wi (F i) x) (hy : rIs wu (F u) y) (hcy : cN bB wu y) (ha : rIs wj (F j) a) (hca : cN bB wj a) (htw : t < 32 * wj) (hlen : -(2 ^ t) ≤ a ∧ a < 2 ^ t) :
    (∀ k, k ≠ i → gPr i j u wi wj wu t F k = F k) ∧ rIs wi (gPr i j u wi wj wu t F i) (x + a * y) := by
  have hnd : t / 32 + 1 ≤ wj := by omega
  obtain ⟨h1, h2⟩ := gPrL_is (i := i) (j := j) (u := u) (wi := wi) (wu := wu) (Z := F) (x := x) (y := y) (a := a) hi.2 hu hji hui hy hcy (N := min (t / 32 + 1) wi) (by omega) (fun k hk => ha k (by omega)) (min (t / 32 + 1) wi) 0 F (by omega) (fun _ _ => rfl) (by
    intro k hk
    rw [Int.pow_zero, Int.emod_one, Int.zero_mul, Int.add_zero]
    exact hx k hk)
  change (∀ t_1, t_1 ≠ i → gPrM i j u wi wu t F t_1 = F t_1) at h1
  change rIs wi (gPrM i j u wi wu t F i) _ at h2
  have hb1 : (2 : Int) ^ t ≤ bB ^ (t / 32 + 1) := by
    have e : bB ^ (t / 32 + 1) = 2 ^ t * 2 ^ (32 - t % 32) := by
      rw [← Int.pow_add, show t + (32 - t % 32) = 32 * (t / 32 + 1) + 0 by omega, bB_2]
      simp
    rw [e]
    have h3 : (1 : Int) ≤ 2 ^ (32 - t % 32) := p2_0 _
    have := Int.mul_le_mul_of_nonneg_left h3 (Int.le_of_lt (p2_0 t))
    omega
  have hp := lm_pw bB0 (t / 32 + 1)
  -- digits of a*y, mod the width
  have hmn : ∀ k, k < wi → lm_lb bB (x + a % bB ^ (min (t / 32 + 1) wi) * y) k = lm_lb bB (x + a % bB ^ (t / 32 + 1) * y) k := by
    intro k hk
    by_cases hle : t / 32 + 1 ≤ wi
    · rw [Nat.min_eq_left hle]
    · rw [Nat.min_eq_right (by omega)]
      refine lm_ext' bB0 (n := wi) ?_ k hk
      rw [Int.add_emod, Int.mul_emod, Int.add_emod x (a % bB ^ (t / 32 + 1) * y), Int.mul_emod (a % bB ^ (t / 32 + 1))]
      congr 3
      congr 1
      rw [Int.emod_emod_of_dvd _ (Int.dvd_refl _), Int.emod_emod_of_dvd]
      obtain ⟨q, hq⟩ : ∃ q, t / 32 + 1 = wi + q := ⟨t / 32 + 1 - wi, by omega⟩
      rw [hq, Int.pow_add]
      exact Int.dvd_mul_right _ _
  unfold gPr
  rw [h1 j hji]
  by_cases hn : a < 0
  · rw [if_neg (fun z => (rNeg_0 hj.1 ha hca).mp z hn)]
    have ea : a % bB ^ (t / 32 + 1) = a + bB ^ (t / 32 + 1) := (lm_uq (m := bB ^ (t / 32 + 1)) (q := -1) hp (by omega) (by omega) (by omega)).2
    obtain ⟨g1, g2, g3⟩ := gAdd_is (i := i) (j := u) (wj := wu) (st := t / 32 + 1) (n := wi - (t / 32 + 1)) (F := gPrM i j u wi wu t F) (x := x + a % bB ^ (t / 32 + 1) * y) (y := y) (fl := -1) (c := (-1 &&& nI 1).toInt64) (c0 := 1) (Or.inr rfl) (by decide) (by decide) (fun k hk hk2 => by rw [h2 k (by omega), hmn k (by omega)]) (rdY.of hu (by rw [h1 u hui]; exact hy) hcy (by omega) (Or.inl hui))
    refine ⟨fun k hk => (g1 k hk).trans (h1 k hk), fun k hk => ?_⟩
    have e2 : x + a * y = (x + a % bB ^ (t / 32 + 1) * y) + bB ^ (t / 32 + 1) * (-y) := by rw [ea]; grind
    by_cases hkn : k < t / 32 + 1
    · rw [g2 k hkn, h2 k hk, hmn k hk, e2]
      refine lm_ext' bB0 (n := t / 32 + 1) ?_ k hkn
      rw [Int.add_mul_emod_self_left]
    · obtain ⟨v, rfl⟩ : ∃ v, k = t / 32 + 1 + v := ⟨k - (t / 32 + 1), by omega⟩
      rw [g3 _ (by omega) (by omega), if_neg (by decide), Nat.add_sub_cancel_left, e2, lm_sh bB0, Int.add_mul_ediv_left _ _ (by omega)]
      congr 1
      omega
  · rw [if_pos ((rNeg_0 hj.1 ha hca).mpr hn)]
    refine ⟨h1, fun k hk => ?_⟩
    rw [h2 k hk, hmn k hk, Int.emod_eq_of_lt (by omega) (by omega)]
theorem gSPr_is {i j u wi wj wu t : Nat} {F : FF} {x y a : Int} (hi : 1 ≤ wi ∧ wi ≤ 256) (hj : 1 ≤ wj ∧ wj ≤ 256) (hu : 1 ≤ wu ∧ wu ≤ 256) (hji : j ≠ i) (hui : u ≠ i) (hx : rIs wi (F i) x) (hy : rIs wu (F u) y) (hcy : cN bB wu y) (ha : rIs wj (F j) a) (hca : cN bB wj a) (htw : t < 32 * wj) (hlen : -(2 ^ t) ≤ a ∧ a < 2 ^ t) :
    (∀ k, k ≠ i → gSPr i j u wi wj wu t F k = F k) ∧ rIs wi (gSPr i j u wi wj wu t F i) (x - a * y) := by
  obtain ⟨h1, h2⟩ := gCpl_is i wi F hx
  obtain ⟨h3, h4⟩ := gPr_is (F := gCpl i wi 0 F) hi hj hu hji hui h2 (by rw [h1 u hui]; exact hy) hcy (by rw [h1 j hji]; exact ha) hca htw hlen
  obtain ⟨h5, h6⟩ := gCpl_is i wi _ h4
  refine ⟨fun k hk => (h5 k hk).trans ((h3 k hk).trans (h1 k hk)), fun k hk => ?_⟩
  have := h6 k hk
  rw [show -(-x - 1 + a * y) - 1 = x - a * y by omega] at this
  exact this
/-! division -/
theorem j_iu_n (x : Int32) {n : Nat} (hn : n < 32) : dI (j_iu x (nI n)) = dI x / 2 ^ n := by
  have h : (((nI n).toUInt32 &&& Int32.toUInt32 31).toBitVec % 32).toNat = n := by
    revert n
    decide
  unfold dI
  rw [pk_ushr x (nI n) n h, Int.natCast_ediv]
  congr 1
theorem bit1 (x : Int32) : (x &&& nI 1) = nI (x.toBitVec.toNat % 2) := pk_and x 1 (by decide)
theorem dI_sh1 (q : Int32) : dI (q <<< (nI 1 &&& 31)) = dI q * 2 % 4294967296 := by
  unfold dI
  rw [pk_shl q (nI 1 &&& 31) 1 (by decide)]
  omega
theorem dI_or1 (q : Int32) : dI (q <<< (nI 1 &&& 31) ||| nI 1) = dI q * 2 % 4294967296 + 1 := by
  have h1 : (q <<< (nI 1 &&& 31) ||| nI 1).toBitVec.toNat = (q <<< (nI 1 &&& 31)).toBitVec.toNat ||| 1 := by
    show ((q <<< (nI 1 &&& 31)).toBitVec ||| (nI 1).toBitVec).toNat = _
    rw [BitVec.toNat_or]
    rfl
  unfold dI
  rw [h1, pk_shl q (nI 1 &&& 31) 1 (by decide)]
  have h2 : q.toBitVec.toNat * 2 ^ 1 % 2 ^ 32 = 2 ^ 1 * (q.toBitVec.toNat % 2 ^ 31) := by omega
  rw [h2, ← Nat.two_pow_add_eq_or_of_lt (i := 1) (by decide)]
  omega
theorem gDl_is {x : Int32} {d : Int64} (hd : 1 ≤ d.toInt) (hd2 : d.toInt < 4611686018427387904) : ∀ n r q, n ≤ 32 → 0 ≤ Int64.toInt r → Int64.toInt r < d.toInt →
    (gDl x d n r q).1.toInt = (Int64.toInt r * 2 ^ n + dI x % 2 ^ n) % d.toInt ∧ dI (gDl x d n r q).2 = (dI q * 2 ^ n + (Int64.toInt r * 2 ^ n + dI x % 2 ^ n) / d.toInt) % 4294967296 := by
  intro n
  induction n with
  | zero =>
    intro r q _ h0 h1
    have b0 := dI_0 q
    have b1 := dI_1 q
    unfold gDl
    simp only [Int.pow_zero, Int.emod_one, Int.mul_one, Int.add_zero]
    rw [Int.emod_eq_of_lt h0 h1, Int.ediv_eq_zero_of_lt h0 h1]
    exact ⟨rfl, by omega⟩
  | succ n ih =>
    intro r q hn h0 h1
    have hbit : j_iu x (nI n) &&& nI 1 = nI ((j_iu x (nI n)).toBitVec.toNat % 2) := bit1 _
    have hbv : (((j_iu x (nI n)).toBitVec.toNat % 2 : Nat) : Int) = dI x / 2 ^ n % 2 := by
      rw [← j_iu_n x (show n < 32 by omega)]
      unfold dI
      omega
    have hbl : (j_iu x (nI n)).toBitVec.toNat % 2 < 2 := Nat.mod_lt _ (by decide)
    generalize (j_iu x (nI n)).toBitVec.toNat % 2 = b at *
    have hsum : (j_ll r (nI 1) ||| (nI b).toInt64).toInt = 2 * r.toInt + b := by
      have hub : uN (nI b).toInt64 = b := by
        rw [nI_l (by omega)]
        exact uN_of rfl (by omega)
      have hor := uN_or (x := r) (y := (nI b).toInt64) (by rw [hub]; exact hbl)
      refine tI_of ?_ (by omega) (by omega)
      have e : uN (j_ll r (nI 1) ||| (nI b).toInt64) = 2 * uN r % 18446744073709551616 + uN (nI b).toInt64 := hor
      have hr := uN_tI r
      rw [e, hub]
      omega
    have hx2 : dI x % 2 ^ (n + 1) = dI x % 2 ^ n + 2 ^ n * b := by
      have := lm_md (B := 2) (by decide) (dI x) n
      rw [this, hbv]
      rfl
    have hP := p2_0 n
    have e2 : (r.toInt * 2 ^ (n + 1) + dI x % 2 ^ (n + 1)) = (2 * r.toInt + b) * 2 ^ n + dI x % 2 ^ n := by
      rw [hx2, Int.pow_succ]; grind
    unfold gDl
    rw [hbit]
    by_cases hlt : lg_cmp (j_ll r (nI 1) ||| (nI b).toInt64) d < 0
    · rw [if_pos hlt]
      rw [lg_cmp_lt, Int64.lt_iff_toInt_lt, hsum] at hlt
      obtain ⟨i1, i2⟩ := ih (j_ll r (nI 1) ||| (nI b).toInt64) (q <<< (nI 1 &&& 31)) (by omega) (by rw [hsum]; omega) (by rw [hsum]; exact hlt)
      rw [hsum] at i1 i2
      rw [e2]
      refine ⟨i1, ?_⟩
      rw [i2, dI_sh1]
      generalize ((2 * r.toInt + b) * 2 ^ n + dI x % 2 ^ n) / d.toInt = t
      rw [Int.pow_succ]
      have e3 : dI q * 2 % 4294967296 = dI q * 2 - 4294967296 * (dI q * 2 / 4294967296) := by omega
      rw [e3]
      have e4 : (dI q * 2 - 4294967296 * (dI q * 2 / 4294967296)) * 2 ^ n + t = dI q * (2 ^ n * 2) + t + 4294967296 * (-(dI q * 2 / 4294967296 * 2 ^ n)) := by grind
      rw [e4, Int.add_mul_emod_self_left]
    · rw [if_neg hlt]
      rw [lg_cmp_lt, Int64.lt_iff_toInt_lt, hsum] at hlt
      have hsub : ((j_ll r (nI 1) ||| (nI b).toInt64) - d).toInt = 2 * r.toInt + b - d.toInt := by
        rw [Int64.toInt_sub, hsum]
        rw [Int.bmod_eq_of_le (by omega) (by omega)]
      obtain ⟨i1, i2⟩ := ih ((j_ll r (nI 1) ||| (nI b).toInt64) - d) (q <<< (nI 1 &&& 31) ||| nI 1) (by omega) (by rw [hsub]; omega) (by rw [hsub]; omega)
      rw [hsub] at i1 i2
      rw [e2]
      have e5 : (2 * r.toInt + b) * 2 ^ n + dI x % 2 ^ n = ((2 * r.toInt + b - d.toInt) * 2 ^ n + dI x % 2 ^ n) + d.toInt * 2 ^ n := by grind
      rw [e5, Int.add_mul_emod_self_left, Int.add_mul_ediv_left _ _ (by omega)]
      refine ⟨i1, ?_⟩
      rw [i2, dI_or1]
      generalize ((2 * r.toInt + b - d.toInt) * 2 ^ n + dI x % 2 ^ n) / d.toInt = t
      rw [Int.pow_succ]
      have e3 : dI q * 2 % 4294967296 = dI q * 2 - 4294967296 * (dI q * 2 / 4294967296) := by omega
      rw [e3]
      have e4 : (dI q * 2 - 4294967296 * (dI q * 2 / 4294967296) + 1) * 2 ^ n + t = dI q * (2 ^ n * 2) + (t + 2 ^ n) + 4294967296 * (-(dI q * 2 / 4294967296 * 2 ^ n)) := by grind
      rw [e4, Int.add_mul_emod_self_left]
