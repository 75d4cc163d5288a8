theorem dv_is {sg : Nat → Int32} {z : Nat → Nat} {x : Int} {d : Int64} (hd : 1 ≤ d.toInt) (hd2 : d.toInt < 4611686018427387904) (hx : bV sg z 0 x) :
    zIs (mDvZ d (mBits (mClr 1 cZ 0 z) 0) 0 (mClr 1 cZ 0 z)) 1 ((x.natAbs : Int) / d.toInt) ∧ (mDvR d (mBits (mClr 1 cZ 0 z) 0) 0 (mClr 1 cZ 0 z)).toInt = (x.natAbs : Int) % d.toInt ∧ (mBits (mDvZ d (mBits (mClr 1 cZ 0 z) 0) 0 (mClr 1 cZ 0 z)) 1 = 0 ↔ (x.natAbs : Int) / d.toInt = 0) := by
  obtain ⟨c1, c2⟩ := mClr_is 1 z
  have h0 := c2.zIs (show (0 : Nat) ≠ 1 by decide) hx.1
  have hN := mBits_is h0
  have hNl : mBits (mClr 1 cZ 0 z) 0 ≤ 17600 := by
    rcases hN.2 with q | q
    · omega
    · have hlt := hx.1.2.1
      rw [bH_17600] at hlt
      have := p2_lt (s := mBits (mClr 1 cZ 0 z) 0 - 1) (t := 17600) (by omega)
      omega
  have e : (x.natAbs : Int) / 2 ^ (mBits (mClr 1 cZ 0 z) 0) = 0 := Int.ediv_eq_zero_of_lt (by omega) hN.1
  obtain ⟨k1, k2, -⟩ := mDv_is hd hd2 (M := (x.natAbs : Int)) (mBits (mClr 1 cZ 0 z) 0) 0 (mClr 1 cZ 0 z) hNl h0 (by rw [e]; rfl) (by rw [e, Int.zero_ediv, Int.zero_mul]; exact c1)
  refine ⟨k1, k2, ?_⟩
  have hl := mBits_is k1
  have := isL_le (k := 0) hl k1.1
  rw [Int.pow_zero, Int.ediv_one] at this
  rw [← this]
  omega
theorem addLong {sg : Nat → Int32} {z : Nat → Nat} {y : Int} (v : Int64) (h : bV sg z 1 y) (hs : (y.natAbs : Int) < bH ^ 600) :
    bV (upd (mLongG v 2 sg) 1 (mCombS (mLongG v 2 sg) 1 2 (mOth (mLongG v 2 sg) 2 0) (mLongZ v 2 z))) (mCombZ (mLongG v 2 sg) 1 2 (mOth (mLongG v 2 sg) 2 0) (mLongZ v 2 z)) 1 (y + v.toInt) := by
  obtain ⟨l1, l2, l3⟩ := mLong_is v 2 z sg
  have hb1 : bV (mLongG v 2 sg) (mLongZ v 2 z) 1 y := ⟨l2.zIs (by decide) h.1, by rw [l3 1 (by decide)]; exact h.2⟩
  have hlo := tI_lo v
  have hhi := tI_hi v
  obtain ⟨m1, -, -⟩ := mComb_is (b := 1) (q := 2) (f := 0) (by decide) (by decide) hb1 l1 (by
    have h1 : bH ^ 600 * bH ≤ bH ^ 1100 := by rw [← Int.pow_succ]; exact bH_le (by decide)
    have h2 := bH_le (m := 4) (n := 600) (by decide)
    have h4 : bH ^ 4 = 18446744073709551616 := by decide
    have h3 : bH ^ 600 * 2 ≤ bH ^ 600 * bH := Int.mul_le_mul_of_nonneg_left (by decide) (by omega)
    omega)
  rw [if_pos rfl] at m1
  exact m1
/-! ### the state of all rows -/
def wOk (w : Nat → Nat) : Prop := ∀ r, r < 64 → 1 ≤ w r ∧ w r ≤ 256
def mSt (w g : Nat → Nat) (x : Nat → Int) : Prop := ∀ r, r < 64 → mIs (w r) g r (x r)
def cSt (w : Nat → Nat) (F : FF) (x : Nat → Int) : Prop := ∀ r, r < 64 → rIs (w r) (F r) (x r)
def nSt (w : Nat → Nat) (x : Nat → Int) : Prop := ∀ r, r < 64 → cN bB (w r) (x r)
theorem nSt.up {w w' : Nat → Nat} {x : Nat → Int} {r : Nat} (h : nSt w x) (hw : ∀ j, j ≠ r → w' j = w j) (y : Int) : nSt w' (va_up x r (cM bB (w' r) y)) := by
  intro j hj
  by_cases hjr : j = r
  · subst hjr; rw [va_up_self]; exact cM_c bB0 _ _
  · rw [va_up_ne _ _ hjr, hw j hjr]; exact h j hj
theorem cSt.up {w w' : Nat → Nat} {F F' : FF} {x : Nat → Int} {r : Nat} (h : cSt w F x) (hw : ∀ j, j ≠ r → w' j = w j) (hF : ∀ j, j ≠ r → F' j = F j) {y : Int} (hy : rIs (w' r) (F' r) y) : cSt w' F' (va_up x r (cM bB (w' r) y)) := by
  intro j hj
  by_cases hjr : j = r
  · subst hjr; rw [va_up_self]; exact hy.cM
  · rw [va_up_ne _ _ hjr, hw j hjr, hF j hjr]; exact h j hj
theorem mIs.cM {w : Nat} {g : Nat → Nat} {r : Nat} {x : Int} (h : mIs w g r x) : mIs w g r (cM bB w x) := fun j hj => by
  rw [h j hj]
  refine (lm_ext' bH0 (n := 2 * w) ?_ j hj).symm
  rw [← bBH]
  exact cM_m w x
theorem mSt.up {w w' g g' : Nat → Nat} {x : Nat → Int} {r : Nat} (hwk : wOk w) (h : mSt w g x) (hw : ∀ j, j ≠ r → w' j = w j) (hg : ∀ p, p < 512 * r ∨ 512 * r + 512 ≤ p → g' p = g p) {y : Int} (hy : mIs (w' r) g' r y) : mSt w' g' (va_up x r (cM bB (w' r) y)) := by
  intro j hj
  by_cases hjr : j = r
  · subst hjr; rw [va_up_self]; exact hy.cM
  · rw [va_up_ne _ _ hjr, hw j hjr]
    intro t ht
    have := hwk j hj
    rw [hg _ (by omega)]
    exact h j hj t ht
theorem mSto {w w' g z : Nat → Nat} {sg : Nat → Int32} {x : Nat → Int} {r b : Nat} {y : Int} (hwk : wOk w) (hwr : 1 ≤ w' r ∧ w' r ≤ 256) (hw : ∀ j, j ≠ r → w' j = w j) (h : mSt w g x) (hb : bV sg z b y) : mSt w' (mStore sg w' z r b g) (va_up x r (cM bB (w' r) y)) ∧ mKSg sg w' z r b g 2 = sI (cM bB (w' r) y) := by
  obtain ⟨s1, s2⟩ := mStore_is (g := g) (r := r) hwr.2 hb
  refine ⟨mSt.up hwk h hw s2 s1, ?_⟩
  obtain ⟨l1, -, -⟩ := mLoad_is (w := w') (r := r) (b := 2) (z := z) (sg := sg) hwr s1.cM (cM_c bB0 _ _)
  exact l1.2
theorem tz_pick (y : Int) : ∃ t, y ≠ 0 → tzI y t := by
  by_cases h : y = 0
  · exact ⟨0, fun q => absurd h q⟩
  · obtain ⟨t, ht⟩ := tzI_ex h
    exact ⟨t, fun _ => ht⟩
theorem lowB {sg : Nat → Int32} {z : Nat → Nat} {b t : Nat} {y : Int} (h : bV sg z b y) (ht : y ≠ 0 → tzI y t) : ¬ 0 ≤ sg b → mLow z b t := by
  intro q
  rw [h.2, sI_ge] at q
  have q : y < 0 := Int.not_le.mp (fun z => q (by omega))
  exact mLow_is h.1 (tzI_abs.mpr (ht (by omega)))
/-! put and limb -/
theorem lb_BH (x : Int) (k : Nat) : lm_lb bB x k = lm_lb bH x (2 * k) + 65536 * lm_lb bH x (2 * k + 1) := by
  unfold lm_lb
  rw [lm_dd bH0, ← bBH]
  generalize x / bB ^ k = q
  unfold bB bH
  omega
def puI (x : Int) (k : Nat) (v : Int32) : Int := x + bB ^ k * (dI v - lm_lb bB x k)
theorem pu_q (x : Int) (k : Nat) (v : Int32) : puI x k v / bB ^ k = bB * (x / bB ^ (k + 1)) + dI v := by
  unfold puI
  have hp := lm_pw bB0 k
  rw [Int.add_mul_ediv_left _ _ (by omega), lm_dd bB0]
  have e := lm_dm (x / bB ^ k) bB
  unfold lm_lb
  omega
theorem pu_hi (x : Int) (k : Nat) (v : Int32) : puI x k v / bB ^ (k + 1) = x / bB ^ (k + 1) := by
  have h0 := dI_0 v
  have h1 := dI_1 v
  rw [lm_dd bB0, pu_q]
  unfold bB at *
  omega
theorem pu_lo (x : Int) (k : Nat) (v : Int32) : puI x k v % bB ^ k = x % bB ^ k := by
  unfold puI
  rw [Int.add_mul_emod_self_left]
theorem put_c {w k : Nat} {f : Nat → Int32} {x : Int} (h : rIs w f x) (v : Int32) : rIs w (upd f k v) (puI x k v) := by
  intro t ht
  have h0 := dI_0 v
  have h1 := dI_1 v
  rcases Nat.lt_trichotomy t k with q | q | q
  · rw [pk_un (by omega), h t ht]
    exact (lm_ext' bB0 (pu_lo x k v) t q).symm
  · subst q
    rw [pk_us]
    unfold lm_lb
    rw [pu_q]
    unfold bB
    omega
  · rw [pk_un (by omega), h t ht]
    obtain ⟨s, rfl⟩ : ∃ s, t = k + 1 + s := ⟨t - k - 1, by omega⟩
    rw [lm_sh bB0, lm_sh bB0, pu_hi]
theorem hi16_is (v : Int32) : (hi16 v : Int) = dI v / 65536 := by
  unfold hi16
  have h0 := dI_0 v
  have h1 := dI_1 v
  have e := pk_shr v (nI 16 &&& 31) 16 (by decide)
  rw [Int.shiftRight_eq_div_pow] at e
  have e1 := dI_toInt (v >>> (nI 16 &&& 31))
  have e2 := dI_toInt v
  have e3 : dI (v >>> (nI 16 &&& 31)) = ((v >>> (nI 16 &&& 31)).toBitVec.toNat : Int) := rfl
  have e4 : ((2 ^ 16 : Nat) : Int) = 65536 := rfl
  rw [e4] at e
  split at e1 <;> split at e2 <;> omega
theorem put_m {w k r : Nat} {g : Nat → Nat} {x : Int} (h : mIs w g r x) (v : Int32) : mIs w (va_up (va_up g ((512 * r) + (2 * k)) (lo16 v)) (((512 * r) + (2 * k)) + 1) (hi16 v)) r (puI x k v) := by
  intro t ht
  have h0 := dI_0 v
  have h1 := dI_1 v
  have hlo : (lo16 v : Int) = dI v % 65536 := by unfold lo16 dI; omega
  by_cases q1 : t < 2 * k
  · rw [va_up_ne _ _ (by omega), va_up_ne _ _ (by omega), h t ht]
    refine (lm_ext' bH0 (n := 2 * k) ?_ t q1).symm
    rw [← bBH]
    exact pu_lo x k v
  · by_cases q2 : t = 2 * k
    · subst q2
      rw [va_up_ne _ _ (by omega), va_up_self, hlo]
      unfold lm_lb
      rw [← bBH, pu_q]
      unfold bB bH
      omega
    · by_cases q3 : t = 2 * k + 1
      · subst q3
        rw [← Nat.add_assoc, va_up_self, hi16_is]
        unfold lm_lb
        rw [lm_dd bH0, ← bBH, pu_q]
        unfold bB bH
        omega
      · rw [va_up_ne _ _ (by omega), va_up_ne _ _ (by omega), h t ht]
        obtain ⟨s, rfl⟩ : ∃ s, t = 2 * (k + 1) + s := ⟨t - 2 * (k + 1), by omega⟩
        rw [lm_sh bH0, lm_sh bH0, ← bBH, pu_hi]
theorem limb_m {w k r : Nat} {g : Nat → Nat} {x : Int} (h : mIs w g r x) (hk : k < w) : dI (mLimb g r k) = lm_lb bB x k := by
  have e1 := h (2 * k) (by omega)
  have e2 := h (2 * k + 1) (by omega)
  have l1 := lm_lb1 bH0 x (2 * k)
  have l2 := lm_lb1 bH0 x (2 * k + 1)
  rw [lb_BH, ← e1, ← e2]
  rw [← e1] at l1
  rw [← e2] at l2
  rw [← Nat.add_assoc] at l2 ⊢
  unfold mLimb
  generalize g (512 * r + 2 * k + 1) = a at *
  generalize g (512 * r + 2 * k) = c at *
  unfold bH at *
  have ha : a < 65536 := by omega
  have hc : c < 65536 := by omega
  have e3 : (nI a <<< (nI 16 &&& 31) ||| nI c).toBitVec.toNat = (nI a <<< (nI 16 &&& 31)).toBitVec.toNat ||| (nI c).toBitVec.toNat := by
    show ((nI a <<< (nI 16 &&& 31)).toBitVec ||| (nI c).toBitVec).toNat = _
    rw [BitVec.toNat_or]
  unfold dI
  rw [e3, pk_shl (nI a) (nI 16 &&& 31) 16 (by decide), pk_tn (by omega), pk_tn (by omega)]
  have e4 : a * 2 ^ 16 % 2 ^ 32 = 2 ^ 16 * a := by omega
  rw [e4, ← Nat.two_pow_add_eq_or_of_lt (i := 16) hc]
  omega
