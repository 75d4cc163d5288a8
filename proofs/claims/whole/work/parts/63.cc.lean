theorem lm_d0 {B : Int} (x : Int) : x / B ^ 0 = x := by simp
theorem rAdd_is {r a wr wa : Nat} {F : FF} {x y : Int} (hr : 1 ≤ wr ∧ wr ≤ 256) (ha : 1 ≤ wa ∧ wa ≤ 256) (hra : r = a → wr = wa) (hx : rIs wr (F r) x) (hy : rIs wa (F a) y) (hc : cN bB wa y) :
    (∀ t, t ≠ r → gAdd r a wa 0 (nI 0) (wr - 0) 0 (nI 0 &&& nI 1).toInt64 F t = F t) ∧ rIs wr (gAdd r a wa 0 (nI 0) (wr - 0) 0 (nI 0 &&& nI 1).toInt64 F r) (x + y) := by
  obtain ⟨h1, -, h3⟩ := gAdd_is (i := r) (j := a) (wj := wa) (st := 0) (n := wr) (F := F) (x := x) (y := y) (fl := nI 0) (c := (nI 0 &&& nI 1).toInt64) (c0 := 0) (Or.inl rfl) (by decide) (by decide) (fun k _ hk => hx k (by omega)) (rdY.of ha hy hc (by omega) (by
    by_cases h : a = r
    · exact Or.inr ⟨h, rfl, by have := hra h.symm; omega⟩
    · exact Or.inl h))
  refine ⟨h1, fun k hk => ?_⟩
  have := h3 k (by omega) (by omega)
  rw [if_pos rfl, lm_d0, Nat.sub_zero] at this
  rw [Nat.sub_zero, this]
  congr 1
  omega
theorem rSub_is {r a wr wa : Nat} {F : FF} {x y : Int} (hr : 1 ≤ wr ∧ wr ≤ 256) (ha : 1 ≤ wa ∧ wa ≤ 256) (hra : r = a → wr = wa) (hx : rIs wr (F r) x) (hy : rIs wa (F a) y) (hc : cN bB wa y) :
    (∀ t, t ≠ r → gAdd r a wa 0 (-1) (wr - 0) 0 (-1 &&& nI 1).toInt64 F t = F t) ∧ rIs wr (gAdd r a wa 0 (-1) (wr - 0) 0 (-1 &&& nI 1).toInt64 F r) (x - y) := by
  obtain ⟨h1, -, h3⟩ := gAdd_is (i := r) (j := a) (wj := wa) (st := 0) (n := wr) (F := F) (x := x) (y := y) (fl := -1) (c := (-1 &&& nI 1).toInt64) (c0 := 1) (Or.inr rfl) (by decide) (by decide) (fun k _ hk => hx k (by omega)) (rdY.of ha hy hc (by omega) (by
    by_cases h : a = r
    · exact Or.inr ⟨h, rfl, by have := hra h.symm; omega⟩
    · exact Or.inl h))
  refine ⟨h1, fun k hk => ?_⟩
  have := h3 k (by omega) (by omega)
  rw [if_neg (by decide), lm_d0, Nat.sub_zero] at this
  rw [Nat.sub_zero, this]
  congr 1
  omega
theorem gCopy_is {r a wr wa : Nat} {F : FF} {y : Int} (hr : 1 ≤ wr ∧ wr ≤ 256) (ha : 1 ≤ wa ∧ wa ≤ 256) (hra : r = a → wr = wa) (hy : rIs wa (F a) y) (hc : cN bB wa y) :
    (∀ t, t ≠ r → gCopy r a wa wr 0 F t = F t) ∧ rIs wr (gCopy r a wa wr 0 F r) y := by
  have hrd : rdY r a wa 0 wr F y := rdY.of ha hy hc (by omega) (by
    by_cases h : a = r
    · exact Or.inr ⟨h, rfl, by have := hra h.symm; omega⟩
    · exact Or.inl h)
  obtain ⟨h1, -, -, h4⟩ := gl_up (σ := Unit) (G := fun n k _ F => gCopy r a wa n k F) (i := r) (dg := fun k _ F => rAt wa (F a) (nI k)) (cy := fun _ _ _ => ()) (fun _ _ _ => rfl) (fun _ _ _ _ => rfl) (fun _ _ => True) (fun k => lm_lb bB y k) F 0 wr () trivial
    (fun k c G h0 hk _ hj hu => ⟨hrd k G h0 hk hj hu, trivial⟩)
  exact ⟨h1, fun k hk => h4 k (by omega) (by omega)⟩
/-! signed longs -/
theorem uN_tI (x : Int64) : (uN x : Int) = x.toInt % 18446744073709551616 := by
  have h := uN_int x
  have := uN_lt x
  split at h <;> omega
theorem tI_of {x : Int64} {T : Int} (h : (uN x : Int) = T % 18446744073709551616) (h1 : -9223372036854775808 ≤ T) (h2 : T < 9223372036854775808) : x.toInt = T := by
  have h3 := uN_int x
  have := uN_lt x
  split at h3 <;> omega
theorem tI_lo (x : Int64) : -9223372036854775808 ≤ x.toInt := by
  have h3 := uN_int x
  have := uN_lt x
  split at h3 <;> omega
theorem tI_hi (x : Int64) : x.toInt < 9223372036854775808 := by
  have h3 := uN_int x
  have := uN_lt x
  split at h3 <;> omega
theorem tI_s32 (x : Int64) : (j_lr x (nI 32)).toInt = x.toInt / 4294967296 := by
  have h : (((nI 32).toInt64 &&& 63).toBitVec.smod 64).toNat = 32 := by decide
  show (x.toBitVec.sshiftRight (((nI 32).toInt64 &&& 63).toBitVec.smod 64).toNat).toInt = _
  rw [h, BitVec.toInt_sshiftRight, Int.shiftRight_eq_div_pow]
  rfl
theorem dI_tI (v : Int64) : dI v.toInt32 = v.toInt % 4294967296 := by
  rw [dI_l, uN_tI]
  omega
theorem gSet_is (r w : Nat) (v : Int64) (F : FF) : (∀ t, t ≠ r → gSet r w 0 v F t = F t) ∧ rIs w (gSet r w 0 v F r) v.toInt := by
  obtain ⟨h1, -, -, h4⟩ := gl_up (G := fun n k c F => gSet r n k c F) (i := r) (dg := fun k c F => c.toInt32) (cy := fun _ c _ => j_lr c (nI 32)) (fun _ _ _ => rfl) (fun _ _ _ _ => rfl) (fun k c => c.toInt = v.toInt / bB ^ k) (fun k => lm_lb bB v.toInt k) F 0 w v (lm_d0 _).symm
    (fun k c G _ hk hi _ hu => ⟨by rw [dI_tI, hi]; rfl, by rw [tI_s32, hi, lm_dd bB0]⟩)
  exact ⟨h1, fun k hk => h4 k (by omega) (by omega)⟩
theorem rFitsL_is {w : Nat} (hw : 1 ≤ w) (v : Int64) : (rFitsL w v = nI 1 ∧ cN bB w v.toInt) ∨ (rFitsL w v = nI 0 ∧ ¬ cN bB w v.toInt) := by
  have hl := tI_lo v
  have hh := tI_hi v
  unfold rFitsL
  by_cases h1 : 1 < w
  · rw [if_pos h1]
    refine Or.inl ⟨rfl, cN_mono bB0 (n := 2) ?_ (by omega)⟩
    unfold cN
    have : bB ^ 2 = 18446744073709551616 := by decide
    rw [this]
    omega
  · have hw1 : w = 1 := by omega
    subst hw1
    rw [if_neg h1]
    have e : bB ^ 1 = 4294967296 := by decide
    have e2 : v.toInt32.toInt64.toInt = v.toInt32.toInt := Int32.toInt_toInt64 _
    have e3 := dI_toInt v.toInt32
    have e4 := dI_tI v
    have e5 : v = v.toInt32.toInt64 ↔ v.toInt = v.toInt32.toInt := by rw [← e2, Int64.toInt_inj]
    unfold cN
    rw [e]
    by_cases h2 : lg_cmp v v.toInt32.toInt64 = 0
    · rw [if_pos h2]
      refine Or.inl ⟨rfl, ?_⟩
      have h3 := e5.mp ((lg_cmp_eq _ _).mp h2)
      split at e3 <;> omega
    · rw [if_neg h2]
      refine Or.inr ⟨rfl, fun z => h2 ((lg_cmp_eq _ _).mpr (e5.mpr ?_))⟩
      split at e3 <;> omega
theorem gTim_is {r w : Nat} {F : FF} {x : Int} (v : Int64) (hx : rIs w (F r) x) : (∀ t, t ≠ r → gTim r (v &&& 4294967295) (j_lr v (nI 32)) w 0 0 F t = F t) ∧ rIs w (gTim r (v &&& 4294967295) (j_lr v (nI 32)) w 0 0 F r) (x * v.toInt) := by
  have hvl := tI_lo v
  have hvh := tI_hi v
  have ulo : (uN (v &&& 4294967295) : Int) = v.toInt % 4294967296 := by rw [uN_lo, Int.natCast_emod, uN_tI]; omega
  have uhi := uN_tI (j_lr v (nI 32))
  rw [tI_s32] at uhi
  obtain ⟨h1, -, -, h4⟩ := gl_up (G := fun n k c F => gTim r (v &&& 4294967295) (j_lr v (nI 32)) n k c F) (i := r) (dg := fun k c F => (sTim r (v &&& 4294967295) k c F).toInt32) (cy := fun k c F => cTim r (v &&& 4294967295) (j_lr v (nI 32)) k c F) (fun _ _ _ => rfl) (fun _ _ _ _ => rfl)
    (fun k c => c.toInt = cY bB 0 v.toInt x 0 k) (fun k => lm_lb bB (0 + v.toInt * x + 0) k) F 0 w 0 (by rw [cY_0]; rfl)
    (fun k c G _ hk hi hj hu => by
      obtain ⟨l1, l2⟩ := lm_lin bB0 0 v.toInt x 0 k
      rw [lm_0] at l1 l2
      have hxk := hx k (by omega)
      rw [← hu k (Nat.le_refl _)] at hxk
      have u1 := uN_un (G r k)
      have b1 := dI_1 (G r k)
      have b0 := dI_0 (G r k)
      have ucl : (uN (c &&& 4294967295) : Int) = c.toInt % 4294967296 := by rw [uN_lo, Int.natCast_emod, uN_tI]; omega
      have ucs := uN_tI (j_lr c (nI 32))
      rw [tI_s32] at ucs
      have hcl := tI_lo c
      have hch := tI_hi c
      -- the exact next carry is small
      have hbd : -9223372036854775808 ≤ cY bB 0 v.toInt x 0 (k + 1) ∧ cY bB 0 v.toInt x 0 (k + 1) < 9223372036854775808 := by
        unfold cY
        have hp := lm_pw bB0 (k + 1)
        generalize bB ^ (k + 1) = P at hp ⊢
        have d0 := Int.emod_nonneg x (show P ≠ 0 by omega)
        have d1 := Int.emod_lt_of_pos x hp
        generalize x % P = X at d0 d1 ⊢
        have m1 : -9223372036854775808 * X ≤ v.toInt * X := Int.mul_le_mul_of_nonneg_right hvl d0
        have m2 : v.toInt * X ≤ 9223372036854775807 * X := Int.mul_le_mul_of_nonneg_right (by omega) d0
        have z0 : (0 : Int) % P = 0 := Int.zero_emod _
        rw [z0]
        constructor
        · rw [Int.le_ediv_iff_mul_le hp]
          omega
        · rw [Int.ediv_lt_iff_lt_mul hp]
          omega
      generalize dI (G r k) = d at *
      rw [← hi] at l1 l2
      rw [← hxk] at l1 l2
      have hmul : d * (v.toInt % 4294967296) ≤ 4294967295 * 4294967295 := Int.mul_le_mul (by omega) (by omega) (by omega) (by decide)
      have hmul0 : 0 ≤ d * (v.toInt % 4294967296) := Int.mul_nonneg b0 (by omega)
      have us : (uN (sTim r (v &&& 4294967295) k c G) : Int) = d * (v.toInt % 4294967296) + c.toInt % 4294967296 := by
        unfold sTim
        have um : (uN (rUn (G r k) * (v &&& 4294967295)) : Int) = d * (v.toInt % 4294967296) := by
          rw [uNM _ _ (by rw [u1, ulo]; omega), u1, ulo]
        rw [uNI _ _ (by rw [um, ucl]; omega), um, ucl]
      have hv : v.toInt * d = 4294967296 * (d * (v.toInt / 4294967296)) + d * (v.toInt % 4294967296) := by
        have := lm_dm v.toInt 4294967296
        grind
      constructor
      · rw [dI_l, us, l1, hv]
        show _ % (4294967296 : Int) = _ % (4294967296 : Int)
        generalize d * (v.toInt % 4294967296) = p
        generalize d * (v.toInt / 4294967296) = q
        omega
      · have e1 : cY bB 0 v.toInt x 0 (k + 1) = d * (v.toInt / 4294967296) + c.toInt / 4294967296 + (d * (v.toInt % 4294967296) + c.toInt % 4294967296) / 4294967296 := by
          rw [l2, hv]
          show _ / (4294967296 : Int) = _
          generalize d * (v.toInt % 4294967296) = p
          generalize d * (v.toInt / 4294967296) = q
          omega
        refine tI_of ?_ hbd.1 hbd.2
        rw [e1]
        unfold cTim
        rw [uN_add, uN_add, uN_mul]
        simp only [Int.natCast_emod, Int.natCast_add, Int.natCast_mul]
        rw [uN_h, us, u1, uhi, ucs]
        generalize (d * (v.toInt % 4294967296) + c.toInt % 4294967296) / 4294967296 = s
        generalize c.toInt / 4294967296 = t
        have e3 : d * (v.toInt / 4294967296 % 18446744073709551616) % 18446744073709551616 = d * (v.toInt / 4294967296) % 18446744073709551616 := by
          rw [Int.mul_emod, Int.emod_emod_of_dvd _ (Int.dvd_refl _), ← Int.mul_emod]
        generalize d * (v.toInt / 4294967296 % 18446744073709551616) = p at e3
        generalize d * (v.toInt / 4294967296) = q at e3 ⊢
        omega)
  refine ⟨h1, fun k hk => ?_⟩
  rw [h4 k (by omega) (by omega)]
  congr 1
  rw [Int.mul_comm]
  omega
