/-! What the model's methods keep: the numbers. -/
theorem nSt.in {w : Nat → Nat} {x : Nat → Int} {r : Nat} (hw : wOk w) (h : nSt w x) (hr : r < 64) : ((x r).natAbs : Int) < bH ^ 512 ∧ ((x r).natAbs : Int) < 2 ^ 8192 := by
  have hc := cNH.mp (h r hr)
  have hwr := hw r hr
  have h1 := bH_le (m := 2 * w r) (n := 512) (by omega)
  have hp := lm_pw bH0 (2 * w r)
  unfold cN at hc
  have e : bH ^ 512 = 2 ^ 8192 := by
    have := bH_2 512 0
    rw [Int.pow_zero, Int.mul_one] at this
    exact this.symm
  rw [← e]
  omega
theorem bH_big {a b : Int} (ha : a < bH ^ 512) (hb : b < bH ^ 1099) : a + b < bH ^ 1100 := by
  have h1 : bH ^ 1099 * bH = bH ^ 1100 := (Int.pow_succ bH 1099).symm
  have h2 := bH_le (m := 512) (n := 1099) (by decide)
  have h3 : bH ^ 1099 * 2 ≤ bH ^ 1099 * bH := Int.mul_le_mul_of_nonneg_left (by decide) (Int.le_of_lt (lm_pw bH0 1099))
  omega
theorem bV.ld {w g z : Nat → Nat} {sg : Nat → Int32} {x : Nat → Int} {r : Nat} (hw : wOk w) (hm : mSt w g x) (hn : nSt w x) (hr : r < 64) (b : Nat) : bV (mLoadG w g r b z sg) (mLoadZ w g r b z) b (x r) := (mLoad_is (hw r hr) (hm r hr) (hn r hr)).1
theorem bV.st {w g z : Nat → Nat} {sg : Nat → Int32} {x : Nat → Int} {r b c : Nat} {y : Int} (hw : wOk w) (hm : mSt w g x) (hn : nSt w x) (hr : r < 64) (hcb : c ≠ b) (h : bV sg z c y) : bV (mLoadG w g r b z sg) (mLoadZ w g r b z) c y := by
  obtain ⟨-, h2, h3⟩ := mLoad_is (b := b) (z := z) (sg := sg) (hw r hr) (hm r hr) (hn r hr)
  exact ⟨h2.zIs hcb h.1, by rw [h3 c hcb]; exact h.2⟩
/-- the number y is laid into row r: what is kept, and the answers -/
theorem mo_sto {w g z : Nat → Nat} {sg : Nat → Int32} {x : Nat → Int} {r b : Nat} {y : Int} (hok : mdOk w g z) (hm : mSt w g x) (hn : nSt w x) (hr : r < 64) (hb : bV sg z b y) :
    ∃ t, (¬ 0 ≤ sg b → mLow z b t) ∧ ((mFits sg w z r b t = 1 ∧ cN bB (w r) y) ∨ (mFits sg w z r b t = 0 ∧ ¬ cN bB (w r) y)) ∧ mKSg sg w z r b g 2 = sI (cM bB (w r) y) ∧ mdOk w (mStore sg w z r b g) z ∧ mdOk w (mStore sg w z r b g) (mKZ sg w z r b g) ∧ mSt w (mStore sg w z r b g) (va_up x r (cM bB (w r) y)) ∧ nSt w (va_up x r (cM bB (w r) y)) := by
  obtain ⟨t, ht⟩ := tz_pick y
  obtain ⟨s1, s2⟩ := mSto (r := r) (w' := w) hok.1 (hok.1 r hr) (fun _ _ => rfl) hm hb
  exact ⟨t, lowB hb ht, mFits_is (hok.1 r hr).1 hb (fun h => ht (by omega)), s2, mStore_ok hok, mLoadZ_ok (mStore_ok hok), s1, hn.up (fun _ _ => rfl) y⟩
theorem fit_eq {f : Int32} {n : Nat} {P : Prop} (h1 : (f = nI 1 ∧ P) ∨ (f = nI 0 ∧ ¬ P)) (h2 : (n = 1 ∧ P) ∨ (n = 0 ∧ ¬ P)) : f = nI n := by
  rcases h1 with ⟨a, b⟩ | ⟨a, b⟩ <;> rcases h2 with ⟨c, d⟩ | ⟨c, d⟩
  · rw [a, c]
  · exact absurd b d
  · exact absurd d b
  · rw [a, c]
section MO
variable {w g z : Nat → Nat} {sg : Nat → Int32} {x : Nat → Int} {r a u : Nat}
theorem bv_two (hw : wOk w) (hm : mSt w g x) (hn : nSt w x) (hr : r < 64) (ha : a < 64) {f : Nat} (hf : f < 2) :
    bV (upd (mLoadG w g a 1 (mLoadZ w g r 0 z) (mLoadG w g r 0 z sg)) 0 (mCombS (mLoadG w g a 1 (mLoadZ w g r 0 z) (mLoadG w g r 0 z sg)) 0 1 (mOth (mLoadG w g a 1 (mLoadZ w g r 0 z) (mLoadG w g r 0 z sg)) 1 f) (mLoadZ w g a 1 (mLoadZ w g r 0 z)))) (mCombZ (mLoadG w g a 1 (mLoadZ w g r 0 z) (mLoadG w g r 0 z sg)) 0 1 (mOth (mLoadG w g a 1 (mLoadZ w g r 0 z) (mLoadG w g r 0 z sg)) 1 f) (mLoadZ w g a 1 (mLoadZ w g r 0 z))) 0 (if f = 0 then x r + x a else x r - x a) :=
  (mComb_is (b := 0) (q := 1) (by decide) hf (bV.st hw hm hn ha (by decide) (bV.ld hw hm hn hr 0)) (bV.ld hw hm hn ha 1) (bH_big (hn.in hw hr).1 (Int.lt_of_lt_of_le (hn.in hw ha).1 (bH_le (by decide))))).1
theorem bv_mul (hw : wOk w) (hm : mSt w g x) (hn : nSt w x) (ha : a < 64) (hu : u < 64) : mMulN (mClr 2 cZ 0 (mLoadZ w g u 1 (mLoadZ w g a 0 z))) 0 + mMulN (mClr 2 cZ 0 (mLoadZ w g u 1 (mLoadZ w g a 0 z))) 1 ≤ 1100 ∧ bV (mMulG (mLoadG w g u 1 (mLoadZ w g a 0 z) (mLoadG w g a 0 z sg))) (mMulZ (mLoadZ w g u 1 (mLoadZ w g a 0 z))) 2 (x a * x u) := by
  obtain ⟨h1, h2, -, -⟩ := mMul_is (n := 512) (m := 512) (bV.st (b := 1) (sg := mLoadG w g a 0 z sg) (z := mLoadZ w g a 0 z) hw hm hn hu (show (0 : Nat) ≠ 1 by decide) (bV.ld hw hm hn ha 0)) (bV.ld hw hm hn hu 1) (hn.in hw ha).1 (hn.in hw hu).1 (by decide)
  exact ⟨h1, h2⟩
theorem bv_pro (hw : wOk w) (hm : mSt w g x) (hn : nSt w x) (hr : r < 64) (ha : a < 64) (hu : u < 64) {f : Nat} (hf : f < 2) :
    bV (upd (mLoadG w g r 0 (mMulZ (mLoadZ w g u 1 (mLoadZ w g a 0 z))) (mMulG (mLoadG w g u 1 (mLoadZ w g a 0 z) (mLoadG w g a 0 z sg)))) 0 (mCombS (mLoadG w g r 0 (mMulZ (mLoadZ w g u 1 (mLoadZ w g a 0 z))) (mMulG (mLoadG w g u 1 (mLoadZ w g a 0 z) (mLoadG w g a 0 z sg)))) 0 2 (mOth (mLoadG w g r 0 (mMulZ (mLoadZ w g u 1 (mLoadZ w g a 0 z))) (mMulG (mLoadG w g u 1 (mLoadZ w g a 0 z) (mLoadG w g a 0 z sg)))) 2 f) (mLoadZ w g r 0 (mMulZ (mLoadZ w g u 1 (mLoadZ w g a 0 z)))))) (mCombZ (mLoadG w g r 0 (mMulZ (mLoadZ w g u 1 (mLoadZ w g a 0 z))) (mMulG (mLoadG w g u 1 (mLoadZ w g a 0 z) (mLoadG w g a 0 z sg)))) 0 2 (mOth (mLoadG w g r 0 (mMulZ (mLoadZ w g u 1 (mLoadZ w g a 0 z))) (mMulG (mLoadG w g u 1 (mLoadZ w g a 0 z) (mLoadG w g a 0 z sg)))) 2 f) (mLoadZ w g r 0 (mMulZ (mLoadZ w g u 1 (mLoadZ w g a 0 z))))) 0 (if f = 0 then x r + x a * x u else x r - x a * x u) := by
  have hm2 := (bv_mul (z := z) (sg := sg) hw hm hn ha hu).2
  have hlt : ((x a * x u).natAbs : Int) < bH ^ 1099 := by
    have h1 := (hn.in hw ha).1
    have h2 := (hn.in hw hu).1
    rw [Int.natAbs_mul, Int.natCast_mul]
    have h3 : ((x a).natAbs : Int) * ((x u).natAbs : Int) ≤ (bH ^ 512 - 1) * (bH ^ 512 - 1) := Int.mul_le_mul (by omega) (by omega) (by omega) (by have := lm_pw bH0 512; omega)
    have e : (bH ^ 512 - 1) * (bH ^ 512 - 1) = bH ^ 512 * bH ^ 512 - bH ^ 512 - bH ^ 512 + 1 := by grind
    have e2 : bH ^ 512 * bH ^ 512 = bH ^ 1024 := (Int.pow_add bH 512 512).symm
    have := bH_le (m := 1024) (n := 1099) (by decide)
    have := lm_pw bH0 512
    omega
  exact (mComb_is (b := 0) (q := 2) (by decide) hf (bV.ld hw hm hn hr 0) (bV.st hw hm hn hr (by decide) hm2) (bH_big (hn.in hw hr).1 hlt)).1
theorem bv_tim (hw : wOk w) (hm : mSt w g x) (hn : nSt w x) (hr : r < 64) (v : Int64) : mMulN (mClr 2 cZ 0 (mLongZ v 1 (mLoadZ w g r 0 z))) 0 + mMulN (mClr 2 cZ 0 (mLongZ v 1 (mLoadZ w g r 0 z))) 1 ≤ 1100 ∧ bV (mMulG (mLongG v 1 (mLoadG w g r 0 z sg))) (mMulZ (mLongZ v 1 (mLoadZ w g r 0 z))) 2 (x r * v.toInt) := by
  obtain ⟨l1, l2, l3⟩ := mLong_is v 1 (mLoadZ w g r 0 z) (mLoadG w g r 0 z sg)
  have h0 := bV.ld (z := z) (sg := sg) hw hm hn hr 0
  have hlo := tI_lo v
  have hhi := tI_hi v
  have e4 : bH ^ 4 = 18446744073709551616 := by decide
  obtain ⟨h1, h2, -, -⟩ := mMul_is (n := 512) (m := 4) (sg := mLongG v 1 (mLoadG w g r 0 z sg)) (z := mLongZ v 1 (mLoadZ w g r 0 z)) (x := x r) ⟨l2.zIs (by decide) h0.1, by rw [l3 0 (by decide)]; exact h0.2⟩ l1 (hn.in hw hr).1 (by omega) (by decide)
  exact ⟨h1, h2⟩
theorem bv_neg (hw : wOk w) (hm : mSt w g x) (hn : nSt w x) (hr : r < 64) : bV (upd (mLoadG w g r 0 z sg) 0 (-(mLoadG w g r 0 z sg 0))) (mLoadZ w g r 0 z) 0 (-(x r)) := by
  have h0 := bV.ld (z := z) (sg := sg) hw hm hn hr 0
  refine ⟨?_, ?_⟩
  · rw [Int.natAbs_neg]; exact h0.1
  · rw [pk_us, h0.2, sI_neg]
theorem bv_lef (hw : wOk w) (hm : mSt w g x) (hn : nSt w x) (hr : r < 64) {k : Nat} (hk : k ≤ 8192) : mBits (mClr 1 cZ 0 (mLoadZ w g r 0 z)) 0 ≤ 8192 ∧ bV (upd (upd (mLoadG w g r 0 z sg) 1 (nI 0)) 1 ((upd (mLoadG w g r 0 z sg) 1 (nI 0)) 0)) (mLfZ k (mBits (mClr 1 cZ 0 (mLoadZ w g r 0 z)) 0) 0 (mClr 1 cZ 0 (mLoadZ w g r 0 z))) 1 (x r * 2 ^ k) :=
  lf_is hk (bV.ld hw hm hn hr 0) (hn.in hw hr).2
theorem bv_hlf (hw : wOk w) (hm : mSt w g x) (hn : nSt w x) (hr : r < 64) {k : Nat} (hk : k ≤ 8192) (f : Nat) : bV (mHfS (mLoadG w g r 0 z sg) k f (mLoadZ w g r 0 z)) (mHfZ (mLoadG w g r 0 z sg) k f (mLoadZ w g r 0 z)) 1 (hvI (x r) k + if f = 0 then 0 else (sI (x r)).toInt) :=
  hv_is hk (bV.ld hw hm hn hr 0) (Int.lt_of_lt_of_le (hn.in hw hr).1 (bH_le (by decide)))
/-- division: quotients and remainders -/
theorem fl_pos {X d : Int} (h : 0 ≤ X) : (X.natAbs : Int) / d = X / d ∧ (X.natAbs : Int) % d = X % d := by
  rw [show (X.natAbs : Int) = X by omega]
  exact ⟨rfl, rfl⟩
theorem fl_neg {X d : Int} (h : X < 0) (hd : 0 < d) : ((X.natAbs : Int) % d = 0 → X / d = -((X.natAbs : Int) / d) ∧ X % d = 0) ∧ (¬ (X.natAbs : Int) % d = 0 → X / d = -((X.natAbs : Int) / d) - 1 ∧ X % d = d - (X.natAbs : Int) % d) := by
  have e := lm_dm (X.natAbs : Int) d
  have b0 := Int.emod_nonneg (X.natAbs : Int) (show d ≠ 0 by omega)
  have b1 := Int.emod_lt_of_pos (X.natAbs : Int) hd
  constructor
  · intro q
    exact lm_uq (m := d) hd (by rw [Int.mul_neg]; omega) (by omega) hd
  · intro q
    exact lm_uq (m := d) hd (by rw [Int.mul_sub, Int.mul_neg, Int.mul_one]; omega) (by omega) (by omega)
end MO
