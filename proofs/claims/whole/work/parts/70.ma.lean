/-! The model's buffers and rows, as numbers. -/
theorem zl_go {σ α : Type} {G : Nat → Nat → σ → (Nat → Nat) → α} {fin : Nat → σ → (Nat → Nat) → α} {b : Nat} {dg : Nat → σ → (Nat → Nat) → Nat} {cy : Nat → σ → (Nat → Nat) → σ} (h0 : ∀ k c z, G 0 k c z = fin k c z) (h1 : ∀ n k c z, G (n + 1) k c z = G n (k + 1) (cy k c z) (va_up z (b + k) (dg k c z)))
    (Inv : Nat → σ → Prop) (D : Nat → Int) (Z : Nat → Nat) (k0 N : Nat)
    (hs : ∀ k c z, k0 ≤ k → k < k0 + N → Inv k c → (∀ p, p < b + k0 ∨ b + k ≤ p → z p = Z p) → (dg k c z : Int) = D k ∧ Inv (k + 1) (cy k c z)) :
    ∀ n k c z, k + n = k0 + N → k0 ≤ k → Inv k c → (∀ p, p < b + k0 ∨ b + k ≤ p → z p = Z p) → (∀ t, k0 ≤ t → t < k → (z (b + t) : Int) = D t) →
      ∃ c' z', G n k c z = fin (k0 + N) c' z' ∧ Inv (k0 + N) c' ∧ (∀ p, p < b + k0 ∨ b + (k0 + N) ≤ p → z' p = Z p) ∧ (∀ t, k0 ≤ t → t < k0 + N → (z' (b + t) : Int) = D t) := by
  intro n
  induction n with
  | zero =>
    intro k c z hk hk0 hi hu hd
    have : k = k0 + N := by omega
    subst this
    exact ⟨c, z, h0 _ _ _, hi, hu, hd⟩
  | succ n ih =>
    intro k c z hk hk0 hi hu hd
    rw [h1]
    obtain ⟨e1, e2⟩ := hs k c z hk0 (by omega) hi hu
    refine ih (k + 1) _ _ (by omega) (by omega) e2 ?_ ?_
    · intro p hp
      rw [va_up_ne _ _ (by omega)]
      exact hu p (by omega)
    · intro t a c2
      by_cases htk : t = k
      · subst htk; rw [va_up_self]; exact e1
      · rw [va_up_ne _ _ (by omega)]; exact hd t a (by omega)
theorem zl_up {σ α : Type} {G : Nat → Nat → σ → (Nat → Nat) → α} {fin : Nat → σ → (Nat → Nat) → α} {b : Nat} {dg : Nat → σ → (Nat → Nat) → Nat} {cy : Nat → σ → (Nat → Nat) → σ} (h0 : ∀ k c z, G 0 k c z = fin k c z) (h1 : ∀ n k c z, G (n + 1) k c z = G n (k + 1) (cy k c z) (va_up z (b + k) (dg k c z)))
    (Inv : Nat → σ → Prop) (D : Nat → Int) (Z : Nat → Nat) (k0 N : Nat) (c : σ) (hi : Inv k0 c)
    (hs : ∀ k c z, k0 ≤ k → k < k0 + N → Inv k c → (∀ p, p < b + k0 ∨ b + k ≤ p → z p = Z p) → (dg k c z : Int) = D k ∧ Inv (k + 1) (cy k c z)) :
      ∃ c' z', G N k0 c Z = fin (k0 + N) c' z' ∧ Inv (k0 + N) c' ∧ (∀ p, p < b + k0 ∨ b + (k0 + N) ≤ p → z' p = Z p) ∧ (∀ t, k0 ≤ t → t < k0 + N → (z' (b + t) : Int) = D t) :=
  zl_go h0 h1 Inv D Z k0 N hs N k0 c Z rfl (Nat.le_refl _) hi (fun _ _ => rfl) (fun t a b => by omega)
/-- buffer b keeps the number M -/
def zIs (z : Nat → Nat) (b : Nat) (M : Int) : Prop := 0 ≤ M ∧ M < bH ^ 1100 ∧ ∀ j, j < 1100 → (z (1100 * b + j) : Int) = lm_lb bH M j
/-- the other buffers stay -/
def zO (z z' : Nat → Nat) (b : Nat) : Prop := ∀ p, p < 1100 * b ∨ 1100 * b + 1100 ≤ p → z' p = z p
theorem zO.zIs {z z' : Nat → Nat} {b c : Nat} {M : Int} (h : zO z z' b) (hb : c ≠ b) (hz : zIs z c M) : zIs z' c M :=
  ⟨hz.1, hz.2.1, fun j hj => by rw [h _ (by omega)]; exact hz.2.2 j hj⟩
theorem zO.rfl {z : Nat → Nat} {b : Nat} : zO z z b := fun _ _ => Eq.refl _
theorem zO.trans {z z' z'' : Nat → Nat} {b : Nat} (h : zO z z' b) (h2 : zO z' z'' b) : zO z z'' b := fun p hp => (h2 p hp).trans (h p hp)
theorem bHp : (0 : Int) < bH ^ 1100 := lm_pw bH0 1100
theorem zIs_uq {z : Nat → Nat} {b : Nat} {M M' : Int} (h : zIs z b M) (h' : zIs z b M') : M = M' := by
  have := lm_ext bH0 (x := M) (y := M') (n := 1100) (fun k hk => by rw [← h.2.2 k hk, ← h'.2.2 k hk])
  rwa [Int.emod_eq_of_lt h.1 h.2.1, Int.emod_eq_of_lt h'.1 h'.2.1] at this
theorem mClr_is (b : Nat) (z : Nat → Nat) : zIs (mClr b cZ 0 z) b 0 ∧ zO z (mClr b cZ 0 z) b := by
  obtain ⟨-, z', e, -, h1, h2⟩ := zl_up (σ := Unit) (G := fun n k _ z => mClr b n k z) (fin := fun _ _ z => z) (b := 1100 * b) (dg := fun _ _ _ => 0) (cy := fun _ _ _ => ()) (fun _ _ _ => rfl) (fun _ _ _ _ => rfl) (fun _ _ => True) (fun _ => 0) z 0 cZ () trivial (fun _ _ _ _ _ _ _ => ⟨rfl, trivial⟩)
  have e : mClr b cZ 0 z = z' := e
  rw [e]
  have hc := cZ_eq
  refine ⟨⟨Int.le_refl _, bHp, fun j hj => ?_⟩, fun p hp => h1 p (by omega)⟩
  rw [h2 j (by omega) (by omega), lm_0]
theorem mIz_is {z : Nat → Nat} {b : Nat} {M : Int} (h : zIs z b M) : mIz z b cZ 0 1 = if M = 0 then 1 else 0 := by
  have key : ∀ n k f, k + n = 1100 → f < 2 → (f = 1 ↔ ∀ t, t < k → z (1100 * b + t) = 0) → mIz z b n k f < 2 ∧ (mIz z b n k f = 1 ↔ ∀ t, t < 1100 → z (1100 * b + t) = 0) := by
    intro n
    induction n with
    | zero =>
      intro k f hk hf h1
      have : k = 1100 := by omega
      subst this
      exact ⟨hf, h1⟩
    | succ n ih =>
      intro k f hk hf h1
      unfold mIz
      refine ih (k + 1) _ (by omega) (by split; omega; split <;> omega) ?_
      constructor
      · intro hq t ht
        have hf1 : f = 1 := by
          rcases (show f = 0 ∨ f = 1 by omega) with q | q
          · rw [if_pos q] at hq; omega
          · exact q
        rw [if_neg (by omega)] at hq
        by_cases htk : t = k
        · subst htk
          by_cases hz : z (1100 * b + t) = 0
          · exact hz
          · rw [if_neg hz] at hq; omega
        · exact h1.mp hf1 t (by omega)
      · intro hq
        have hf1 : f = 1 := h1.mpr (fun t ht => hq t (by omega))
        rw [if_neg (by omega), if_pos (hq k (by omega))]
  obtain ⟨h1, h2⟩ := key cZ 0 1 (by rw [cZ_eq]) (by omega) ⟨fun _ t ht => by omega, fun _ => rfl⟩
  by_cases hM : M = 0
  · rw [if_pos hM]
    refine h2.mpr (fun t ht => ?_)
    have := h.2.2 t ht
    rw [hM, lm_0] at this
    omega
  · rw [if_neg hM]
    rcases (show mIz z b cZ 0 1 = 0 ∨ mIz z b cZ 0 1 = 1 by omega) with q | q
    · exact q
    · exfalso
      apply hM
      have h3 := h2.mp q
      have := lm_zero bH0 (x := M) (n := 1100) (fun k hk => by rw [← h.2.2 k hk, h3 k hk]; rfl)
      rwa [Int.emod_eq_of_lt h.1 h.2.1] at this
/-- buffer b keeps x, with its sign -/
def bV (sg : Nat → Int32) (z : Nat → Nat) (b : Nat) (x : Int) : Prop := zIs z b (x.natAbs : Int) ∧ sg b = sI x
/-- row r keeps x -/
def mIs (w : Nat) (g : Nat → Nat) (r : Nat) (x : Int) : Prop := ∀ j, j < 2 * w → (g (512 * r + j) : Int) = lm_lb bH x j
theorem bBH (w : Nat) : bB ^ w = bH ^ (2 * w) := by
  rw [Int.pow_mul]
  rfl
theorem cNH {w : Nat} {x : Int} : cN bB w x ↔ cN bH (2 * w) x := by
  unfold cN
  rw [bBH]
theorem mLess_is {w g : Nat → Nat} {r : Nat} {x : Int} (hw : 1 ≤ w r ∧ w r ≤ 256) (h : mIs (w r) g r x) (hc : cN bB (w r) x) : mLess w g r = if x < 0 then 1 else 0 := by
  have h1 := h (2 * w r - 1) (by omega)
  have hc2 := cNH.mp hc
  rw [show 2 * w r = 2 * w r - 1 + 1 by omega] at hc2
  have hs := lm_sg (B := bH) (e := 32768) rfl (by decide) hc2
  rw [← h1] at hs
  unfold mLess
  rw [show 512 * r + 2 * w r - 1 = 512 * r + (2 * w r - 1) by omega]
  by_cases hx : x < 0
  · rw [if_pos hx, if_neg]
    have := hs.mpr hx
    omega
  · rw [if_neg hx, if_pos]
    have := mt hs.mp hx
    omega
theorem bH_le {m n : Nat} (h : m ≤ n) : bH ^ m ≤ bH ^ n := by
  obtain ⟨k, rfl⟩ : ∃ k, n = m + k := ⟨n - m, by omega⟩
  rw [Int.pow_add]
  have h1 : (1 : Int) ≤ bH ^ k := lm_pw bH0 k
  have := Int.mul_le_mul_of_nonneg_left h1 (Int.le_of_lt (lm_pw bH0 m))
  omega
theorem cY_z {B x c : Int} (hB : 0 < B) {n : Nat} (h0 : 0 ≤ x) (hc : 0 ≤ c) (h1 : x + c < B ^ n) : cY B x 0 0 c n = 0 := by
  unfold cY
  have := lm_pw hB n
  rw [Int.emod_eq_of_lt h0 (by omega), Int.zero_mul, Int.add_zero]
  exact Int.ediv_eq_zero_of_lt (by omega) h1
theorem mLoad_is {w g : Nat → Nat} {r b : Nat} {z : Nat → Nat} {sg : Nat → Int32} {x : Int} (hw : 1 ≤ w r ∧ w r ≤ 256) (h : mIs (w r) g r x) (hc : cN bB (w r) x) :
    bV (mLoadG w g r b z sg) (mLoadZ w g r b z) b x ∧ zO z (mLoadZ w g r b z) b ∧ ∀ c, c ≠ b → mLoadG w g r b z sg c = sg c := by
  obtain ⟨c1, c2⟩ := mClr_is b z
  have hl := mLess_is hw h hc
  have hN : 2 * w r < 1100 := by omega
  have hin := cN_in bH0 (cNH.mp hc)
  have hcx := cNH.mp hc
  have hp := lm_pw bH0 (2 * w r)
  have hlt : (x.natAbs : Int) < bH ^ (2 * w r) := by
    unfold cN at hcx
    omega
  have hk : zIs (mLoadZ w g r b z) b (x.natAbs : Int) ∧ zO (mClr b cZ 0 z) (mLoadZ w g r b z) b := by
    unfold mLoadZ
    rw [hl]
    generalize mClr b cZ 0 z = z1 at *
    generalize hf : (if x < 0 then 1 else 0 : Nat) = f
    generalize hy : (if x < 0 then -x - 1 else x) = y
    have hyx : y + f = x.natAbs := by
      split at hf <;> split at hy <;> omega
    have hy0 : 0 ≤ y := by split at hy <;> omega
    have hf2 : f < 2 := by split at hf <;> omega
    have hdg : ∀ k, k < 2 * w r → (mD2 f (g (512 * r + k)) : Int) = lm_lb bH y k := by
      intro k hk
      have hgk := h k hk
      have b0 := lm_lb0 bH0 x k
      have b1 := lm_lb1 bH0 x k
      unfold mD2
      by_cases hx : x < 0
      · rw [if_pos hx] at hf hy
        rw [if_neg (by omega), ← hy, lm_cpl bH0, ← hgk]
        rw [← hgk] at b1
        unfold bH at *
        omega
      · rw [if_neg hx] at hf hy
        rw [if_pos hf.symm, ← hy, hgk]
    obtain ⟨cy, z', e, hi, h1, h2⟩ := zl_up (G := fun n k cy z => mLdZ g r b f (2 * w r) n k cy z) (fin := fun _ cy z => va_up z (1100 * b + 2 * w r) cy) (b := 1100 * b) (dg := fun k cy z => (mD2 f (g (512 * r + k)) + cy) % 65536) (cy := fun k cy z => (mD2 f (g (512 * r + k)) + cy) / 65536) (fun _ _ _ => rfl) (fun _ _ _ _ => rfl)
      (fun k cy => (cy : Int) = cY bH y 0 0 f k) (fun k => lm_lb bH (y + 0 * 0 + f) k) z1 0 (2 * w r) f (by rw [cY_0])
      (fun k cy z _ hk hi _ => by
        obtain ⟨l1, l2⟩ := lm_lin bH0 y 0 0 f k
        rw [l1, l2, ← hi, ← hdg k (by omega), lm_0]
        unfold bH
        constructor <;> omega)
    have e : mLdZ g r b f (2 * w r) (2 * w r) 0 f z1 = va_up z' (1100 * b + 2 * w r) cy := e
    rw [e]
    rw [Nat.zero_add, cY_z bH0 hy0 (by omega) (by omega)] at hi
    rw [show y + 0 * 0 + (f : Int) = x.natAbs by omega] at h2
    refine ⟨⟨by omega, ?_, fun j hj => ?_⟩, fun p hp => ?_⟩
    · have := bH_le (m := 2 * w r) (n := 1100) (by omega)
      omega
    · by_cases hjN : j < 2 * w r
      · rw [va_up_ne _ _ (by omega)]
        exact h2 j (by omega) (by omega)
      · rw [lm_top bH0 (n := 2 * w r) (by omega) (by omega), if_neg (by omega)]
        by_cases hj2 : j = 2 * w r
        · subst hj2; rw [va_up_self]; exact hi
        · rw [va_up_ne _ _ (by omega), h1 _ (by omega), c1.2.2 j hj, lm_0]
    · rw [va_up_ne _ _ (by omega)]
      exact h1 p (by omega)
  refine ⟨⟨hk.1, ?_⟩, c2.trans hk.2, fun c hcb => ?_⟩
  · unfold mLoadG
    rw [pk_us, mIz_is hk.1, hl]
    unfold mSgn sI
    by_cases hx : x < 0
    · rw [if_neg (show ¬ ((x.natAbs : Int) = 0) by omega), if_pos rfl, if_pos hx, if_neg (by decide), if_pos hx]
    · rw [if_neg hx]
      by_cases hx0 : x = 0
      · subst hx0
        rfl
      · rw [if_neg (show ¬ ((x.natAbs : Int) = 0) by omega), if_pos rfl, if_neg hx, if_pos rfl, if_neg hx0]
  · unfold mLoadG
    rw [pk_un hcb, pk_un hcb]
/-! store -/
theorem sI_ge (x : Int) : 0 ≤ sI x ↔ ¬ x < 0 := by
  unfold sI
  by_cases h : x < 0
  · rw [if_pos h]; exact ⟨fun z => absurd z (by decide), fun z => absurd h z⟩
  · rw [if_neg h]
    refine ⟨fun _ => h, fun _ => ?_⟩
    split <;> decide
theorem mStore_is {sg : Nat → Int32} {w z g : Nat → Nat} {r b : Nat} {y : Int} (hw : w r ≤ 256) (h : bV sg z b y) : mIs (w r) (mStore sg w z r b g) r y ∧ ∀ p, (p < 512 * r ∨ 512 * r + 512 ≤ p) → mStore sg w z r b g p = g p := by
  unfold mStore
  rw [h.2]
  generalize hf : mCy (sI y) = f
  generalize hY : (if y < 0 then -(y.natAbs : Int) - 1 else (y.natAbs : Int)) = Y
  have hf' : f = if y < 0 then 1 else 0 := by
    rw [← hf]
    unfold mCy
    by_cases hy : y < 0
    · rw [if_neg (fun q => (sI_ge y).mp q hy), if_pos hy]
    · rw [if_pos ((sI_ge y).mpr hy), if_neg hy]
  have hyx : Y + f = y := by
    split at hf' <;> split at hY <;> omega
  have hdg : ∀ k, k < 1100 → (mD (sI y) (z (1100 * b + k)) : Int) = lm_lb bH Y k := by
    intro k hk
    have hzk := h.1.2.2 k hk
    have b1 := lm_lb1 bH0 (y.natAbs : Int) k
    unfold mD
    by_cases hy : y < 0
    · rw [if_pos hy] at hY
      rw [if_neg (fun q => (sI_ge y).mp q hy), ← hY, lm_cpl bH0, ← hzk]
      rw [← hzk] at b1
      unfold bH at *
      omega
    · rw [if_neg hy] at hY
      rw [if_pos ((sI_ge y).mpr hy), ← hY, hzk]
  obtain ⟨cy, g', e, hi, h1, h2⟩ := zl_up (G := fun n k cy g => mStG (sI y) z b r n k cy g) (fin := fun _ _ z => z) (b := 512 * r) (dg := fun k cy _ => (mD (sI y) (z (1100 * b + k)) + cy) % 65536) (cy := fun k cy _ => (mD (sI y) (z (1100 * b + k)) + cy) / 65536) (fun _ _ _ => rfl) (fun _ _ _ _ => rfl)
    (fun k cy => (cy : Int) = cY bH Y 0 0 f k) (fun k => lm_lb bH (Y + 0 * 0 + f) k) g 0 (2 * w r) f (by rw [cY_0])
    (fun k cy z _ hk hi _ => by
      obtain ⟨l1, l2⟩ := lm_lin bH0 Y 0 0 f k
      rw [l1, l2, ← hi, ← hdg k (by omega), lm_0]
      unfold bH
      constructor <;> omega)
  have e : mStG (sI y) z b r (2 * w r) 0 f g = g' := e
  rw [e]
  rw [show Y + 0 * 0 + (f : Int) = y by omega] at h2
  exact ⟨fun j hj => h2 j (by omega) (by omega), fun p hp => h1 p (by omega)⟩
/-! a long in a buffer -/
theorem mLong_is (v : Int64) (b : Nat) (z : Nat → Nat) (sg : Nat → Int32) : bV (mLongG v b sg) (mLongZ v b z) b v.toInt ∧ zO z (mLongZ v b z) b ∧ ∀ c, c ≠ b → mLongG v b sg c = sg c := by
  obtain ⟨c1, c2⟩ := mClr_is b z
  have z0 : (0 : Int64).toInt = 0 := rfl
  have hlo := tI_lo v
  have hhi := tI_hi v
  have hab : (uN (mAbs v) : Int) = v.toInt.natAbs := by
    unfold mAbs
    have hu := uN_tI v
    by_cases h : 0 ≤ lg_cmp v 0
    · rw [if_pos h]
      rw [lg_cmp_ge, Int64.le_iff_toInt_le, z0] at h
      omega
    · rw [if_neg h]
      rw [lg_cmp_ge, Int64.le_iff_toInt_le, z0] at h
      have h2 := uN_tI (-v)
      rw [Int64.toInt_neg] at h2
      have e := Int.bmod_emod (x := -v.toInt) (m := 2 ^ 64)
      rw [h2]
      omega
  have hk : zIs (mLongZ v b z) b (v.toInt.natAbs : Int) ∧ zO (mClr b cZ 0 z) (mLongZ v b z) b := by
    unfold mLongZ
    generalize mClr b cZ 0 z = z1 at *
    obtain ⟨-, z', e, -, h1, h2⟩ := zl_up (σ := Unit) (G := fun n k _ z => mLlZ (mAbs v) b n k z) (fin := fun _ _ z => z) (b := 1100 * b) (dg := fun k _ _ => uH (mAbs v) k) (cy := fun _ _ _ => ()) (fun _ _ _ => rfl) (fun _ _ _ _ => rfl) (fun _ _ => True) (fun k => lm_lb bH (v.toInt.natAbs : Int) k) z1 0 4 () trivial
      (fun k _ _ _ _ _ _ => ⟨by
        unfold uH lm_lb
        rw [Int.natCast_emod, Int.natCast_ediv, hab, show ((2 ^ (16 * k) : Nat) : Int) = bH ^ k by rw [Int.natCast_pow, Int.pow_mul]; rfl]
        rfl, trivial⟩)
    have e : mLlZ (mAbs v) b 4 0 z1 = z' := e
    rw [e]
    have e4 : bH ^ 4 = 18446744073709551616 := by decide
    have hlt : (v.toInt.natAbs : Int) < bH ^ 4 := by omega
    refine ⟨⟨by omega, ?_, fun j hj => ?_⟩, fun p hp => h1 p (by omega)⟩
    · have := bH_le (m := 4) (n := 1100) (by omega)
      omega
    · by_cases hj4 : j < 4
      · exact h2 j (by omega) (by omega)
      · rw [h1 _ (by omega), c1.2.2 j hj, lm_0, lm_top bH0 (n := 4) (by omega) (by omega), if_neg (by omega)]
  refine ⟨⟨hk.1, ?_⟩, c2.trans hk.2, fun c hc => ?_⟩
  · unfold mLongG
    rw [pk_us]
    unfold mSgv sI
    by_cases h : 0 ≤ lg_cmp v 0
    · rw [if_pos h]
      rw [lg_cmp_ge, Int64.le_iff_toInt_le, z0] at h
      rw [if_neg (show ¬ v.toInt < 0 by omega)]
      by_cases h2 : lg_cmp v 0 ≤ 0
      · rw [if_pos h2]
        rw [lg_cmp_le, Int64.le_iff_toInt_le, z0] at h2
        rw [if_pos (by omega)]
      · rw [if_neg h2]
        rw [lg_cmp_le, Int64.le_iff_toInt_le, z0] at h2
        rw [if_neg (by omega)]
    · rw [if_neg h]
      rw [lg_cmp_ge, Int64.le_iff_toInt_le, z0] at h
      rw [if_pos (by omega)]
  · unfold mLongG
    rw [pk_un hc, pk_un hc]
