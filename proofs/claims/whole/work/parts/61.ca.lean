/-! What the class's rows are, as numbers. -/
def rIs (w : Nat) (f : Nat → Int32) (x : Int) : Prop := ∀ k, k < w → dI (f k) = lm_lb bB x k
theorem lm_sg {B e x : Int} {n : Nat} (hB : B = 2 * e) (he : 0 < e) (hc : cN B (n + 1) x) : e ≤ lm_lb B x n ↔ x < 0 := by
  have hB0 : 0 < B := by omega
  have hp := lm_pw hB0 n
  unfold cN at hc
  rw [Int.pow_succ] at hc
  have e1 : B ^ n * B = 2 * (B ^ n * e) := by rw [hB]; grind
  have h1 : -(B ^ n * e) ≤ x := by omega
  have h2 : x < B ^ n * e := by omega
  have q1 : -e ≤ x / B ^ n := by
    rw [Int.le_ediv_iff_mul_le hp]
    grind
  have q2 : x / B ^ n < e := by
    rw [Int.ediv_lt_iff_lt_mul hp]
    grind
  have q3 : x < 0 ↔ x / B ^ n < 0 := by
    constructor
    · intro h; exact Int.ediv_neg_of_neg_of_pos h hp
    · intro h
      rcases Int.lt_or_le x 0 with h3 | h3
      · exact h3
      · have := Int.ediv_nonneg h3 (Int.le_of_lt hp); omega
  rw [q3]
  unfold lm_lb
  generalize x / B ^ n = q at *
  subst hB
  by_cases hq : q < 0
  · have := (lm_uq (x := q) (m := 2 * e) (q := -1) (r := q + 2 * e) (by omega) (by omega) (by omega) (by omega)).2
    omega
  · have := Int.emod_eq_of_lt (a := q) (b := 2 * e) (by omega) (by omega)
    omega
theorem cN_in {B : Int} (hB : 0 < B) {n : Nat} {x : Int} (h : cN B n x) : -(B ^ n) ≤ x ∧ x < B ^ n := by
  have := lm_pw hB n
  unfold cN at h
  omega
theorem rNegB {w : Nat} {f : Nat → Int32} {x : Int} (hw : 1 ≤ w) (h : rIs w f x) (hc : cN bB w x) : f (w - 1) < 0 ↔ x < 0 := by
  obtain ⟨n, rfl⟩ : ∃ n, w = n + 1 := ⟨w - 1, by omega⟩
  rw [← lm_sg (B := bB) (e := 2147483648) rfl (by decide) hc, ← h n (by omega)]
  exact dI_neg
theorem rNeg_is {w : Nat} {f : Nat → Int32} {x : Int} (hw : 1 ≤ w) (h : rIs w f x) (hc : cN bB w x) : rNeg w f = if x < 0 then nI 1 else nI 0 := by
  unfold rNeg
  simp only [rNegB hw h hc]
theorem rNeg_0 {w : Nat} {f : Nat → Int32} {x : Int} (hw : 1 ≤ w) (h : rIs w f x) (hc : cN bB w x) : rNeg w f = 0 ↔ ¬ x < 0 := by
  rw [rNeg_is hw h hc]
  split <;> rename_i hx
  · exact ⟨fun z => absurd z (by decide), fun z => absurd hx z⟩
  · exact ⟨fun _ => hx, fun _ => by decide⟩
theorem rAt_is {w : Nat} {f : Nat → Int32} {x : Int} (hw : 1 ≤ w ∧ w ≤ 256) (h : rIs w f x) (hc : cN bB w x) {k : Nat} (hk : k < 2 ^ 31) : dI (rAt w f (nI k)) = lm_lb bB x k := by
  unfold rAt
  rw [if_neg (nI_pos hk)]
  by_cases hkw : k < w
  · rw [if_pos (nI_lt hkw (by omega)), nI_clamp hk]
    exact h k hkw
  · rw [if_neg (nI_nlt (by omega) hk), dI_s31, lm_top bB0 (cN_in bB0 hc) (by omega)]
    simp only [rNegB hw.1 h hc]
    rfl
theorem rAt_lo {w : Nat} {f : Nat → Int32} (hw : w ≤ 256) {k : Nat} (hk : k < w) : rAt w f (nI k) = f k := by
  unfold rAt
  rw [if_neg (nI_pos (by omega)), if_pos (nI_lt hk (by omega)), nI_clamp (by omega)]
/-- the sign as the programs say it -/
def sI (x : Int) : Int32 := if x < 0 then -1 else if x = 0 then nI 0 else nI 1
theorem lm_zero {B : Int} (hB : 0 < B) {n : Nat} {x : Int} (h : ∀ k, k < n → lm_lb B x k = 0) : x % B ^ n = 0 := by
  have := lm_ext hB (x := x) (y := 0) (n := n) (fun k hk => by rw [h k hk]; unfold lm_lb; simp)
  rw [this]; simp
theorem lm_0 {B : Int} (k : Nat) : lm_lb B 0 k = 0 := by unfold lm_lb; simp
theorem cN_z {B : Int} (hB : 0 < B) {n : Nat} {x : Int} (hc : cN B n x) (h : ∀ k, k < n → lm_lb B x k = 0) : x = 0 :=
  cN_uq hB hc (by unfold cN; have := lm_pw hB n; omega) (by rw [lm_zero hB h]; simp)
theorem rSgL_is {f : Nat → Int32} : ∀ n k : Nat, (rSgL f n k = nI 0 ∧ ∀ t, k ≤ t → t < k + n → f t = 0) ∨ (rSgL f n k = nI 1 ∧ ∃ t, k ≤ t ∧ t < k + n ∧ ¬ f t = 0)
  | 0, k => Or.inl ⟨rfl, fun t h1 h2 => by omega⟩
  | n + 1, k => by
    unfold rSgL
    by_cases h0 : f k = 0
    · rw [if_pos h0]
      rcases rSgL_is (f := f) n (k + 1) with ⟨h1, h2⟩ | ⟨h1, t, h2, h3, h4⟩
      · refine Or.inl ⟨h1, fun t a b => ?_⟩
        rcases Nat.eq_or_lt_of_le a with c | c
        · rw [← c]; exact h0
        · exact h2 t c (by omega)
      · exact Or.inr ⟨h1, t, by omega, by omega, h4⟩
    · rw [if_neg h0]
      exact Or.inr ⟨rfl, k, by omega, by omega, h0⟩
theorem rSg_is {w : Nat} {f : Nat → Int32} {x : Int} (hw : 1 ≤ w) (h : rIs w f x) (hc : cN bB w x) : rSg w f = sI x := by
  unfold rSg sI
  by_cases hx : x < 0
  · rw [if_neg (fun z => (rNeg_0 hw h hc).mp z hx), if_pos hx]
  · rw [if_pos ((rNeg_0 hw h hc).mpr hx), if_neg hx]
    rcases rSgL_is (f := f) w 0 with ⟨h1, h2⟩ | ⟨h1, t, h2, h3, h4⟩
    · rw [h1, if_pos (cN_z bB0 hc fun k hk => by rw [← h k hk, h2 k (by omega) (by omega)]; rfl)]
    · rw [h1, if_neg]
      intro h0
      apply h4
      apply dI_eq0.mpr
      rw [h t (by omega), h0, lm_0]
theorem rFitL_is {f : Nat → Int32} {a : Int32} : ∀ n k : Nat, (rFitL f a n k = nI 1 ∧ ∀ t, k ≤ t → t < k + n → f t = a) ∨ (rFitL f a n k = nI 0 ∧ ∃ t, k ≤ t ∧ t < k + n ∧ ¬ f t = a)
  | 0, k => Or.inl ⟨rfl, fun t h1 h2 => by omega⟩
  | n + 1, k => by
    unfold rFitL
    by_cases h0 : f k = a
    · rw [if_pos h0]
      rcases rFitL_is (f := f) (a := a) n (k + 1) with ⟨h1, h2⟩ | ⟨h1, t, h2, h3, h4⟩
      · refine Or.inl ⟨h1, fun t a b => ?_⟩
        rcases Nat.eq_or_lt_of_le a with c | c
        · rw [← c]; exact h0
        · exact h2 t c (by omega)
      · exact Or.inr ⟨h1, t, by omega, by omega, h4⟩
    · rw [if_neg h0]
      exact Or.inr ⟨rfl, k, by omega, by omega, h0⟩
theorem cM_z {B : Int} (hB : 0 < B) (n : Nat) {x : Int} {k : Nat} (hk : n ≤ k) : lm_lb B (cM B n x) k = if cM B n x < 0 then B - 1 else 0 := lm_top hB (cN_in hB (cM_c hB n x)) hk
/-- fits: the number lies between the half powers of n -/
theorem rFit_is {w n : Nat} {f : Nat → Int32} {x : Int} (hw : 1 ≤ w ∧ w ≤ 256) (hn : 1 ≤ n ∧ n ≤ 256) (h : rIs w f x) (hc : cN bB w x) : (rFit w f n = nI 1 ∧ cN bB n x) ∨ (rFit w f n = nI 0 ∧ ¬ cN bB n x) := by
  have ha := rAt_is hw h hc (k := n - 1) (by omega)
  have hs := dI_s31 (rAt w f (nI (n - 1)))
  have hm := cM_c bB0 n x
  have hm1 : lm_lb bB (cM bB n x) (n - 1) = lm_lb bB x (n - 1) := cM_lb bB0 n x (by omega)
  have hsg : rAt w f (nI (n - 1)) < 0 ↔ cM bB n x < 0 := by
    obtain ⟨k, rfl⟩ : ∃ k, n = k + 1 := ⟨n - 1, by omega⟩
    rw [← lm_sg (B := bB) (e := 2147483648) rfl (by decide) hm]
    rw [show lm_lb bB (cM bB (k + 1) x) k = _ from hm1, ← ha]
    exact dI_neg
  unfold rFit
  rcases rFitL_is (f := f) (a := rAt w f (nI (n - 1)) >>> (nI 31 &&& 31)) (w - n) n with ⟨h1, h2⟩ | ⟨h1, t, h2, h3, h4⟩
  · refine Or.inl ⟨h1, ?_⟩
    by_cases hnw : n ≤ w
    · have e : cM bB n x = x := by
        refine cN_uq bB0 (n := w) (cN_mono bB0 hm hnw) hc (lm_ext bB0 fun k hk => ?_)
        by_cases hkn : k < n
        · exact cM_lb bB0 n x hkn
        · rw [cM_z bB0 n (by omega), ← h k hk, h2 k (by omega) (by omega), hs]
          simp only [hsg]
          rfl
      rw [← e]; exact hm
    · exact cN_mono bB0 hc (by omega)
  · refine Or.inr ⟨h1, fun hcn => h4 (dI_inj ?_)⟩
    have e : cM bB n x = x := cM_id bB0 hcn
    rw [h t (by omega), hs, lm_top bB0 (cN_in bB0 hcn) h2]
    rw [e] at hsg
    simp only [hsg]
    rfl
/-! ### loops that write one row upward -/
abbrev FF := Nat → Nat → Int32
theorem gl_go {σ : Type} {G : Nat → Nat → σ → FF → FF} {i : Nat} {dg : Nat → σ → FF → Int32} {cy : Nat → σ → FF → σ} (h0 : ∀ k c F, G 0 k c F = F) (h1 : ∀ n k c F, G (n + 1) k c F = G n (k + 1) (cy k c F) (va_up F i (upd (F i) k (dg k c F))))
    (Inv : Nat → σ → Prop) (D : Nat → Int) (Z : FF) (k0 N : Nat)
    (hs : ∀ k c F, k0 ≤ k → k < k0 + N → Inv k c → (∀ j, j ≠ i → F j = Z j) → (∀ t, k ≤ t → F i t = Z i t) → dI (dg k c F) = D k ∧ Inv (k + 1) (cy k c F)) :
    ∀ n k c F, k + n = k0 + N → k0 ≤ k → Inv k c → (∀ j, j ≠ i → F j = Z j) → (∀ t, k ≤ t → F i t = Z i t) → (∀ t, t < k0 → F i t = Z i t) → (∀ t, k0 ≤ t → t < k → dI (F i t) = D t) →
      (∀ j, j ≠ i → G n k c F j = Z j) ∧ (∀ t, t < k0 → G n k c F i t = Z i t) ∧ (∀ t, k0 + N ≤ t → G n k c F i t = Z i t) ∧ (∀ t, k0 ≤ t → t < k0 + N → dI (G n k c F i t) = D t) := by
  intro n
  induction n with
  | zero =>
    intro k c F hk hk0 hi hj hu hl hd
    rw [h0]
    exact ⟨hj, hl, fun t ht => hu t (by omega), fun t a b => hd t a (by omega)⟩
  | succ n ih =>
    intro k c F hk hk0 hi hj hu hl hd
    rw [h1]
    obtain ⟨e1, e2⟩ := hs k c F hk0 (by omega) hi hj hu
    refine ih (k + 1) _ _ (by omega) (by omega) e2 ?_ ?_ ?_ ?_
    · intro j hji
      rw [va_up_ne _ _ hji]; exact hj j hji
    · intro t ht
      rw [va_up_self, pk_un (by omega)]; exact hu t (by omega)
    · intro t ht
      rw [va_up_self, pk_un (by omega)]; exact hl t ht
    · intro t a b
      rw [va_up_self]
      by_cases htk : t = k
      · subst htk; rw [pk_us]; exact e1
      · rw [pk_un htk]; exact hd t a (by omega)
theorem gl_up {σ : Type} {G : Nat → Nat → σ → FF → FF} {i : Nat} {dg : Nat → σ → FF → Int32} {cy : Nat → σ → FF → σ} (h0 : ∀ k c F, G 0 k c F = F) (h1 : ∀ n k c F, G (n + 1) k c F = G n (k + 1) (cy k c F) (va_up F i (upd (F i) k (dg k c F))))
    (Inv : Nat → σ → Prop) (D : Nat → Int) (Z : FF) (k0 N : Nat) (c : σ) (hi : Inv k0 c)
    (hs : ∀ k c F, k0 ≤ k → k < k0 + N → Inv k c → (∀ j, j ≠ i → F j = Z j) → (∀ t, k ≤ t → F i t = Z i t) → dI (dg k c F) = D k ∧ Inv (k + 1) (cy k c F)) :
      (∀ j, j ≠ i → G N k0 c Z j = Z j) ∧ (∀ t, t < k0 → G N k0 c Z i t = Z i t) ∧ (∀ t, k0 + N ≤ t → G N k0 c Z i t = Z i t) ∧ (∀ t, k0 ≤ t → t < k0 + N → dI (G N k0 c Z i t) = D t) :=
  gl_go h0 h1 Inv D Z k0 N hs N k0 c Z rfl (Nat.le_refl _) hi (fun _ _ => rfl) (fun _ _ => rfl) (fun _ _ => rfl) (fun t a b => by omega)
/-- ... downward -/
theorem gd_go {σ : Type} {G : Nat → σ → FF → FF} {i : Nat} {dg : Nat → σ → FF → Int32} {cy : Nat → σ → FF → σ} (h0 : ∀ c F, G 0 c F = F) (h1 : ∀ n c F, G (n + 1) c F = G n (cy n c F) (va_up F i (upd (F i) n (dg n c F))))
    (Inv : Nat → σ → Prop) (D : Nat → Int) (Z : FF) (N : Nat)
    (hs : ∀ k c F, k < N → Inv (k + 1) c → (∀ j, j ≠ i → F j = Z j) → (∀ t, t ≤ k → F i t = Z i t) → dI (dg k c F) = D k ∧ Inv k (cy k c F)) :
    ∀ n c F, n ≤ N → Inv n c → (∀ j, j ≠ i → F j = Z j) → (∀ t, t < n → F i t = Z i t) → (∀ t, N ≤ t → F i t = Z i t) → (∀ t, n ≤ t → t < N → dI (F i t) = D t) →
      (∀ j, j ≠ i → G n c F j = Z j) ∧ (∀ t, N ≤ t → G n c F i t = Z i t) ∧ (∀ t, t < N → dI (G n c F i t) = D t) := by
  intro n
  induction n with
  | zero =>
    intro c F hk hi hj hu hl hd
    rw [h0]
    exact ⟨hj, hl, fun t ht => hd t (by omega) ht⟩
  | succ n ih =>
    intro c F hk hi hj hu hl hd
    rw [h1]
    obtain ⟨e1, e2⟩ := hs n c F (by omega) hi hj (fun t ht => hu t (by omega))
    refine ih _ _ (by omega) e2 ?_ ?_ ?_ ?_
    · intro j hji
      rw [va_up_ne _ _ hji]; exact hj j hji
    · intro t ht
      rw [va_up_self, pk_un (by omega)]; exact hu t (by omega)
    · intro t ht
      rw [va_up_self, pk_un (by omega)]; exact hl t ht
    · intro t a b
      rw [va_up_self]
      by_cases htk : t = n
      · subst htk; rw [pk_us]; exact e1
      · rw [pk_un htk]; exact hd t (by omega) b
theorem gCpl_is (i w : Nat) (F : FF) {x : Int} (h : rIs w (F i) x) : (∀ j, j ≠ i → gCpl i w 0 F j = F j) ∧ rIs w (gCpl i w 0 F i) (-x - 1) := by
  obtain ⟨h1, -, -, h4⟩ := gl_up (σ := Unit) (G := fun n k _ F => gCpl i n k F) (i := i) (dg := fun k _ F => F i k ^^^ (-1)) (cy := fun _ _ _ => ()) (fun _ _ _ => rfl) (fun _ _ _ _ => rfl) (fun _ _ => True) (fun k => lm_lb bB (-x - 1) k) F 0 w () trivial
    (fun k c G _ hk _ _ hu => ⟨by rw [dI_cpl, hu k (by omega), h k (by omega), lm_cpl bB0]; rfl, trivial⟩)
  exact ⟨h1, fun k hk => h4 k (by omega) (by omega)⟩
theorem bB_ev {w : Nat} (h : 1 ≤ w) : bB ^ w = 2 * (bB ^ (w - 1) * 2147483648) := by
  obtain ⟨n, rfl⟩ : ∃ n, w = n + 1 := ⟨w - 1, by omega⟩
  show bB ^ (n + 1) = 2 * (bB ^ n * 2147483648)
  rw [Int.pow_succ]
  grind
theorem cN_cpl {w : Nat} (hw : 1 ≤ w) {x : Int} (h : cN bB w x) : cN bB w (-x - 1) := by
  unfold cN at *
  rw [bB_ev hw] at *
  omega
