/-! Ints as digits of 32 bits. -/
def dI (x : Int32) : Int := (x.toBitVec.toNat : Int)
theorem dI_0 (x : Int32) : 0 ≤ dI x := Int.natCast_nonneg _
theorem dI_1 (x : Int32) : dI x < 4294967296 := by
  unfold dI
  have := x.toBitVec.isLt
  omega
theorem dI_inj {x y : Int32} (h : dI x = dI y) : x = y := by
  unfold dI at h
  exact Int32.toBitVec_inj.mp (BitVec.eq_of_toNat_eq (by omega))
theorem dI_nI {n : Nat} (h : n < 4294967296) : dI (nI n) = n := by
  unfold dI nI
  show ((BitVec.ofNat 32 n).toNat : Int) = n
  rw [BitVec.toNat_ofNat]
  omega
theorem dI_eq0 {x : Int32} : x = 0 ↔ dI x = 0 := ⟨fun h => by rw [h]; rfl, fun h => dI_inj (h.trans rfl)⟩
theorem dI_toInt (x : Int32) : x.toInt = if 2 * dI x < 4294967296 then dI x else dI x - 4294967296 := by
  unfold dI
  have := BitVec.toInt_eq_toNat_cond x.toBitVec
  show x.toBitVec.toInt = _
  rw [this]
  split <;> split <;> omega
theorem dI_neg {x : Int32} : x < 0 ↔ 2147483648 ≤ dI x := by
  rw [Int32.lt_iff_toInt_lt, dI_toInt]
  have := dI_1 x
  have := dI_0 x
  have h0 : (0 : Int32).toInt = 0 := rfl
  rw [h0]
  split <;> omega
theorem dI_cpl (x : Int32) : dI (x ^^^ (-1)) = 4294967295 - dI x := by
  have h : (x ^^^ (-1)) = ~~~x := by
    apply Int32.toBitVec_inj.mp
    show x.toBitVec ^^^ (-1#32) = ~~~x.toBitVec
    rw [show (-1#32) = BitVec.allOnes 32 from rfl, BitVec.xor_allOnes]
  rw [h]
  unfold dI
  show ((~~~x.toBitVec).toNat : Int) = _
  rw [BitVec.toNat_not]
  have := x.toBitVec.isLt
  omega
theorem dI_add (x y : Int32) : dI (x + y) = (dI x + dI y) % 4294967296 := by
  unfold dI
  show ((x.toBitVec + y.toBitVec).toNat : Int) = _
  rw [BitVec.toNat_add]
  omega
theorem dI_sub (x y : Int32) : dI (x - y) = (dI x - dI y) % 4294967296 := by
  unfold dI
  show ((x.toBitVec - y.toBitVec).toNat : Int) = _
  rw [BitVec.toNat_sub]
  have := y.toBitVec.isLt
  omega
theorem dI_s31 (x : Int32) : dI (x >>> (nI 31 &&& 31)) = if x < 0 then 4294967295 else 0 := by
  have h : ((nI 31 &&& 31).toBitVec.smod 32).toNat = 31 := by decide
  have e : dI (x >>> (nI 31 &&& 31)) = ((x.toBitVec.sshiftRight 31).toNat : Int) := by
    unfold dI
    show ((x.toBitVec.sshiftRight ((nI 31 &&& 31).toBitVec.smod 32).toNat).toNat : Int) = _
    rw [h]
  rw [e]
  have hx := dI_toInt x
  have h1 := dI_1 x
  have h0 := dI_0 x
  have hs : (x.toBitVec.sshiftRight 31).toInt = x.toInt / 2 ^ 31 := by
    rw [BitVec.toInt_sshiftRight, Int.shiftRight_eq_div_pow]
    rfl
  have hc := BitVec.toInt_eq_toNat_cond (x.toBitVec.sshiftRight 31)
  have hl := (x.toBitVec.sshiftRight 31).isLt
  by_cases hn : x < 0
  · rw [if_pos hn]
    have := dI_neg.mp hn
    rw [if_neg (by omega)] at hx
    rw [hs, hx] at hc
    split at hc <;> omega
  · rw [if_neg hn]
    have : ¬ 2147483648 ≤ dI x := fun z => hn (dI_neg.mpr z)
    rw [if_pos (by omega)] at hx
    rw [hs, hx] at hc
    split at hc <;> omega
theorem uN_un (x : Int32) : (uN (rUn x) : Int) = dI x := by
  unfold rUn
  rw [uN_lo]
  unfold uN dI
  show ((x.toBitVec.signExtend 64).toNat % 4294967296 : Nat) = (x.toBitVec.toNat : Int)
  rw [BitVec.toNat_signExtend]
  have := x.toBitVec.isLt
  have h1 : (BitVec.setWidth 64 x.toBitVec).toNat = x.toBitVec.toNat := by
    rw [BitVec.toNat_setWidth]
    omega
  rw [h1]
  split <;> omega
theorem dI_l (v : Int64) : dI v.toInt32 = (uN v : Int) % 4294967296 := by
  unfold dI uN
  show ((v.toBitVec.signExtend 32).toNat : Int) = ((v.toBitVec.toNat : Nat) : Int) % 4294967296
  rw [BitVec.toNat_signExtend]
  simp
theorem uN_of {n : Nat} {x : Int64} (h : x = lN n) (hn : n < 18446744073709551616) : uN x = n := by
  subst h
  show (BitVec.ofNat 64 n).toNat = n
  rw [BitVec.toNat_ofNat]
  omega
/-! ### digits of whole numbers -/
abbrev bB : Int := 4294967296
abbrev bH : Int := 65536
theorem bB0 : (0 : Int) < bB := by decide
theorem bH0 : (0 : Int) < bH := by decide
theorem lm_cpl {B : Int} (hB : 0 < B) (x : Int) (k : Nat) : lm_lb B (-x - 1) k = B - 1 - lm_lb B x k := by
  unfold lm_lb
  have hp := lm_pw hB k
  have h1 : (-x - 1) / B ^ k = -(x / B ^ k) - 1 := by
    have e := lm_dm x (B ^ k)
    have b0 := Int.emod_nonneg x (show B ^ k ≠ 0 by omega)
    have b1 := Int.emod_lt_of_pos x hp
    refine (lm_uq (m := B ^ k) (r := B ^ k - 1 - x % B ^ k) hp ?_ (by omega) (by omega)).1
    grind
  rw [h1]
  generalize x / B ^ k = q
  have e := lm_dm q B
  have b0 := Int.emod_nonneg q (show B ≠ 0 by omega)
  have b1 := Int.emod_lt_of_pos q hB
  refine (lm_uq (m := B) (q := -(q / B) - 1) hB ?_ (by omega) (by omega)).2
  grind
/-- the digits of a number that lies between the half powers, from n on -/
theorem lm_top {B : Int} (hB : 0 < B) {x : Int} {n k : Nat} (h : -(B ^ n) ≤ x ∧ x < B ^ n) (hk : n ≤ k) : lm_lb B x k = if x < 0 then B - 1 else 0 := by
  have hp := lm_pw hB n
  have hpk : B ^ n ≤ B ^ k := by
    obtain ⟨j, rfl⟩ : ∃ j, k = n + j := ⟨k - n, by omega⟩
    rw [Int.pow_add]
    have : 1 ≤ B ^ j := lm_pw hB j
    have := Int.mul_le_mul_of_nonneg_left this (Int.le_of_lt hp)
    omega
  have hpk0 := lm_pw hB k
  unfold lm_lb
  by_cases hx : x < 0
  · rw [if_pos hx, (lm_uq (m := B ^ k) (q := -1) (r := x + B ^ k) hpk0 (by omega) (by omega) (by omega)).1]
    exact (lm_uq (m := B) (q := -1) hB (by omega) (by omega) (by omega)).2
  · rw [if_neg hx, Int.ediv_eq_zero_of_lt (by omega) (by omega)]
    rfl
/-- a number that n digits and a sign keep: cN -/
def cN (B : Int) (n : Nat) (x : Int) : Prop := -(B ^ n) ≤ 2 * x ∧ 2 * x < B ^ n
theorem cN_uq {B : Int} (hB : 0 < B) {n : Nat} {x y : Int} (hx : cN B n x) (hy : cN B n y) (h : x % B ^ n = y % B ^ n) : x = y := by
  have hp := lm_pw hB n
  have e1 := lm_dm x (B ^ n)
  have e2 := lm_dm y (B ^ n)
  unfold cN at hx hy
  have h3 : B ^ n * (x / B ^ n - y / B ^ n) = x - y := by rw [Int.mul_sub]; omega
  have h4 : -(B ^ n) < x - y ∧ x - y < B ^ n := by omega
  have h5 : x / B ^ n - y / B ^ n = 0 := by
    generalize x / B ^ n - y / B ^ n = t at h3
    by_cases h0 : t = 0
    · exact h0
    · exfalso
      rcases Int.lt_or_gt_of_ne h0 with h6 | h6
      · have := Int.mul_le_mul_of_nonneg_left (show t ≤ -1 by omega) (Int.le_of_lt hp)
        omega
      · have := Int.mul_le_mul_of_nonneg_left (show 1 ≤ t by omega) (Int.le_of_lt hp)
        omega
  rw [h5] at h3
  omega
theorem cN_mono {B : Int} (hB : 0 < B) {n m : Nat} {x : Int} (hx : cN B n x) (h : n ≤ m) : cN B m x := by
  have hp := lm_pw hB n
  have hpk : B ^ n ≤ B ^ m := by
    obtain ⟨j, rfl⟩ : ∃ j, m = n + j := ⟨m - n, by omega⟩
    rw [Int.pow_add]
    have : 1 ≤ B ^ j := lm_pw hB j
    have := Int.mul_le_mul_of_nonneg_left this (Int.le_of_lt hp)
    omega
  unfold cN at *
  omega
/-- the number with these digits between the half powers -/
def cM (B : Int) (n : Nat) (x : Int) : Int := if 2 * (x % B ^ n) < B ^ n then x % B ^ n else x % B ^ n - B ^ n
theorem cM_c {B : Int} (hB : 0 < B) (n : Nat) (x : Int) : cN B n (cM B n x) := by
  have hp := lm_pw hB n
  have b0 := Int.emod_nonneg x (show B ^ n ≠ 0 by omega)
  have b1 := Int.emod_lt_of_pos x hp
  unfold cN cM
  split <;> omega
theorem cM_m {B : Int} (n : Nat) (x : Int) : cM B n x % B ^ n = x % B ^ n := by
  unfold cM
  split
  · exact Int.emod_emod_of_dvd _ (Int.dvd_refl _)
  · rw [Int.sub_emod_right, Int.emod_emod_of_dvd _ (Int.dvd_refl _)]
theorem cM_lb {B : Int} (hB : 0 < B) (n : Nat) (x : Int) {k : Nat} (hk : k < n) : lm_lb B (cM B n x) k = lm_lb B x k := lm_ext' hB (cM_m n x) k hk
theorem cM_id {B : Int} (hB : 0 < B) {n : Nat} {x : Int} (h : cN B n x) : cM B n x = x := cN_uq hB (cM_c hB n x) h (cM_m n x)
