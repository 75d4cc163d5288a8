def rTzL (w : Nat) (f : Nat → Int32) : Nat → Nat → Int32
  | 0, _ => nI (32 * w)
  | n + 1, k => if f k = 0 then rTzL w f n (k + 1) else nI (32 * k) + jNtz (f k)
def rTz (w : Nat) (f : Nat → Int32) : Int32 := rTzL w f w 0
def rBlL (f : Nat → Int32) (a : Int32) : Nat → Int32
  | 0 => nI 0
  | n + 1 => if f n = a then rBlL f a n else nI (32 * n + 32) - jNlz (f n ^^^ a)
def rBl (w : Nat) (f : Nat → Int32) : Int32 := rBlL f (rAt w f (nI w)) w
def rOrdL (wi wj : Nat) (fi fj : Nat → Int32) : Nat → Int32
  | 0 => nI 0
  | n + 1 => if jCmp (rUn (rAt wi fi (nI n))) (rUn (rAt wj fj (nI n))) = 0 then rOrdL wi wj fi fj n else jCmp (rUn (rAt wi fi (nI n))) (rUn (rAt wj fj (nI n)))
def rOrd (wi wj : Nat) (fi fj : Nat → Int32) : Int32 := if rNeg wi fi = rNeg wj fj then rOrdL wi wj fi fj (max wi wj) else if rNeg wi fi = 0 then nI 1 else -1
def rUp (w : Nat) (f : Nat → Int32) (b : Nat) : Int32 := if b = 0 then nI 0 else if rBit w f (nI (b - 1)) = 0 then nI 0 else if rTz w f = nI (b - 1) then (if rBit w f (nI b) = nI 1 then nI 1 else nI 0) else nI 1
theorem n_max {a b : Nat} (ha : a < 2 ^ 31) (hb : b < 2 ^ 31) : (if nI a < nI b then nI b else nI a) = nI (max a b) := by
  by_cases h : a < b
  · rw [if_pos (nI_lt h hb), Nat.max_eq_right (by omega)]
  · rw [if_neg (nI_nlt (by omega) ha), Nat.max_eq_left (by omega)]
theorem n_min {a b : Nat} (ha : a < 2 ^ 31) (hb : b < 2 ^ 31) : (if nI b < nI a then nI b else nI a) = nI (min a b) := by
  by_cases h : b < a
  · rw [if_pos (nI_lt h ha), Nat.min_eq_right (by omega)]
  · rw [if_neg (nI_nlt (by omega) hb), Nat.min_eq_left (by omega)]
