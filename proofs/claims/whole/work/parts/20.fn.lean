/-! What the methods of Row do, as functions. -/
abbrev j_iu (x y : Int32) : Int32 := (x.toUInt32 >>> (y.toUInt32 &&& Int32.toUInt32 31)).toInt32
abbrev j_lu (x : Int64) (y : Int32) : Int64 := (x.toUInt64 >>> (y.toInt64.toUInt64 &&& Int64.toUInt64 63)).toInt64
abbrev j_ll (x : Int64) (y : Int32) : Int64 := x <<< (y.toInt64 &&& 63)
abbrev j_lr (x : Int64) (y : Int32) : Int64 := x >>> (y.toInt64 &&& 63)
def rUn (x : Int32) : Int64 := x.toInt64 &&& 4294967295
def rNeg (w : Nat) (f : Nat → Int32) : Int32 := if f (w - 1) < 0 then nI 1 else nI 0
def rAt (w : Nat) (f : Nat → Int32) (x : Int32) : Int32 := if x < 0 then nI 0 else if x < nI w then f x.toNatClampNeg else f (w - 1) >>> (nI 31 &&& 31)
def rSgL (f : Nat → Int32) : Nat → Nat → Int32
  | 0, _ => nI 0
  | n + 1, k => if f k = 0 then rSgL f n (k + 1) else nI 1
def rSg (w : Nat) (f : Nat → Int32) : Int32 := if rNeg w f = 0 then rSgL f w 0 else -1
def rFitL (f : Nat → Int32) (a : Int32) : Nat → Nat → Int32
  | 0, _ => nI 1
  | n + 1, k => if f k = a then rFitL f a n (k + 1) else nI 0
def rFit (w : Nat) (f : Nat → Int32) (n : Nat) : Int32 := rFitL f (rAt w f (nI (n - 1)) >>> (nI 31 &&& 31)) (w - n) n
def rBit (w : Nat) (f : Nat → Int32) (x : Int32) : Int32 := j_iu (rAt w f (x >>> (nI 5 &&& 31))) (x &&& nI 31) &&& nI 1
def rPair (w : Nat) (f : Nat → Int32) (x : Int32) : Int64 := j_ll (rUn (rAt w f (x + nI 1))) (nI 32) ||| rUn (rAt w f x)
theorem rNeg_b (w : Nat) (f : Nat → Int32) : narrow .boolean (.int (rNeg w f)) = .int (rNeg w f) := by unfold rNeg; split <;> rfl
theorem rFitL_b (f : Nat → Int32) (a : Int32) : ∀ n k : Nat, narrow .boolean (.int (rFitL f a n k)) = .int (rFitL f a n k)
  | 0, _ => by unfold rFitL; rfl
  | n + 1, k => by
    unfold rFitL
    split
    · exact rFitL_b f a n (k + 1)
    · rfl
def gCpl (i : Nat) : Nat → Nat → (Nat → Nat → Int32) → Nat → Nat → Int32
  | 0, _, F => F
  | n + 1, k, F => gCpl i n (k + 1) (va_up F i (upd (F i) k (F i k ^^^ (-1))))
def gInc (i : Nat) : Nat → Nat → (Nat → Nat → Int32) → Nat → Nat → Int32
  | 0, _, F => F
  | n + 1, k, F => if va_up F i (upd (F i) k (F i k + nI 1)) i k = 0 then gInc i n (k + 1) (va_up F i (upd (F i) k (F i k + nI 1))) else va_up F i (upd (F i) k (F i k + nI 1))
def gSet (i : Nat) : Nat → Nat → Int64 → (Nat → Nat → Int32) → Nat → Nat → Int32
  | 0, _, _, F => F
  | n + 1, k, v, F => gSet i n (k + 1) (j_lr v (nI 32)) (va_up F i (upd (F i) k v.toInt32))
def gCopy (i j wj : Nat) : Nat → Nat → (Nat → Nat → Int32) → Nat → Nat → Int32
  | 0, _, F => F
  | n + 1, k, F => gCopy i j wj n (k + 1) (va_up F i (upd (F i) k (rAt wj (F j) (nI k))))
def sAdd (i j wj st : Nat) (fl : Int32) (k : Nat) (c : Int64) (F : Nat → Nat → Int32) : Int64 := rUn (F i k) + rUn (rAt wj (F j) (nI (k - st)) ^^^ fl) + c
def gAdd (i j wj st : Nat) (fl : Int32) : Nat → Nat → Int64 → (Nat → Nat → Int32) → Nat → Nat → Int32
  | 0, _, _, F => F
  | n + 1, k, c, F => gAdd i j wj st fl n (k + 1) (j_lu (sAdd i j wj st fl k c F) (nI 32)) (va_up F i (upd (F i) k (sAdd i j wj st fl k c F).toInt32))
def sMul (i j wj st : Nat) (dg : Int64) (k : Nat) (c : Int64) (F : Nat → Nat → Int32) : Int64 := dg * rUn (rAt wj (F j) (nI (k - st))) + rUn (F i k) + c
def gMul (i j wj st : Nat) (dg : Int64) : Nat → Nat → Int64 → (Nat → Nat → Int32) → Nat → Nat → Int32
  | 0, _, _, F => F
  | n + 1, k, c, F => gMul i j wj st dg n (k + 1) (j_lu (sMul i j wj st dg k c F) (nI 32)) (va_up F i (upd (F i) k (sMul i j wj st dg k c F).toInt32))
def rFitsL (w : Nat) (v : Int64) : Int32 := if 1 < w then nI 1 else if lg_cmp v v.toInt32.toInt64 = 0 then nI 1 else nI 0
