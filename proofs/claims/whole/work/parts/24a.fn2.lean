/-! More of what the methods of Row do. -/
theorem nM_pred {n : Nat} (h : 1 ≤ n) : nM n = nI (n - 1) := by
  obtain ⟨k, rfl⟩ : ∃ k, n = k + 1 := ⟨n - 1, by omega⟩
  rw [nM_succ]
  rfl
section X24
variable {p : Program} {l : Launch} {e : Env} {R : Room} {s : State} {m : MethodId} {args : Array Value} {below : List Frame} {meth : Method} {c : Code} {H : Heap} {locs : List Loc} {cells slots : Nat} {Q : State → Prop}
variable {cc : ByteArray} {pc : Nat} {ls : Array Slot} {rest : List Value}
theorem n_shr5 (hx : p.tables.exec = Jvm.exec) (hb : c.code = cc) {a : Nat} (ha : a < 2 ^ 31) (hdg : decode cc pc = .ok (.ishr, 1)) (k : W p l e R s m args below meth c H locs cells slots Q (F0 m (pc + 1) ls (.int (nI (a / 32)) :: rest))) : W p l e R s m args below meth c H locs cells slots Q (F0 m pc ls (.int (nI 5) :: .int (nI a) :: rest)) :=
  lv_ishr hx hb hdg (by rw [pk_shrN ha _ 5 (by decide)]; exact k)
theorem n_and31 (hx : p.tables.exec = Jvm.exec) (hb : c.code = cc) {a : Nat} (ha : a < 2 ^ 31) (hdg : decode cc pc = .ok (.iand, 1)) (k : W p l e R s m args below meth c H locs cells slots Q (F0 m (pc + 1) ls (.int (nI (a % 32)) :: rest))) : W p l e R s m args below meth c H locs cells slots Q (F0 m pc ls (.int (nI 31) :: .int (nI a) :: rest)) :=
  lv_iand hx hb hdg (by rw [pk_andN (by omega) 5 (by decide)]; exact k)
end X24
def sTim (i : Nat) (lo : Int64) (k : Nat) (c : Int64) (F : Nat → Nat → Int32) : Int64 := rUn (F i k) * lo + (c &&& 4294967295)
def cTim (i : Nat) (lo hi : Int64) (k : Nat) (c : Int64) (F : Nat → Nat → Int32) : Int64 := rUn (F i k) * hi + j_lr c (nI 32) + j_lu (sTim i lo k c F) (nI 32)
def gTim (i : Nat) (lo hi : Int64) : Nat → Nat → Int64 → (Nat → Nat → Int32) → Nat → Nat → Int32
  | 0, _, _, F => F
  | n + 1, k, c, F => gTim i lo hi n (k + 1) (cTim i lo hi k c F) (va_up F i (upd (F i) k (sTim i lo k c F).toInt32))
def gShd (i w wh pt : Nat) : Nat → Nat → (Nat → Nat → Int32) → Nat → Nat → Int32
  | 0, _, F => F
  | n + 1, k, F => gShd i w wh pt n (k + 1) (va_up F i (upd (F i) k (j_lu (rPair w (F i) (nI (k + wh))) (nI pt)).toInt32))
def gShu (i w wh pt : Nat) : Nat → (Nat → Nat → Int32) → Nat → Nat → Int32
  | 0, F => F
  | n + 1, F => gShu i w wh pt n (va_up F i (upd (F i) n (j_lu (j_ll (rPair w (F i) (nI n - nI wh - nI 1)) (nI pt)) (nI 32)).toInt32))
def gTurn (i w : Nat) (F : Nat → Nat → Int32) : Nat → Nat → Int32 := gInc i w 0 (gCpl i w 0 F)
def rTurn (i w : Nat) (F : Nat → Nat → Int32) : Int32 := if rNeg w (F i) = 0 then nI 1 else if rNeg w (gTurn i w F i) = 0 then nI 1 else nI 0
def gDl (x : Int32) (d : Int64) : Nat → Int64 → Int32 → Int64 × Int32
  | 0, r, q => (r, q)
  | n + 1, r, q => if lg_cmp (j_ll r (nI 1) ||| (j_iu x (nI n) &&& nI 1).toInt64) d < 0 then gDl x d n (j_ll r (nI 1) ||| (j_iu x (nI n) &&& nI 1).toInt64) (q <<< (nI 1 &&& 31))
    else gDl x d n ((j_ll r (nI 1) ||| (j_iu x (nI n) &&& nI 1).toInt64) - d) (q <<< (nI 1 &&& 31) ||| nI 1)
def gDv (i : Nat) (d : Int64) : Nat → Int64 → (Nat → Nat → Int32) → Nat → Nat → Int32
  | 0, _, F => F
  | n + 1, r, F => gDv i d n (gDl (F i n) d 32 r (nI 0)).1 (va_up F i (upd (F i) n (gDl (F i n) d 32 r (nI 0)).2))
def rDv (i : Nat) (d : Int64) : Nat → Int64 → (Nat → Nat → Int32) → Int64
  | 0, r, _ => r
  | n + 1, r, F => rDv i d n (gDl (F i n) d 32 r (nI 0)).1 (va_up F i (upd (F i) n (gDl (F i n) d 32 r (nI 0)).2))
def gDivB (i w : Nat) (d : Int64) (F : Nat → Nat → Int32) : Nat → Nat → Int32 := if rNeg w (F i) = 0 then gDv i d w 0 F else gCpl i w 0 (gDv i d w 0 (gCpl i w 0 F))
def rDivB (i w : Nat) (d : Int64) (F : Nat → Nat → Int32) : Int64 := if rNeg w (F i) = 0 then rDv i d w 0 F else d - 1 - rDv i d w 0 (gCpl i w 0 F)
