def mTop (z : Nat → Nat) (b : Nat) : Nat → Nat
  | 0 => 0
  | n + 1 => if z (1100 * b + n) = 0 then mTop z b n else n + 1
theorem mTop_le (z : Nat → Nat) (b : Nat) : ∀ n, mTop z b n ≤ n
  | 0 => Nat.le_refl _
  | n + 1 => by
    unfold mTop
    have := mTop_le z b n
    split <;> omega
def mLenL (a : Nat) : Nat → Nat → Nat
  | 0, n => n
  | m + 1, n => if a / 2 ^ n = 0 then n else mLenL a m (n + 1)
theorem mLenL_le (a : Nat) : ∀ m n, mLenL a m n ≤ n + m
  | 0, n => Nat.le_refl _
  | m + 1, n => by
    unfold mLenL
    have := mLenL_le a m (n + 1)
    split <;> omega
def mBitsAt (z : Nat → Nat) (b : Nat) : Nat → Nat
  | 0 => 0
  | k + 1 => 16 * k + mLenL (z (1100 * b + k)) 16 0
noncomputable def mBits (z : Nat → Nat) (b : Nat) : Nat := mBitsAt z b (mTop z b cZ)
theorem mBits_le (z : Nat → Nat) (b : Nat) : mBits z b ≤ 17600 := by
  unfold mBits
  have h : mTop z b cZ ≤ 1100 := Nat.le_trans (mTop_le z b cZ) (Nat.le_of_eq cZ_eq)
  generalize mTop z b cZ = t at h ⊢
  cases t with
  | zero => exact Nat.zero_le _
  | succ k =>
    have h2 := mLenL_le (z (1100 * b + k)) 16 0
    show 16 * k + mLenL (z (1100 * b + k)) 16 0 ≤ 17600
    omega
set_option maxHeartbeats 800000 in
set_option maxRecDepth 100000 in
theorem lq_X2_bits {p : Program} {l : Launch} {e : Env} {s : State} {m : MethodId} {args : Array Value} {below : List Frame} {meth : Method} {c : Code} {D : va_G} {Rs : va_W} {cA cR cL : ClassId} {h aw ar ag az : Nat} {A : Nat → Prop} {cd : Int32} {w g : Nat → Nat} {sg : Nat → Int32} {z : Nat → Nat} (hx : p.tables.exec = Jvm.exec) (hb : c.code = b_X2_bits) (hr : meth.sig.returnType = some .int) (hml : c.maxLocals = 4) (hown : s.vm.findClass R_Md = some m.cls) (hts : ∀ w ∈ gw, w.before args s = true) (hlocks : meth.locks = false) (hA : ∀ q : Nat, s.heap.size ≤ q → A q) (hK : va_K D cls0 (ty3 cA cR cL) s) (hok : mdOk w g z) {b k : Nat} (hb3 : b < 3) (hk : k < 1100) (hP : va_P D cls0 (md cA h aw ar ag az cd w g sg z Rs) s.heap) (hD : va_D A (md cA h aw ar ag az cd w g sg z Rs)) : ∀ (n : Nat) (t : Nat), n + t = 16 → ∀ (ls : Array Slot), lv_has ls 4 [(0, .ref h), (1, .int (nI b)), (2, .int (nI k)), (3, .int (nI t))] → W p l e ({ frames := 0, cells := 0, slots := 0, locals := 0 }) s m args below meth c s.heap [] 0 0 (MQ below (xRQ (some (.int (nI (16 * k + mLenL (z (1100 * b + k)) n t))))) args s 0 0 (fun _ => False)) (F0 m 31 ls []) := by
  intro n
  induction n with
  | zero =>
    intro t hn ls hl
    have hz0 := hok.2.2 (1100 * b + k)
    have hz1 : z (1100 * b + k) / 2 ^ t = 0 := by rw [show t = 16 by omega]; omega
    refine lv_iload_n hx hb d_X2_bits_31 rfl (lv_at hl 2 rfl) ?_
    refine n_if_lt (tgt := 58) hx hb d_X2_bits_32 (by decide) (by omega) ?_
    refine lv_aload_n hx hb d_X2_bits_35 rfl (lv_at hl 0 rfl) ?_
    refine m_getZ hx hb hts hown hK hP d_X2_bits_36 ?_
    refine lv_sipush (v := nI 1100) hx hb d_X2_bits_39 (by decide) ?_
    refine lv_iload_n hx hb d_X2_bits_42 rfl (lv_at hl 1 rfl) ?_
    refine n_imul hx hb d_X2_bits_43 ?_
    refine lv_iload_n hx hb d_X2_bits_44 rfl (lv_at hl 2 rfl) ?_
    refine n_iadd hx hb d_X2_bits_45 ?_
    refine m_aldZ hx hb hK hP (j := (1100 * b) + k) (by omega) d_X2_bits_46 ?_
    have hq_46 := hok.2.2 ((1100 * b) + k)
    refine lv_iload_n hx hb d_X2_bits_47 rfl (lv_at hl 3 rfl) ?_
    refine n_ishr hx hb (by omega) (by omega) d_X2_bits_48 ?_
    refine n_if_le (tgt := 58) hx hb d_X2_bits_49 (by decide) (Nat.lt_of_le_of_lt (Nat.div_le_self _ _) (by omega)) (fun c_1 => ?_) (fun c_1 => ?_)
    rotate_left
    · exact absurd c_1 (by omega)
    refine lv_iload_n hx hb d_X2_bits_58 rfl (lv_at hl 2 rfl) ?_
    refine n_if_ge (tgt := 66) hx hb d_X2_bits_59 (by decide) (by omega) ?_
    refine lv_bipush (v := nI 16) hx hb d_X2_bits_66 (by decide) ?_
    refine lv_iload_n hx hb d_X2_bits_68 rfl (lv_at hl 2 rfl) ?_
    refine n_imul hx hb d_X2_bits_69 ?_
    refine lv_iload_n hx hb d_X2_bits_70 rfl (lv_at hl 3 rfl) ?_
    refine n_iadd hx hb d_X2_bits_71 ?_
    exact xr_iret hx hb hr hlocks d_X2_bits_72 rfl
  | succ n ih =>
    intro t hn ls hl
    refine lv_iload_n hx hb d_X2_bits_31 rfl (lv_at hl 2 rfl) ?_
    refine n_if_lt (tgt := 58) hx hb d_X2_bits_32 (by decide) (by omega) ?_
    refine lv_aload_n hx hb d_X2_bits_35 rfl (lv_at hl 0 rfl) ?_
    refine m_getZ hx hb hts hown hK hP d_X2_bits_36 ?_
    refine lv_sipush (v := nI 1100) hx hb d_X2_bits_39 (by decide) ?_
    refine lv_iload_n hx hb d_X2_bits_42 rfl (lv_at hl 1 rfl) ?_
    refine n_imul hx hb d_X2_bits_43 ?_
    refine lv_iload_n hx hb d_X2_bits_44 rfl (lv_at hl 2 rfl) ?_
    refine n_iadd hx hb d_X2_bits_45 ?_
    refine m_aldZ hx hb hK hP (j := (1100 * b) + k) (by omega) d_X2_bits_46 ?_
    have hq_46 := hok.2.2 ((1100 * b) + k)
    refine lv_iload_n hx hb d_X2_bits_47 rfl (lv_at hl 3 rfl) ?_
    refine n_ishr hx hb (by omega) (by omega) d_X2_bits_48 ?_
    refine n_if_le (tgt := 58) hx hb d_X2_bits_49 (by decide) (Nat.lt_of_le_of_lt (Nat.div_le_self _ _) (by omega)) (fun c_1 => ?_) (fun c_1 => ?_)
    · refine lv_iload_n hx hb d_X2_bits_58 rfl (lv_at hl 2 rfl) ?_
      refine n_if_ge (tgt := 66) hx hb d_X2_bits_59 (by decide) (by omega) ?_
      refine lv_bipush (v := nI 16) hx hb d_X2_bits_66 (by decide) ?_
      refine lv_iload_n hx hb d_X2_bits_68 rfl (lv_at hl 2 rfl) ?_
      refine n_imul hx hb d_X2_bits_69 ?_
      refine lv_iload_n hx hb d_X2_bits_70 rfl (lv_at hl 3 rfl) ?_
      refine n_iadd hx hb d_X2_bits_71 ?_
      exact xr_iret hx hb hr hlocks d_X2_bits_72 (by rw [show mLenL (z (1100 * b + k)) (n + 1) t = t from if_pos (by assumption)])
    · refine n_iinc (lv' := [(3, .int (nI (t + 1))), (0, .ref h), (1, .int (nI b)), (2, .int (nI k))]) hx hb d_X2_bits_52 hl (k := 3) rfl (by decide) rfl (fun ls hl => ?_)
      refine lv_goto (tgt := 31) hx hb d_X2_bits_55 (by decide) ?_
      rw [show mLenL (z (1100 * b + k)) (n + 1) t = mLenL (z (1100 * b + k)) n (t + 1) from if_neg (by omega)]
      exact ih (t + 1) (by omega) ls (lv_sub hl [1, 2, 3, 0] rfl)
set_option maxHeartbeats 800000 in
set_option maxRecDepth 100000 in
theorem js_X2_bits_29 {p : Program} {l : Launch} {e : Env} {s : State} {m : MethodId} {args : Array Value} {below : List Frame} {meth : Method} {c : Code} {D : va_G} {Rs : va_W} {cA cR cL : ClassId} {h aw ar ag az : Nat} {A : Nat → Prop} {cd : Int32} {w g : Nat → Nat} {sg : Nat → Int32} {z : Nat → Nat} (hx : p.tables.exec = Jvm.exec) (hb : c.code = b_X2_bits) (hr : meth.sig.returnType = some .int) (hml : c.maxLocals = 4) (hown : s.vm.findClass R_Md = some m.cls) (hts : ∀ w ∈ gw, w.before args s = true) (hlocks : meth.locks = false) (hA : ∀ q : Nat, s.heap.size ≤ q → A q) (hK : va_K D cls0 (ty3 cA cR cL) s) (hok : mdOk w g z) {b : Nat} (hb3 : b < 3) (hP : va_P D cls0 (md cA h aw ar ag az cd w g sg z Rs) s.heap) (hD : va_D A (md cA h aw ar ag az cd w g sg z Rs)) (t : Nat) (ht : t ≤ 1100) (ls : Array Slot) (hl : lv_has ls 4 [(0, .ref h), (1, .int (nI b)), (2, .int (nM t))]) : W p l e ({ frames := 0, cells := 0, slots := 0, locals := 0 }) s m args below meth c s.heap [] 0 0 (MQ below (xRQ (some (.int (nI (mBitsAt z b t))))) args s 0 0 (fun _ => False)) (F0 m 29 ls []) := by
  cases t with
  | zero =>
    rw [nM_0] at hl
    refine lv_iconst (v := nI 0) hx hb d_X2_bits_29 (by decide) ?_
    refine lv_istore_n (lv' := [(3, .int (nI 0)), (0, .ref h), (1, .int (nI b)), (2, .int (-1))]) hx hb d_X2_bits_30 rfl hl (by decide) rfl (fun ls hl => ?_)
    refine lv_iload_n hx hb d_X2_bits_31 rfl (lv_at hl 3 rfl) ?_
    refine lv_if_lt (tgt := 58) hx hb d_X2_bits_32 (by decide) (fun c_1 => ?_) (fun c_1 => ?_)
    rotate_left
    · exact absurd (by decide) c_1
    refine lv_iload_n hx hb d_X2_bits_58 rfl (lv_at hl 3 rfl) ?_
    refine lv_if_ge (tgt := 66) hx hb d_X2_bits_59 (by decide) (fun c_2 => ?_) (fun c_2 => ?_)
    · exact absurd c_2 (by decide)
    refine lv_iconst (v := nI 0) hx hb d_X2_bits_62 (by decide) ?_
    refine lv_goto (tgt := 72) hx hb d_X2_bits_63 (by decide) ?_
    exact xr_iret hx hb hr hlocks d_X2_bits_72 rfl
  | succ k =>
    rw [nM_succ] at hl
    refine lv_iconst (v := nI 0) hx hb d_X2_bits_29 (by decide) ?_
    refine lv_istore_n (lv' := [(3, .int (nI 0)), (0, .ref h), (1, .int (nI b)), (2, .int (nI k))]) hx hb d_X2_bits_30 rfl hl (by decide) rfl (fun ls hl => ?_)
    exact lq_X2_bits hx hb hr hml hown hts hlocks hA hK hok hb3 (by omega) hP hD 16 0 rfl ls (lv_sub hl [1, 2, 3, 0] rfl)
set_option maxHeartbeats 800000 in
set_option maxRecDepth 100000 in
theorem lp_X2_bits {p : Program} {l : Launch} {e : Env} {s : State} {m : MethodId} {args : Array Value} {below : List Frame} {meth : Method} {c : Code} {D : va_G} {Rs : va_W} {cA cR cL : ClassId} {h aw ar ag az : Nat} {A : Nat → Prop} {cd : Int32} {w g : Nat → Nat} {sg : Nat → Int32} {z : Nat → Nat} (hx : p.tables.exec = Jvm.exec) (hb : c.code = b_X2_bits) (hr : meth.sig.returnType = some .int) (hml : c.maxLocals = 4) (hown : s.vm.findClass R_Md = some m.cls) (hts : ∀ w ∈ gw, w.before args s = true) (hlocks : meth.locks = false) (hA : ∀ q : Nat, s.heap.size ≤ q → A q) (hK : va_K D cls0 (ty3 cA cR cL) s) (hok : mdOk w g z) {b : Nat} (hb3 : b < 3) (hP : va_P D cls0 (md cA h aw ar ag az cd w g sg z Rs) s.heap) (hD : va_D A (md cA h aw ar ag az cd w g sg z Rs)) : ∀ (n : Nat), n ≤ 1100 → ∀ (ls : Array Slot), lv_has ls 4 [(0, .ref h), (1, .int (nI b)), (2, .int (nM n))] → W p l e ({ frames := 0, cells := 0, slots := 0, locals := 0 }) s m args below meth c s.heap [] 0 0 (MQ below (xRQ (some (.int (nI (mBitsAt z b (mTop z b n)))))) args s 0 0 (fun _ => False)) (F0 m 4 ls []) := by
  intro n
  induction n with
  | zero =>
    intro  hn ls hl
    rw [nM_0] at hl
    refine lv_iload_n hx hb d_X2_bits_4 rfl (lv_at hl 2 rfl) ?_
    refine lv_if_lt (tgt := 29) hx hb d_X2_bits_5 (by decide) (fun c_1 => ?_) (fun c_1 => ?_)
    rotate_left
    · exact absurd (by decide) c_1
    rw [← nM_0] at hl
    exact js_X2_bits_29 hx hb hr hml hown hts hlocks hA hK hok hb3 hP hD 0 (by omega) ls (lv_sub hl [0, 1, 2] rfl)
  | succ n ih =>
    intro  hn ls hl
    rw [nM_succ] at hl
    refine lv_iload_n hx hb d_X2_bits_4 rfl (lv_at hl 2 rfl) ?_
    refine n_if_lt (tgt := 29) hx hb d_X2_bits_5 (by decide) (by omega) ?_
    refine lv_aload_n hx hb d_X2_bits_8 rfl (lv_at hl 0 rfl) ?_
    refine m_getZ hx hb hts hown hK hP d_X2_bits_9 ?_
    refine lv_sipush (v := nI 1100) hx hb d_X2_bits_12 (by decide) ?_
    refine lv_iload_n hx hb d_X2_bits_15 rfl (lv_at hl 1 rfl) ?_
    refine n_imul hx hb d_X2_bits_16 ?_
    refine lv_iload_n hx hb d_X2_bits_17 rfl (lv_at hl 2 rfl) ?_
    refine n_iadd hx hb d_X2_bits_18 ?_
    refine m_aldZ hx hb hK hP (j := (1100 * b) + n) (by omega) d_X2_bits_19 ?_
    have hq_19 := hok.2.2 ((1100 * b) + n)
    refine n_if_ne (tgt := 29) hx hb d_X2_bits_20 (by decide) (by omega) (fun c_1 => ?_) (fun c_1 => ?_)
    · rw [← nM_succ n] at hl
      rw [show mTop z b (n + 1) = n + 1 from if_neg (by assumption)]
      exact js_X2_bits_29 hx hb hr hml hown hts hlocks hA hK hok hb3 hP hD (n + 1) (by omega) ls (lv_sub hl [0, 1, 2] rfl)
    · refine n_idec (lv' := [(2, .int (nM n)), (0, .ref h), (1, .int (nI b))]) hx hb d_X2_bits_23 hl (k := 2) rfl (by decide) rfl (fun ls hl => ?_)
      refine lv_goto (tgt := 4) hx hb d_X2_bits_26 (by decide) ?_
      rw [show mTop z b (n + 1) = mTop z b n from if_pos (by assumption)]
      exact ih (by omega) ls (lv_sub hl [1, 2, 0] rfl)
abbrev w_X2_bits : List Cond := .code y_X2_bits b_X2_bits 4 (some .int) :: gw
set_option maxHeartbeats 800000 in
set_option maxRecDepth 100000 in
theorem c_X2_bits {l : Launch} {D : va_G} {Rs : va_W} {cA cR cL : ClassId} {h aw ar ag az : Nat} {cd : Int32} {w g : Nat → Nat} {sg : Nat → Int32} {z : Nat → Nat} (hok : mdOk w g z) {b : Nat} (hb3 : b < 3) : xR l y_X2_bits w_X2_bits ({ frames := 0, cells := 0, slots := 0, locals := 0 }) D cls0 (ty3 cA cR cL) [.ref h, .int (nI b)] (md cA h aw ar ag az cd w g sg z Rs) (some (.int (nI (mBits z b)))) := by
  refine xR.ofW (cc := b_X2_bits) (maxL := 4) (ret := some .int) (by decide) rfl (Nat.le_of_ble_eq_true rfl) ?_
  intro p e s m below meth c A ls _ hin hx hb hr hml hown hts hlocks hA hK hP hD hS hl
  have hts : ∀ w ∈ gw, w.before ([.ref h, .int (nI b)]).toArray s = true := fun w h => hts w (List.mem_cons_of_mem _ h)
  have hown : s.vm.findClass R_Md = some m.cls := hown
  have hl : lv_has ls 4 [(0, .ref h), (1, .int (nI b))] := hl
  refine lv_sipush (v := nI 1099) hx hb d_X2_bits_0 (by decide) ?_
  refine lv_istore_n (lv' := [(2, .int (nI 1099)), (0, .ref h), (1, .int (nI b))]) hx hb d_X2_bits_3 rfl hl (by decide) rfl (fun ls hl => ?_)
  rw [show nI 1099 = nM cZ from by rw [cZ_eq]; exact (nM_succ 1099).symm] at hl
  exact lp_X2_bits hx hb hr hml hown hts hlocks hA hK hok hb3 hP hD cZ (by rw [cZ_eq]; exact Nat.le_refl _) ls (lv_sub hl [1, 2, 0] rfl)
/-- t: the place of the lowest bit that is set, where the sign is less than 0 -/
def mLow (z : Nat → Nat) (b t : Nat) : Prop := t < 17600 ∧ mBit z b t = 1 ∧ (∀ k, k < t → mBit z b k = 0) ∧ 1 ≤ mBits z b
noncomputable def mLenO (sg : Nat → Int32) (z : Nat → Nat) (b t : Nat) : Nat := if 0 ≤ sg b then mBits z b else if t = mBits z b - 1 then mBits z b - 1 else mBits z b
abbrev w_X2_lengthOf : List Cond := .code y_X2_lengthOf b_X2_lengthOf 3 (some .int) :: gw
set_option maxHeartbeats 800000 in
set_option maxRecDepth 100000 in
theorem c_X2_lengthOf {l : Launch} {D : va_G} {Rs : va_W} {cA cR cL : ClassId} {h aw ar ag az : Nat} {cd : Int32} {w g : Nat → Nat} {sg : Nat → Int32} {z : Nat → Nat} (hok : mdOk w g z) {b t : Nat} (hb3 : b < 3) (hlow : ¬ 0 ≤ sg b → mLow z b t) : xR l y_X2_lengthOf w_X2_lengthOf ({ frames := 2, cells := 0, slots := 0, locals := 44 }) D cls0 (ty3 cA cR cL) [.ref h, .int (nI b)] (md cA h aw ar ag az cd w g sg z Rs) (some (.int (nI (mLenO sg z b t)))) := by
  refine xR.ofW (cc := b_X2_lengthOf) (maxL := 3) (ret := some .int) (by decide) rfl (Nat.le_of_ble_eq_true rfl) ?_
  intro p e s m below meth c A ls _ hin hx hb hr hml hown hts hlocks hA hK hP hD hS hl
  have hts : ∀ w ∈ gw, w.before ([.ref h, .int (nI b)]).toArray s = true := fun w h => hts w (List.mem_cons_of_mem _ h)
  have hown : s.vm.findClass R_Md = some m.cls := hown
  have hl : lv_has ls 3 [(0, .ref h), (1, .int (nI b))] := hl
  have hbl := mBits_le z b
  refine lv_aload_n hx hb d_X2_lengthOf_0 rfl (lv_at hl 0 rfl) ?_
  refine lv_iload_n hx hb d_X2_lengthOf_1 rfl (lv_at hl 1 rfl) ?_
  refine x_callR (st1 := [.int (nI (mBits z b))]) (x_runV (As := [.int (nI b)]) (rest := []) (nL := 3) ⟨hx, hb, hml, hown, hts⟩ (c_X2_bits hok (by omega) _) (cwV 1 hts (gw_V k_540 k_542 k_36 k_52 k_543) rfl rfl rfl (by decide +kernel) ⟨Nat.le_of_ble_eq_true rfl, Nat.le_of_ble_eq_true rfl⟩) hK hP hD 0 2 rfl rfl rfl hl.1 rfl (Nat.le_of_ble_eq_true rfl) d_X2_lengthOf_2 ⟨Nat.zero_le _, Nat.zero_le _⟩) rfl ?_
  refine lv_istore_n (lv' := [(2, .int (nI (mBits z b))), (0, .ref h), (1, .int (nI b))]) hx hb d_X2_lengthOf_5 rfl hl (by decide) rfl (fun ls hl => ?_)
  refine lv_aload_n hx hb d_X2_lengthOf_6 rfl (lv_at hl 1 rfl) ?_
  refine m_getG hx hb hts hown hK hP d_X2_lengthOf_7 ?_
  refine lv_iload_n hx hb d_X2_lengthOf_10 rfl (lv_at hl 2 rfl) ?_
  refine m_aldG hx hb hK hP (j := b) (by omega) d_X2_lengthOf_11 ?_
  refine lv_if_ge (tgt := 32) hx hb d_X2_lengthOf_12 (by decide) (fun c_1 => ?_) (fun c_1 => ?_)
  · refine lv_iload_n hx hb d_X2_lengthOf_32 rfl (lv_at hl 0 rfl) ?_
    exact xr_iret hx hb hr hlocks d_X2_lengthOf_33 (by unfold mLenO; first | rw [if_pos (by assumption)] | rw [if_neg (by assumption), if_pos (by assumption)] | rw [if_neg (by assumption), if_neg (by assumption)])
  · refine lv_aload_n hx hb d_X2_lengthOf_15 rfl (lv_at hl 1 rfl) ?_
    refine lv_iload_n hx hb d_X2_lengthOf_16 rfl (lv_at hl 2 rfl) ?_
    obtain ⟨hl1, hl2, hl3, hl4⟩ := hlow c_1
    refine x_callR (st1 := [.int (nI t)]) (x_runV (As := [.int (nI b)]) (rest := []) (nL := 3) ⟨hx, hb, hml, hown, hts⟩ (c_X2_zerosOf hok hb3 hl1 hl2 hl3 _) (cwV 1 hts (gw_V k_544 k_546 k_37 k_52 k_547) rfl rfl rfl (by decide +kernel) ⟨Nat.le_of_ble_eq_true rfl, Nat.le_of_ble_eq_true rfl⟩) hK hP hD 0 2 rfl rfl rfl hl.1 rfl (Nat.le_of_ble_eq_true rfl) d_X2_lengthOf_17 ⟨Nat.zero_le _, Nat.zero_le _⟩) rfl ?_
    refine lv_iload_n hx hb d_X2_lengthOf_20 rfl (lv_at hl 0 rfl) ?_
    refine lv_iconst (v := nI 1) hx hb d_X2_lengthOf_21 (by decide) ?_
    refine n_isub hx hb d_X2_lengthOf_22 (by omega) ?_
    refine n_icmp_ne (tgt := 32) hx hb d_X2_lengthOf_23 (by decide) (by omega) (by omega) (fun c_2 => ?_) (fun c_2 => ?_)
    · refine lv_iload_n hx hb d_X2_lengthOf_32 rfl (lv_at hl 0 rfl) ?_
      exact xr_iret hx hb hr hlocks d_X2_lengthOf_33 (by unfold mLenO; first | rw [if_pos (by assumption)] | rw [if_neg (by assumption), if_pos (by assumption)] | rw [if_neg (by assumption), if_neg (by assumption)])
    · refine lv_iload_n hx hb d_X2_lengthOf_26 rfl (lv_at hl 0 rfl) ?_
      refine lv_iconst (v := nI 1) hx hb d_X2_lengthOf_27 (by decide) ?_
      refine n_isub hx hb d_X2_lengthOf_28 (by omega) ?_
      refine lv_goto (tgt := 33) hx hb d_X2_lengthOf_29 (by decide) ?_
      exact xr_iret hx hb hr hlocks d_X2_lengthOf_33 (by unfold mLenO; first | rw [if_pos (by assumption)] | rw [if_neg (by assumption), if_pos (by assumption)] | rw [if_neg (by assumption), if_neg (by assumption)])
