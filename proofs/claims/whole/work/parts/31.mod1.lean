abbrev w_X2_thrown : List Cond := .code y_X2_thrown b_X2_thrown 1 (some .int) :: gw
set_option maxHeartbeats 800000 in
set_option maxRecDepth 100000 in
theorem c_X2_thrown {l : Launch} {D : va_G} {Rs : va_W} {cA cR cL : ClassId} {h aw ar ag az : Nat} {cd : Int32} {w g : Nat → Nat} {sg : Nat → Int32} {z : Nat → Nat}  : xR l y_X2_thrown w_X2_thrown ({ frames := 0, cells := 0, slots := 0, locals := 0 }) D cls0 (ty3 cA cR cL) [.ref h] (md cA h aw ar ag az cd w g sg z Rs) (some (.int cd)) := by
  refine xR.ofW (cc := b_X2_thrown) (maxL := 1) (ret := some .int) (by decide) rfl (Nat.le_of_ble_eq_true rfl) ?_
  intro p e s m below meth c A ls _ hin hx hb hr hml hown hts hlocks hA hK hP hD hS hl
  have hts : ∀ w ∈ gw, w.before ([.ref h]).toArray s = true := fun w h => hts w (List.mem_cons_of_mem _ h)
  have hown : s.vm.findClass R_Md = some m.cls := hown
  have hl : lv_has ls 1 [(0, .ref h)] := hl
  refine lv_aload_n hx hb d_X2_thrown_0 rfl (lv_at hl 0 rfl) ?_
  refine m_getC hx hb hts hown hK hP d_X2_thrown_1 ?_
  exact xr_iret hx hb hr hlocks d_X2_thrown_4 rfl
def mRef (x : Int32) : Int32 := if x ≤ 0 then nI 0 else nI 1
abbrev w_X2_refuses : List Cond := .code y_X2_refuses b_X2_refuses 2 (some .boolean) :: gw
set_option maxHeartbeats 800000 in
set_option maxRecDepth 100000 in
theorem c_X2_refuses {l : Launch} {D : va_G} {Rs : va_W} {cA cR cL : ClassId} {h aw ar ag az : Nat} {cd : Int32} {w g : Nat → Nat} {sg : Nat → Int32} {z : Nat → Nat} (x : Int32) : xC l y_X2_refuses w_X2_refuses ({ frames := 0, cells := 0, slots := 0, locals := 0 }) D cls0 (ty3 cA cR cL) [.ref h, .int x] (md cA h aw ar ag az cd w g sg z Rs) (some (.int (mRef x))) (fun w1 => w1 = md cA h aw ar ag az x w g sg z Rs) 0 0 := by
  refine xC.ofW (cc := b_X2_refuses) (maxL := 2) (ret := some .boolean) (by decide) rfl (Nat.le_of_ble_eq_true rfl) ?_
  intro p e s m below meth c A ls _ hin hx hb hr hml hown hts hlocks hA hK hP hD hS hl
  have hts : ∀ w ∈ gw, w.before ([.ref h, .int x]).toArray s = true := fun w h => hts w (List.mem_cons_of_mem _ h)
  have hown : s.vm.findClass R_Md = some m.cls := hown
  have hl : lv_has ls 2 [(0, .ref h), (1, .int x)] := hl
  refine lv_aload_n hx hb d_X2_refuses_0 rfl (lv_at hl 0 rfl) ?_
  refine lv_iload_n hx hb d_X2_refuses_1 rfl (lv_at hl 1 rfl) ?_
  refine m_putC hx hb hts hown hK hP hD hS d_X2_refuses_2 (fun H locs hP hD hS => ?_)
  refine lv_iload_n hx hb d_X2_refuses_5 rfl (lv_at hl 1 rfl) ?_
  refine lv_if_le (tgt := 13) hx hb d_X2_refuses_6 (by decide) (fun c_1 => ?_) (fun c_1 => ?_)
  · refine lv_iconst (v := nI 0) hx hb d_X2_refuses_13 (by decide) ?_
    exact x_zret hx hb hr hlocks hP hD hS d_X2_refuses_14 (by decide) (by unfold mRef; first | rw [if_pos (by assumption)] | rw [if_neg (by assumption)]) rfl
  · refine lv_iconst (v := nI 1) hx hb d_X2_refuses_9 (by decide) ?_
    refine lv_goto (tgt := 14) hx hb d_X2_refuses_10 (by decide) ?_
    exact x_zret hx hb hr hlocks hP hD hS d_X2_refuses_14 (by decide) (by unfold mRef; first | rw [if_pos (by assumption)] | rw [if_neg (by assumption)]) rfl
def mIsRow (x : Int32) : Int32 := if x < 0 then nI 0 else if nI 64 ≤ x then nI 0 else nI 1
abbrev w_X2_isRow : List Cond := .code y_X2_isRow b_X2_isRow 1 (some .boolean) :: gw
set_option maxHeartbeats 800000 in
set_option maxRecDepth 100000 in
theorem c_X2_isRow {l : Launch} {D : va_G} {Rs : va_W} {cA cR cL : ClassId} {h aw ar ag az : Nat} {cd : Int32} {w g : Nat → Nat} {sg : Nat → Int32} {z : Nat → Nat} (x : Int32) : xR l y_X2_isRow w_X2_isRow ({ frames := 0, cells := 0, slots := 0, locals := 0 }) D cls0 (ty3 cA cR cL) [.int x] (md cA h aw ar ag az cd w g sg z Rs) (some (.int (mIsRow x))) := by
  refine xR.ofW (cc := b_X2_isRow) (maxL := 1) (ret := some .boolean) (by decide) rfl (Nat.le_of_ble_eq_true rfl) ?_
  intro p e s m below meth c A ls _ hin hx hb hr hml hown hts hlocks hA hK hP hD hS hl
  have hts : ∀ w ∈ gw, w.before ([.int x]).toArray s = true := fun w h => hts w (List.mem_cons_of_mem _ h)
  have hown : s.vm.findClass R_Md = some m.cls := hown
  have hl : lv_has ls 1 [(0, .int x)] := hl
  refine lv_iload_n hx hb d_X2_isRow_0 rfl (lv_at hl 0 rfl) ?_
  refine lv_if_lt (tgt := 14) hx hb d_X2_isRow_1 (by decide) (fun c_1 => ?_) (fun c_1 => ?_)
  · refine lv_iconst (v := nI 0) hx hb d_X2_isRow_14 (by decide) ?_
    exact xr_zret hx hb hr hlocks d_X2_isRow_15 (by decide) (by unfold mIsRow; first | rw [if_pos (by assumption)] | rw [if_neg (by assumption), if_pos (by assumption)] | rw [if_neg (by assumption), if_neg (by assumption)])
  · refine lv_iload_n hx hb d_X2_isRow_4 rfl (lv_at hl 0 rfl) ?_
    refine lv_bipush (v := nI 64) hx hb d_X2_isRow_5 (by decide) ?_
    refine lv_icmp_ge (tgt := 14) hx hb d_X2_isRow_7 (by decide) (fun c_2 => ?_) (fun c_2 => ?_)
    · refine lv_iconst (v := nI 0) hx hb d_X2_isRow_14 (by decide) ?_
      exact xr_zret hx hb hr hlocks d_X2_isRow_15 (by decide) (by unfold mIsRow; first | rw [if_pos (by assumption)] | rw [if_neg (by assumption), if_pos (by assumption)] | rw [if_neg (by assumption), if_neg (by assumption)])
    · refine lv_iconst (v := nI 1) hx hb d_X2_isRow_10 (by decide) ?_
      refine lv_goto (tgt := 15) hx hb d_X2_isRow_11 (by decide) ?_
      exact xr_zret hx hb hr hlocks d_X2_isRow_15 (by decide) (by unfold mIsRow; first | rw [if_pos (by assumption)] | rw [if_neg (by assumption), if_pos (by assumption)] | rw [if_neg (by assumption), if_neg (by assumption)])
/-- 1100, as a number that nothing unfolds -/
noncomputable def cZ : Nat := Classical.choose (⟨1100, rfl⟩ : ∃ n : Nat, n = 1100)
theorem cZ_eq : cZ = 1100 := Classical.choose_spec (⟨1100, rfl⟩ : ∃ n : Nat, n = 1100)
def mClr (b : Nat) : Nat → Nat → (Nat → Nat) → Nat → Nat
  | 0, _, z => z
  | n + 1, k, z => mClr b n (k + 1) (va_up z (1100 * b + k) 0)
set_option maxHeartbeats 800000 in
set_option maxRecDepth 100000 in
theorem lp_X2_clear {p : Program} {l : Launch} {e : Env} {s : State} {m : MethodId} {args : Array Value} {below : List Frame} {meth : Method} {c : Code} {D : va_G} {Rs : va_W} {cA cR cL : ClassId} {h aw ar ag az : Nat} {A : Nat → Prop} {cd : Int32} {w g : Nat → Nat} {sg : Nat → Int32} (hx : p.tables.exec = Jvm.exec) (hb : c.code = b_X2_clear) (hr : meth.sig.returnType = none) (hml : c.maxLocals = 3) (hown : s.vm.findClass R_Md = some m.cls) (hts : ∀ w ∈ gw, w.before args s = true) (hlocks : meth.locks = false) (hA : ∀ q : Nat, s.heap.size ≤ q → A q) (hK : va_K D cls0 (ty3 cA cR cL) s) {b : Nat} (hb3 : b < 3) : ∀ (n : Nat) (k : Nat) (z : Nat → Nat), n = 1100 - k → k < 2000 → ∀ (H : Heap) (locs : List Loc), va_P D cls0 (md cA h aw ar ag az cd w g sg z Rs) H → va_D A (md cA h aw ar ag az cd w g sg z Rs) → va_S A s.heap H locs → ∀ (ls : Array Slot), lv_has ls 3 [(0, .ref h), (1, .int (nI b)), (2, .int (nI k))] → W p l e ({ frames := 0, cells := 0, slots := 0, locals := 0 }) s m args below meth c H locs 0 0 (MQ below (xQ (none) (xB D cls0 A (fun w1 => w1 = md cA h aw ar ag az cd w g (upd sg b (nI 0)) (mClr b n k z) Rs)) A) args s 0 0 A) (F0 m 2 ls []) := by
  intro n
  induction n with
  | zero =>
    intro k z hn hk H locs hP hD hS ls hl
    refine lv_iload_n hx hb d_X2_clear_2 rfl (lv_at hl 2 rfl) ?_
    refine lv_sipush (v := nI 1100) hx hb d_X2_clear_3 (by decide) ?_
    refine n_icmp_ge (tgt := 28) hx hb d_X2_clear_6 (by decide) (by omega) (by omega) (fun c_1 => ?_) (fun c_1 => ?_)
    rotate_left
    · exact absurd c_1 (by omega)
    refine lv_aload_n hx hb d_X2_clear_28 rfl (lv_at hl 0 rfl) ?_
    refine m_getG hx hb hts hown hK hP d_X2_clear_29 ?_
    refine lv_iload_n hx hb d_X2_clear_32 rfl (lv_at hl 1 rfl) ?_
    refine lv_iconst (v := nI 0) hx hb d_X2_clear_33 (by decide) ?_
    refine m_astG hx hb hK hP hD hS (j := b) (x := nI 0) (by omega) d_X2_clear_34 (fun H locs hP hD hS => ?_)
    exact x_vret hx hb hr hlocks hP hD hS d_X2_clear_35 rfl rfl
  | succ n ih =>
    intro k z hn hk H locs hP hD hS ls hl
    refine lv_iload_n hx hb d_X2_clear_2 rfl (lv_at hl 2 rfl) ?_
    refine lv_sipush (v := nI 1100) hx hb d_X2_clear_3 (by decide) ?_
    refine n_icmp_ge (tgt := 28) hx hb d_X2_clear_6 (by decide) (by omega) (by omega) (fun c_1 => ?_) (fun c_1 => ?_)
    · exact absurd c_1 (by omega)
    refine lv_aload_n hx hb d_X2_clear_9 rfl (lv_at hl 0 rfl) ?_
    refine m_getZ hx hb hts hown hK hP d_X2_clear_10 ?_
    refine lv_sipush (v := nI 1100) hx hb d_X2_clear_13 (by decide) ?_
    refine lv_iload_n hx hb d_X2_clear_16 rfl (lv_at hl 1 rfl) ?_
    refine n_imul hx hb d_X2_clear_17 ?_
    refine lv_iload_n hx hb d_X2_clear_18 rfl (lv_at hl 2 rfl) ?_
    refine n_iadd hx hb d_X2_clear_19 ?_
    refine lv_iconst (v := nI 0) hx hb d_X2_clear_20 (by decide) ?_
    refine m_astZ hx hb hK hP hD hS (j := (1100 * b) + k) (v := 0) (by omega) d_X2_clear_21 (fun H locs hP hD hS => ?_)
    refine n_iinc (lv' := [(2, .int (nI (k + 1))), (0, .ref h), (1, .int (nI b))]) hx hb d_X2_clear_22 hl (k := 2) rfl (by decide) rfl (fun ls hl => ?_)
    refine lv_goto (tgt := 2) hx hb d_X2_clear_25 (by decide) ?_
    exact ih (k + 1) _ (by omega) (by omega) H locs hP hD hS ls (lv_sub hl [1, 2, 0] rfl)
abbrev w_X2_clear : List Cond := .code y_X2_clear b_X2_clear 3 (none) :: gw
set_option maxHeartbeats 800000 in
set_option maxRecDepth 100000 in
theorem c_X2_clear {l : Launch} {D : va_G} {Rs : va_W} {cA cR cL : ClassId} {h aw ar ag az : Nat} {cd : Int32} {w g : Nat → Nat} {sg : Nat → Int32} {z : Nat → Nat} {b : Nat} (hb3 : b < 3) : xC l y_X2_clear w_X2_clear ({ frames := 0, cells := 0, slots := 0, locals := 0 }) D cls0 (ty3 cA cR cL) [.ref h, .int (nI b)] (md cA h aw ar ag az cd w g sg z Rs) (none) (fun w1 => w1 = md cA h aw ar ag az cd w g (upd sg b (nI 0)) (mClr b cZ 0 z) Rs) 0 0 := by
  refine xC.ofW (cc := b_X2_clear) (maxL := 3) (ret := none) (by decide) rfl (Nat.le_of_ble_eq_true rfl) ?_
  intro p e s m below meth c A ls _ hin hx hb hr hml hown hts hlocks hA hK hP hD hS hl
  have hts : ∀ w ∈ gw, w.before ([.ref h, .int (nI b)]).toArray s = true := fun w h => hts w (List.mem_cons_of_mem _ h)
  have hown : s.vm.findClass R_Md = some m.cls := hown
  have hl : lv_has ls 3 [(0, .ref h), (1, .int (nI b))] := hl
  refine lv_iconst (v := nI 0) hx hb d_X2_clear_0 (by decide) ?_
  refine lv_istore_n (lv' := [(2, .int (nI 0)), (0, .ref h), (1, .int (nI b))]) hx hb d_X2_clear_1 rfl hl (by decide) rfl (fun ls hl => ?_)
  exact lp_X2_clear hx hb hr hml hown hts hlocks hA hK hb3 cZ 0 z (by rw [cZ_eq]) (by omega) _ _ hP hD hS ls (lv_sub hl [1, 2, 0] rfl)
def mIz (z : Nat → Nat) (b : Nat) : Nat → Nat → Nat → Nat
  | 0, _, f => f
  | n + 1, k, f => mIz z b n (k + 1) (if f = 0 then 0 else if z (1100 * b + k) = 0 then 1 else 0)
theorem mIz_b (z : Nat → Nat) (b : Nat) : ∀ n k f : Nat, f < 2 → mIz z b n k f < 2
  | 0, _, _, h => h
  | n + 1, k, f, h => mIz_b z b n (k + 1) _ (by split; omega; split <;> omega)
theorem n_bool {f : Nat} (h : f < 2) : narrow .boolean (.int (nI f)) = .int (nI f) := by
  rcases (show f = 0 ∨ f = 1 by omega) with rfl | rfl <;> rfl
set_option maxHeartbeats 800000 in
set_option maxRecDepth 100000 in
theorem lp_X2_isZero {p : Program} {l : Launch} {e : Env} {s : State} {m : MethodId} {args : Array Value} {below : List Frame} {meth : Method} {c : Code} {D : va_G} {Rs : va_W} {cA cR cL : ClassId} {h aw ar ag az : Nat} {A : Nat → Prop} {cd : Int32} {w g : Nat → Nat} {sg : Nat → Int32} {z : Nat → Nat} (hx : p.tables.exec = Jvm.exec) (hb : c.code = b_X2_isZero) (hr : meth.sig.returnType = some .boolean) (hml : c.maxLocals = 4) (hown : s.vm.findClass R_Md = some m.cls) (hts : ∀ w ∈ gw, w.before args s = true) (hlocks : meth.locks = false) (hA : ∀ q : Nat, s.heap.size ≤ q → A q) (hK : va_K D cls0 (ty3 cA cR cL) s) (hok : mdOk w g z) {b : Nat} (hb3 : b < 3) (hP : va_P D cls0 (md cA h aw ar ag az cd w g sg z Rs) s.heap) (hD : va_D A (md cA h aw ar ag az cd w g sg z Rs)) : ∀ (n : Nat) (k f : Nat), n = 1100 - k → k < 2000 → f < 2 → ∀ (ls : Array Slot), lv_has ls 4 [(0, .ref h), (1, .int (nI b)), (2, .int (nI f)), (3, .int (nI k))] → W p l e ({ frames := 0, cells := 0, slots := 0, locals := 0 }) s m args below meth c s.heap [] 0 0 (MQ below (xRQ (some (.int (nI (mIz z b n k f))))) args s 0 0 (fun _ => False)) (F0 m 4 ls []) := by
  intro n
  induction n with
  | zero =>
    intro k f hn hk hf ls hl
    refine lv_iload_n hx hb d_X2_isZero_4 rfl (lv_at hl 3 rfl) ?_
    refine lv_sipush (v := nI 1100) hx hb d_X2_isZero_5 (by decide) ?_
    refine n_icmp_ge (tgt := 42) hx hb d_X2_isZero_8 (by decide) (by omega) (by omega) (fun c_1 => ?_) (fun c_1 => ?_)
    rotate_left
    · exact absurd c_1 (by omega)
    refine lv_iload_n hx hb d_X2_isZero_42 rfl (lv_at hl 2 rfl) ?_
    exact xr_zret hx hb hr hlocks d_X2_isZero_43 (n_bool hf) rfl
  | succ n ih =>
    intro k f hn hk hf ls hl
    refine lv_iload_n hx hb d_X2_isZero_4 rfl (lv_at hl 3 rfl) ?_
    refine lv_sipush (v := nI 1100) hx hb d_X2_isZero_5 (by decide) ?_
    refine n_icmp_ge (tgt := 42) hx hb d_X2_isZero_8 (by decide) (by omega) (by omega) (fun c_1 => ?_) (fun c_1 => ?_)
    · exact absurd c_1 (by omega)
    refine lv_iload_n hx hb d_X2_isZero_11 rfl (lv_at hl 2 rfl) ?_
    refine n_if_eq (tgt := 34) hx hb d_X2_isZero_12 (by decide) (by omega) (fun c_2 => ?_) (fun c_2 => ?_)
    · refine lv_iconst (v := nI 0) hx hb d_X2_isZero_34 (by decide) ?_
      refine lv_istore_n (lv' := [(2, .int (nI 0)), (0, .ref h), (1, .int (nI b)), (3, .int (nI k))]) hx hb d_X2_isZero_35 rfl hl (by decide) rfl (fun ls hl => ?_)
      refine n_iinc (lv' := [(3, .int (nI (k + 1))), (2, .int (nI 0)), (0, .ref h), (1, .int (nI b))]) hx hb d_X2_isZero_36 hl (k := 3) rfl (by decide) rfl (fun ls hl => ?_)
      refine lv_goto (tgt := 4) hx hb d_X2_isZero_39 (by decide) ?_
      rw [show mIz z b (n + 1) k f = mIz z b n (k + 1) 0 from congrArg (mIz z b n (k + 1)) (by first | rw [if_pos (by assumption)] | rw [if_neg (by assumption), if_pos (by assumption)] | rw [if_neg (by assumption), if_neg (by assumption)])]
      exact ih (k + 1) 0 (by omega) (by omega) (by omega) ls (lv_sub hl [2, 3, 1, 0] rfl)
    · refine lv_aload_n hx hb d_X2_isZero_15 rfl (lv_at hl 0 rfl) ?_
      refine m_getZ hx hb hts hown hK hP d_X2_isZero_16 ?_
      refine lv_sipush (v := nI 1100) hx hb d_X2_isZero_19 (by decide) ?_
      refine lv_iload_n hx hb d_X2_isZero_22 rfl (lv_at hl 1 rfl) ?_
      refine n_imul hx hb d_X2_isZero_23 ?_
      refine lv_iload_n hx hb d_X2_isZero_24 rfl (lv_at hl 3 rfl) ?_
      refine n_iadd hx hb d_X2_isZero_25 ?_
      refine m_aldZ hx hb hK hP (j := (1100 * b) + k) (by omega) d_X2_isZero_26 ?_
      have hq_26 := hok.2.2 ((1100 * b) + k)
      refine n_if_ne (tgt := 34) hx hb d_X2_isZero_27 (by decide) (by omega) (fun c_3 => ?_) (fun c_3 => ?_)
      · refine lv_iconst (v := nI 0) hx hb d_X2_isZero_34 (by decide) ?_
        refine lv_istore_n (lv' := [(2, .int (nI 0)), (0, .ref h), (1, .int (nI b)), (3, .int (nI k))]) hx hb d_X2_isZero_35 rfl hl (by decide) rfl (fun ls hl => ?_)
        refine n_iinc (lv' := [(3, .int (nI (k + 1))), (2, .int (nI 0)), (0, .ref h), (1, .int (nI b))]) hx hb d_X2_isZero_36 hl (k := 3) rfl (by decide) rfl (fun ls hl => ?_)
        refine lv_goto (tgt := 4) hx hb d_X2_isZero_39 (by decide) ?_
        rw [show mIz z b (n + 1) k f = mIz z b n (k + 1) 0 from congrArg (mIz z b n (k + 1)) (by first | rw [if_pos (by assumption)] | rw [if_neg (by assumption), if_pos (by assumption)] | rw [if_neg (by assumption), if_neg (by assumption)])]
        exact ih (k + 1) 0 (by omega) (by omega) (by omega) ls (lv_sub hl [2, 3, 1, 0] rfl)
      · refine lv_iconst (v := nI 1) hx hb d_X2_isZero_30 (by decide) ?_
        refine lv_goto (tgt := 35) hx hb d_X2_isZero_31 (by decide) ?_
        refine lv_istore_n (lv' := [(2, .int (nI 1)), (0, .ref h), (1, .int (nI b)), (3, .int (nI k))]) hx hb d_X2_isZero_35 rfl hl (by decide) rfl (fun ls hl => ?_)
        refine n_iinc (lv' := [(3, .int (nI (k + 1))), (2, .int (nI 1)), (0, .ref h), (1, .int (nI b))]) hx hb d_X2_isZero_36 hl (k := 3) rfl (by decide) rfl (fun ls hl => ?_)
        refine lv_goto (tgt := 4) hx hb d_X2_isZero_39 (by decide) ?_
        rw [show mIz z b (n + 1) k f = mIz z b n (k + 1) 1 from congrArg (mIz z b n (k + 1)) (by first | rw [if_pos (by assumption)] | rw [if_neg (by assumption), if_pos (by assumption)] | rw [if_neg (by assumption), if_neg (by assumption)])]
        exact ih (k + 1) 1 (by omega) (by omega) (by omega) ls (lv_sub hl [2, 3, 1, 0] rfl)
abbrev w_X2_isZero : List Cond := .code y_X2_isZero b_X2_isZero 4 (some .boolean) :: gw
set_option maxHeartbeats 800000 in
set_option maxRecDepth 100000 in
theorem c_X2_isZero {l : Launch} {D : va_G} {Rs : va_W} {cA cR cL : ClassId} {h aw ar ag az : Nat} {cd : Int32} {w g : Nat → Nat} {sg : Nat → Int32} {z : Nat → Nat} (hok : mdOk w g z) {b : Nat} (hb3 : b < 3) : xR l y_X2_isZero w_X2_isZero ({ frames := 0, cells := 0, slots := 0, locals := 0 }) D cls0 (ty3 cA cR cL) [.ref h, .int (nI b)] (md cA h aw ar ag az cd w g sg z Rs) (some (.int (nI (mIz z b cZ 0 1)))) := by
  refine xR.ofW (cc := b_X2_isZero) (maxL := 4) (ret := some .boolean) (by decide) rfl (Nat.le_of_ble_eq_true rfl) ?_
  intro p e s m below meth c A ls _ hin hx hb hr hml hown hts hlocks hA hK hP hD hS hl
  have hts : ∀ w ∈ gw, w.before ([.ref h, .int (nI b)]).toArray s = true := fun w h => hts w (List.mem_cons_of_mem _ h)
  have hown : s.vm.findClass R_Md = some m.cls := hown
  have hl : lv_has ls 4 [(0, .ref h), (1, .int (nI b))] := hl
  refine lv_iconst (v := nI 1) hx hb d_X2_isZero_0 (by decide) ?_
  refine lv_istore_n (lv' := [(2, .int (nI 1)), (0, .ref h), (1, .int (nI b))]) hx hb d_X2_isZero_1 rfl hl (by decide) rfl (fun ls hl => ?_)
  refine lv_iconst (v := nI 0) hx hb d_X2_isZero_2 (by decide) ?_
  refine lv_istore_n (lv' := [(3, .int (nI 0)), (2, .int (nI 1)), (0, .ref h), (1, .int (nI b))]) hx hb d_X2_isZero_3 rfl hl (by decide) rfl (fun ls hl => ?_)
  exact lp_X2_isZero hx hb hr hml hown hts hlocks hA hK hok hb3 hP hD cZ 0 1 (by rw [cZ_eq]) (by omega) (by omega) ls (lv_sub hl [2, 3, 1, 0] rfl)
def mBit (z : Nat → Nat) (b k : Nat) : Nat := z (1100 * b + k / 16) / 2 ^ (k % 16) % 2
abbrev w_X2_bit : List Cond := .code y_X2_bit b_X2_bit 3 (some .int) :: gw
set_option maxHeartbeats 800000 in
set_option maxRecDepth 100000 in
theorem c_X2_bit {l : Launch} {D : va_G} {Rs : va_W} {cA cR cL : ClassId} {h aw ar ag az : Nat} {cd : Int32} {w g : Nat → Nat} {sg : Nat → Int32} {z : Nat → Nat} (hok : mdOk w g z) {b k : Nat} (hb3 : b < 3) (hk : k < 17600) : xR l y_X2_bit w_X2_bit ({ frames := 0, cells := 0, slots := 0, locals := 0 }) D cls0 (ty3 cA cR cL) [.ref h, .int (nI b), .int (nI k)] (md cA h aw ar ag az cd w g sg z Rs) (some (.int (nI (mBit z b k)))) := by
  refine xR.ofW (cc := b_X2_bit) (maxL := 3) (ret := some .int) (by decide) rfl (Nat.le_of_ble_eq_true rfl) ?_
  intro p e s m below meth c A ls _ hin hx hb hr hml hown hts hlocks hA hK hP hD hS hl
  have hts : ∀ w ∈ gw, w.before ([.ref h, .int (nI b), .int (nI k)]).toArray s = true := fun w h => hts w (List.mem_cons_of_mem _ h)
  have hown : s.vm.findClass R_Md = some m.cls := hown
  have hl : lv_has ls 3 [(0, .ref h), (1, .int (nI b)), (2, .int (nI k))] := hl
  refine lv_aload_n hx hb d_X2_bit_0 rfl (lv_at hl 0 rfl) ?_
  refine m_getZ hx hb hts hown hK hP d_X2_bit_1 ?_
  refine lv_sipush (v := nI 1100) hx hb d_X2_bit_4 (by decide) ?_
  refine lv_iload_n hx hb d_X2_bit_7 rfl (lv_at hl 1 rfl) ?_
  refine n_imul hx hb d_X2_bit_8 ?_
  refine lv_iload_n hx hb d_X2_bit_9 rfl (lv_at hl 2 rfl) ?_
  refine lv_bipush (v := nI 16) hx hb d_X2_bit_10 (by decide) ?_
  refine n_idiv hx hb d_X2_bit_12 (by omega) (by omega) (by omega) ?_
  refine n_iadd hx hb d_X2_bit_13 ?_
  refine m_aldZ hx hb hK hP (j := (1100 * b) + (k / 16)) (by omega) d_X2_bit_14 ?_
  have hq_14 := hok.2.2 ((1100 * b) + (k / 16))
  refine lv_iload_n hx hb d_X2_bit_15 rfl (lv_at hl 2 rfl) ?_
  refine lv_bipush (v := nI 16) hx hb d_X2_bit_16 (by decide) ?_
  refine n_irem hx hb d_X2_bit_18 (by omega) (by omega) (by omega) ?_
  refine n_ishr hx hb (by omega) (by omega) d_X2_bit_19 ?_
  refine lv_iconst (v := nI 1) hx hb d_X2_bit_20 (by decide) ?_
  refine n_iand1 hx hb (Nat.lt_of_le_of_lt (Nat.div_le_self _ _) (by omega)) d_X2_bit_21 ?_
  exact xr_iret hx hb hr hlocks d_X2_bit_22 rfl
set_option maxHeartbeats 800000 in
set_option maxRecDepth 100000 in
theorem lp_X2_zerosOf {p : Program} {l : Launch} {e : Env} {s : State} {m : MethodId} {args : Array Value} {below : List Frame} {meth : Method} {c : Code} {D : va_G} {Rs : va_W} {cA cR cL : ClassId} {h aw ar ag az : Nat} {A : Nat → Prop} {cd : Int32} {w g : Nat → Nat} {sg : Nat → Int32} {z : Nat → Nat} (hx : p.tables.exec = Jvm.exec) (hb : c.code = b_X2_zerosOf) (hr : meth.sig.returnType = some .int) (hml : c.maxLocals = 3) (hown : s.vm.findClass R_Md = some m.cls) (hts : ∀ w ∈ gw, w.before args s = true) (hlocks : meth.locks = false) (hA : ∀ q : Nat, s.heap.size ≤ q → A q) (hK : va_K D cls0 (ty3 cA cR cL) s) (hok : mdOk w g z) {b t : Nat} (hb3 : b < 3) (ht : t < 17600) (ht1 : mBit z b t = 1) (ht0 : ∀ k, k < t → mBit z b k = 0) (hP : va_P D cls0 (md cA h aw ar ag az cd w g sg z Rs) s.heap) (hD : va_D A (md cA h aw ar ag az cd w g sg z Rs)) : ∀ (n : Nat) (k : Nat), n = t - k → k ≤ t → ∀ (ls : Array Slot), lv_has ls 3 [(0, .ref h), (1, .int (nI b)), (2, .int (nI k))] → W p l e ({ frames := 1, cells := 0, slots := 0, locals := 22 }) s m args below meth c s.heap [] 0 0 (MQ below (xRQ (some (.int (nI t)))) args s 0 0 (fun _ => False)) (F0 m 2 ls []) := by
  intro n
  induction n with
  | zero =>
    intro k hn hk ls hl
    have hq : mBit z b k = 1 := by rw [show k = t by omega]; exact ht1
    refine lv_aload_n hx hb d_X2_zerosOf_2 rfl (lv_at hl 0 rfl) ?_
    refine lv_iload_n hx hb d_X2_zerosOf_3 rfl (lv_at hl 1 rfl) ?_
    refine lv_iload_n hx hb d_X2_zerosOf_4 rfl (lv_at hl 2 rfl) ?_
    refine x_callR (st1 := [.int (nI (mBit z b k))]) (x_runV (As := [.int (nI b), .int (nI k)]) (rest := []) (nL := 3) ⟨hx, hb, hml, hown, hts⟩ (c_X2_bit hok (b := b) (k := k) (by omega) (by omega) _) (cwV 2 hts (gw_V k_548 k_550 k_38 k_52 k_551) rfl rfl rfl (by decide +kernel) ⟨Nat.le_of_ble_eq_true rfl, Nat.le_of_ble_eq_true rfl⟩) hK hP hD 0 2 rfl rfl rfl hl.1 rfl (Nat.le_of_ble_eq_true rfl) d_X2_zerosOf_5 ⟨Nat.zero_le _, Nat.zero_le _⟩) rfl ?_
    refine n_if_ne (tgt := 17) hx hb d_X2_zerosOf_8 (by decide) (by omega) (fun c_1 => ?_) (fun c_1 => ?_)
    rotate_left
    · exact absurd c_1 (by omega)
    refine lv_iload_n hx hb d_X2_zerosOf_17 rfl (lv_at hl 2 rfl) ?_
    exact xr_iret hx hb hr hlocks d_X2_zerosOf_18 (by rw [show k = t by omega])
  | succ n ih =>
    intro k hn hk ls hl
    have hq : mBit z b k = 0 := ht0 k (by omega)
    refine lv_aload_n hx hb d_X2_zerosOf_2 rfl (lv_at hl 0 rfl) ?_
    refine lv_iload_n hx hb d_X2_zerosOf_3 rfl (lv_at hl 1 rfl) ?_
    refine lv_iload_n hx hb d_X2_zerosOf_4 rfl (lv_at hl 2 rfl) ?_
    refine x_callR (st1 := [.int (nI (mBit z b k))]) (x_runV (As := [.int (nI b), .int (nI k)]) (rest := []) (nL := 3) ⟨hx, hb, hml, hown, hts⟩ (c_X2_bit hok (b := b) (k := k) (by omega) (by omega) _) (cwV 2 hts (gw_V k_548 k_550 k_38 k_52 k_551) rfl rfl rfl (by decide +kernel) ⟨Nat.le_of_ble_eq_true rfl, Nat.le_of_ble_eq_true rfl⟩) hK hP hD 0 2 rfl rfl rfl hl.1 rfl (Nat.le_of_ble_eq_true rfl) d_X2_zerosOf_5 ⟨Nat.zero_le _, Nat.zero_le _⟩) rfl ?_
    refine n_if_ne (tgt := 17) hx hb d_X2_zerosOf_8 (by decide) (by omega) (fun c_1 => ?_) (fun c_1 => ?_)
    · exact absurd c_1 (by omega)
    refine n_iinc (lv' := [(2, .int (nI (k + 1))), (0, .ref h), (1, .int (nI b))]) hx hb d_X2_zerosOf_11 hl (k := 2) rfl (by decide) rfl (fun ls hl => ?_)
    refine lv_goto (tgt := 2) hx hb d_X2_zerosOf_14 (by decide) ?_
    exact ih (k + 1) (by omega) (by omega) ls (lv_sub hl [1, 2, 0] rfl)
abbrev w_X2_zerosOf : List Cond := .code y_X2_zerosOf b_X2_zerosOf 3 (some .int) :: gw
set_option maxHeartbeats 800000 in
set_option maxRecDepth 100000 in
theorem c_X2_zerosOf {l : Launch} {D : va_G} {Rs : va_W} {cA cR cL : ClassId} {h aw ar ag az : Nat} {cd : Int32} {w g : Nat → Nat} {sg : Nat → Int32} {z : Nat → Nat} (hok : mdOk w g z) {b t : Nat} (hb3 : b < 3) (ht : t < 17600) (ht1 : mBit z b t = 1) (ht0 : ∀ k, k < t → mBit z b k = 0) : xR l y_X2_zerosOf w_X2_zerosOf ({ frames := 1, cells := 0, slots := 0, locals := 22 }) D cls0 (ty3 cA cR cL) [.ref h, .int (nI b)] (md cA h aw ar ag az cd w g sg z Rs) (some (.int (nI t))) := by
  refine xR.ofW (cc := b_X2_zerosOf) (maxL := 3) (ret := some .int) (by decide) rfl (Nat.le_of_ble_eq_true rfl) ?_
  intro p e s m below meth c A ls _ hin hx hb hr hml hown hts hlocks hA hK hP hD hS hl
  have hts : ∀ w ∈ gw, w.before ([.ref h, .int (nI b)]).toArray s = true := fun w h => hts w (List.mem_cons_of_mem _ h)
  have hown : s.vm.findClass R_Md = some m.cls := hown
  have hl : lv_has ls 3 [(0, .ref h), (1, .int (nI b))] := hl
  refine lv_iconst (v := nI 0) hx hb d_X2_zerosOf_0 (by decide) ?_
  refine lv_istore_n (lv' := [(2, .int (nI 0)), (0, .ref h), (1, .int (nI b))]) hx hb d_X2_zerosOf_1 rfl hl (by decide) rfl (fun ls hl => ?_)
  exact lp_X2_zerosOf hx hb hr hml hown hts hlocks hA hK hok hb3 ht ht1 ht0 hP hD t 0 rfl (by omega) ls (lv_sub hl [1, 2, 0] rfl)
