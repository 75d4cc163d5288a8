set_option maxHeartbeats 800000 in
set_option maxRecDepth 100000 in
theorem lp_X0_trailingZeros {p : Program} {l : Launch} {e : Env} {s : State} {m : MethodId} {args : Array Value} {below : List Frame} {meth : Method} {c : Code} {D : va_G} {Rs : va_W} {cA cR cL : ClassId} {ro la cap wd : Nat → Nat} {A : Nat → Prop} {F : Nat → Nat → Int32} (hx : p.tables.exec = Jvm.exec) (hb : c.code = b_X0_trailingZeros) (hr : meth.sig.returnType = some .int) (hml : c.maxLocals = 2) (hown : s.vm.findClass R_Row = some m.cls) (hts : ∀ w ∈ gw, w.before args s = true) (hlocks : meth.locks = false) (hA : ∀ q : Nat, s.heap.size ≤ q → A q) (hK : va_K D cls0 (ty3 cA cR cL) s) (hw : rwOk cap wd) {i : Nat} (hi : i < 64) (hP : va_P D cls0 (rw Rs cA ro la cap wd F) s.heap) (hD : va_D A (rw Rs cA ro la cap wd F)) : ∀ (n : Nat) (k : Nat), n = wd i - k → k < 1000 → ∀ (ls : Array Slot), lv_has ls 2 [(0, .ref (ro i)), (1, .int (nI k))] → W p l e ({ frames := 1, cells := 0, slots := 0, locals := 21 }) s m args below meth c s.heap [] 0 0 (MQ below (xRQ (some (.int (rTzL (wd i) (F i) n k)))) args s 0 0 (fun _ => False)) (F0 m 2 ls []) := by
  intro n
  induction n with
  | zero =>
    intro k hn hk ls hl
    have hwi := hw i hi
    refine lv_iload_n hx hb d_X0_trailingZeros_2 rfl (lv_at hl 1 rfl) ?_
    refine lv_aload_n hx hb d_X0_trailingZeros_3 rfl (lv_at hl 0 rfl) ?_
    refine c_getW hx hb hts hown hK hP (i := i) hi d_X0_trailingZeros_4 ?_
    refine n_icmp_ge (tgt := 40) hx hb d_X0_trailingZeros_7 (by decide) (by omega) (by omega) (fun c_1 => ?_) (fun c_1 => ?_)
    rotate_left
    · exact absurd c_1 (by omega)
    refine lv_bipush (v := nI 32) hx hb d_X0_trailingZeros_40 (by decide) ?_
    refine lv_aload_n hx hb d_X0_trailingZeros_42 rfl (lv_at hl 0 rfl) ?_
    refine c_getW hx hb hts hown hK hP (i := i) hi d_X0_trailingZeros_43 ?_
    refine n_imul hx hb d_X0_trailingZeros_46 ?_
    exact xr_iret hx hb hr hlocks d_X0_trailingZeros_47 rfl
  | succ n ih =>
    intro k hn hk ls hl
    have hwi := hw i hi
    refine lv_iload_n hx hb d_X0_trailingZeros_2 rfl (lv_at hl 1 rfl) ?_
    refine lv_aload_n hx hb d_X0_trailingZeros_3 rfl (lv_at hl 0 rfl) ?_
    refine c_getW hx hb hts hown hK hP (i := i) hi d_X0_trailingZeros_4 ?_
    refine n_icmp_ge (tgt := 40) hx hb d_X0_trailingZeros_7 (by decide) (by omega) (by omega) (fun c_1 => ?_) (fun c_1 => ?_)
    · exact absurd c_1 (by omega)
    refine lv_aload_n hx hb d_X0_trailingZeros_10 rfl (lv_at hl 0 rfl) ?_
    refine c_getL hx hb hts hown hK hP (i := i) hi d_X0_trailingZeros_11 ?_
    refine lv_iload_n hx hb d_X0_trailingZeros_14 rfl (lv_at hl 1 rfl) ?_
    have hq_15 := hw i hi
    refine c_ald hx hb hK hP (i := i) (k := k) hi (by omega) (by omega) d_X0_trailingZeros_15 ?_
    refine lv_if_eq (tgt := 34) hx hb d_X0_trailingZeros_16 (by decide) (fun c_2 => ?_) (fun c_2 => ?_)
    · refine n_iinc (lv' := [(1, .int (nI (k + 1))), (0, .ref (ro i))]) hx hb d_X0_trailingZeros_34 hl (k := 1) rfl (by decide) rfl (fun ls hl => ?_)
      refine lv_goto (tgt := 2) hx hb d_X0_trailingZeros_37 (by decide) ?_
      rw [show rTzL (wd i) (F i) (n + 1) k = rTzL (wd i) (F i) n (k + 1) from if_pos c_2]
      exact ih (k + 1) (by omega) (by omega) ls (lv_sub hl [1, 0] rfl)
    · refine lv_bipush (v := nI 32) hx hb d_X0_trailingZeros_19 (by decide) ?_
      refine lv_iload_n hx hb d_X0_trailingZeros_21 rfl (lv_at hl 1 rfl) ?_
      refine n_imul hx hb d_X0_trailingZeros_22 ?_
      refine lv_aload_n hx hb d_X0_trailingZeros_23 rfl (lv_at hl 0 rfl) ?_
      refine c_getL hx hb hts hown hK hP (i := i) hi d_X0_trailingZeros_24 ?_
      refine lv_iload_n hx hb d_X0_trailingZeros_27 rfl (lv_at hl 1 rfl) ?_
      have hq_28 := hw i hi
      refine c_ald hx hb hK hP (i := i) (k := k) hi (by omega) (by omega) d_X0_trailingZeros_28 ?_
      refine x_callR (st1 := [.int (jNtz (F i k)), .int (nI (32 * k))]) (x_runS (As := [.int (F i k)]) (rest := [.int (nI (32 * k))]) (nL := 2) ⟨hx, hb, hml, hown, hts⟩ (c_JI_numberOfTrailingZeros (F i k) _) (va_cwS 1 hts (gw_SW k_418 k_419 k_61 k_420) rfl rfl rfl (by decide +kernel) ⟨Nat.le_of_ble_eq_true rfl, Nat.le_of_ble_eq_true rfl⟩) hK hP hD rfl hl.1 rfl (Nat.le_of_ble_eq_true rfl) d_X0_trailingZeros_29 ⟨Nat.zero_le _, Nat.zero_le _⟩) rfl ?_
      refine lv_iadd hx hb d_X0_trailingZeros_32 ?_
      exact xr_iret hx hb hr hlocks d_X0_trailingZeros_33 (by rw [show rTzL (wd i) (F i) (n + 1) k = nI (32 * k) + jNtz (F i k) from if_neg c_2])
abbrev w_X0_trailingZeros : List Cond := .code y_X0_trailingZeros b_X0_trailingZeros 2 (some .int) :: gw
set_option maxHeartbeats 800000 in
set_option maxRecDepth 100000 in
theorem c_X0_trailingZeros {l : Launch} {D : va_G} {Rs : va_W} {cA cR cL : ClassId} {ro la cap wd : Nat → Nat} {F : Nat → Nat → Int32} (hw : rwOk cap wd) {i : Nat} (hi : i < 64) : xR l y_X0_trailingZeros w_X0_trailingZeros ({ frames := 1, cells := 0, slots := 0, locals := 21 }) D cls0 (ty3 cA cR cL) [.ref (ro i)] (rw Rs cA ro la cap wd F) (some (.int (rTz (wd i) (F i)))) := by
  refine xR.ofW (cc := b_X0_trailingZeros) (maxL := 2) (ret := some .int) (by decide) rfl (Nat.le_of_ble_eq_true rfl) ?_
  intro p e s m below meth c A ls _ hin hx hb hr hml hown hts hlocks hA hK hP hD hS hl
  have hts : ∀ w ∈ gw, w.before ([.ref (ro i)]).toArray s = true := fun w h => hts w (List.mem_cons_of_mem _ h)
  have hown : s.vm.findClass R_Row = some m.cls := hown
  have hl : lv_has ls 2 [(0, .ref (ro i))] := hl
  refine lv_iconst (v := nI 0) hx hb d_X0_trailingZeros_0 (by decide) ?_
  refine lv_istore_n (lv' := [(1, .int (nI 0)), (0, .ref (ro i))]) hx hb d_X0_trailingZeros_1 rfl hl (by decide) rfl (fun ls hl => ?_)
  exact lp_X0_trailingZeros hx hb hr hml hown hts hlocks hA hK hw hi hP hD (wd i) 0 rfl (by omega) ls (lv_sub hl [1, 0] rfl)
set_option maxHeartbeats 800000 in
set_option maxRecDepth 100000 in
theorem lp_X0_bitLength {p : Program} {l : Launch} {e : Env} {s : State} {m : MethodId} {args : Array Value} {below : List Frame} {meth : Method} {c : Code} {D : va_G} {Rs : va_W} {cA cR cL : ClassId} {ro la cap wd : Nat → Nat} {A : Nat → Prop} {F : Nat → Nat → Int32} (hx : p.tables.exec = Jvm.exec) (hb : c.code = b_X0_bitLength) (hr : meth.sig.returnType = some .int) (hml : c.maxLocals = 3) (hown : s.vm.findClass R_Row = some m.cls) (hts : ∀ w ∈ gw, w.before args s = true) (hlocks : meth.locks = false) (hA : ∀ q : Nat, s.heap.size ≤ q → A q) (hK : va_K D cls0 (ty3 cA cR cL) s) (hw : rwOk cap wd) {i : Nat} (hi : i < 64) {a : Int32} (hP : va_P D cls0 (rw Rs cA ro la cap wd F) s.heap) (hD : va_D A (rw Rs cA ro la cap wd F)) : ∀ (n : Nat), n ≤ wd i → ∀ (ls : Array Slot), lv_has ls 3 [(0, .ref (ro i)), (1, .int a), (2, .int (nM n))] → W p l e ({ frames := 1, cells := 0, slots := 0, locals := 21 }) s m args below meth c s.heap [] 0 0 (MQ below (xRQ (some (.int (rBlL (F i) a n)))) args s 0 0 (fun _ => False)) (F0 m 16 ls []) := by
  intro n
  induction n with
  | zero =>
    intro  hn ls hl
    have hwi := hw i hi
    rw [nM_0] at hl
    refine lv_iload_n hx hb d_X0_bitLength_16 rfl (lv_at hl 2 rfl) ?_
    refine lv_if_lt (tgt := 56) hx hb d_X0_bitLength_17 (by decide) (fun c_1 => ?_) (fun c_1 => ?_)
    rotate_left
    · exact absurd (by decide) c_1
    refine lv_iconst (v := nI 0) hx hb d_X0_bitLength_56 (by decide) ?_
    exact xr_iret hx hb hr hlocks d_X0_bitLength_57 rfl
  | succ n ih =>
    intro  hn ls hl
    rw [nM_succ] at hl
    have hwi := hw i hi
    refine lv_iload_n hx hb d_X0_bitLength_16 rfl (lv_at hl 2 rfl) ?_
    refine n_if_lt (tgt := 56) hx hb d_X0_bitLength_17 (by decide) (by omega) ?_
    refine lv_aload_n hx hb d_X0_bitLength_20 rfl (lv_at hl 0 rfl) ?_
    refine c_getL hx hb hts hown hK hP (i := i) hi d_X0_bitLength_21 ?_
    refine lv_iload_n hx hb d_X0_bitLength_24 rfl (lv_at hl 2 rfl) ?_
    have hq_25 := hw i hi
    refine c_ald hx hb hK hP (i := i) (k := n) hi (by omega) (by omega) d_X0_bitLength_25 ?_
    refine lv_iload_n hx hb d_X0_bitLength_26 rfl (lv_at hl 1 rfl) ?_
    refine lv_icmp_eq (tgt := 50) hx hb d_X0_bitLength_27 (by decide) (fun c_1 => ?_) (fun c_1 => ?_)
    · refine n_idec (lv' := [(2, .int (nM n)), (0, .ref (ro i)), (1, .int a)]) hx hb d_X0_bitLength_50 hl (k := 2) rfl (by decide) rfl (fun ls hl => ?_)
      refine lv_goto (tgt := 16) hx hb d_X0_bitLength_53 (by decide) ?_
      rw [show rBlL (F i) a (n + 1) = rBlL (F i) a n from if_pos c_1]
      exact ih (by omega) ls (lv_sub hl [1, 2, 0] rfl)
    · refine lv_bipush (v := nI 32) hx hb d_X0_bitLength_30 (by decide) ?_
      refine lv_iload_n hx hb d_X0_bitLength_32 rfl (lv_at hl 2 rfl) ?_
      refine n_imul hx hb d_X0_bitLength_33 ?_
      refine lv_bipush (v := nI 32) hx hb d_X0_bitLength_34 (by decide) ?_
      refine n_iadd hx hb d_X0_bitLength_36 ?_
      refine lv_aload_n hx hb d_X0_bitLength_37 rfl (lv_at hl 0 rfl) ?_
      refine c_getL hx hb hts hown hK hP (i := i) hi d_X0_bitLength_38 ?_
      refine lv_iload_n hx hb d_X0_bitLength_41 rfl (lv_at hl 2 rfl) ?_
      have hq_42 := hw i hi
      refine c_ald hx hb hK hP (i := i) (k := n) hi (by omega) (by omega) d_X0_bitLength_42 ?_
      refine lv_iload_n hx hb d_X0_bitLength_43 rfl (lv_at hl 1 rfl) ?_
      refine lv_ixor hx hb d_X0_bitLength_44 ?_
      refine x_callR (st1 := [.int (jNlz ((F i n) ^^^ a)), .int (nI ((32 * n) + 32))]) (x_runS (As := [.int ((F i n) ^^^ a)]) (rest := [.int (nI ((32 * n) + 32))]) (nL := 3) ⟨hx, hb, hml, hown, hts⟩ (c_JI_numberOfLeadingZeros ((F i n) ^^^ a) _) (va_cwS 1 hts (gw_SW k_317 k_318 k_61 k_319) rfl rfl rfl (by decide +kernel) ⟨Nat.le_of_ble_eq_true rfl, Nat.le_of_ble_eq_true rfl⟩) hK hP hD rfl hl.1 rfl (Nat.le_of_ble_eq_true rfl) d_X0_bitLength_45 ⟨Nat.zero_le _, Nat.zero_le _⟩) rfl ?_
      refine lv_isub hx hb d_X0_bitLength_48 ?_
      exact xr_iret hx hb hr hlocks d_X0_bitLength_49 (by rw [show rBlL (F i) a (n + 1) = nI (32 * n + 32) - jNlz (F i n ^^^ a) from if_neg c_1])
abbrev w_X0_bitLength : List Cond := .code y_X0_bitLength b_X0_bitLength 3 (some .int) :: gw
set_option maxHeartbeats 800000 in
set_option maxRecDepth 100000 in
theorem c_X0_bitLength {l : Launch} {D : va_G} {Rs : va_W} {cA cR cL : ClassId} {ro la cap wd : Nat → Nat} {F : Nat → Nat → Int32} (hw : rwOk cap wd) {i : Nat} (hi : i < 64) : xR l y_X0_bitLength w_X0_bitLength ({ frames := 1, cells := 0, slots := 0, locals := 21 }) D cls0 (ty3 cA cR cL) [.ref (ro i)] (rw Rs cA ro la cap wd F) (some (.int (rBl (wd i) (F i)))) := by
  refine xR.ofW (cc := b_X0_bitLength) (maxL := 3) (ret := some .int) (by decide) rfl (Nat.le_of_ble_eq_true rfl) ?_
  intro p e s m below meth c A ls _ hin hx hb hr hml hown hts hlocks hA hK hP hD hS hl
  have hts : ∀ w ∈ gw, w.before ([.ref (ro i)]).toArray s = true := fun w h => hts w (List.mem_cons_of_mem _ h)
  have hown : s.vm.findClass R_Row = some m.cls := hown
  have hl : lv_has ls 3 [(0, .ref (ro i))] := hl
  have hwi := hw i hi
  refine lv_aload_n hx hb d_X0_bitLength_0 rfl (lv_at hl 0 rfl) ?_
  refine lv_aload_n hx hb d_X0_bitLength_1 rfl (lv_at hl 0 rfl) ?_
  refine c_getW hx hb hts hown hK hP (i := i) hi d_X0_bitLength_2 ?_
  refine x_callR (st1 := [.int (rAt (wd i) (F i) (nI (wd i)))]) (x_runV (As := [.int (nI (wd i))]) (rest := []) (nL := 3) ⟨hx, hb, hml, hown, hts⟩ (c_X0_limbAt hw hi (nI (wd i)) _) (cwV 1 hts (gw_V k_195 k_197 k_4 k_51 k_198) rfl rfl rfl (by decide +kernel) ⟨Nat.le_of_ble_eq_true rfl, Nat.le_of_ble_eq_true rfl⟩) hK hP hD _ 0 (rw_row hi) rfl rfl hl.1 rfl (Nat.le_of_ble_eq_true rfl) d_X0_bitLength_5 ⟨Nat.zero_le _, Nat.zero_le _⟩) rfl ?_
  refine lv_istore_n (lv' := [(1, .int (rAt (wd i) (F i) (nI (wd i)))), (0, .ref (ro i))]) hx hb d_X0_bitLength_8 rfl hl (by decide) rfl (fun ls hl => ?_)
  refine lv_aload_n hx hb d_X0_bitLength_9 rfl (lv_at hl 1 rfl) ?_
  refine c_getW hx hb hts hown hK hP (i := i) hi d_X0_bitLength_10 ?_
  refine lv_iconst (v := nI 1) hx hb d_X0_bitLength_13 (by decide) ?_
  refine n_isub hx hb d_X0_bitLength_14 (by omega) ?_
  refine lv_istore_n (lv' := [(2, .int (nI ((wd i) - 1))), (1, .int (rAt (wd i) (F i) (nI (wd i)))), (0, .ref (ro i))]) hx hb d_X0_bitLength_15 rfl hl (by decide) rfl (fun ls hl => ?_)
  rw [← nM_pred hwi.1] at hl
  exact lp_X0_bitLength hx hb hr hml hown hts hlocks hA hK hw hi hP hD (wd i) (Nat.le_refl _) ls (lv_sub hl [2, 1, 0] rfl)
theorem rOrdL_eq {wi wj : Nat} {fi fj : Nat → Int32} {n : Nat} (h : lg_cmp (rUn (rAt wi fi (nI n))) (rUn (rAt wj fj (nI n))) = 0) : rOrdL wi wj fi fj (n + 1) = rOrdL wi wj fi fj n := if_pos (by unfold jCmp; rw [h]; decide)
theorem rOrdL_ge {wi wj : Nat} {fi fj : Nat → Int32} {n : Nat} (h : ¬ lg_cmp (rUn (rAt wi fi (nI n))) (rUn (rAt wj fj (nI n))) = 0) (h2 : 0 ≤ lg_cmp (rUn (rAt wi fi (nI n))) (rUn (rAt wj fj (nI n)))) : rOrdL wi wj fi fj (n + 1) = nI 1 := by
  have e : jCmp (rUn (rAt wi fi (nI n))) (rUn (rAt wj fj (nI n))) = nI 1 := by unfold jCmp; rw [if_pos h2, if_neg h]
  rw [show rOrdL wi wj fi fj (n + 1) = jCmp (rUn (rAt wi fi (nI n))) (rUn (rAt wj fj (nI n))) from if_neg (by rw [e]; decide), e]
theorem rOrdL_lt {wi wj : Nat} {fi fj : Nat → Int32} {n : Nat} (h2 : ¬ 0 ≤ lg_cmp (rUn (rAt wi fi (nI n))) (rUn (rAt wj fj (nI n)))) : rOrdL wi wj fi fj (n + 1) = -1 := by
  have e : jCmp (rUn (rAt wi fi (nI n))) (rUn (rAt wj fj (nI n))) = -1 := by unfold jCmp; rw [if_neg h2]
  rw [show rOrdL wi wj fi fj (n + 1) = jCmp (rUn (rAt wi fi (nI n))) (rUn (rAt wj fj (nI n))) from if_neg (by rw [e]; decide), e]
set_option maxHeartbeats 800000 in
set_option maxRecDepth 100000 in
theorem lp_X0_order {p : Program} {l : Launch} {e : Env} {s : State} {m : MethodId} {args : Array Value} {below : List Frame} {meth : Method} {c : Code} {D : va_G} {Rs : va_W} {cA cR cL : ClassId} {ro la cap wd : Nat → Nat} {A : Nat → Prop} {F : Nat → Nat → Int32} (hx : p.tables.exec = Jvm.exec) (hb : c.code = b_X0_order) (hr : meth.sig.returnType = some .int) (hml : c.maxLocals = 7) (hown : s.vm.findClass R_Row = some m.cls) (hts : ∀ w ∈ gw, w.before args s = true) (hlocks : meth.locks = false) (hA : ∀ q : Nat, s.heap.size ≤ q → A q) (hK : va_K D cls0 (ty3 cA cR cL) s) (hw : rwOk cap wd) {i j : Nat} (hi : i < 64) (hj : j < 64) (hP : va_P D cls0 (rw Rs cA ro la cap wd F) s.heap) (hD : va_D A (rw Rs cA ro la cap wd F)) : ∀ (n : Nat), n ≤ 256 → ∀ (ls : Array Slot), lv_has ls 7 [(0, .ref (ro i)), (1, .ref (ro j)), (2, .int (nM n))] → W p l e ({ frames := 1, cells := 0, slots := 0, locals := 21 }) s m args below meth c s.heap [] 0 0 (MQ below (xRQ (some (.int (rOrdL (wd i) (wd j) (F i) (F j) n)))) args s 0 0 (fun _ => False)) (F0 m 38 ls []) := by
  intro n
  induction n with
  | zero =>
    intro  hn ls hl
    have hwi := hw i hi
    rw [nM_0] at hl
    refine lv_iload_n hx hb d_X0_order_38 rfl (lv_at hl 2 rfl) ?_
    refine lv_if_lt (tgt := 87) hx hb d_X0_order_39 (by decide) (fun c_1 => ?_) (fun c_1 => ?_)
    rotate_left
    · exact absurd (by decide) c_1
    refine lv_iconst (v := nI 0) hx hb d_X0_order_87 (by decide) ?_
    exact xr_iret hx hb hr hlocks d_X0_order_88 rfl
  | succ n ih =>
    intro  hn ls hl
    rw [nM_succ] at hl
    have hwi := hw i hi
    refine lv_iload_n hx hb d_X0_order_38 rfl (lv_at hl 2 rfl) ?_
    refine n_if_lt (tgt := 87) hx hb d_X0_order_39 (by decide) (by omega) ?_
    refine lv_aload_n hx hb d_X0_order_42 rfl (lv_at hl 0 rfl) ?_
    refine lv_iload_n hx hb d_X0_order_43 rfl (lv_at hl 2 rfl) ?_
    refine x_callR (st1 := [.int (rAt (wd i) (F i) (nI n))]) (x_runV (As := [.int (nI n)]) (rest := []) (nL := 7) ⟨hx, hb, hml, hown, hts⟩ (c_X0_limbAt hw hi (nI n) _) (cwV 1 hts (gw_V k_195 k_197 k_4 k_51 k_198) rfl rfl rfl (by decide +kernel) ⟨Nat.le_of_ble_eq_true rfl, Nat.le_of_ble_eq_true rfl⟩) hK hP hD _ 0 (rw_row hi) rfl rfl hl.1 rfl (Nat.le_of_ble_eq_true rfl) d_X0_order_44 ⟨Nat.zero_le _, Nat.zero_le _⟩) rfl ?_
    refine x_callR (st1 := [.long (rUn (rAt (wd i) (F i) (nI n)))]) (x_runS (As := [.int (rAt (wd i) (F i) (nI n))]) (rest := []) (nL := 7) ⟨hx, hb, hml, hown, hts⟩ (c_X0_unsigned hw (rAt (wd i) (F i) (nI n)) _) (cwS 1 hts (gw_S k_275 k_276 k_51 k_277) rfl rfl rfl (by decide +kernel) ⟨Nat.le_of_ble_eq_true rfl, Nat.le_of_ble_eq_true rfl⟩) hK hP hD rfl hl.1 rfl (Nat.le_of_ble_eq_true rfl) d_X0_order_47 ⟨Nat.zero_le _, Nat.zero_le _⟩) rfl ?_
    refine lv_lstore_n (lv' := [(3, .long (rUn (rAt (wd i) (F i) (nI n)))), (0, .ref (ro i)), (1, .ref (ro j)), (2, .int (nI n))]) hx hb d_X0_order_50 rfl hl (by decide) rfl (fun ls hl => ?_)
    refine lv_aload_n hx hb d_X0_order_51 rfl (lv_at hl 2 rfl) ?_
    refine lv_iload_n hx hb d_X0_order_52 rfl (lv_at hl 3 rfl) ?_
    refine x_callR (st1 := [.int (rAt (wd j) (F j) (nI n))]) (x_runV (As := [.int (nI n)]) (rest := []) (nL := 7) ⟨hx, hb, hml, hown, hts⟩ (c_X0_limbAt hw hj (nI n) _) (cwV 1 hts (gw_V k_195 k_197 k_4 k_51 k_198) rfl rfl rfl (by decide +kernel) ⟨Nat.le_of_ble_eq_true rfl, Nat.le_of_ble_eq_true rfl⟩) hK hP hD _ 0 (rw_row hj) rfl rfl hl.1 rfl (Nat.le_of_ble_eq_true rfl) d_X0_order_53 ⟨Nat.zero_le _, Nat.zero_le _⟩) rfl ?_
    refine x_callR (st1 := [.long (rUn (rAt (wd j) (F j) (nI n)))]) (x_runS (As := [.int (rAt (wd j) (F j) (nI n))]) (rest := []) (nL := 7) ⟨hx, hb, hml, hown, hts⟩ (c_X0_unsigned hw (rAt (wd j) (F j) (nI n)) _) (cwS 1 hts (gw_S k_275 k_276 k_51 k_277) rfl rfl rfl (by decide +kernel) ⟨Nat.le_of_ble_eq_true rfl, Nat.le_of_ble_eq_true rfl⟩) hK hP hD rfl hl.1 rfl (Nat.le_of_ble_eq_true rfl) d_X0_order_56 ⟨Nat.zero_le _, Nat.zero_le _⟩) rfl ?_
    refine lv_lstore (lv' := [(5, .long (rUn (rAt (wd j) (F j) (nI n)))), (3, .long (rUn (rAt (wd i) (F i) (nI n)))), (0, .ref (ro i)), (1, .ref (ro j)), (2, .int (nI n))]) hx hb d_X0_order_59 hl (by decide) rfl (fun ls hl => ?_)
    refine lv_lload_n hx hb d_X0_order_61 rfl (lv_at hl 1 rfl) ?_
    refine lv_lload hx hb d_X0_order_62 (lv_at hl 0 rfl) ?_
    refine W.lcmp hx hb d_X0_order_64 ?_
    refine lv_if_eq (tgt := 81) hx hb d_X0_order_65 (by decide) (fun c_1 => ?_) (fun c_1 => ?_)
    · refine n_idec (lv' := [(2, .int (nM n)), (5, .long (rUn (rAt (wd j) (F j) (nI n)))), (3, .long (rUn (rAt (wd i) (F i) (nI n)))), (0, .ref (ro i)), (1, .ref (ro j))]) hx hb d_X0_order_81 hl (k := 4) rfl (by decide) rfl (fun ls hl => ?_)
      refine lv_goto (tgt := 38) hx hb d_X0_order_84 (by decide) ?_
      rw [rOrdL_eq c_1]
      exact ih (by omega) ls (lv_sub hl [3, 4, 0] rfl)
    · refine lv_lload_n hx hb d_X0_order_68 rfl (lv_at hl 1 rfl) ?_
      refine lv_lload hx hb d_X0_order_69 (lv_at hl 0 rfl) ?_
      refine W.lcmp hx hb d_X0_order_71 ?_
      refine lv_if_ge (tgt := 79) hx hb d_X0_order_72 (by decide) (fun c_2 => ?_) (fun c_2 => ?_)
      · refine lv_iconst (v := nI 1) hx hb d_X0_order_79 (by decide) ?_
        exact xr_iret hx hb hr hlocks d_X0_order_80 (by first | rw [rOrdL_lt (by assumption)] | rw [rOrdL_ge (by assumption) (by assumption)])
      · refine lv_iconst (v := -1) hx hb d_X0_order_75 (by decide) ?_
        refine lv_goto (tgt := 80) hx hb d_X0_order_76 (by decide) ?_
        exact xr_iret hx hb hr hlocks d_X0_order_80 (by first | rw [rOrdL_lt (by assumption)] | rw [rOrdL_ge (by assumption) (by assumption)])
abbrev w_X0_order : List Cond := .code y_X0_order b_X0_order 7 (some .int) :: gw
set_option maxHeartbeats 800000 in
set_option maxRecDepth 100000 in
theorem c_X0_order {l : Launch} {D : va_G} {Rs : va_W} {cA cR cL : ClassId} {ro la cap wd : Nat → Nat} {F : Nat → Nat → Int32} (hw : rwOk cap wd) {i j : Nat} (hi : i < 64) (hj : j < 64) : xR l y_X0_order w_X0_order ({ frames := 1, cells := 0, slots := 0, locals := 21 }) D cls0 (ty3 cA cR cL) [.ref (ro i), .ref (ro j)] (rw Rs cA ro la cap wd F) (some (.int (rOrd (wd i) (wd j) (F i) (F j)))) := by
  refine xR.ofW (cc := b_X0_order) (maxL := 7) (ret := some .int) (by decide) rfl (Nat.le_of_ble_eq_true rfl) ?_
  intro p e s m below meth c A ls _ hin hx hb hr hml hown hts hlocks hA hK hP hD hS hl
  have hts : ∀ w ∈ gw, w.before ([.ref (ro i), .ref (ro j)]).toArray s = true := fun w h => hts w (List.mem_cons_of_mem _ h)
  have hown : s.vm.findClass R_Row = some m.cls := hown
  have hl : lv_has ls 7 [(0, .ref (ro i)), (1, .ref (ro j))] := hl
  have hwi := hw i hi
  have hwj := hw j hj
  refine lv_aload_n hx hb d_X0_order_0 rfl (lv_at hl 0 rfl) ?_
  refine x_callR (st1 := [.int (rNeg (wd i) (F i))]) (x_runV (As := []) (rest := []) (nL := 7) ⟨hx, hb, hml, hown, hts⟩ (c_X0_isNegative hw hi _) (cwV 0 hts (gw_V k_283 k_285 k_10 k_51 k_286) rfl rfl rfl (by decide +kernel) ⟨Nat.le_of_ble_eq_true rfl, Nat.le_of_ble_eq_true rfl⟩) hK hP hD _ 0 (rw_row hi) rfl rfl hl.1 rfl (Nat.le_of_ble_eq_true rfl) d_X0_order_1 ⟨Nat.zero_le _, Nat.zero_le _⟩) rfl ?_
  refine lv_aload_n hx hb d_X0_order_4 rfl (lv_at hl 1 rfl) ?_
  refine x_callR (st1 := [.int (rNeg (wd j) (F j)), .int (rNeg (wd i) (F i))]) (x_runV (As := []) (rest := [.int (rNeg (wd i) (F i))]) (nL := 7) ⟨hx, hb, hml, hown, hts⟩ (c_X0_isNegative hw hj _) (cwV 0 hts (gw_V k_283 k_285 k_10 k_51 k_286) rfl rfl rfl (by decide +kernel) ⟨Nat.le_of_ble_eq_true rfl, Nat.le_of_ble_eq_true rfl⟩) hK hP hD _ 0 (rw_row hj) rfl rfl hl.1 rfl (Nat.le_of_ble_eq_true rfl) d_X0_order_5 ⟨Nat.zero_le _, Nat.zero_le _⟩) rfl ?_
  refine lv_icmp_eq (tgt := 24) hx hb d_X0_order_8 (by decide) (fun c_1 => ?_) (fun c_1 => ?_)
  · refine lv_aload_n hx hb d_X0_order_24 rfl (lv_at hl 0 rfl) ?_
    refine c_getW hx hb hts hown hK hP (i := i) hi d_X0_order_25 ?_
    refine lv_aload_n hx hb d_X0_order_28 rfl (lv_at hl 1 rfl) ?_
    refine c_getW hx hb hts hown hK hP (i := j) hj d_X0_order_29 ?_
    refine va_mmax hx hb (hml.trans hl.1.symm) hown (hts _ (show Cond.methodLink "LimbRows$Row" 100 Lib.Math.max.name ∈ gw from k_477)) (hts _ (show Cond.static Lib.Math.max.name ∈ gw from k_478)) (hts _ k_59) (hts _ (show Cond.code Lib.Math.max.name Lib.Math.max.code 2 (some .int) ∈ gw from k_479)) (Nat.le_of_ble_eq_true rfl) (Nat.le_of_ble_eq_true rfl) (Nat.zero_le _) (Nat.zero_le _) d_X0_order_32 ?_
    rw [n_max (by omega) (by omega)]
    refine lv_iconst (v := nI 1) hx hb d_X0_order_35 (by decide) ?_
    refine n_isub hx hb d_X0_order_36 (by omega) ?_
    refine lv_istore_n (lv' := [(2, .int (nI ((max (wd i) (wd j)) - 1))), (0, .ref (ro i)), (1, .ref (ro j))]) hx hb d_X0_order_37 rfl hl (by decide) rfl (fun ls hl => ?_)
    rw [← nM_pred (show 1 ≤ max (wd i) (wd j) by omega)] at hl
    rw [show rOrd (wd i) (wd j) (F i) (F j) = rOrdL (wd i) (wd j) (F i) (F j) (max (wd i) (wd j)) from if_pos c_1]
    exact lp_X0_order hx hb hr hml hown hts hlocks hA hK hw hi hj hP hD (max (wd i) (wd j)) (by omega) ls (lv_sub hl [1, 2, 0] rfl)
  · refine lv_aload_n hx hb d_X0_order_11 rfl (lv_at hl 0 rfl) ?_
    refine x_callR (st1 := [.int (rNeg (wd i) (F i))]) (x_runV (As := []) (rest := []) (nL := 7) ⟨hx, hb, hml, hown, hts⟩ (c_X0_isNegative hw hi _) (cwV 0 hts (gw_V k_283 k_285 k_10 k_51 k_286) rfl rfl rfl (by decide +kernel) ⟨Nat.le_of_ble_eq_true rfl, Nat.le_of_ble_eq_true rfl⟩) hK hP hD _ 0 (rw_row hi) rfl rfl hl.1 rfl (Nat.le_of_ble_eq_true rfl) d_X0_order_12 ⟨Nat.zero_le _, Nat.zero_le _⟩) rfl ?_
    refine lv_if_eq (tgt := 22) hx hb d_X0_order_15 (by decide) (fun c_2 => ?_) (fun c_2 => ?_)
    · refine lv_iconst (v := nI 1) hx hb d_X0_order_22 (by decide) ?_
      exact xr_iret hx hb hr hlocks d_X0_order_23 (by unfold rOrd; first | rw [if_neg (by assumption), if_pos (by assumption)] | rw [if_neg (by assumption), if_neg (by assumption)])
    · refine lv_iconst (v := -1) hx hb d_X0_order_18 (by decide) ?_
      refine lv_goto (tgt := 23) hx hb d_X0_order_19 (by decide) ?_
      exact xr_iret hx hb hr hlocks d_X0_order_23 (by unfold rOrd; first | rw [if_neg (by assumption), if_pos (by assumption)] | rw [if_neg (by assumption), if_neg (by assumption)])
abbrev w_X0_roundsUp : List Cond := .code y_X0_roundsUp b_X0_roundsUp 3 (some .boolean) :: gw
set_option maxHeartbeats 800000 in
set_option maxRecDepth 100000 in
theorem c_X0_roundsUp {l : Launch} {D : va_G} {Rs : va_W} {cA cR cL : ClassId} {ro la cap wd : Nat → Nat} {F : Nat → Nat → Int32} (hw : rwOk cap wd) {i : Nat} (hi : i < 64) {bs : Nat} (hbs : bs ≤ 8192) : xR l y_X0_roundsUp w_X0_roundsUp ({ frames := 2, cells := 0, slots := 0, locals := 42 }) D cls0 (ty3 cA cR cL) [.ref (ro i), .int (nI bs)] (rw Rs cA ro la cap wd F) (some (.int (rUp (wd i) (F i) bs))) := by
  refine xR.ofW (cc := b_X0_roundsUp) (maxL := 3) (ret := some .boolean) (by decide) rfl (Nat.le_of_ble_eq_true rfl) ?_
  intro p e s m below meth c A ls _ hin hx hb hr hml hown hts hlocks hA hK hP hD hS hl
  have hts : ∀ w ∈ gw, w.before ([.ref (ro i), .int (nI bs)]).toArray s = true := fun w h => hts w (List.mem_cons_of_mem _ h)
  have hown : s.vm.findClass R_Row = some m.cls := hown
  have hl : lv_has ls 3 [(0, .ref (ro i)), (1, .int (nI bs))] := hl
  refine lv_iload_n hx hb d_X0_roundsUp_0 rfl (lv_at hl 1 rfl) ?_
  refine n_if_eq (tgt := 14) hx hb d_X0_roundsUp_1 (by decide) (by omega) (fun c_1 => ?_) (fun c_1 => ?_)
  · refine lv_iconst (v := nI 0) hx hb d_X0_roundsUp_14 (by decide) ?_
    exact xr_zret hx hb hr hlocks d_X0_roundsUp_15 (by decide) (by unfold rUp; first | rw [if_pos (by assumption)] | rw [if_neg (by assumption), if_pos (by assumption)] | rw [if_neg (by assumption), if_neg (by assumption), if_neg (by assumption)] | rw [if_neg (by assumption), if_neg (by assumption), if_pos (by assumption), if_pos (by assumption)] | rw [if_neg (by assumption), if_neg (by assumption), if_pos (by assumption), if_neg (by assumption)])
  · refine lv_aload_n hx hb d_X0_roundsUp_4 rfl (lv_at hl 0 rfl) ?_
    refine lv_iload_n hx hb d_X0_roundsUp_5 rfl (lv_at hl 1 rfl) ?_
    refine lv_iconst (v := nI 1) hx hb d_X0_roundsUp_6 (by decide) ?_
    refine n_isub hx hb d_X0_roundsUp_7 (by omega) ?_
    refine x_callR (st1 := [.int (rBit (wd i) (F i) (nI (bs - 1)))]) (x_runV (As := [.int (nI (bs - 1))]) (rest := []) (nL := 3) ⟨hx, hb, hml, hown, hts⟩ (c_X0_bitAt hw hi (nI (bs - 1)) _) (cwV 1 hts (gw_V k_410 k_412 k_24 k_51 k_413) rfl rfl rfl (by decide +kernel) ⟨Nat.le_of_ble_eq_true rfl, Nat.le_of_ble_eq_true rfl⟩) hK hP hD _ 0 (rw_row hi) rfl rfl hl.1 rfl (Nat.le_of_ble_eq_true rfl) d_X0_roundsUp_8 ⟨Nat.zero_le _, Nat.zero_le _⟩) rfl ?_
    refine lv_if_ne (tgt := 16) hx hb d_X0_roundsUp_11 (by decide) (fun c_2 => ?_) (fun c_2 => ?_)
    · refine lv_aload_n hx hb d_X0_roundsUp_16 rfl (lv_at hl 0 rfl) ?_
      refine x_callR (st1 := [.int (rTz (wd i) (F i))]) (x_runV (As := []) (rest := []) (nL := 3) ⟨hx, hb, hml, hown, hts⟩ (c_X0_trailingZeros hw hi _) (cwV 0 hts (gw_V k_414 k_416 k_25 k_51 k_417) rfl rfl rfl (by decide +kernel) ⟨Nat.le_of_ble_eq_true rfl, Nat.le_of_ble_eq_true rfl⟩) hK hP hD _ 0 (rw_row hi) rfl rfl hl.1 rfl (Nat.le_of_ble_eq_true rfl) d_X0_roundsUp_17 ⟨Nat.zero_le _, Nat.zero_le _⟩) rfl ?_
      refine lv_iload_n hx hb d_X0_roundsUp_20 rfl (lv_at hl 1 rfl) ?_
      refine lv_iconst (v := nI 1) hx hb d_X0_roundsUp_21 (by decide) ?_
      refine n_isub hx hb d_X0_roundsUp_22 (by omega) ?_
      refine lv_icmp_ne (tgt := 30) hx hb d_X0_roundsUp_23 (by decide) (fun c_3 => ?_) (fun c_3 => ?_)
      · refine lv_iconst (v := nI 0) hx hb d_X0_roundsUp_30 (by decide) ?_
        refine lv_istore_n (lv' := [(2, .int (nI 0)), (0, .ref (ro i)), (1, .int (nI bs))]) hx hb d_X0_roundsUp_31 rfl hl (by decide) rfl (fun ls hl => ?_)
        refine lv_iload_n hx hb d_X0_roundsUp_32 rfl (lv_at hl 0 rfl) ?_
        refine n_if_eq (tgt := 45) hx hb d_X0_roundsUp_33 (by decide) (by omega) (fun _ => ?_) (fun c => absurd c (by decide))
        refine lv_iconst (v := nI 1) hx hb d_X0_roundsUp_45 (by decide) ?_
        refine lv_goto (tgt := 50) hx hb d_X0_roundsUp_46 (by decide) ?_
        exact xr_zret hx hb hr hlocks d_X0_roundsUp_50 (by decide) (by unfold rUp; first | rw [if_pos (by assumption)] | rw [if_neg (by assumption), if_pos (by assumption)] | rw [if_neg (by assumption), if_neg (by assumption), if_neg (by assumption)] | rw [if_neg (by assumption), if_neg (by assumption), if_pos (by assumption), if_pos (by assumption)] | rw [if_neg (by assumption), if_neg (by assumption), if_pos (by assumption), if_neg (by assumption)])
      · refine lv_iconst (v := nI 1) hx hb d_X0_roundsUp_26 (by decide) ?_
        refine lv_goto (tgt := 31) hx hb d_X0_roundsUp_27 (by decide) ?_
        refine lv_istore_n (lv' := [(2, .int (nI 1)), (0, .ref (ro i)), (1, .int (nI bs))]) hx hb d_X0_roundsUp_31 rfl hl (by decide) rfl (fun ls hl => ?_)
        refine lv_iload_n hx hb d_X0_roundsUp_32 rfl (lv_at hl 0 rfl) ?_
        refine n_if_eq (tgt := 45) hx hb d_X0_roundsUp_33 (by decide) (by omega) (fun c => absurd c (by decide)) (fun _ => ?_)
        refine lv_aload_n hx hb d_X0_roundsUp_36 rfl (lv_at hl 1 rfl) ?_
        refine lv_iload_n hx hb d_X0_roundsUp_37 rfl (lv_at hl 2 rfl) ?_
        refine x_callR (st1 := [.int (rBit (wd i) (F i) (nI bs))]) (x_runV (As := [.int (nI bs)]) (rest := []) (nL := 3) ⟨hx, hb, hml, hown, hts⟩ (c_X0_bitAt hw hi (nI bs) _) (cwV 1 hts (gw_V k_410 k_412 k_24 k_51 k_413) rfl rfl rfl (by decide +kernel) ⟨Nat.le_of_ble_eq_true rfl, Nat.le_of_ble_eq_true rfl⟩) hK hP hD _ 0 (rw_row hi) rfl rfl hl.1 rfl (Nat.le_of_ble_eq_true rfl) d_X0_roundsUp_38 ⟨Nat.zero_le _, Nat.zero_le _⟩) rfl ?_
        refine lv_iconst (v := nI 1) hx hb d_X0_roundsUp_41 (by decide) ?_
        refine lv_icmp_ne (tgt := 49) hx hb d_X0_roundsUp_42 (by decide) (fun c_4 => ?_) (fun c_4 => ?_)
        · refine lv_iconst (v := nI 0) hx hb d_X0_roundsUp_49 (by decide) ?_
          exact xr_zret hx hb hr hlocks d_X0_roundsUp_50 (by decide) (by unfold rUp; first | rw [if_pos (by assumption)] | rw [if_neg (by assumption), if_pos (by assumption)] | rw [if_neg (by assumption), if_neg (by assumption), if_neg (by assumption)] | rw [if_neg (by assumption), if_neg (by assumption), if_pos (by assumption), if_pos (by assumption)] | rw [if_neg (by assumption), if_neg (by assumption), if_pos (by assumption), if_neg (by assumption)])
        · refine lv_iconst (v := nI 1) hx hb d_X0_roundsUp_45 (by decide) ?_
          refine lv_goto (tgt := 50) hx hb d_X0_roundsUp_46 (by decide) ?_
          exact xr_zret hx hb hr hlocks d_X0_roundsUp_50 (by decide) (by unfold rUp; first | rw [if_pos (by assumption)] | rw [if_neg (by assumption), if_pos (by assumption)] | rw [if_neg (by assumption), if_neg (by assumption), if_neg (by assumption)] | rw [if_neg (by assumption), if_neg (by assumption), if_pos (by assumption), if_pos (by assumption)] | rw [if_neg (by assumption), if_neg (by assumption), if_pos (by assumption), if_neg (by assumption)])
    · refine lv_iconst (v := nI 0) hx hb d_X0_roundsUp_14 (by decide) ?_
      exact xr_zret hx hb hr hlocks d_X0_roundsUp_15 (by decide) (by unfold rUp; first | rw [if_pos (by assumption)] | rw [if_neg (by assumption), if_pos (by assumption)] | rw [if_neg (by assumption), if_neg (by assumption), if_neg (by assumption)] | rw [if_neg (by assumption), if_neg (by assumption), if_pos (by assumption), if_pos (by assumption)] | rw [if_neg (by assumption), if_neg (by assumption), if_pos (by assumption), if_neg (by assumption)])
