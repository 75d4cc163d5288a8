abbrev w_X0_addFrom : List Cond := .code y_X0_addFrom b_X0_addFrom 3 (none) :: gw
set_option maxHeartbeats 800000 in
set_option maxRecDepth 100000 in
theorem c_X0_addFrom {l : Launch} {D : va_G} {Rs : va_W} {cA cR cL : ClassId} {ro la cap wd : Nat → Nat} {F : Nat → Nat → Int32} (hw : rwOk cap wd) {i j : Nat} (hi : i < 64) (hj : j < 64) {st : Nat} (hst : st < 1000) : xC l y_X0_addFrom w_X0_addFrom ({ frames := 2, cells := 0, slots := 0, locals := 49 }) D cls0 (ty3 cA cR cL) [.ref (ro i), .int (nI st), .ref (ro j)] (rw Rs cA ro la cap wd F) (none) (fun w => w = rw Rs cA ro la cap wd (gAdd i j (wd j) st (nI 0) (wd i - st) st (nI 0 &&& nI 1).toInt64 F)) 0 0 := by
  refine xC.ofW (cc := b_X0_addFrom) (maxL := 3) (ret := none) (by decide) rfl (Nat.le_of_ble_eq_true rfl) ?_
  intro p e s m below meth c A ls _ hin hx hb hr hml hown hts hlocks hA hK hP hD hS hl
  have hts : ∀ w ∈ gw, w.before ([.ref (ro i), .int (nI st), .ref (ro j)]).toArray s = true := fun w h => hts w (List.mem_cons_of_mem _ h)
  have hown : s.vm.findClass R_Row = some m.cls := hown
  have hl : lv_has ls 3 [(0, .ref (ro i)), (1, .int (nI st)), (2, .ref (ro j))] := hl
  refine lv_aload_n hx hb d_X0_addFrom_0 rfl (lv_at hl 0 rfl) ?_
  refine lv_iload_n hx hb d_X0_addFrom_1 rfl (lv_at hl 1 rfl) ?_
  refine lv_aload_n hx hb d_X0_addFrom_2 rfl (lv_at hl 2 rfl) ?_
  refine lv_iconst (v := nI 0) hx hb d_X0_addFrom_3 (by decide) ?_
  refine x_call (st1 := []) (x_runV (As := [.int (nI st), .ref (ro j), .int (nI 0)]) (rest := []) (nL := 3) ⟨hx, hb, hml, hown, hts⟩ (c_X0_addLimbs hw hi hj hst (nI 0) _) (cwV 3 hts (gw_V k_271 k_273 k_8 k_51 k_274) rfl rfl rfl (by decide +kernel) ⟨Nat.le_of_ble_eq_true rfl, Nat.le_of_ble_eq_true rfl⟩) hK hP hD _ 0 (rw_row hi) rfl rfl hl.1 rfl (Nat.le_of_ble_eq_true rfl) d_X0_addFrom_4 ⟨Nat.zero_le _, Nat.zero_le _⟩) hS (x_sub hD hS hA) (x_sub hD hS hA) rfl (fun w1 H locs hY hP hD hS => ?_)
  subst hY
  exact x_vret hx hb hr hlocks hP hD hS d_X0_addFrom_7 rfl rfl
abbrev w_X0_subtractFrom : List Cond := .code y_X0_subtractFrom b_X0_subtractFrom 3 (none) :: gw
set_option maxHeartbeats 800000 in
set_option maxRecDepth 100000 in
theorem c_X0_subtractFrom {l : Launch} {D : va_G} {Rs : va_W} {cA cR cL : ClassId} {ro la cap wd : Nat → Nat} {F : Nat → Nat → Int32} (hw : rwOk cap wd) {i j : Nat} (hi : i < 64) (hj : j < 64) {st : Nat} (hst : st < 1000) : xC l y_X0_subtractFrom w_X0_subtractFrom ({ frames := 2, cells := 0, slots := 0, locals := 49 }) D cls0 (ty3 cA cR cL) [.ref (ro i), .int (nI st), .ref (ro j)] (rw Rs cA ro la cap wd F) (none) (fun w => w = rw Rs cA ro la cap wd (gAdd i j (wd j) st (-1) (wd i - st) st ((-1) &&& nI 1).toInt64 F)) 0 0 := by
  refine xC.ofW (cc := b_X0_subtractFrom) (maxL := 3) (ret := none) (by decide) rfl (Nat.le_of_ble_eq_true rfl) ?_
  intro p e s m below meth c A ls _ hin hx hb hr hml hown hts hlocks hA hK hP hD hS hl
  have hts : ∀ w ∈ gw, w.before ([.ref (ro i), .int (nI st), .ref (ro j)]).toArray s = true := fun w h => hts w (List.mem_cons_of_mem _ h)
  have hown : s.vm.findClass R_Row = some m.cls := hown
  have hl : lv_has ls 3 [(0, .ref (ro i)), (1, .int (nI st)), (2, .ref (ro j))] := hl
  refine lv_aload_n hx hb d_X0_subtractFrom_0 rfl (lv_at hl 0 rfl) ?_
  refine lv_iload_n hx hb d_X0_subtractFrom_1 rfl (lv_at hl 1 rfl) ?_
  refine lv_aload_n hx hb d_X0_subtractFrom_2 rfl (lv_at hl 2 rfl) ?_
  refine lv_iconst (v := -1) hx hb d_X0_subtractFrom_3 (by decide) ?_
  refine x_call (st1 := []) (x_runV (As := [.int (nI st), .ref (ro j), .int (-1)]) (rest := []) (nL := 3) ⟨hx, hb, hml, hown, hts⟩ (c_X0_addLimbs hw hi hj hst (-1) _) (cwV 3 hts (gw_V k_271 k_273 k_8 k_51 k_274) rfl rfl rfl (by decide +kernel) ⟨Nat.le_of_ble_eq_true rfl, Nat.le_of_ble_eq_true rfl⟩) hK hP hD _ 0 (rw_row hi) rfl rfl hl.1 rfl (Nat.le_of_ble_eq_true rfl) d_X0_subtractFrom_4 ⟨Nat.zero_le _, Nat.zero_le _⟩) hS (x_sub hD hS hA) (x_sub hD hS hA) rfl (fun w1 H locs hY hP hD hS => ?_)
  subst hY
  exact x_vret hx hb hr hlocks hP hD hS d_X0_subtractFrom_7 rfl rfl
set_option maxHeartbeats 800000 in
set_option maxRecDepth 100000 in
theorem lp_X0_addMultiple {p : Program} {l : Launch} {e : Env} {s : State} {m : MethodId} {args : Array Value} {below : List Frame} {meth : Method} {c : Code} {D : va_G} {Rs : va_W} {cA cR cL : ClassId} {ro la cap wd : Nat → Nat} {A : Nat → Prop} (hx : p.tables.exec = Jvm.exec) (hb : c.code = b_X0_addMultiple) (hr : meth.sig.returnType = none) (hml : c.maxLocals = 10) (hown : s.vm.findClass R_Row = some m.cls) (hts : ∀ w ∈ gw, w.before args s = true) (hlocks : meth.locks = false) (hA : ∀ q : Nat, s.heap.size ≤ q → A q) (hK : va_K D cls0 (ty3 cA cR cL) s) (hw : rwOk cap wd) {i j st : Nat} (hi : i < 64) (hj : j < 64) {dg : Int64} : ∀ (n : Nat) (k : Nat) (cy : Int64) (F : Nat → Nat → Int32), n = wd i - k → st ≤ k ∧ k < 1000 → ∀ (H : Heap) (locs : List Loc), va_P D cls0 (rw Rs cA ro la cap wd F) H → va_D A (rw Rs cA ro la cap wd F) → va_S A s.heap H locs → ∀ (ls : Array Slot), lv_has ls 10 [(0, .ref (ro i)), (1, .int (nI st)), (2, .long dg), (4, .ref (ro j)), (5, .long cy), (7, .int (nI k))] → W p l e ({ frames := 1, cells := 0, slots := 0, locals := 21 }) s m args below meth c H locs 0 0 (MQ below (xQ (none) (xB D cls0 A (fun w => w = rw Rs cA ro la cap wd (gMul i j (wd j) st dg n k cy F))) A) args s 0 0 A) (F0 m 6 ls []) := by
  intro n
  induction n with
  | zero =>
    intro k cy F hn hk H locs hP hD hS ls hl
    have hwi := hw i hi
    refine lv_iload hx hb d_X0_addMultiple_6 (lv_at hl 5 rfl) ?_
    refine lv_aload_n hx hb d_X0_addMultiple_8 rfl (lv_at hl 0 rfl) ?_
    refine c_getW hx hb hts hown hK hP (i := i) hi d_X0_addMultiple_9 ?_
    refine n_icmp_ge (tgt := 68) hx hb d_X0_addMultiple_12 (by decide) (by omega) (by omega) (fun c_1 => ?_) (fun c_1 => ?_)
    rotate_left
    · exact absurd c_1 (by omega)
    exact x_vret hx hb hr hlocks hP hD hS d_X0_addMultiple_68 rfl rfl
  | succ n ih =>
    intro k cy F hn hk H locs hP hD hS ls hl
    have hwi := hw i hi
    refine lv_iload hx hb d_X0_addMultiple_6 (lv_at hl 5 rfl) ?_
    refine lv_aload_n hx hb d_X0_addMultiple_8 rfl (lv_at hl 0 rfl) ?_
    refine c_getW hx hb hts hown hK hP (i := i) hi d_X0_addMultiple_9 ?_
    refine n_icmp_ge (tgt := 68) hx hb d_X0_addMultiple_12 (by decide) (by omega) (by omega) (fun c_1 => ?_) (fun c_1 => ?_)
    · exact absurd c_1 (by omega)
    refine lv_lload_n hx hb d_X0_addMultiple_15 rfl (lv_at hl 2 rfl) ?_
    refine lv_aload hx hb d_X0_addMultiple_16 (lv_at hl 3 rfl) ?_
    refine lv_iload hx hb d_X0_addMultiple_18 (lv_at hl 5 rfl) ?_
    refine lv_iload_n hx hb d_X0_addMultiple_20 rfl (lv_at hl 1 rfl) ?_
    refine n_isub hx hb d_X0_addMultiple_21 (by omega) ?_
    refine x_callR (st1 := [.int (rAt (wd j) (F j) (nI (k - st))), .long dg]) (x_runV (As := [.int (nI (k - st))]) (rest := [.long dg]) (nL := 10) ⟨hx, hb, hml, hown, hts⟩ (c_X0_limbAt hw hj (nI (k - st)) _) (cwV 1 hts (gw_V k_195 k_197 k_4 k_51 k_198) rfl rfl rfl (by decide +kernel) ⟨Nat.le_of_ble_eq_true rfl, Nat.le_of_ble_eq_true rfl⟩) hK hP hD _ 0 (rw_row hj) rfl rfl hl.1 rfl (Nat.le_of_ble_eq_true rfl) d_X0_addMultiple_22 ⟨Nat.zero_le _, Nat.zero_le _⟩) rfl ?_
    refine x_callR (st1 := [.long (rUn (rAt (wd j) (F j) (nI (k - st)))), .long dg]) (x_runS (As := [.int (rAt (wd j) (F j) (nI (k - st)))]) (rest := [.long dg]) (nL := 10) ⟨hx, hb, hml, hown, hts⟩ (c_X0_unsigned hw (rAt (wd j) (F j) (nI (k - st))) _) (cwS 1 hts (gw_S k_275 k_276 k_51 k_277) rfl rfl rfl (by decide +kernel) ⟨Nat.le_of_ble_eq_true rfl, Nat.le_of_ble_eq_true rfl⟩) hK hP hD rfl hl.1 rfl (Nat.le_of_ble_eq_true rfl) d_X0_addMultiple_25 ⟨Nat.zero_le _, Nat.zero_le _⟩) rfl ?_
    refine lv_lmul hx hb d_X0_addMultiple_28 ?_
    refine lv_aload_n hx hb d_X0_addMultiple_29 rfl (lv_at hl 0 rfl) ?_
    refine c_getL hx hb hts hown hK hP (i := i) hi d_X0_addMultiple_30 ?_
    refine lv_iload hx hb d_X0_addMultiple_33 (lv_at hl 5 rfl) ?_
    have hq_35 := hw i hi
    refine c_ald hx hb hK hP (i := i) (k := k) hi (by omega) (by omega) d_X0_addMultiple_35 ?_
    refine x_callR (st1 := [.long (rUn (F i k)), .long (dg * (rUn (rAt (wd j) (F j) (nI (k - st)))))]) (x_runS (As := [.int (F i k)]) (rest := [.long (dg * (rUn (rAt (wd j) (F j) (nI (k - st)))))]) (nL := 10) ⟨hx, hb, hml, hown, hts⟩ (c_X0_unsigned hw (F i k) _) (cwS 1 hts (gw_S k_275 k_276 k_51 k_277) rfl rfl rfl (by decide +kernel) ⟨Nat.le_of_ble_eq_true rfl, Nat.le_of_ble_eq_true rfl⟩) hK hP hD rfl hl.1 rfl (Nat.le_of_ble_eq_true rfl) d_X0_addMultiple_36 ⟨Nat.zero_le _, Nat.zero_le _⟩) rfl ?_
    refine lv_ladd hx hb d_X0_addMultiple_39 ?_
    refine lv_lload hx hb d_X0_addMultiple_40 (lv_at hl 4 rfl) ?_
    refine lv_ladd hx hb d_X0_addMultiple_42 ?_
    refine lv_lstore (lv' := [(8, .long (sMul i j (wd j) st dg k cy F)), (0, .ref (ro i)), (1, .int (nI st)), (2, .long dg), (4, .ref (ro j)), (5, .long cy), (7, .int (nI k))]) hx hb d_X0_addMultiple_43 hl (by decide) rfl (fun ls hl => ?_)
    refine lv_aload_n hx hb d_X0_addMultiple_45 rfl (lv_at hl 1 rfl) ?_
    refine c_getL hx hb hts hown hK hP (i := i) hi d_X0_addMultiple_46 ?_
    refine lv_iload hx hb d_X0_addMultiple_49 (lv_at hl 6 rfl) ?_
    refine lv_lload hx hb d_X0_addMultiple_51 (lv_at hl 0 rfl) ?_
    refine lv_l2i (v := (sMul i j (wd j) st dg k cy F).toInt32) hx hb d_X0_addMultiple_53 rfl ?_
    have hq_54 := hw i hi
    refine c_ast hx hb hK hP hD hS (i := i) (k := k) (x := (sMul i j (wd j) st dg k cy F).toInt32) hi (by omega) (by omega) d_X0_addMultiple_54 (fun H locs hP hD hS => ?_)
    refine lv_lload hx hb d_X0_addMultiple_55 (lv_at hl 0 rfl) ?_
    refine lv_bipush (v := nI 32) hx hb d_X0_addMultiple_57 (by decide) ?_
    refine lv_lushr (v := j_lu (sMul i j (wd j) st dg k cy F) (nI 32)) hx hb d_X0_addMultiple_59 rfl ?_
    refine lv_lstore (lv' := [(5, .long (j_lu (sMul i j (wd j) st dg k cy F) (nI 32))), (8, .long (sMul i j (wd j) st dg k cy F)), (0, .ref (ro i)), (1, .int (nI st)), (2, .long dg), (4, .ref (ro j)), (7, .int (nI k))]) hx hb d_X0_addMultiple_60 hl (by decide) rfl (fun ls hl => ?_)
    refine n_iinc (lv' := [(7, .int (nI (k + 1))), (5, .long (j_lu (sMul i j (wd j) st dg k cy F) (nI 32))), (8, .long (sMul i j (wd j) st dg k cy F)), (0, .ref (ro i)), (1, .int (nI st)), (2, .long dg), (4, .ref (ro j))]) hx hb d_X0_addMultiple_62 hl (k := 6) rfl (by decide) rfl (fun ls hl => ?_)
    refine lv_goto (tgt := 6) hx hb d_X0_addMultiple_65 (by decide) ?_
    exact ih (k + 1) _ _ (by omega) (by omega) H locs hP hD hS ls (lv_sub hl [3, 4, 5, 6, 1, 0] rfl)
abbrev w_X0_addMultiple : List Cond := .code y_X0_addMultiple b_X0_addMultiple 10 (none) :: gw
set_option maxHeartbeats 800000 in
set_option maxRecDepth 100000 in
theorem c_X0_addMultiple {l : Launch} {D : va_G} {Rs : va_W} {cA cR cL : ClassId} {ro la cap wd : Nat → Nat} {F : Nat → Nat → Int32} (hw : rwOk cap wd) {i j : Nat} (hi : i < 64) (hj : j < 64) {st : Nat} (hst : st < 1000) (dg : Int64) : xC l y_X0_addMultiple w_X0_addMultiple ({ frames := 1, cells := 0, slots := 0, locals := 21 }) D cls0 (ty3 cA cR cL) [.ref (ro i), .int (nI st), .long dg, .ref (ro j)] (rw Rs cA ro la cap wd F) (none) (fun w => w = rw Rs cA ro la cap wd (gMul i j (wd j) st dg (wd i - st) st 0 F)) 0 0 := by
  refine xC.ofW (cc := b_X0_addMultiple) (maxL := 10) (ret := none) (by decide) rfl (Nat.le_of_ble_eq_true rfl) ?_
  intro p e s m below meth c A ls _ hin hx hb hr hml hown hts hlocks hA hK hP hD hS hl
  have hts : ∀ w ∈ gw, w.before ([.ref (ro i), .int (nI st), .long dg, .ref (ro j)]).toArray s = true := fun w h => hts w (List.mem_cons_of_mem _ h)
  have hown : s.vm.findClass R_Row = some m.cls := hown
  have hl : lv_has ls 10 [(0, .ref (ro i)), (1, .int (nI st)), (2, .long dg), (4, .ref (ro j))] := hl
  refine lv_lconst (v := 0) hx hb d_X0_addMultiple_0 (by decide) ?_
  refine lv_lstore (lv' := [(5, .long 0), (0, .ref (ro i)), (1, .int (nI st)), (2, .long dg), (4, .ref (ro j))]) hx hb d_X0_addMultiple_1 hl (by decide) rfl (fun ls hl => ?_)
  refine lv_iload_n hx hb d_X0_addMultiple_3 rfl (lv_at hl 2 rfl) ?_
  refine lv_istore (lv' := [(7, .int (nI st)), (5, .long 0), (0, .ref (ro i)), (1, .int (nI st)), (2, .long dg), (4, .ref (ro j))]) hx hb d_X0_addMultiple_4 hl (by decide) rfl (fun ls hl => ?_)
  exact lp_X0_addMultiple hx hb hr hml hown hts hlocks hA hK hw hi hj (wd i - st) st _ F rfl (by omega) _ _ hP hD hS ls (lv_sub hl [2, 3, 4, 5, 1, 0] rfl)
set_option maxHeartbeats 800000 in
set_option maxRecDepth 100000 in
theorem lp_X0_multiplyBy {p : Program} {l : Launch} {e : Env} {s : State} {m : MethodId} {args : Array Value} {below : List Frame} {meth : Method} {c : Code} {D : va_G} {Rs : va_W} {cA cR cL : ClassId} {ro la cap wd : Nat → Nat} {A : Nat → Prop} (hx : p.tables.exec = Jvm.exec) (hb : c.code = b_X0_multiplyBy) (hr : meth.sig.returnType = none) (hml : c.maxLocals = 14) (hown : s.vm.findClass R_Row = some m.cls) (hts : ∀ w ∈ gw, w.before args s = true) (hlocks : meth.locks = false) (hA : ∀ q : Nat, s.heap.size ≤ q → A q) (hK : va_K D cls0 (ty3 cA cR cL) s) (hw : rwOk cap wd) {i : Nat} (hi : i < 64) {v lo hi2 : Int64} : ∀ (n : Nat) (k : Nat) (cy : Int64) (F : Nat → Nat → Int32), n = wd i - k → k < 1000 → ∀ (H : Heap) (locs : List Loc), va_P D cls0 (rw Rs cA ro la cap wd F) H → va_D A (rw Rs cA ro la cap wd F) → va_S A s.heap H locs → ∀ (ls : Array Slot), lv_has ls 14 [(0, .ref (ro i)), (1, .long v), (3, .long lo), (5, .long hi2), (7, .long cy), (9, .int (nI k))] → W p l e ({ frames := 1, cells := 0, slots := 0, locals := 20 }) s m args below meth c H locs 0 0 (MQ below (xQ (none) (xB D cls0 A (fun w => w = rw Rs cA ro la cap wd (gTim i lo hi2 n k cy F))) A) args s 0 0 A) (F0 m 18 ls []) := by
  intro n
  induction n with
  | zero =>
    intro k cy F hn hk H locs hP hD hS ls hl
    have hwi := hw i hi
    refine lv_iload hx hb d_X0_multiplyBy_18 (lv_at hl 5 rfl) ?_
    refine lv_aload_n hx hb d_X0_multiplyBy_20 rfl (lv_at hl 0 rfl) ?_
    refine c_getW hx hb hts hown hK hP (i := i) hi d_X0_multiplyBy_21 ?_
    refine n_icmp_ge (tgt := 87) hx hb d_X0_multiplyBy_24 (by decide) (by omega) (by omega) (fun c_1 => ?_) (fun c_1 => ?_)
    rotate_left
    · exact absurd c_1 (by omega)
    exact x_vret hx hb hr hlocks hP hD hS d_X0_multiplyBy_87 rfl rfl
  | succ n ih =>
    intro k cy F hn hk H locs hP hD hS ls hl
    have hwi := hw i hi
    refine lv_iload hx hb d_X0_multiplyBy_18 (lv_at hl 5 rfl) ?_
    refine lv_aload_n hx hb d_X0_multiplyBy_20 rfl (lv_at hl 0 rfl) ?_
    refine c_getW hx hb hts hown hK hP (i := i) hi d_X0_multiplyBy_21 ?_
    refine n_icmp_ge (tgt := 87) hx hb d_X0_multiplyBy_24 (by decide) (by omega) (by omega) (fun c_1 => ?_) (fun c_1 => ?_)
    · exact absurd c_1 (by omega)
    refine lv_aload_n hx hb d_X0_multiplyBy_27 rfl (lv_at hl 0 rfl) ?_
    refine c_getL hx hb hts hown hK hP (i := i) hi d_X0_multiplyBy_28 ?_
    refine lv_iload hx hb d_X0_multiplyBy_31 (lv_at hl 5 rfl) ?_
    have hq_33 := hw i hi
    refine c_ald hx hb hK hP (i := i) (k := k) hi (by omega) (by omega) d_X0_multiplyBy_33 ?_
    refine x_callR (st1 := [.long (rUn (F i k))]) (x_runS (As := [.int (F i k)]) (rest := []) (nL := 14) ⟨hx, hb, hml, hown, hts⟩ (c_X0_unsigned hw (F i k) _) (cwS 1 hts (gw_S k_275 k_276 k_51 k_277) rfl rfl rfl (by decide +kernel) ⟨Nat.le_of_ble_eq_true rfl, Nat.le_of_ble_eq_true rfl⟩) hK hP hD rfl hl.1 rfl (Nat.le_of_ble_eq_true rfl) d_X0_multiplyBy_34 ⟨Nat.zero_le _, Nat.zero_le _⟩) rfl ?_
    refine lv_lstore (lv' := [(10, .long (rUn (F i k))), (0, .ref (ro i)), (1, .long v), (3, .long lo), (5, .long hi2), (7, .long cy), (9, .int (nI k))]) hx hb d_X0_multiplyBy_37 hl (by decide) rfl (fun ls hl => ?_)
    refine lv_lload hx hb d_X0_multiplyBy_39 (lv_at hl 0 rfl) ?_
    refine lv_lload_n hx hb d_X0_multiplyBy_41 rfl (lv_at hl 3 rfl) ?_
    refine lv_lmul hx hb d_X0_multiplyBy_42 ?_
    refine lv_lload hx hb d_X0_multiplyBy_43 (lv_at hl 5 rfl) ?_
    refine lv_ldc2 (v := 4294967295) hx hb hown (hts (.constantLong "LimbRows$Row" 19 4294967295) k_278) d_X0_multiplyBy_45 ?_
    refine lv_land hx hb d_X0_multiplyBy_48 ?_
    refine lv_ladd hx hb d_X0_multiplyBy_49 ?_
    refine lv_lstore (lv' := [(12, .long (sTim i lo k cy F)), (10, .long (rUn (F i k))), (0, .ref (ro i)), (1, .long v), (3, .long lo), (5, .long hi2), (7, .long cy), (9, .int (nI k))]) hx hb d_X0_multiplyBy_50 hl (by decide) rfl (fun ls hl => ?_)
    refine lv_aload_n hx hb d_X0_multiplyBy_52 rfl (lv_at hl 2 rfl) ?_
    refine c_getL hx hb hts hown hK hP (i := i) hi d_X0_multiplyBy_53 ?_
    refine lv_iload hx hb d_X0_multiplyBy_56 (lv_at hl 7 rfl) ?_
    refine lv_lload hx hb d_X0_multiplyBy_58 (lv_at hl 0 rfl) ?_
    refine lv_l2i (v := (sTim i lo k cy F).toInt32) hx hb d_X0_multiplyBy_60 rfl ?_
    have hq_61 := hw i hi
    refine c_ast hx hb hK hP hD hS (i := i) (k := k) (x := (sTim i lo k cy F).toInt32) hi (by omega) (by omega) d_X0_multiplyBy_61 (fun H locs hP hD hS => ?_)
    refine lv_lload hx hb d_X0_multiplyBy_62 (lv_at hl 1 rfl) ?_
    refine lv_lload hx hb d_X0_multiplyBy_64 (lv_at hl 5 rfl) ?_
    refine lv_lmul hx hb d_X0_multiplyBy_66 ?_
    refine lv_lload hx hb d_X0_multiplyBy_67 (lv_at hl 6 rfl) ?_
    refine lv_bipush (v := nI 32) hx hb d_X0_multiplyBy_69 (by decide) ?_
    refine lv_lshr (v := j_lr cy (nI 32)) hx hb d_X0_multiplyBy_71 rfl ?_
    refine lv_ladd hx hb d_X0_multiplyBy_72 ?_
    refine lv_lload hx hb d_X0_multiplyBy_73 (lv_at hl 0 rfl) ?_
    refine lv_bipush (v := nI 32) hx hb d_X0_multiplyBy_75 (by decide) ?_
    refine lv_lushr (v := j_lu (sTim i lo k cy F) (nI 32)) hx hb d_X0_multiplyBy_77 rfl ?_
    refine lv_ladd hx hb d_X0_multiplyBy_78 ?_
    refine lv_lstore (lv' := [(7, .long (cTim i lo hi2 k cy F)), (12, .long (sTim i lo k cy F)), (10, .long (rUn (F i k))), (0, .ref (ro i)), (1, .long v), (3, .long lo), (5, .long hi2), (9, .int (nI k))]) hx hb d_X0_multiplyBy_79 hl (by decide) rfl (fun ls hl => ?_)
    refine n_iinc (lv' := [(9, .int (nI (k + 1))), (7, .long (cTim i lo hi2 k cy F)), (12, .long (sTim i lo k cy F)), (10, .long (rUn (F i k))), (0, .ref (ro i)), (1, .long v), (3, .long lo), (5, .long hi2)]) hx hb d_X0_multiplyBy_81 hl (k := 7) rfl (by decide) rfl (fun ls hl => ?_)
    refine lv_goto (tgt := 18) hx hb d_X0_multiplyBy_84 (by decide) ?_
    exact ih (k + 1) _ _ (by omega) (by omega) H locs hP hD hS ls (lv_sub hl [4, 5, 6, 7, 1, 0] rfl)
abbrev w_X0_multiplyBy : List Cond := .code y_X0_multiplyBy b_X0_multiplyBy 14 (none) :: gw
set_option maxHeartbeats 800000 in
set_option maxRecDepth 100000 in
theorem c_X0_multiplyBy {l : Launch} {D : va_G} {Rs : va_W} {cA cR cL : ClassId} {ro la cap wd : Nat → Nat} {F : Nat → Nat → Int32} (hw : rwOk cap wd) {i : Nat} (hi : i < 64) (v : Int64) : xC l y_X0_multiplyBy w_X0_multiplyBy ({ frames := 1, cells := 0, slots := 0, locals := 20 }) D cls0 (ty3 cA cR cL) [.ref (ro i), .long v] (rw Rs cA ro la cap wd F) (none) (fun w => w = rw Rs cA ro la cap wd (gTim i (v &&& 4294967295) (j_lr v (nI 32)) (wd i) 0 0 F)) 0 0 := by
  refine xC.ofW (cc := b_X0_multiplyBy) (maxL := 14) (ret := none) (by decide) rfl (Nat.le_of_ble_eq_true rfl) ?_
  intro p e s m below meth c A ls _ hin hx hb hr hml hown hts hlocks hA hK hP hD hS hl
  have hts : ∀ w ∈ gw, w.before ([.ref (ro i), .long v]).toArray s = true := fun w h => hts w (List.mem_cons_of_mem _ h)
  have hown : s.vm.findClass R_Row = some m.cls := hown
  have hl : lv_has ls 14 [(0, .ref (ro i)), (1, .long v)] := hl
  refine lv_lload_n hx hb d_X0_multiplyBy_0 rfl (lv_at hl 1 rfl) ?_
  refine lv_ldc2 (v := 4294967295) hx hb hown (hts (.constantLong "LimbRows$Row" 19 4294967295) k_278) d_X0_multiplyBy_1 ?_
  refine lv_land hx hb d_X0_multiplyBy_4 ?_
  refine lv_lstore_n (lv' := [(3, .long (v &&& 4294967295)), (0, .ref (ro i)), (1, .long v)]) hx hb d_X0_multiplyBy_5 rfl hl (by decide) rfl (fun ls hl => ?_)
  refine lv_lload_n hx hb d_X0_multiplyBy_6 rfl (lv_at hl 2 rfl) ?_
  refine lv_bipush (v := nI 32) hx hb d_X0_multiplyBy_7 (by decide) ?_
  refine lv_lshr (v := j_lr v (nI 32)) hx hb d_X0_multiplyBy_9 rfl ?_
  refine lv_lstore (lv' := [(5, .long (j_lr v (nI 32))), (3, .long (v &&& 4294967295)), (0, .ref (ro i)), (1, .long v)]) hx hb d_X0_multiplyBy_10 hl (by decide) rfl (fun ls hl => ?_)
  refine lv_lconst (v := 0) hx hb d_X0_multiplyBy_12 (by decide) ?_
  refine lv_lstore (lv' := [(7, .long 0), (5, .long (j_lr v (nI 32))), (3, .long (v &&& 4294967295)), (0, .ref (ro i)), (1, .long v)]) hx hb d_X0_multiplyBy_13 hl (by decide) rfl (fun ls hl => ?_)
  refine lv_iconst (v := nI 0) hx hb d_X0_multiplyBy_15 (by decide) ?_
  refine lv_istore (lv' := [(9, .int (nI 0)), (7, .long 0), (5, .long (j_lr v (nI 32))), (3, .long (v &&& 4294967295)), (0, .ref (ro i)), (1, .long v)]) hx hb d_X0_multiplyBy_16 hl (by decide) rfl (fun ls hl => ?_)
  exact lp_X0_multiplyBy hx hb hr hml hown hts hlocks hA hK hw hi (wd i) 0 0 F rfl (by omega) _ _ hP hD hS ls (lv_sub hl [4, 5, 3, 2, 1, 0] rfl)
abbrev w_X0_turnRound : List Cond := .code y_X0_turnRound b_X0_turnRound 2 (some .boolean) :: gw
set_option maxHeartbeats 800000 in
set_option maxRecDepth 100000 in
theorem c_X0_turnRound {l : Launch} {D : va_G} {Rs : va_W} {cA cR cL : ClassId} {ro la cap wd : Nat → Nat} {F : Nat → Nat → Int32} (hw : rwOk cap wd) {i : Nat} (hi : i < 64) : xC l y_X0_turnRound w_X0_turnRound ({ frames := 1, cells := 0, slots := 0, locals := 21 }) D cls0 (ty3 cA cR cL) [.ref (ro i)] (rw Rs cA ro la cap wd F) (some (.int (rTurn i (wd i) F))) (fun w => w = rw Rs cA ro la cap wd (gTurn i (wd i) F)) 0 0 := by
  refine xC.ofW (cc := b_X0_turnRound) (maxL := 2) (ret := some .boolean) (by decide) rfl (Nat.le_of_ble_eq_true rfl) ?_
  intro p e s m below meth c A ls _ hin hx hb hr hml hown hts hlocks hA hK hP hD hS hl
  have hts : ∀ w ∈ gw, w.before ([.ref (ro i)]).toArray s = true := fun w h => hts w (List.mem_cons_of_mem _ h)
  have hown : s.vm.findClass R_Row = some m.cls := hown
  have hl : lv_has ls 2 [(0, .ref (ro i))] := hl
  refine lv_aload_n hx hb d_X0_turnRound_0 rfl (lv_at hl 0 rfl) ?_
  refine x_callR (st1 := [.int (rNeg (wd i) (F i))]) (x_runV (As := []) (rest := []) (nL := 2) ⟨hx, hb, hml, hown, hts⟩ (c_X0_isNegative hw hi _) (cwV 0 hts (gw_V k_283 k_285 k_10 k_51 k_286) rfl rfl rfl (by decide +kernel) ⟨Nat.le_of_ble_eq_true rfl, Nat.le_of_ble_eq_true rfl⟩) hK hP hD _ 0 (rw_row hi) rfl rfl hl.1 rfl (Nat.le_of_ble_eq_true rfl) d_X0_turnRound_1 ⟨Nat.zero_le _, Nat.zero_le _⟩) rfl ?_
  refine lv_istore_n (lv' := [(1, .int (rNeg (wd i) (F i))), (0, .ref (ro i))]) hx hb d_X0_turnRound_4 rfl hl (by decide) rfl (fun ls hl => ?_)
  refine lv_aload_n hx hb d_X0_turnRound_5 rfl (lv_at hl 1 rfl) ?_
  refine x_call (st1 := []) (x_runV (As := []) (rest := []) (nL := 2) ⟨hx, hb, hml, hown, hts⟩ (c_X0_complement hw hi _) (cwV 0 hts (gw_V k_338 k_340 k_16 k_51 k_341) rfl rfl rfl (by decide +kernel) ⟨Nat.le_of_ble_eq_true rfl, Nat.le_of_ble_eq_true rfl⟩) hK hP hD _ 0 (rw_row hi) rfl rfl hl.1 rfl (Nat.le_of_ble_eq_true rfl) d_X0_turnRound_6 ⟨Nat.zero_le _, Nat.zero_le _⟩) hS (x_sub hD hS hA) (x_sub hD hS hA) rfl (fun w1 H locs hY hP hD hS => ?_)
  subst hY
  refine lv_aload_n hx hb d_X0_turnRound_9 rfl (lv_at hl 1 rfl) ?_
  refine x_call (st1 := []) (x_runV (As := []) (rest := []) (nL := 2) ⟨hx, hb, hml, hown, hts⟩ (c_X0_increment hw hi _) (cwV 0 hts (gw_V k_365 k_367 k_19 k_51 k_368) rfl rfl rfl (by decide +kernel) ⟨Nat.le_of_ble_eq_true rfl, Nat.le_of_ble_eq_true rfl⟩) hK hP hD _ 0 (rw_row hi) rfl rfl hl.1 rfl (Nat.le_of_ble_eq_true rfl) d_X0_turnRound_10 ⟨Nat.zero_le _, Nat.zero_le _⟩) hS (x_sub hD hS hA) (x_sub hD hS hA) rfl (fun w1 H locs hY hP hD hS => ?_)
  subst hY
  refine lv_iload_n hx hb d_X0_turnRound_13 rfl (lv_at hl 0 rfl) ?_
  refine lv_if_eq (tgt := 24) hx hb d_X0_turnRound_14 (by decide) (fun c_1 => ?_) (fun c_1 => ?_)
  · refine lv_iconst (v := nI 1) hx hb d_X0_turnRound_24 (by decide) ?_
    refine lv_goto (tgt := 29) hx hb d_X0_turnRound_25 (by decide) ?_
    exact x_zret hx hb hr hlocks hP hD hS d_X0_turnRound_29 (by decide) (by unfold rTurn gTurn; first | rw [if_pos (by assumption)] | rw [if_neg (by assumption), if_pos (by assumption)] | rw [if_neg (by assumption), if_neg (by assumption)]) rfl
  · refine lv_aload_n hx hb d_X0_turnRound_17 rfl (lv_at hl 1 rfl) ?_
    refine x_callR (st1 := [.int (rNeg (wd i) ((gInc i (wd i) 0 (gCpl i (wd i) 0 F)) i))]) (x_runV (As := []) (rest := []) (nL := 2) ⟨hx, hb, hml, hown, hts⟩ (c_X0_isNegative hw hi _) (cwV 0 hts (gw_V k_283 k_285 k_10 k_51 k_286) rfl rfl rfl (by decide +kernel) ⟨Nat.le_of_ble_eq_true rfl, Nat.le_of_ble_eq_true rfl⟩) hK hP hD _ 0 (rw_row hi) rfl rfl hl.1 rfl (Nat.le_of_ble_eq_true rfl) d_X0_turnRound_18 ⟨Nat.zero_le _, Nat.zero_le _⟩) rfl ?_
    refine lv_if_ne (tgt := 28) hx hb d_X0_turnRound_21 (by decide) (fun c_2 => ?_) (fun c_2 => ?_)
    · refine lv_iconst (v := nI 0) hx hb d_X0_turnRound_28 (by decide) ?_
      exact x_zret hx hb hr hlocks hP hD hS d_X0_turnRound_29 (by decide) (by unfold rTurn gTurn; first | rw [if_pos (by assumption)] | rw [if_neg (by assumption), if_pos (by assumption)] | rw [if_neg (by assumption), if_neg (by assumption)]) rfl
    · refine lv_iconst (v := nI 1) hx hb d_X0_turnRound_24 (by decide) ?_
      refine lv_goto (tgt := 29) hx hb d_X0_turnRound_25 (by decide) ?_
      exact x_zret hx hb hr hlocks hP hD hS d_X0_turnRound_29 (by decide) (by unfold rTurn gTurn; first | rw [if_pos (by assumption)] | rw [if_neg (by assumption), if_pos (by assumption)] | rw [if_neg (by assumption), if_neg (by assumption)]) rfl
abbrev w_X0_bitAt : List Cond := .code y_X0_bitAt b_X0_bitAt 2 (some .int) :: gw
set_option maxHeartbeats 800000 in
set_option maxRecDepth 100000 in
theorem c_X0_bitAt {l : Launch} {D : va_G} {Rs : va_W} {cA cR cL : ClassId} {ro la cap wd : Nat → Nat} {F : Nat → Nat → Int32} (hw : rwOk cap wd) {i : Nat} (hi : i < 64) (x : Int32) : xR l y_X0_bitAt w_X0_bitAt ({ frames := 1, cells := 0, slots := 0, locals := 21 }) D cls0 (ty3 cA cR cL) [.ref (ro i), .int x] (rw Rs cA ro la cap wd F) (some (.int (rBit (wd i) (F i) x))) := by
  refine xR.ofW (cc := b_X0_bitAt) (maxL := 2) (ret := some .int) (by decide) rfl (Nat.le_of_ble_eq_true rfl) ?_
  intro p e s m below meth c A ls _ hin hx hb hr hml hown hts hlocks hA hK hP hD hS hl
  have hts : ∀ w ∈ gw, w.before ([.ref (ro i), .int x]).toArray s = true := fun w h => hts w (List.mem_cons_of_mem _ h)
  have hown : s.vm.findClass R_Row = some m.cls := hown
  have hl : lv_has ls 2 [(0, .ref (ro i)), (1, .int x)] := hl
  refine lv_aload_n hx hb d_X0_bitAt_0 rfl (lv_at hl 0 rfl) ?_
  refine lv_iload_n hx hb d_X0_bitAt_1 rfl (lv_at hl 1 rfl) ?_
  refine lv_iconst (v := nI 5) hx hb d_X0_bitAt_2 (by decide) ?_
  refine lv_ishr hx hb d_X0_bitAt_3 ?_
  refine x_callR (st1 := [.int (rAt (wd i) (F i) (x >>> ((nI 5) &&& 31)))]) (x_runV (As := [.int (x >>> ((nI 5) &&& 31))]) (rest := []) (nL := 2) ⟨hx, hb, hml, hown, hts⟩ (c_X0_limbAt hw hi (x >>> ((nI 5) &&& 31)) _) (cwV 1 hts (gw_V k_195 k_197 k_4 k_51 k_198) rfl rfl rfl (by decide +kernel) ⟨Nat.le_of_ble_eq_true rfl, Nat.le_of_ble_eq_true rfl⟩) hK hP hD _ 0 (rw_row hi) rfl rfl hl.1 rfl (Nat.le_of_ble_eq_true rfl) d_X0_bitAt_4 ⟨Nat.zero_le _, Nat.zero_le _⟩) rfl ?_
  refine lv_iload_n hx hb d_X0_bitAt_7 rfl (lv_at hl 1 rfl) ?_
  refine lv_bipush (v := nI 31) hx hb d_X0_bitAt_8 (by decide) ?_
  refine lv_iand hx hb d_X0_bitAt_10 ?_
  refine lv_iushr (v := j_iu (rAt (wd i) (F i) (x >>> ((nI 5) &&& 31))) (x &&& (nI 31))) hx hb d_X0_bitAt_11 rfl ?_
  refine lv_iconst (v := nI 1) hx hb d_X0_bitAt_12 (by decide) ?_
  refine lv_iand hx hb d_X0_bitAt_13 ?_
  exact xr_iret hx hb hr hlocks d_X0_bitAt_14 rfl
abbrev w_X0_pairAt : List Cond := .code y_X0_pairAt b_X0_pairAt 2 (some .long) :: gw
set_option maxHeartbeats 800000 in
set_option maxRecDepth 100000 in
theorem c_X0_pairAt {l : Launch} {D : va_G} {Rs : va_W} {cA cR cL : ClassId} {ro la cap wd : Nat → Nat} {F : Nat → Nat → Int32} (hw : rwOk cap wd) {i : Nat} (hi : i < 64) (x : Int32) : xR l y_X0_pairAt w_X0_pairAt ({ frames := 1, cells := 0, slots := 0, locals := 21 }) D cls0 (ty3 cA cR cL) [.ref (ro i), .int x] (rw Rs cA ro la cap wd F) (some (.long (rPair (wd i) (F i) x))) := by
  refine xR.ofW (cc := b_X0_pairAt) (maxL := 2) (ret := some .long) (by decide) rfl (Nat.le_of_ble_eq_true rfl) ?_
  intro p e s m below meth c A ls _ hin hx hb hr hml hown hts hlocks hA hK hP hD hS hl
  have hts : ∀ w ∈ gw, w.before ([.ref (ro i), .int x]).toArray s = true := fun w h => hts w (List.mem_cons_of_mem _ h)
  have hown : s.vm.findClass R_Row = some m.cls := hown
  have hl : lv_has ls 2 [(0, .ref (ro i)), (1, .int x)] := hl
  refine lv_aload_n hx hb d_X0_pairAt_0 rfl (lv_at hl 0 rfl) ?_
  refine lv_iload_n hx hb d_X0_pairAt_1 rfl (lv_at hl 1 rfl) ?_
  refine lv_iconst (v := nI 1) hx hb d_X0_pairAt_2 (by decide) ?_
  refine lv_iadd hx hb d_X0_pairAt_3 ?_
  refine x_callR (st1 := [.int (rAt (wd i) (F i) (x + (nI 1)))]) (x_runV (As := [.int (x + (nI 1))]) (rest := []) (nL := 2) ⟨hx, hb, hml, hown, hts⟩ (c_X0_limbAt hw hi (x + (nI 1)) _) (cwV 1 hts (gw_V k_195 k_197 k_4 k_51 k_198) rfl rfl rfl (by decide +kernel) ⟨Nat.le_of_ble_eq_true rfl, Nat.le_of_ble_eq_true rfl⟩) hK hP hD _ 0 (rw_row hi) rfl rfl hl.1 rfl (Nat.le_of_ble_eq_true rfl) d_X0_pairAt_4 ⟨Nat.zero_le _, Nat.zero_le _⟩) rfl ?_
  refine x_callR (st1 := [.long (rUn (rAt (wd i) (F i) (x + (nI 1))))]) (x_runS (As := [.int (rAt (wd i) (F i) (x + (nI 1)))]) (rest := []) (nL := 2) ⟨hx, hb, hml, hown, hts⟩ (c_X0_unsigned hw (rAt (wd i) (F i) (x + (nI 1))) _) (cwS 1 hts (gw_S k_275 k_276 k_51 k_277) rfl rfl rfl (by decide +kernel) ⟨Nat.le_of_ble_eq_true rfl, Nat.le_of_ble_eq_true rfl⟩) hK hP hD rfl hl.1 rfl (Nat.le_of_ble_eq_true rfl) d_X0_pairAt_7 ⟨Nat.zero_le _, Nat.zero_le _⟩) rfl ?_
  refine lv_bipush (v := nI 32) hx hb d_X0_pairAt_10 (by decide) ?_
  refine lv_lshl (v := j_ll (rUn (rAt (wd i) (F i) (x + (nI 1)))) (nI 32)) hx hb d_X0_pairAt_12 rfl ?_
  refine lv_aload_n hx hb d_X0_pairAt_13 rfl (lv_at hl 0 rfl) ?_
  refine lv_iload_n hx hb d_X0_pairAt_14 rfl (lv_at hl 1 rfl) ?_
  refine x_callR (st1 := [.int (rAt (wd i) (F i) x), .long (j_ll (rUn (rAt (wd i) (F i) (x + (nI 1)))) (nI 32))]) (x_runV (As := [.int x]) (rest := [.long (j_ll (rUn (rAt (wd i) (F i) (x + (nI 1)))) (nI 32))]) (nL := 2) ⟨hx, hb, hml, hown, hts⟩ (c_X0_limbAt hw hi x _) (cwV 1 hts (gw_V k_195 k_197 k_4 k_51 k_198) rfl rfl rfl (by decide +kernel) ⟨Nat.le_of_ble_eq_true rfl, Nat.le_of_ble_eq_true rfl⟩) hK hP hD _ 0 (rw_row hi) rfl rfl hl.1 rfl (Nat.le_of_ble_eq_true rfl) d_X0_pairAt_15 ⟨Nat.zero_le _, Nat.zero_le _⟩) rfl ?_
  refine x_callR (st1 := [.long (rUn (rAt (wd i) (F i) x)), .long (j_ll (rUn (rAt (wd i) (F i) (x + (nI 1)))) (nI 32))]) (x_runS (As := [.int (rAt (wd i) (F i) x)]) (rest := [.long (j_ll (rUn (rAt (wd i) (F i) (x + (nI 1)))) (nI 32))]) (nL := 2) ⟨hx, hb, hml, hown, hts⟩ (c_X0_unsigned hw (rAt (wd i) (F i) x) _) (cwS 1 hts (gw_S k_275 k_276 k_51 k_277) rfl rfl rfl (by decide +kernel) ⟨Nat.le_of_ble_eq_true rfl, Nat.le_of_ble_eq_true rfl⟩) hK hP hD rfl hl.1 rfl (Nat.le_of_ble_eq_true rfl) d_X0_pairAt_18 ⟨Nat.zero_le _, Nat.zero_le _⟩) rfl ?_
  refine lv_lor hx hb d_X0_pairAt_21 ?_
  exact xr_lret hx hb hr hlocks d_X0_pairAt_22 rfl
set_option maxHeartbeats 800000 in
set_option maxRecDepth 100000 in
theorem lp_X0_shiftDown {p : Program} {l : Launch} {e : Env} {s : State} {m : MethodId} {args : Array Value} {below : List Frame} {meth : Method} {c : Code} {D : va_G} {Rs : va_W} {cA cR cL : ClassId} {ro la cap wd : Nat → Nat} {A : Nat → Prop} (hx : p.tables.exec = Jvm.exec) (hb : c.code = b_X0_shiftDown) (hr : meth.sig.returnType = none) (hml : c.maxLocals = 5) (hown : s.vm.findClass R_Row = some m.cls) (hts : ∀ w ∈ gw, w.before args s = true) (hlocks : meth.locks = false) (hA : ∀ q : Nat, s.heap.size ≤ q → A q) (hK : va_K D cls0 (ty3 cA cR cL) s) (hw : rwOk cap wd) {i bs wh pt : Nat} (hi : i < 64) (hwh : wh < 1000) : ∀ (n : Nat) (k : Nat) (F : Nat → Nat → Int32), n = wd i - k → k < 1000 → ∀ (H : Heap) (locs : List Loc), va_P D cls0 (rw Rs cA ro la cap wd F) H → va_D A (rw Rs cA ro la cap wd F) → va_S A s.heap H locs → ∀ (ls : Array Slot), lv_has ls 5 [(0, .ref (ro i)), (1, .int (nI bs)), (2, .int (nI wh)), (3, .int (nI pt)), (4, .int (nI k))] → W p l e ({ frames := 2, cells := 0, slots := 0, locals := 42 }) s m args below meth c H locs 0 0 (MQ below (xQ (none) (xB D cls0 A (fun w => w = rw Rs cA ro la cap wd (gShd i (wd i) wh pt n k F))) A) args s 0 0 A) (F0 m 12 ls []) := by
  intro n
  induction n with
  | zero =>
    intro k F hn hk H locs hP hD hS ls hl
    have hwi := hw i hi
    refine lv_iload hx hb d_X0_shiftDown_12 (lv_at hl 4 rfl) ?_
    refine lv_aload_n hx hb d_X0_shiftDown_14 rfl (lv_at hl 0 rfl) ?_
    refine c_getW hx hb hts hown hK hP (i := i) hi d_X0_shiftDown_15 ?_
    refine n_icmp_ge (tgt := 45) hx hb d_X0_shiftDown_18 (by decide) (by omega) (by omega) (fun c_1 => ?_) (fun c_1 => ?_)
    rotate_left
    · exact absurd c_1 (by omega)
    exact x_vret hx hb hr hlocks hP hD hS d_X0_shiftDown_45 rfl rfl
  | succ n ih =>
    intro k F hn hk H locs hP hD hS ls hl
    have hwi := hw i hi
    refine lv_iload hx hb d_X0_shiftDown_12 (lv_at hl 4 rfl) ?_
    refine lv_aload_n hx hb d_X0_shiftDown_14 rfl (lv_at hl 0 rfl) ?_
    refine c_getW hx hb hts hown hK hP (i := i) hi d_X0_shiftDown_15 ?_
    refine n_icmp_ge (tgt := 45) hx hb d_X0_shiftDown_18 (by decide) (by omega) (by omega) (fun c_1 => ?_) (fun c_1 => ?_)
    · exact absurd c_1 (by omega)
    refine lv_aload_n hx hb d_X0_shiftDown_21 rfl (lv_at hl 0 rfl) ?_
    refine c_getL hx hb hts hown hK hP (i := i) hi d_X0_shiftDown_22 ?_
    refine lv_iload hx hb d_X0_shiftDown_25 (lv_at hl 4 rfl) ?_
    refine lv_aload_n hx hb d_X0_shiftDown_27 rfl (lv_at hl 0 rfl) ?_
    refine lv_iload hx hb d_X0_shiftDown_28 (lv_at hl 4 rfl) ?_
    refine lv_iload_n hx hb d_X0_shiftDown_30 rfl (lv_at hl 2 rfl) ?_
    refine n_iadd hx hb d_X0_shiftDown_31 ?_
    refine x_callR (st1 := [.long (rPair (wd i) (F i) (nI (k + wh))), .int (nI k), .ref (la i)]) (x_runV (As := [.int (nI (k + wh))]) (rest := [.int (nI k), .ref (la i)]) (nL := 5) ⟨hx, hb, hml, hown, hts⟩ (c_X0_pairAt hw hi (nI (k + wh)) _) (cwV 1 hts (gw_V k_384 k_386 k_21 k_51 k_387) rfl rfl rfl (by decide +kernel) ⟨Nat.le_of_ble_eq_true rfl, Nat.le_of_ble_eq_true rfl⟩) hK hP hD _ 0 (rw_row hi) rfl rfl hl.1 rfl (Nat.le_of_ble_eq_true rfl) d_X0_shiftDown_32 ⟨Nat.zero_le _, Nat.zero_le _⟩) rfl ?_
    refine lv_iload_n hx hb d_X0_shiftDown_35 rfl (lv_at hl 3 rfl) ?_
    refine lv_lushr (v := j_lu (rPair (wd i) (F i) (nI (k + wh))) (nI pt)) hx hb d_X0_shiftDown_36 rfl ?_
    refine lv_l2i (v := (j_lu (rPair (wd i) (F i) (nI (k + wh))) (nI pt)).toInt32) hx hb d_X0_shiftDown_37 rfl ?_
    have hq_38 := hw i hi
    refine c_ast hx hb hK hP hD hS (i := i) (k := k) (x := (j_lu (rPair (wd i) (F i) (nI (k + wh))) (nI pt)).toInt32) hi (by omega) (by omega) d_X0_shiftDown_38 (fun H locs hP hD hS => ?_)
    refine n_iinc (lv' := [(4, .int (nI (k + 1))), (0, .ref (ro i)), (1, .int (nI bs)), (2, .int (nI wh)), (3, .int (nI pt))]) hx hb d_X0_shiftDown_39 hl (k := 4) rfl (by decide) rfl (fun ls hl => ?_)
    refine lv_goto (tgt := 12) hx hb d_X0_shiftDown_42 (by decide) ?_
    exact ih (k + 1) _ (by omega) (by omega) H locs hP hD hS ls (lv_sub hl [1, 2, 3, 4, 0] rfl)
abbrev w_X0_shiftDown : List Cond := .code y_X0_shiftDown b_X0_shiftDown 5 (none) :: gw
set_option maxHeartbeats 800000 in
set_option maxRecDepth 100000 in
theorem c_X0_shiftDown {l : Launch} {D : va_G} {Rs : va_W} {cA cR cL : ClassId} {ro la cap wd : Nat → Nat} {F : Nat → Nat → Int32} (hw : rwOk cap wd) {i : Nat} (hi : i < 64) {bs : Nat} (hbs : bs ≤ 8192) : xC l y_X0_shiftDown w_X0_shiftDown ({ frames := 2, cells := 0, slots := 0, locals := 42 }) D cls0 (ty3 cA cR cL) [.ref (ro i), .int (nI bs)] (rw Rs cA ro la cap wd F) (none) (fun w => w = rw Rs cA ro la cap wd (gShd i (wd i) (bs / 32) (bs % 32) (wd i) 0 F)) 0 0 := by
  refine xC.ofW (cc := b_X0_shiftDown) (maxL := 5) (ret := none) (by decide) rfl (Nat.le_of_ble_eq_true rfl) ?_
  intro p e s m below meth c A ls _ hin hx hb hr hml hown hts hlocks hA hK hP hD hS hl
  have hts : ∀ w ∈ gw, w.before ([.ref (ro i), .int (nI bs)]).toArray s = true := fun w h => hts w (List.mem_cons_of_mem _ h)
  have hown : s.vm.findClass R_Row = some m.cls := hown
  have hl : lv_has ls 5 [(0, .ref (ro i)), (1, .int (nI bs))] := hl
  refine lv_iload_n hx hb d_X0_shiftDown_0 rfl (lv_at hl 1 rfl) ?_
  refine lv_iconst (v := nI 5) hx hb d_X0_shiftDown_1 (by decide) ?_
  refine n_shr5 hx hb (by omega) d_X0_shiftDown_2 ?_
  refine lv_istore_n (lv' := [(2, .int (nI (bs / 32))), (0, .ref (ro i)), (1, .int (nI bs))]) hx hb d_X0_shiftDown_3 rfl hl (by decide) rfl (fun ls hl => ?_)
  refine lv_iload_n hx hb d_X0_shiftDown_4 rfl (lv_at hl 2 rfl) ?_
  refine lv_bipush (v := nI 31) hx hb d_X0_shiftDown_5 (by decide) ?_
  refine n_and31 hx hb (by omega) d_X0_shiftDown_7 ?_
  refine lv_istore_n (lv' := [(3, .int (nI (bs % 32))), (2, .int (nI (bs / 32))), (0, .ref (ro i)), (1, .int (nI bs))]) hx hb d_X0_shiftDown_8 rfl hl (by decide) rfl (fun ls hl => ?_)
  refine lv_iconst (v := nI 0) hx hb d_X0_shiftDown_9 (by decide) ?_
  refine lv_istore (lv' := [(4, .int (nI 0)), (3, .int (nI (bs % 32))), (2, .int (nI (bs / 32))), (0, .ref (ro i)), (1, .int (nI bs))]) hx hb d_X0_shiftDown_10 hl (by decide) rfl (fun ls hl => ?_)
  exact lp_X0_shiftDown hx hb hr hml hown hts hlocks hA hK hw hi (by omega) (wd i) 0 F rfl (by omega) _ _ hP hD hS ls (lv_sub hl [3, 4, 2, 1, 0] rfl)
set_option maxHeartbeats 800000 in
set_option maxRecDepth 100000 in
theorem lp_X0_shiftUp {p : Program} {l : Launch} {e : Env} {s : State} {m : MethodId} {args : Array Value} {below : List Frame} {meth : Method} {c : Code} {D : va_G} {Rs : va_W} {cA cR cL : ClassId} {ro la cap wd : Nat → Nat} {A : Nat → Prop} (hx : p.tables.exec = Jvm.exec) (hb : c.code = b_X0_shiftUp) (hr : meth.sig.returnType = none) (hml : c.maxLocals = 5) (hown : s.vm.findClass R_Row = some m.cls) (hts : ∀ w ∈ gw, w.before args s = true) (hlocks : meth.locks = false) (hA : ∀ q : Nat, s.heap.size ≤ q → A q) (hK : va_K D cls0 (ty3 cA cR cL) s) (hw : rwOk cap wd) {i bs wh pt : Nat} (hi : i < 64) : ∀ (n : Nat) (F : Nat → Nat → Int32), n ≤ wd i → ∀ (H : Heap) (locs : List Loc), va_P D cls0 (rw Rs cA ro la cap wd F) H → va_D A (rw Rs cA ro la cap wd F) → va_S A s.heap H locs → ∀ (ls : Array Slot), lv_has ls 5 [(0, .ref (ro i)), (1, .int (nI bs)), (2, .int (nI wh)), (3, .int (nI pt)), (4, .int (nM n))] → W p l e ({ frames := 2, cells := 0, slots := 0, locals := 42 }) s m args below meth c H locs 0 0 (MQ below (xQ (none) (xB D cls0 A (fun w => w = rw Rs cA ro la cap wd (gShu i (wd i) wh pt n F))) A) args s 0 0 A) (F0 m 17 ls []) := by
  intro n
  induction n with
  | zero =>
    intro  F hn H locs hP hD hS ls hl
    have hwi := hw i hi
    rw [nM_0] at hl
    refine lv_iload hx hb d_X0_shiftUp_17 (lv_at hl 4 rfl) ?_
    refine lv_if_lt (tgt := 51) hx hb d_X0_shiftUp_19 (by decide) (fun c_1 => ?_) (fun c_1 => ?_)
    rotate_left
    · exact absurd (by decide) c_1
    exact x_vret hx hb hr hlocks hP hD hS d_X0_shiftUp_51 rfl rfl
  | succ n ih =>
    intro  F hn H locs hP hD hS ls hl
    rw [nM_succ] at hl
    have hwi := hw i hi
    refine lv_iload hx hb d_X0_shiftUp_17 (lv_at hl 4 rfl) ?_
    refine n_if_lt (tgt := 51) hx hb d_X0_shiftUp_19 (by decide) (by omega) ?_
    refine lv_aload_n hx hb d_X0_shiftUp_22 rfl (lv_at hl 0 rfl) ?_
    refine c_getL hx hb hts hown hK hP (i := i) hi d_X0_shiftUp_23 ?_
    refine lv_iload hx hb d_X0_shiftUp_26 (lv_at hl 4 rfl) ?_
    refine lv_aload_n hx hb d_X0_shiftUp_28 rfl (lv_at hl 0 rfl) ?_
    refine lv_iload hx hb d_X0_shiftUp_29 (lv_at hl 4 rfl) ?_
    refine lv_iload_n hx hb d_X0_shiftUp_31 rfl (lv_at hl 2 rfl) ?_
    refine lv_isub hx hb d_X0_shiftUp_32 ?_
    refine lv_iconst (v := nI 1) hx hb d_X0_shiftUp_33 (by decide) ?_
    refine lv_isub hx hb d_X0_shiftUp_34 ?_
    refine x_callR (st1 := [.long (rPair (wd i) (F i) (nI n - nI wh - (nI 1))), .int (nI n), .ref (la i)]) (x_runV (As := [.int (nI n - nI wh - (nI 1))]) (rest := [.int (nI n), .ref (la i)]) (nL := 5) ⟨hx, hb, hml, hown, hts⟩ (c_X0_pairAt hw hi (nI n - nI wh - (nI 1)) _) (cwV 1 hts (gw_V k_384 k_386 k_21 k_51 k_387) rfl rfl rfl (by decide +kernel) ⟨Nat.le_of_ble_eq_true rfl, Nat.le_of_ble_eq_true rfl⟩) hK hP hD _ 0 (rw_row hi) rfl rfl hl.1 rfl (Nat.le_of_ble_eq_true rfl) d_X0_shiftUp_35 ⟨Nat.zero_le _, Nat.zero_le _⟩) rfl ?_
    refine lv_iload_n hx hb d_X0_shiftUp_38 rfl (lv_at hl 3 rfl) ?_
    refine lv_lshl (v := j_ll (rPair (wd i) (F i) (nI n - nI wh - (nI 1))) (nI pt)) hx hb d_X0_shiftUp_39 rfl ?_
    refine lv_bipush (v := nI 32) hx hb d_X0_shiftUp_40 (by decide) ?_
    refine lv_lushr (v := j_lu (j_ll (rPair (wd i) (F i) (nI n - nI wh - (nI 1))) (nI pt)) (nI 32)) hx hb d_X0_shiftUp_42 rfl ?_
    refine lv_l2i (v := (j_lu (j_ll (rPair (wd i) (F i) (nI n - nI wh - (nI 1))) (nI pt)) (nI 32)).toInt32) hx hb d_X0_shiftUp_43 rfl ?_
    have hq_44 := hw i hi
    refine c_ast hx hb hK hP hD hS (i := i) (k := n) (x := (j_lu (j_ll (rPair (wd i) (F i) (nI n - nI wh - (nI 1))) (nI pt)) (nI 32)).toInt32) hi (by omega) (by omega) d_X0_shiftUp_44 (fun H locs hP hD hS => ?_)
    refine n_idec (lv' := [(4, .int (nM n)), (0, .ref (ro i)), (1, .int (nI bs)), (2, .int (nI wh)), (3, .int (nI pt))]) hx hb d_X0_shiftUp_45 hl (k := 4) rfl (by decide) rfl (fun ls hl => ?_)
    refine lv_goto (tgt := 17) hx hb d_X0_shiftUp_48 (by decide) ?_
    exact ih _ (by omega) H locs hP hD hS ls (lv_sub hl [1, 2, 3, 4, 0] rfl)
abbrev w_X0_shiftUp : List Cond := .code y_X0_shiftUp b_X0_shiftUp 5 (none) :: gw
set_option maxHeartbeats 800000 in
set_option maxRecDepth 100000 in
theorem c_X0_shiftUp {l : Launch} {D : va_G} {Rs : va_W} {cA cR cL : ClassId} {ro la cap wd : Nat → Nat} {F : Nat → Nat → Int32} (hw : rwOk cap wd) {i : Nat} (hi : i < 64) {bs : Nat} (hbs : bs ≤ 8192) : xC l y_X0_shiftUp w_X0_shiftUp ({ frames := 2, cells := 0, slots := 0, locals := 42 }) D cls0 (ty3 cA cR cL) [.ref (ro i), .int (nI bs)] (rw Rs cA ro la cap wd F) (none) (fun w => w = rw Rs cA ro la cap wd (gShu i (wd i) (bs / 32) (bs % 32) (wd i) F)) 0 0 := by
  refine xC.ofW (cc := b_X0_shiftUp) (maxL := 5) (ret := none) (by decide) rfl (Nat.le_of_ble_eq_true rfl) ?_
  intro p e s m below meth c A ls _ hin hx hb hr hml hown hts hlocks hA hK hP hD hS hl
  have hts : ∀ w ∈ gw, w.before ([.ref (ro i), .int (nI bs)]).toArray s = true := fun w h => hts w (List.mem_cons_of_mem _ h)
  have hown : s.vm.findClass R_Row = some m.cls := hown
  have hl : lv_has ls 5 [(0, .ref (ro i)), (1, .int (nI bs))] := hl
  have hwi := hw i hi
  refine lv_iload_n hx hb d_X0_shiftUp_0 rfl (lv_at hl 1 rfl) ?_
  refine lv_iconst (v := nI 5) hx hb d_X0_shiftUp_1 (by decide) ?_
  refine n_shr5 hx hb (by omega) d_X0_shiftUp_2 ?_
  refine lv_istore_n (lv' := [(2, .int (nI (bs / 32))), (0, .ref (ro i)), (1, .int (nI bs))]) hx hb d_X0_shiftUp_3 rfl hl (by decide) rfl (fun ls hl => ?_)
  refine lv_iload_n hx hb d_X0_shiftUp_4 rfl (lv_at hl 2 rfl) ?_
  refine lv_bipush (v := nI 31) hx hb d_X0_shiftUp_5 (by decide) ?_
  refine n_and31 hx hb (by omega) d_X0_shiftUp_7 ?_
  refine lv_istore_n (lv' := [(3, .int (nI (bs % 32))), (2, .int (nI (bs / 32))), (0, .ref (ro i)), (1, .int (nI bs))]) hx hb d_X0_shiftUp_8 rfl hl (by decide) rfl (fun ls hl => ?_)
  refine lv_aload_n hx hb d_X0_shiftUp_9 rfl (lv_at hl 2 rfl) ?_
  refine c_getW hx hb hts hown hK hP (i := i) hi d_X0_shiftUp_10 ?_
  refine lv_iconst (v := nI 1) hx hb d_X0_shiftUp_13 (by decide) ?_
  refine n_isub hx hb d_X0_shiftUp_14 (by omega) ?_
  refine lv_istore (lv' := [(4, .int (nI ((wd i) - 1))), (3, .int (nI (bs % 32))), (2, .int (nI (bs / 32))), (0, .ref (ro i)), (1, .int (nI bs))]) hx hb d_X0_shiftUp_15 hl (by decide) rfl (fun ls hl => ?_)
  rw [← nM_pred hwi.1] at hl
  exact lp_X0_shiftUp hx hb hr hml hown hts hlocks hA hK hw hi (wd i) F (Nat.le_refl _) _ _ hP hD hS ls (lv_sub hl [3, 4, 2, 1, 0] rfl)
