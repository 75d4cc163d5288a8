set_option maxHeartbeats 800000 in
set_option maxRecDepth 100000 in
theorem lp_X0_signum {p : Program} {l : Launch} {e : Env} {s : State} {m : MethodId} {args : Array Value} {below : List Frame} {meth : Method} {c : Code} {D : va_G} {Rs : va_W} {cA cR cL : ClassId} {ro la cap wd : Nat → Nat} {A : Nat → Prop} {F : Nat → Nat → Int32} (hx : p.tables.exec = Jvm.exec) (hb : c.code = b_X0_signum) (hr : meth.sig.returnType = some .int) (hml : c.maxLocals = 2) (hown : s.vm.findClass R_Row = some m.cls) (hts : ∀ w ∈ gw, w.before args s = true) (hlocks : meth.locks = false) (hA : ∀ q : Nat, s.heap.size ≤ q → A q) (hK : va_K D cls0 (ty3 cA cR cL) s) (hw : rwOk cap wd) {i : Nat} (hi : i < 64) (hP : va_P D cls0 (rw Rs cA ro la cap wd F) s.heap) (hD : va_D A (rw Rs cA ro la cap wd F)) : ∀ (n : Nat) (k : Nat), n = wd i - k → k < 1000 → ∀ (ls : Array Slot), lv_has ls 2 [(0, .ref (ro i)), (1, .int (nI k))] → W p l e ({ frames := 1, cells := 0, slots := 0, locals := 20 }) s m args below meth c s.heap [] 0 0 (MQ below (xRQ (some (.int (rSgL (F i) n k)))) args s 0 0 (fun _ => False)) (F0 m 11 ls []) := by
  intro n
  induction n with
  | zero =>
    intro k hn hk ls hl
    have hwi := hw i hi
    refine lv_iload_n hx hb d_X0_signum_11 rfl (lv_at hl 1 rfl) ?_
    refine lv_aload_n hx hb d_X0_signum_12 rfl (lv_at hl 0 rfl) ?_
    refine c_getW hx hb hts hown hK hP (i := i) hi d_X0_signum_13 ?_
    refine n_icmp_ge (tgt := 36) hx hb d_X0_signum_16 (by decide) (by omega) (by omega) (fun c_1 => ?_) (fun c_1 => ?_)
    rotate_left
    · exact absurd c_1 (by omega)
    refine lv_iconst (v := nI 0) hx hb d_X0_signum_36 (by decide) ?_
    exact xr_iret hx hb hr hlocks d_X0_signum_37 rfl
  | succ n ih =>
    intro k hn hk ls hl
    have hwi := hw i hi
    refine lv_iload_n hx hb d_X0_signum_11 rfl (lv_at hl 1 rfl) ?_
    refine lv_aload_n hx hb d_X0_signum_12 rfl (lv_at hl 0 rfl) ?_
    refine c_getW hx hb hts hown hK hP (i := i) hi d_X0_signum_13 ?_
    refine n_icmp_ge (tgt := 36) hx hb d_X0_signum_16 (by decide) (by omega) (by omega) (fun c_1 => ?_) (fun c_1 => ?_)
    · exact absurd c_1 (by omega)
    refine lv_aload_n hx hb d_X0_signum_19 rfl (lv_at hl 0 rfl) ?_
    refine c_getL hx hb hts hown hK hP (i := i) hi d_X0_signum_20 ?_
    refine lv_iload_n hx hb d_X0_signum_23 rfl (lv_at hl 1 rfl) ?_
    have hq_24 := hw i hi
    refine c_ald hx hb hK hP (i := i) (k := k) hi (by omega) (by omega) d_X0_signum_24 ?_
    refine lv_if_eq (tgt := 30) hx hb d_X0_signum_25 (by decide) (fun c_2 => ?_) (fun c_2 => ?_)
    · refine n_iinc (lv' := [(1, .int (nI (k + 1))), (0, .ref (ro i))]) hx hb d_X0_signum_30 hl (k := 1) rfl (by decide) rfl (fun ls hl => ?_)
      refine lv_goto (tgt := 11) hx hb d_X0_signum_33 (by decide) ?_
      rw [show rSgL (F i) (n + 1) k = rSgL (F i) n (k + 1) from if_pos c_2]
      exact ih (k + 1) (by omega) (by omega) ls (lv_sub hl [1, 0] rfl)
    · refine lv_iconst (v := nI 1) hx hb d_X0_signum_28 (by decide) ?_
      exact xr_iret hx hb hr hlocks d_X0_signum_29 (by rw [show rSgL (F i) (n + 1) k = nI 1 from if_neg c_2])
abbrev w_X0_signum : List Cond := .code y_X0_signum b_X0_signum 2 (some .int) :: gw
set_option maxHeartbeats 800000 in
set_option maxRecDepth 100000 in
theorem c_X0_signum {l : Launch} {D : va_G} {Rs : va_W} {cA cR cL : ClassId} {ro la cap wd : Nat → Nat} {F : Nat → Nat → Int32} (hw : rwOk cap wd) {i : Nat} (hi : i < 64) : xR l y_X0_signum w_X0_signum ({ frames := 1, cells := 0, slots := 0, locals := 20 }) D cls0 (ty3 cA cR cL) [.ref (ro i)] (rw Rs cA ro la cap wd F) (some (.int (rSg (wd i) (F i)))) := by
  refine xR.ofW (cc := b_X0_signum) (maxL := 2) (ret := some .int) (by decide) rfl (Nat.le_of_ble_eq_true rfl) ?_
  intro p e s m below meth c A ls _ hin hx hb hr hml hown hts hlocks hA hK hP hD hS hl
  have hts : ∀ w ∈ gw, w.before ([.ref (ro i)]).toArray s = true := fun w h => hts w (List.mem_cons_of_mem _ h)
  have hown : s.vm.findClass R_Row = some m.cls := hown
  have hl : lv_has ls 2 [(0, .ref (ro i))] := hl
  have hwi := hw i hi
  refine lv_aload_n hx hb d_X0_signum_0 rfl (lv_at hl 0 rfl) ?_
  refine x_callR (st1 := [.int (rNeg (wd i) (F i))]) (x_runV (As := []) (rest := []) (nL := 2) ⟨hx, hb, hml, hown, hts⟩ (c_X0_isNegative hw hi _) (cwV 0 hts (gw_V k_283 k_285 k_10 k_51 k_286) rfl rfl rfl (by decide +kernel) ⟨Nat.le_of_ble_eq_true rfl, Nat.le_of_ble_eq_true rfl⟩) hK hP hD _ 0 (rw_row hi) rfl rfl hl.1 rfl (Nat.le_of_ble_eq_true rfl) d_X0_signum_1 ⟨Nat.zero_le _, Nat.zero_le _⟩) rfl ?_
  refine lv_if_eq (tgt := 9) hx hb d_X0_signum_4 (by decide) (fun c_1 => ?_) (fun c_1 => ?_)
  · refine lv_iconst (v := nI 0) hx hb d_X0_signum_9 (by decide) ?_
    refine lv_istore_n (lv' := [(1, .int (nI 0)), (0, .ref (ro i))]) hx hb d_X0_signum_10 rfl hl (by decide) rfl (fun ls hl => ?_)
    rw [show rSg (wd i) (F i) = rSgL (F i) (wd i) 0 from if_pos c_1]
    exact lp_X0_signum hx hb hr hml hown hts hlocks hA hK hw hi hP hD (wd i) 0 (by omega) (by omega) ls (lv_sub hl [1, 0] rfl)
  · refine lv_iconst (v := -1) hx hb d_X0_signum_7 (by decide) ?_
    exact xr_iret hx hb hr hlocks d_X0_signum_8 (by rw [show rSg (wd i) (F i) = -1 from if_neg c_1])
set_option maxHeartbeats 800000 in
set_option maxRecDepth 100000 in
theorem lp_X0_fitsIn {p : Program} {l : Launch} {e : Env} {s : State} {m : MethodId} {args : Array Value} {below : List Frame} {meth : Method} {c : Code} {D : va_G} {Rs : va_W} {cA cR cL : ClassId} {ro la cap wd : Nat → Nat} {A : Nat → Prop} {F : Nat → Nat → Int32} (hx : p.tables.exec = Jvm.exec) (hb : c.code = b_X0_fitsIn) (hr : meth.sig.returnType = some .boolean) (hml : c.maxLocals = 4) (hown : s.vm.findClass R_Row = some m.cls) (hts : ∀ w ∈ gw, w.before args s = true) (hlocks : meth.locks = false) (hA : ∀ q : Nat, s.heap.size ≤ q → A q) (hK : va_K D cls0 (ty3 cA cR cL) s) (hw : rwOk cap wd) {i z : Nat} (hi : i < 64) {a : Int32} (hP : va_P D cls0 (rw Rs cA ro la cap wd F) s.heap) (hD : va_D A (rw Rs cA ro la cap wd F)) : ∀ (n : Nat) (k : Nat), n = wd i - k → k < 1000 → ∀ (ls : Array Slot), lv_has ls 4 [(0, .ref (ro i)), (1, .int (nI z)), (2, .int a), (3, .int (nI k))] → W p l e ({ frames := 1, cells := 0, slots := 0, locals := 21 }) s m args below meth c s.heap [] 0 0 (MQ below (xRQ (some (.int (rFitL (F i) a n k)))) args s 0 0 (fun _ => False)) (F0 m 13 ls []) := by
  intro n
  induction n with
  | zero =>
    intro k hn hk ls hl
    have hwi := hw i hi
    refine lv_iload_n hx hb d_X0_fitsIn_13 rfl (lv_at hl 3 rfl) ?_
    refine lv_aload_n hx hb d_X0_fitsIn_14 rfl (lv_at hl 0 rfl) ?_
    refine c_getW hx hb hts hown hK hP (i := i) hi d_X0_fitsIn_15 ?_
    refine n_icmp_ge (tgt := 39) hx hb d_X0_fitsIn_18 (by decide) (by omega) (by omega) (fun c_1 => ?_) (fun c_1 => ?_)
    rotate_left
    · exact absurd c_1 (by omega)
    refine lv_iconst (v := nI 1) hx hb d_X0_fitsIn_39 (by decide) ?_
    exact xr_zret hx hb hr hlocks d_X0_fitsIn_40 (by decide) rfl
  | succ n ih =>
    intro k hn hk ls hl
    have hwi := hw i hi
    refine lv_iload_n hx hb d_X0_fitsIn_13 rfl (lv_at hl 3 rfl) ?_
    refine lv_aload_n hx hb d_X0_fitsIn_14 rfl (lv_at hl 0 rfl) ?_
    refine c_getW hx hb hts hown hK hP (i := i) hi d_X0_fitsIn_15 ?_
    refine n_icmp_ge (tgt := 39) hx hb d_X0_fitsIn_18 (by decide) (by omega) (by omega) (fun c_1 => ?_) (fun c_1 => ?_)
    · exact absurd c_1 (by omega)
    refine lv_aload_n hx hb d_X0_fitsIn_21 rfl (lv_at hl 0 rfl) ?_
    refine c_getL hx hb hts hown hK hP (i := i) hi d_X0_fitsIn_22 ?_
    refine lv_iload_n hx hb d_X0_fitsIn_25 rfl (lv_at hl 3 rfl) ?_
    have hq_26 := hw i hi
    refine c_ald hx hb hK hP (i := i) (k := k) hi (by omega) (by omega) d_X0_fitsIn_26 ?_
    refine lv_iload_n hx hb d_X0_fitsIn_27 rfl (lv_at hl 2 rfl) ?_
    refine lv_icmp_eq (tgt := 33) hx hb d_X0_fitsIn_28 (by decide) (fun c_2 => ?_) (fun c_2 => ?_)
    · refine n_iinc (lv' := [(3, .int (nI (k + 1))), (0, .ref (ro i)), (1, .int (nI z)), (2, .int a)]) hx hb d_X0_fitsIn_33 hl (k := 3) rfl (by decide) rfl (fun ls hl => ?_)
      refine lv_goto (tgt := 13) hx hb d_X0_fitsIn_36 (by decide) ?_
      rw [show rFitL (F i) a (n + 1) k = rFitL (F i) a n (k + 1) from if_pos c_2]
      exact ih (k + 1) (by omega) (by omega) ls (lv_sub hl [1, 2, 3, 0] rfl)
    · refine lv_iconst (v := nI 0) hx hb d_X0_fitsIn_31 (by decide) ?_
      exact xr_zret hx hb hr hlocks d_X0_fitsIn_32 (by decide) (by rw [show rFitL (F i) a (n + 1) k = nI 0 from if_neg c_2])
abbrev w_X0_fitsIn : List Cond := .code y_X0_fitsIn b_X0_fitsIn 4 (some .boolean) :: gw
set_option maxHeartbeats 800000 in
set_option maxRecDepth 100000 in
theorem c_X0_fitsIn {l : Launch} {D : va_G} {Rs : va_W} {cA cR cL : ClassId} {ro la cap wd : Nat → Nat} {F : Nat → Nat → Int32} (hw : rwOk cap wd) {i : Nat} (hi : i < 64) {z : Nat} (hz : 1 ≤ z ∧ z ≤ 256) : xR l y_X0_fitsIn w_X0_fitsIn ({ frames := 1, cells := 0, slots := 0, locals := 21 }) D cls0 (ty3 cA cR cL) [.ref (ro i), .int (nI z)] (rw Rs cA ro la cap wd F) (some (.int (rFit (wd i) (F i) z))) := by
  refine xR.ofW (cc := b_X0_fitsIn) (maxL := 4) (ret := some .boolean) (by decide) rfl (Nat.le_of_ble_eq_true rfl) ?_
  intro p e s m below meth c A ls _ hin hx hb hr hml hown hts hlocks hA hK hP hD hS hl
  have hts : ∀ w ∈ gw, w.before ([.ref (ro i), .int (nI z)]).toArray s = true := fun w h => hts w (List.mem_cons_of_mem _ h)
  have hown : s.vm.findClass R_Row = some m.cls := hown
  have hl : lv_has ls 4 [(0, .ref (ro i)), (1, .int (nI z))] := hl
  have hwi := hw i hi
  refine lv_aload_n hx hb d_X0_fitsIn_0 rfl (lv_at hl 0 rfl) ?_
  refine lv_iload_n hx hb d_X0_fitsIn_1 rfl (lv_at hl 1 rfl) ?_
  refine lv_iconst (v := nI 1) hx hb d_X0_fitsIn_2 (by decide) ?_
  refine n_isub hx hb d_X0_fitsIn_3 (by omega) ?_
  refine x_callR (st1 := [.int (rAt (wd i) (F i) (nI (z - 1)))]) (x_runV (As := [.int (nI (z - 1))]) (rest := []) (nL := 4) ⟨hx, hb, hml, hown, hts⟩ (c_X0_limbAt hw hi (nI (z - 1)) _) (cwV 1 hts (gw_V k_195 k_197 k_4 k_51 k_198) rfl rfl rfl (by decide +kernel) ⟨Nat.le_of_ble_eq_true rfl, Nat.le_of_ble_eq_true rfl⟩) hK hP hD _ 0 (rw_row hi) rfl rfl hl.1 rfl (Nat.le_of_ble_eq_true rfl) d_X0_fitsIn_4 ⟨Nat.zero_le _, Nat.zero_le _⟩) rfl ?_
  refine lv_bipush (v := nI 31) hx hb d_X0_fitsIn_7 (by decide) ?_
  refine lv_ishr hx hb d_X0_fitsIn_9 ?_
  refine lv_topi (fun v_1 ev_1 => ?_)
  refine lv_istore_n (lv' := [(2, .int v_1), (0, .ref (ro i)), (1, .int (nI z))]) hx hb d_X0_fitsIn_10 rfl hl (by decide) rfl (fun ls hl => ?_)
  refine lv_iload_n hx hb d_X0_fitsIn_11 rfl (lv_at hl 2 rfl) ?_
  refine lv_istore_n (lv' := [(3, .int (nI z)), (2, .int v_1), (0, .ref (ro i)), (1, .int (nI z))]) hx hb d_X0_fitsIn_12 rfl hl (by decide) rfl (fun ls hl => ?_)
  rw [show rFit (wd i) (F i) z = rFitL (F i) v_1 (wd i - z) z from by rw [ev_1]; rfl]
  exact lp_X0_fitsIn hx hb hr hml hown hts hlocks hA hK hw hi hP hD (wd i - z) z rfl (by omega) ls (lv_sub hl [2, 3, 1, 0] rfl)
set_option maxHeartbeats 800000 in
set_option maxRecDepth 100000 in
theorem lp_X0_complement {p : Program} {l : Launch} {e : Env} {s : State} {m : MethodId} {args : Array Value} {below : List Frame} {meth : Method} {c : Code} {D : va_G} {Rs : va_W} {cA cR cL : ClassId} {ro la cap wd : Nat → Nat} {A : Nat → Prop} (hx : p.tables.exec = Jvm.exec) (hb : c.code = b_X0_complement) (hr : meth.sig.returnType = none) (hml : c.maxLocals = 2) (hown : s.vm.findClass R_Row = some m.cls) (hts : ∀ w ∈ gw, w.before args s = true) (hlocks : meth.locks = false) (hA : ∀ q : Nat, s.heap.size ≤ q → A q) (hK : va_K D cls0 (ty3 cA cR cL) s) (hw : rwOk cap wd) {i : Nat} (hi : i < 64) : ∀ (n : Nat) (k : Nat) (F : Nat → Nat → Int32), n = wd i - k → k < 1000 → ∀ (H : Heap) (locs : List Loc), va_P D cls0 (rw Rs cA ro la cap wd F) H → va_D A (rw Rs cA ro la cap wd F) → va_S A s.heap H locs → ∀ (ls : Array Slot), lv_has ls 2 [(0, .ref (ro i)), (1, .int (nI k))] → W p l e ({ frames := 0, cells := 0, slots := 0, locals := 0 }) s m args below meth c H locs 0 0 (MQ below (xQ (none) (xB D cls0 A (fun w => w = rw Rs cA ro la cap wd (gCpl i n k F))) A) args s 0 0 A) (F0 m 2 ls []) := by
  intro n
  induction n with
  | zero =>
    intro k F hn hk H locs hP hD hS ls hl
    have hwi := hw i hi
    refine lv_iload_n hx hb d_X0_complement_2 rfl (lv_at hl 1 rfl) ?_
    refine lv_aload_n hx hb d_X0_complement_3 rfl (lv_at hl 0 rfl) ?_
    refine c_getW hx hb hts hown hK hP (i := i) hi d_X0_complement_4 ?_
    refine n_icmp_ge (tgt := 30) hx hb d_X0_complement_7 (by decide) (by omega) (by omega) (fun c_1 => ?_) (fun c_1 => ?_)
    rotate_left
    · exact absurd c_1 (by omega)
    exact x_vret hx hb hr hlocks hP hD hS d_X0_complement_30 rfl rfl
  | succ n ih =>
    intro k F hn hk H locs hP hD hS ls hl
    have hwi := hw i hi
    refine lv_iload_n hx hb d_X0_complement_2 rfl (lv_at hl 1 rfl) ?_
    refine lv_aload_n hx hb d_X0_complement_3 rfl (lv_at hl 0 rfl) ?_
    refine c_getW hx hb hts hown hK hP (i := i) hi d_X0_complement_4 ?_
    refine n_icmp_ge (tgt := 30) hx hb d_X0_complement_7 (by decide) (by omega) (by omega) (fun c_1 => ?_) (fun c_1 => ?_)
    · exact absurd c_1 (by omega)
    refine lv_aload_n hx hb d_X0_complement_10 rfl (lv_at hl 0 rfl) ?_
    refine c_getL hx hb hts hown hK hP (i := i) hi d_X0_complement_11 ?_
    refine lv_iload_n hx hb d_X0_complement_14 rfl (lv_at hl 1 rfl) ?_
    refine lv_aload_n hx hb d_X0_complement_15 rfl (lv_at hl 0 rfl) ?_
    refine c_getL hx hb hts hown hK hP (i := i) hi d_X0_complement_16 ?_
    refine lv_iload_n hx hb d_X0_complement_19 rfl (lv_at hl 1 rfl) ?_
    have hq_20 := hw i hi
    refine c_ald hx hb hK hP (i := i) (k := k) hi (by omega) (by omega) d_X0_complement_20 ?_
    refine lv_iconst (v := -1) hx hb d_X0_complement_21 (by decide) ?_
    refine lv_ixor hx hb d_X0_complement_22 ?_
    have hq_23 := hw i hi
    refine c_ast hx hb hK hP hD hS (i := i) (k := k) (x := (F i k) ^^^ (-1)) hi (by omega) (by omega) d_X0_complement_23 (fun H locs hP hD hS => ?_)
    refine n_iinc (lv' := [(1, .int (nI (k + 1))), (0, .ref (ro i))]) hx hb d_X0_complement_24 hl (k := 1) rfl (by decide) rfl (fun ls hl => ?_)
    refine lv_goto (tgt := 2) hx hb d_X0_complement_27 (by decide) ?_
    exact ih (k + 1) _ (by omega) (by omega) H locs hP hD hS ls (lv_sub hl [1, 0] rfl)
abbrev w_X0_complement : List Cond := .code y_X0_complement b_X0_complement 2 (none) :: gw
set_option maxHeartbeats 800000 in
set_option maxRecDepth 100000 in
theorem c_X0_complement {l : Launch} {D : va_G} {Rs : va_W} {cA cR cL : ClassId} {ro la cap wd : Nat → Nat} {F : Nat → Nat → Int32} (hw : rwOk cap wd) {i : Nat} (hi : i < 64) : xC l y_X0_complement w_X0_complement ({ frames := 0, cells := 0, slots := 0, locals := 0 }) D cls0 (ty3 cA cR cL) [.ref (ro i)] (rw Rs cA ro la cap wd F) (none) (fun w => w = rw Rs cA ro la cap wd (gCpl i (wd i) 0 F)) 0 0 := by
  refine xC.ofW (cc := b_X0_complement) (maxL := 2) (ret := none) (by decide) rfl (Nat.le_of_ble_eq_true rfl) ?_
  intro p e s m below meth c A ls _ hin hx hb hr hml hown hts hlocks hA hK hP hD hS hl
  have hts : ∀ w ∈ gw, w.before ([.ref (ro i)]).toArray s = true := fun w h => hts w (List.mem_cons_of_mem _ h)
  have hown : s.vm.findClass R_Row = some m.cls := hown
  have hl : lv_has ls 2 [(0, .ref (ro i))] := hl
  refine lv_iconst (v := nI 0) hx hb d_X0_complement_0 (by decide) ?_
  refine lv_istore_n (lv' := [(1, .int (nI 0)), (0, .ref (ro i))]) hx hb d_X0_complement_1 rfl hl (by decide) rfl (fun ls hl => ?_)
  exact lp_X0_complement hx hb hr hml hown hts hlocks hA hK hw hi (wd i) 0 F rfl (by omega) _ _ hP hD hS ls (lv_sub hl [1, 0] rfl)
