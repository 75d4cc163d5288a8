set_option maxHeartbeats 800000 in
set_option maxRecDepth 100000 in
theorem lp_X0_increment {p : Program} {l : Launch} {e : Env} {s : State} {m : MethodId} {args : Array Value} {below : List Frame} {meth : Method} {c : Code} {D : va_G} {Rs : va_W} {cA cR cL : ClassId} {ro la cap wd : Nat → Nat} {A : Nat → Prop} (hx : p.tables.exec = Jvm.exec) (hb : c.code = b_X0_increment) (hr : meth.sig.returnType = none) (hml : c.maxLocals = 2) (hown : s.vm.findClass R_Row = some m.cls) (hts : ∀ w ∈ gw, w.before args s = true) (hlocks : meth.locks = false) (hA : ∀ q : Nat, s.heap.size ≤ q → A q) (hK : va_K D cls0 (ty3 cA cR cL) s) (hw : rwOk cap wd) {i : Nat} (hi : i < 64) : ∀ (n : Nat) (k : Nat) (F : Nat → Nat → Int32), n = wd i - k → k < 1000 → ∀ (H : Heap) (locs : List Loc), va_P D cls0 (rw Rs cA ro la cap wd F) H → va_D A (rw Rs cA ro la cap wd F) → va_S A s.heap H locs → ∀ (ls : Array Slot), lv_has ls 2 [(0, .ref (ro i)), (1, .int (nI k))] → W p l e ({ frames := 0, cells := 0, slots := 0, locals := 0 }) s m args below meth c H locs 0 0 (MQ below (xQ (none) (xB D cls0 A (fun w => w = rw Rs cA ro la cap wd (gInc i n k F))) A) args s 0 0 A) (F0 m 2 ls []) := by
  intro n
  induction n with
  | zero =>
    intro k F hn hk H locs hP hD hS ls hl
    have hwi := hw i hi
    refine lv_iload_n hx hb d_X0_increment_2 rfl (lv_at hl 1 rfl) ?_
    refine lv_aload_n hx hb d_X0_increment_3 rfl (lv_at hl 0 rfl) ?_
    refine c_getW hx hb hts hown hK hP (i := i) hi d_X0_increment_4 ?_
    refine n_icmp_ge (tgt := 36) hx hb d_X0_increment_7 (by decide) (by omega) (by omega) (fun c_1 => ?_) (fun c_1 => ?_)
    rotate_left
    · exact absurd c_1 (by omega)
    exact x_vret hx hb hr hlocks hP hD hS d_X0_increment_36 rfl rfl
  | succ n ih =>
    intro k F hn hk H locs hP hD hS ls hl
    have hwi := hw i hi
    refine lv_iload_n hx hb d_X0_increment_2 rfl (lv_at hl 1 rfl) ?_
    refine lv_aload_n hx hb d_X0_increment_3 rfl (lv_at hl 0 rfl) ?_
    refine c_getW hx hb hts hown hK hP (i := i) hi d_X0_increment_4 ?_
    refine n_icmp_ge (tgt := 36) hx hb d_X0_increment_7 (by decide) (by omega) (by omega) (fun c_1 => ?_) (fun c_1 => ?_)
    · exact absurd c_1 (by omega)
    refine lv_aload_n hx hb d_X0_increment_10 rfl (lv_at hl 0 rfl) ?_
    refine c_getL hx hb hts hown hK hP (i := i) hi d_X0_increment_11 ?_
    refine lv_iload_n hx hb d_X0_increment_14 rfl (lv_at hl 1 rfl) ?_
    refine lv_dup2_11 hx hb d_X0_increment_15 rfl rfl ?_
    have hq_16 := hw i hi
    refine c_ald hx hb hK hP (i := i) (k := k) hi (by omega) (by omega) d_X0_increment_16 ?_
    refine lv_iconst (v := nI 1) hx hb d_X0_increment_17 (by decide) ?_
    refine lv_iadd hx hb d_X0_increment_18 ?_
    have hq_19 := hw i hi
    refine c_ast hx hb hK hP hD hS (i := i) (k := k) (x := (F i k) + (nI 1)) hi (by omega) (by omega) d_X0_increment_19 (fun H locs hP hD hS => ?_)
    refine lv_aload_n hx hb d_X0_increment_20 rfl (lv_at hl 0 rfl) ?_
    refine c_getL hx hb hts hown hK hP (i := i) hi d_X0_increment_21 ?_
    refine lv_iload_n hx hb d_X0_increment_24 rfl (lv_at hl 1 rfl) ?_
    have hq_25 := hw i hi
    refine c_ald hx hb hK hP (i := i) (k := k) hi (by omega) (by omega) d_X0_increment_25 ?_
    refine lv_if_eq (tgt := 30) hx hb d_X0_increment_26 (by decide) (fun c_2 => ?_) (fun c_2 => ?_)
    · refine n_iinc (lv' := [(1, .int (nI (k + 1))), (0, .ref (ro i))]) hx hb d_X0_increment_30 hl (k := 1) rfl (by decide) rfl (fun ls hl => ?_)
      refine lv_goto (tgt := 2) hx hb d_X0_increment_33 (by decide) ?_
      rw [show gInc i (n + 1) k F = gInc i n (k + 1) (va_up F i (upd (F i) k (F i k + nI 1))) from if_pos c_2]
      exact ih (k + 1) _ (by omega) (by omega) H locs hP hD hS ls (lv_sub hl [1, 0] rfl)
    · exact x_vret hx hb hr hlocks hP hD hS d_X0_increment_29 rfl (by rw [show gInc i (n + 1) k F = va_up F i (upd (F i) k (F i k + nI 1)) from if_neg c_2])
abbrev w_X0_increment : List Cond := .code y_X0_increment b_X0_increment 2 (none) :: gw
set_option maxHeartbeats 800000 in
set_option maxRecDepth 100000 in
theorem c_X0_increment {l : Launch} {D : va_G} {Rs : va_W} {cA cR cL : ClassId} {ro la cap wd : Nat → Nat} {F : Nat → Nat → Int32} (hw : rwOk cap wd) {i : Nat} (hi : i < 64) : xC l y_X0_increment w_X0_increment ({ frames := 0, cells := 0, slots := 0, locals := 0 }) D cls0 (ty3 cA cR cL) [.ref (ro i)] (rw Rs cA ro la cap wd F) (none) (fun w => w = rw Rs cA ro la cap wd (gInc i (wd i) 0 F)) 0 0 := by
  refine xC.ofW (cc := b_X0_increment) (maxL := 2) (ret := none) (by decide) rfl (Nat.le_of_ble_eq_true rfl) ?_
  intro p e s m below meth c A ls _ hin hx hb hr hml hown hts hlocks hA hK hP hD hS hl
  have hts : ∀ w ∈ gw, w.before ([.ref (ro i)]).toArray s = true := fun w h => hts w (List.mem_cons_of_mem _ h)
  have hown : s.vm.findClass R_Row = some m.cls := hown
  have hl : lv_has ls 2 [(0, .ref (ro i))] := hl
  refine lv_iconst (v := nI 0) hx hb d_X0_increment_0 (by decide) ?_
  refine lv_istore_n (lv' := [(1, .int (nI 0)), (0, .ref (ro i))]) hx hb d_X0_increment_1 rfl hl (by decide) rfl (fun ls hl => ?_)
  exact lp_X0_increment hx hb hr hml hown hts hlocks hA hK hw hi (wd i) 0 F rfl (by omega) _ _ hP hD hS ls (lv_sub hl [1, 0] rfl)
set_option maxHeartbeats 800000 in
set_option maxRecDepth 100000 in
theorem lp_X0_keepLong {p : Program} {l : Launch} {e : Env} {s : State} {m : MethodId} {args : Array Value} {below : List Frame} {meth : Method} {c : Code} {D : va_G} {Rs : va_W} {cA cR cL : ClassId} {ro la cap wd : Nat → Nat} {A : Nat → Prop} (hx : p.tables.exec = Jvm.exec) (hb : c.code = b_X0_keepLong) (hr : meth.sig.returnType = some .boolean) (hml : c.maxLocals = 6) (hown : s.vm.findClass R_Row = some m.cls) (hts : ∀ w ∈ gw, w.before args s = true) (hlocks : meth.locks = false) (hA : ∀ q : Nat, s.heap.size ≤ q → A q) (hK : va_K D cls0 (ty3 cA cR cL) s) (hw : rwOk cap wd) {i : Nat} (hi : i < 64) {v : Int64} : ∀ (n : Nat) (k : Nat) (r : Int64) (F : Nat → Nat → Int32), n = wd i - k → k < 1000 → ∀ (H : Heap) (locs : List Loc), va_P D cls0 (rw Rs cA ro la cap wd F) H → va_D A (rw Rs cA ro la cap wd F) → va_S A s.heap H locs → ∀ (ls : Array Slot), lv_has ls 6 [(0, .ref (ro i)), (1, .long v), (3, .long r), (5, .int (nI k))] → W p l e ({ frames := 0, cells := 0, slots := 0, locals := 0 }) s m args below meth c H locs 0 0 (MQ below (xQ (some (.int (rFitsL (wd i) v))) (xB D cls0 A (fun w => w = rw Rs cA ro la cap wd (gSet i n k r F))) A) args s 0 0 A) (F0 m 5 ls []) := by
  intro n
  induction n with
  | zero =>
    intro k r F hn hk H locs hP hD hS ls hl
    have hwi := hw i hi
    refine lv_iload hx hb d_X0_keepLong_5 (lv_at hl 3 rfl) ?_
    refine lv_aload_n hx hb d_X0_keepLong_7 rfl (lv_at hl 0 rfl) ?_
    refine c_getW hx hb hts hown hK hP (i := i) hi d_X0_keepLong_8 ?_
    refine n_icmp_ge (tgt := 34) hx hb d_X0_keepLong_11 (by decide) (by omega) (by omega) (fun c_1 => ?_) (fun c_1 => ?_)
    rotate_left
    · exact absurd c_1 (by omega)
    refine lv_aload_n hx hb d_X0_keepLong_34 rfl (lv_at hl 0 rfl) ?_
    refine c_getW hx hb hts hown hK hP (i := i) hi d_X0_keepLong_35 ?_
    refine lv_iconst (v := nI 1) hx hb d_X0_keepLong_38 (by decide) ?_
    refine n_icmp_gt (tgt := 50) hx hb d_X0_keepLong_39 (by decide) (by omega) (by omega) (fun c_2 => ?_) (fun c_2 => ?_)
    · refine lv_iconst (v := nI 1) hx hb d_X0_keepLong_50 (by decide) ?_
      refine lv_goto (tgt := 55) hx hb d_X0_keepLong_51 (by decide) ?_
      exact x_zret hx hb hr hlocks hP hD hS d_X0_keepLong_55 (by decide) (by unfold rFitsL; first | rw [if_pos (by omega)] | rw [if_neg (by omega), if_pos (by assumption)] | rw [if_neg (by omega), if_neg (by assumption)]) rfl
    · refine lv_lload_n hx hb d_X0_keepLong_42 rfl (lv_at hl 1 rfl) ?_
      refine lv_lload_n hx hb d_X0_keepLong_43 rfl (lv_at hl 1 rfl) ?_
      refine lv_l2i (v := v.toInt32) hx hb d_X0_keepLong_44 rfl ?_
      refine lv_i2l (v := v.toInt32.toInt64) hx hb d_X0_keepLong_45 rfl ?_
      refine W.lcmp hx hb d_X0_keepLong_46 ?_
      refine lv_if_ne (tgt := 54) hx hb d_X0_keepLong_47 (by decide) (fun c_3 => ?_) (fun c_3 => ?_)
      · refine lv_iconst (v := nI 0) hx hb d_X0_keepLong_54 (by decide) ?_
        exact x_zret hx hb hr hlocks hP hD hS d_X0_keepLong_55 (by decide) (by unfold rFitsL; first | rw [if_pos (by omega)] | rw [if_neg (by omega), if_pos (by assumption)] | rw [if_neg (by omega), if_neg (by assumption)]) rfl
      · refine lv_iconst (v := nI 1) hx hb d_X0_keepLong_50 (by decide) ?_
        refine lv_goto (tgt := 55) hx hb d_X0_keepLong_51 (by decide) ?_
        exact x_zret hx hb hr hlocks hP hD hS d_X0_keepLong_55 (by decide) (by unfold rFitsL; first | rw [if_pos (by omega)] | rw [if_neg (by omega), if_pos (by assumption)] | rw [if_neg (by omega), if_neg (by assumption)]) rfl
  | succ n ih =>
    intro k r F hn hk H locs hP hD hS ls hl
    have hwi := hw i hi
    refine lv_iload hx hb d_X0_keepLong_5 (lv_at hl 3 rfl) ?_
    refine lv_aload_n hx hb d_X0_keepLong_7 rfl (lv_at hl 0 rfl) ?_
    refine c_getW hx hb hts hown hK hP (i := i) hi d_X0_keepLong_8 ?_
    refine n_icmp_ge (tgt := 34) hx hb d_X0_keepLong_11 (by decide) (by omega) (by omega) (fun c_1 => ?_) (fun c_1 => ?_)
    · exact absurd c_1 (by omega)
    refine lv_aload_n hx hb d_X0_keepLong_14 rfl (lv_at hl 0 rfl) ?_
    refine c_getL hx hb hts hown hK hP (i := i) hi d_X0_keepLong_15 ?_
    refine lv_iload hx hb d_X0_keepLong_18 (lv_at hl 3 rfl) ?_
    refine lv_lload_n hx hb d_X0_keepLong_20 rfl (lv_at hl 2 rfl) ?_
    refine lv_l2i (v := r.toInt32) hx hb d_X0_keepLong_21 rfl ?_
    have hq_22 := hw i hi
    refine c_ast hx hb hK hP hD hS (i := i) (k := k) (x := r.toInt32) hi (by omega) (by omega) d_X0_keepLong_22 (fun H locs hP hD hS => ?_)
    refine lv_lload_n hx hb d_X0_keepLong_23 rfl (lv_at hl 2 rfl) ?_
    refine lv_bipush (v := nI 32) hx hb d_X0_keepLong_24 (by decide) ?_
    refine lv_lshr (v := j_lr r (nI 32)) hx hb d_X0_keepLong_26 rfl ?_
    refine lv_topl (fun v_2 ev_2 => ?_)
    refine lv_lstore_n (lv' := [(3, .long v_2), (0, .ref (ro i)), (1, .long v), (5, .int (nI k))]) hx hb d_X0_keepLong_27 rfl hl (by decide) rfl (fun ls hl => ?_)
    refine n_iinc (lv' := [(5, .int (nI (k + 1))), (3, .long v_2), (0, .ref (ro i)), (1, .long v)]) hx hb d_X0_keepLong_28 hl (k := 3) rfl (by decide) rfl (fun ls hl => ?_)
    refine lv_goto (tgt := 5) hx hb d_X0_keepLong_31 (by decide) ?_
    subst ev_2
    exact ih (k + 1) _ _ (by omega) (by omega) H locs hP hD hS ls (lv_sub hl [2, 3, 1, 0] rfl)
abbrev w_X0_keepLong : List Cond := .code y_X0_keepLong b_X0_keepLong 6 (some .boolean) :: gw
set_option maxHeartbeats 800000 in
set_option maxRecDepth 100000 in
theorem c_X0_keepLong {l : Launch} {D : va_G} {Rs : va_W} {cA cR cL : ClassId} {ro la cap wd : Nat → Nat} {F : Nat → Nat → Int32} (hw : rwOk cap wd) {i : Nat} (hi : i < 64) (v : Int64) : xC l y_X0_keepLong w_X0_keepLong ({ frames := 0, cells := 0, slots := 0, locals := 0 }) D cls0 (ty3 cA cR cL) [.ref (ro i), .long v] (rw Rs cA ro la cap wd F) (some (.int (rFitsL (wd i) v))) (fun w => w = rw Rs cA ro la cap wd (gSet i (wd i) 0 v F)) 0 0 := by
  refine xC.ofW (cc := b_X0_keepLong) (maxL := 6) (ret := some .boolean) (by decide) rfl (Nat.le_of_ble_eq_true rfl) ?_
  intro p e s m below meth c A ls _ hin hx hb hr hml hown hts hlocks hA hK hP hD hS hl
  have hts : ∀ w ∈ gw, w.before ([.ref (ro i), .long v]).toArray s = true := fun w h => hts w (List.mem_cons_of_mem _ h)
  have hown : s.vm.findClass R_Row = some m.cls := hown
  have hl : lv_has ls 6 [(0, .ref (ro i)), (1, .long v)] := hl
  refine lv_lload_n hx hb d_X0_keepLong_0 rfl (lv_at hl 1 rfl) ?_
  refine lv_lstore_n (lv' := [(3, .long v), (0, .ref (ro i)), (1, .long v)]) hx hb d_X0_keepLong_1 rfl hl (by decide) rfl (fun ls hl => ?_)
  refine lv_iconst (v := nI 0) hx hb d_X0_keepLong_2 (by decide) ?_
  refine lv_istore (lv' := [(5, .int (nI 0)), (3, .long v), (0, .ref (ro i)), (1, .long v)]) hx hb d_X0_keepLong_3 hl (by decide) rfl (fun ls hl => ?_)
  exact lp_X0_keepLong hx hb hr hml hown hts hlocks hA hK hw hi (wd i) 0 v F rfl (by omega) _ _ hP hD hS ls (lv_sub hl [2, 3, 1, 0] rfl)
set_option maxHeartbeats 800000 in
set_option maxRecDepth 100000 in
theorem lp_X0_keepRow {p : Program} {l : Launch} {e : Env} {s : State} {m : MethodId} {args : Array Value} {below : List Frame} {meth : Method} {c : Code} {D : va_G} {Rs : va_W} {cA cR cL : ClassId} {ro la cap wd : Nat → Nat} {A : Nat → Prop} (hx : p.tables.exec = Jvm.exec) (hb : c.code = b_X0_keepRow) (hr : meth.sig.returnType = some .boolean) (hml : c.maxLocals = 4) (hown : s.vm.findClass R_Row = some m.cls) (hts : ∀ w ∈ gw, w.before args s = true) (hlocks : meth.locks = false) (hA : ∀ q : Nat, s.heap.size ≤ q → A q) (hK : va_K D cls0 (ty3 cA cR cL) s) (hw : rwOk cap wd) {i j : Nat} (hi : i < 64) (hj : j < 64) {b : Int32} (hbb : narrow .boolean (.int b) = .int b) : ∀ (n : Nat) (k : Nat) (F : Nat → Nat → Int32), n = wd i - k → k < 1000 → ∀ (H : Heap) (locs : List Loc), va_P D cls0 (rw Rs cA ro la cap wd F) H → va_D A (rw Rs cA ro la cap wd F) → va_S A s.heap H locs → ∀ (ls : Array Slot), lv_has ls 4 [(0, .ref (ro i)), (1, .ref (ro j)), (2, .int b), (3, .int (nI k))] → W p l e ({ frames := 2, cells := 0, slots := 0, locals := 44 }) s m args below meth c H locs 0 0 (MQ below (xQ (some (.int b)) (xB D cls0 A (fun w => w = rw Rs cA ro la cap wd (gCopy i j (wd j) n k F))) A) args s 0 0 A) (F0 m 11 ls []) := by
  intro n
  induction n with
  | zero =>
    intro k F hn hk H locs hP hD hS ls hl
    have hwi := hw i hi
    refine lv_iload_n hx hb d_X0_keepRow_11 rfl (lv_at hl 3 rfl) ?_
    refine lv_aload_n hx hb d_X0_keepRow_12 rfl (lv_at hl 0 rfl) ?_
    refine c_getW hx hb hts hown hK hP (i := i) hi d_X0_keepRow_13 ?_
    refine n_icmp_ge (tgt := 36) hx hb d_X0_keepRow_16 (by decide) (by omega) (by omega) (fun c_1 => ?_) (fun c_1 => ?_)
    rotate_left
    · exact absurd c_1 (by omega)
    refine lv_iload_n hx hb d_X0_keepRow_36 rfl (lv_at hl 2 rfl) ?_
    exact x_zret hx hb hr hlocks hP hD hS d_X0_keepRow_37 hbb rfl rfl
  | succ n ih =>
    intro k F hn hk H locs hP hD hS ls hl
    have hwi := hw i hi
    refine lv_iload_n hx hb d_X0_keepRow_11 rfl (lv_at hl 3 rfl) ?_
    refine lv_aload_n hx hb d_X0_keepRow_12 rfl (lv_at hl 0 rfl) ?_
    refine c_getW hx hb hts hown hK hP (i := i) hi d_X0_keepRow_13 ?_
    refine n_icmp_ge (tgt := 36) hx hb d_X0_keepRow_16 (by decide) (by omega) (by omega) (fun c_1 => ?_) (fun c_1 => ?_)
    · exact absurd c_1 (by omega)
    refine lv_aload_n hx hb d_X0_keepRow_19 rfl (lv_at hl 0 rfl) ?_
    refine c_getL hx hb hts hown hK hP (i := i) hi d_X0_keepRow_20 ?_
    refine lv_iload_n hx hb d_X0_keepRow_23 rfl (lv_at hl 3 rfl) ?_
    refine lv_aload_n hx hb d_X0_keepRow_24 rfl (lv_at hl 1 rfl) ?_
    refine lv_iload_n hx hb d_X0_keepRow_25 rfl (lv_at hl 3 rfl) ?_
    refine x_callR (st1 := [.int (rAt (wd j) (F j) (nI k)), .int (nI k), .ref (la i)]) (x_runV (As := [.int (nI k)]) (rest := [.int (nI k), .ref (la i)]) (nL := 4) ⟨hx, hb, hml, hown, hts⟩ (c_X0_limbAt hw hj (nI k) _) (cwV 1 hts (gw_V k_195 k_197 k_4 k_51 k_198) rfl rfl rfl (by decide +kernel) ⟨Nat.le_of_ble_eq_true rfl, Nat.le_of_ble_eq_true rfl⟩) hK hP hD _ 0 (rw_row hj) rfl rfl hl.1 rfl (Nat.le_of_ble_eq_true rfl) d_X0_keepRow_26 ⟨Nat.zero_le _, Nat.zero_le _⟩) rfl ?_
    have hq_29 := hw i hi
    refine c_ast hx hb hK hP hD hS (i := i) (k := k) (x := rAt (wd j) (F j) (nI k)) hi (by omega) (by omega) d_X0_keepRow_29 (fun H locs hP hD hS => ?_)
    refine n_iinc (lv' := [(3, .int (nI (k + 1))), (0, .ref (ro i)), (1, .ref (ro j)), (2, .int b)]) hx hb d_X0_keepRow_30 hl (k := 3) rfl (by decide) rfl (fun ls hl => ?_)
    refine lv_goto (tgt := 11) hx hb d_X0_keepRow_33 (by decide) ?_
    exact ih (k + 1) _ (by omega) (by omega) H locs hP hD hS ls (lv_sub hl [1, 2, 3, 0] rfl)
abbrev w_X0_keepRow : List Cond := .code y_X0_keepRow b_X0_keepRow 4 (some .boolean) :: gw
set_option maxHeartbeats 800000 in
set_option maxRecDepth 100000 in
theorem c_X0_keepRow {l : Launch} {D : va_G} {Rs : va_W} {cA cR cL : ClassId} {ro la cap wd : Nat → Nat} {F : Nat → Nat → Int32} (hw : rwOk cap wd) {i j : Nat} (hi : i < 64) (hj : j < 64) : xC l y_X0_keepRow w_X0_keepRow ({ frames := 2, cells := 0, slots := 0, locals := 44 }) D cls0 (ty3 cA cR cL) [.ref (ro i), .ref (ro j)] (rw Rs cA ro la cap wd F) (some (.int (rFit (wd j) (F j) (wd i)))) (fun w => w = rw Rs cA ro la cap wd (gCopy i j (wd j) (wd i) 0 F)) 0 0 := by
  refine xC.ofW (cc := b_X0_keepRow) (maxL := 4) (ret := some .boolean) (by decide) rfl (Nat.le_of_ble_eq_true rfl) ?_
  intro p e s m below meth c A ls _ hin hx hb hr hml hown hts hlocks hA hK hP hD hS hl
  have hts : ∀ w ∈ gw, w.before ([.ref (ro i), .ref (ro j)]).toArray s = true := fun w h => hts w (List.mem_cons_of_mem _ h)
  have hown : s.vm.findClass R_Row = some m.cls := hown
  have hl : lv_has ls 4 [(0, .ref (ro i)), (1, .ref (ro j))] := hl
  have hwi := hw i hi
  refine lv_aload_n hx hb d_X0_keepRow_0 rfl (lv_at hl 1 rfl) ?_
  refine lv_aload_n hx hb d_X0_keepRow_1 rfl (lv_at hl 0 rfl) ?_
  refine c_getW hx hb hts hown hK hP (i := i) hi d_X0_keepRow_2 ?_
  refine x_callR (st1 := [.int (rFit (wd j) (F j) (wd i))]) (x_runV (As := [.int (nI (wd i))]) (rest := []) (nL := 4) ⟨hx, hb, hml, hown, hts⟩ (c_X0_fitsIn hw hj (z := wd i) (by omega) _) (cwV 1 hts (gw_V k_191 k_193 k_3 k_51 k_194) rfl rfl rfl (by decide +kernel) ⟨Nat.le_of_ble_eq_true rfl, Nat.le_of_ble_eq_true rfl⟩) hK hP hD _ 0 (rw_row hj) rfl rfl hl.1 rfl (Nat.le_of_ble_eq_true rfl) d_X0_keepRow_5 ⟨Nat.zero_le _, Nat.zero_le _⟩) rfl ?_
  refine lv_topi (fun v_1 ev_1 => ?_)
  refine lv_istore_n (lv' := [(2, .int v_1), (0, .ref (ro i)), (1, .ref (ro j))]) hx hb d_X0_keepRow_8 rfl hl (by decide) rfl (fun ls hl => ?_)
  refine lv_iconst (v := nI 0) hx hb d_X0_keepRow_9 (by decide) ?_
  refine lv_istore_n (lv' := [(3, .int (nI 0)), (2, .int v_1), (0, .ref (ro i)), (1, .ref (ro j))]) hx hb d_X0_keepRow_10 rfl hl (by decide) rfl (fun ls hl => ?_)
  subst ev_1
  exact lp_X0_keepRow hx hb hr hml hown hts hlocks hA hK hw hi hj (rFitL_b _ _ _ _) (wd i) 0 F rfl (by omega) _ _ hP hD hS ls (lv_sub hl [2, 3, 1, 0] rfl)
set_option maxHeartbeats 800000 in
set_option maxRecDepth 100000 in
theorem lp_X0_addLimbs {p : Program} {l : Launch} {e : Env} {s : State} {m : MethodId} {args : Array Value} {below : List Frame} {meth : Method} {c : Code} {D : va_G} {Rs : va_W} {cA cR cL : ClassId} {ro la cap wd : Nat → Nat} {A : Nat → Prop} (hx : p.tables.exec = Jvm.exec) (hb : c.code = b_X0_addLimbs) (hr : meth.sig.returnType = none) (hml : c.maxLocals = 9) (hown : s.vm.findClass R_Row = some m.cls) (hts : ∀ w ∈ gw, w.before args s = true) (hlocks : meth.locks = false) (hA : ∀ q : Nat, s.heap.size ≤ q → A q) (hK : va_K D cls0 (ty3 cA cR cL) s) (hw : rwOk cap wd) {i j st : Nat} (hi : i < 64) (hj : j < 64) {fl : Int32} : ∀ (n : Nat) (k : Nat) (cy : Int64) (F : Nat → Nat → Int32), n = wd i - k → st ≤ k ∧ k < 1000 → ∀ (H : Heap) (locs : List Loc), va_P D cls0 (rw Rs cA ro la cap wd F) H → va_D A (rw Rs cA ro la cap wd F) → va_S A s.heap H locs → ∀ (ls : Array Slot), lv_has ls 9 [(0, .ref (ro i)), (1, .int (nI st)), (2, .ref (ro j)), (3, .int fl), (4, .long cy), (6, .int (nI k))] → W p l e ({ frames := 1, cells := 0, slots := 0, locals := 21 }) s m args below meth c H locs 0 0 (MQ below (xQ (none) (xB D cls0 A (fun w => w = rw Rs cA ro la cap wd (gAdd i j (wd j) st fl n k cy F))) A) args s 0 0 A) (F0 m 9 ls []) := by
  intro n
  induction n with
  | zero =>
    intro k cy F hn hk H locs hP hD hS ls hl
    have hwi := hw i hi
    refine lv_iload hx hb d_X0_addLimbs_9 (lv_at hl 5 rfl) ?_
    refine lv_aload_n hx hb d_X0_addLimbs_11 rfl (lv_at hl 0 rfl) ?_
    refine c_getW hx hb hts hown hK hP (i := i) hi d_X0_addLimbs_12 ?_
    refine n_icmp_ge (tgt := 70) hx hb d_X0_addLimbs_15 (by decide) (by omega) (by omega) (fun c_1 => ?_) (fun c_1 => ?_)
    rotate_left
    · exact absurd c_1 (by omega)
    exact x_vret hx hb hr hlocks hP hD hS d_X0_addLimbs_70 rfl rfl
  | succ n ih =>
    intro k cy F hn hk H locs hP hD hS ls hl
    have hwi := hw i hi
    refine lv_iload hx hb d_X0_addLimbs_9 (lv_at hl 5 rfl) ?_
    refine lv_aload_n hx hb d_X0_addLimbs_11 rfl (lv_at hl 0 rfl) ?_
    refine c_getW hx hb hts hown hK hP (i := i) hi d_X0_addLimbs_12 ?_
    refine n_icmp_ge (tgt := 70) hx hb d_X0_addLimbs_15 (by decide) (by omega) (by omega) (fun c_1 => ?_) (fun c_1 => ?_)
    · exact absurd c_1 (by omega)
    refine lv_aload_n hx hb d_X0_addLimbs_18 rfl (lv_at hl 0 rfl) ?_
    refine c_getL hx hb hts hown hK hP (i := i) hi d_X0_addLimbs_19 ?_
    refine lv_iload hx hb d_X0_addLimbs_22 (lv_at hl 5 rfl) ?_
    have hq_24 := hw i hi
    refine c_ald hx hb hK hP (i := i) (k := k) hi (by omega) (by omega) d_X0_addLimbs_24 ?_
    refine x_callR (st1 := [.long (rUn (F i k))]) (x_runS (As := [.int (F i k)]) (rest := []) (nL := 9) ⟨hx, hb, hml, hown, hts⟩ (c_X0_unsigned hw (F i k) _) (cwS 1 hts (gw_S k_275 k_276 k_51 k_277) rfl rfl rfl (by decide +kernel) ⟨Nat.le_of_ble_eq_true rfl, Nat.le_of_ble_eq_true rfl⟩) hK hP hD rfl hl.1 rfl (Nat.le_of_ble_eq_true rfl) d_X0_addLimbs_25 ⟨Nat.zero_le _, Nat.zero_le _⟩) rfl ?_
    refine lv_aload_n hx hb d_X0_addLimbs_28 rfl (lv_at hl 2 rfl) ?_
    refine lv_iload hx hb d_X0_addLimbs_29 (lv_at hl 5 rfl) ?_
    refine lv_iload_n hx hb d_X0_addLimbs_31 rfl (lv_at hl 1 rfl) ?_
    refine n_isub hx hb d_X0_addLimbs_32 (by omega) ?_
    refine x_callR (st1 := [.int (rAt (wd j) (F j) (nI (k - st))), .long (rUn (F i k))]) (x_runV (As := [.int (nI (k - st))]) (rest := [.long (rUn (F i k))]) (nL := 9) ⟨hx, hb, hml, hown, hts⟩ (c_X0_limbAt hw hj (nI (k - st)) _) (cwV 1 hts (gw_V k_195 k_197 k_4 k_51 k_198) rfl rfl rfl (by decide +kernel) ⟨Nat.le_of_ble_eq_true rfl, Nat.le_of_ble_eq_true rfl⟩) hK hP hD _ 0 (rw_row hj) rfl rfl hl.1 rfl (Nat.le_of_ble_eq_true rfl) d_X0_addLimbs_33 ⟨Nat.zero_le _, Nat.zero_le _⟩) rfl ?_
    refine lv_iload_n hx hb d_X0_addLimbs_36 rfl (lv_at hl 3 rfl) ?_
    refine lv_ixor hx hb d_X0_addLimbs_37 ?_
    refine x_callR (st1 := [.long (rUn ((rAt (wd j) (F j) (nI (k - st))) ^^^ fl)), .long (rUn (F i k))]) (x_runS (As := [.int ((rAt (wd j) (F j) (nI (k - st))) ^^^ fl)]) (rest := [.long (rUn (F i k))]) (nL := 9) ⟨hx, hb, hml, hown, hts⟩ (c_X0_unsigned hw ((rAt (wd j) (F j) (nI (k - st))) ^^^ fl) _) (cwS 1 hts (gw_S k_275 k_276 k_51 k_277) rfl rfl rfl (by decide +kernel) ⟨Nat.le_of_ble_eq_true rfl, Nat.le_of_ble_eq_true rfl⟩) hK hP hD rfl hl.1 rfl (Nat.le_of_ble_eq_true rfl) d_X0_addLimbs_38 ⟨Nat.zero_le _, Nat.zero_le _⟩) rfl ?_
    refine lv_ladd hx hb d_X0_addLimbs_41 ?_
    refine lv_lload hx hb d_X0_addLimbs_42 (lv_at hl 4 rfl) ?_
    refine lv_ladd hx hb d_X0_addLimbs_44 ?_
    refine lv_lstore (lv' := [(7, .long (sAdd i j (wd j) st fl k cy F)), (0, .ref (ro i)), (1, .int (nI st)), (2, .ref (ro j)), (3, .int fl), (4, .long cy), (6, .int (nI k))]) hx hb d_X0_addLimbs_45 hl (by decide) rfl (fun ls hl => ?_)
    refine lv_aload_n hx hb d_X0_addLimbs_47 rfl (lv_at hl 1 rfl) ?_
    refine c_getL hx hb hts hown hK hP (i := i) hi d_X0_addLimbs_48 ?_
    refine lv_iload hx hb d_X0_addLimbs_51 (lv_at hl 6 rfl) ?_
    refine lv_lload hx hb d_X0_addLimbs_53 (lv_at hl 0 rfl) ?_
    refine lv_l2i (v := (sAdd i j (wd j) st fl k cy F).toInt32) hx hb d_X0_addLimbs_55 rfl ?_
    have hq_56 := hw i hi
    refine c_ast hx hb hK hP hD hS (i := i) (k := k) (x := (sAdd i j (wd j) st fl k cy F).toInt32) hi (by omega) (by omega) d_X0_addLimbs_56 (fun H locs hP hD hS => ?_)
    refine lv_lload hx hb d_X0_addLimbs_57 (lv_at hl 0 rfl) ?_
    refine lv_bipush (v := nI 32) hx hb d_X0_addLimbs_59 (by decide) ?_
    refine lv_lushr (v := j_lu (sAdd i j (wd j) st fl k cy F) (nI 32)) hx hb d_X0_addLimbs_61 rfl ?_
    refine lv_lstore (lv' := [(4, .long (j_lu (sAdd i j (wd j) st fl k cy F) (nI 32))), (7, .long (sAdd i j (wd j) st fl k cy F)), (0, .ref (ro i)), (1, .int (nI st)), (2, .ref (ro j)), (3, .int fl), (6, .int (nI k))]) hx hb d_X0_addLimbs_62 hl (by decide) rfl (fun ls hl => ?_)
    refine n_iinc (lv' := [(6, .int (nI (k + 1))), (4, .long (j_lu (sAdd i j (wd j) st fl k cy F) (nI 32))), (7, .long (sAdd i j (wd j) st fl k cy F)), (0, .ref (ro i)), (1, .int (nI st)), (2, .ref (ro j)), (3, .int fl)]) hx hb d_X0_addLimbs_64 hl (k := 6) rfl (by decide) rfl (fun ls hl => ?_)
    refine lv_goto (tgt := 9) hx hb d_X0_addLimbs_67 (by decide) ?_
    exact ih (k + 1) _ _ (by omega) (by omega) H locs hP hD hS ls (lv_sub hl [3, 4, 5, 6, 1, 0] rfl)
abbrev w_X0_addLimbs : List Cond := .code y_X0_addLimbs b_X0_addLimbs 9 (none) :: gw
set_option maxHeartbeats 800000 in
set_option maxRecDepth 100000 in
theorem c_X0_addLimbs {l : Launch} {D : va_G} {Rs : va_W} {cA cR cL : ClassId} {ro la cap wd : Nat → Nat} {F : Nat → Nat → Int32} (hw : rwOk cap wd) {i j : Nat} (hi : i < 64) (hj : j < 64) {st : Nat} (hst : st < 1000) (fl : Int32) : xC l y_X0_addLimbs w_X0_addLimbs ({ frames := 1, cells := 0, slots := 0, locals := 21 }) D cls0 (ty3 cA cR cL) [.ref (ro i), .int (nI st), .ref (ro j), .int fl] (rw Rs cA ro la cap wd F) (none) (fun w => w = rw Rs cA ro la cap wd (gAdd i j (wd j) st fl (wd i - st) st (fl &&& nI 1).toInt64 F)) 0 0 := by
  refine xC.ofW (cc := b_X0_addLimbs) (maxL := 9) (ret := none) (by decide) rfl (Nat.le_of_ble_eq_true rfl) ?_
  intro p e s m below meth c A ls _ hin hx hb hr hml hown hts hlocks hA hK hP hD hS hl
  have hts : ∀ w ∈ gw, w.before ([.ref (ro i), .int (nI st), .ref (ro j), .int fl]).toArray s = true := fun w h => hts w (List.mem_cons_of_mem _ h)
  have hown : s.vm.findClass R_Row = some m.cls := hown
  have hl : lv_has ls 9 [(0, .ref (ro i)), (1, .int (nI st)), (2, .ref (ro j)), (3, .int fl)] := hl
  refine lv_iload_n hx hb d_X0_addLimbs_0 rfl (lv_at hl 3 rfl) ?_
  refine lv_iconst (v := nI 1) hx hb d_X0_addLimbs_1 (by decide) ?_
  refine lv_iand hx hb d_X0_addLimbs_2 ?_
  refine lv_i2l (v := (fl &&& (nI 1)).toInt64) hx hb d_X0_addLimbs_3 rfl ?_
  refine lv_lstore (lv' := [(4, .long ((fl &&& nI 1).toInt64)), (0, .ref (ro i)), (1, .int (nI st)), (2, .ref (ro j)), (3, .int fl)]) hx hb d_X0_addLimbs_4 hl (by decide) rfl (fun ls hl => ?_)
  refine lv_iload_n hx hb d_X0_addLimbs_6 rfl (lv_at hl 2 rfl) ?_
  refine lv_istore (lv' := [(6, .int (nI st)), (4, .long ((fl &&& nI 1).toInt64)), (0, .ref (ro i)), (1, .int (nI st)), (2, .ref (ro j)), (3, .int fl)]) hx hb d_X0_addLimbs_7 hl (by decide) rfl (fun ls hl => ?_)
  exact lp_X0_addLimbs hx hb hr hml hown hts hlocks hA hK hw hi hj (wd i - st) st _ F rfl (by omega) _ _ hP hD hS ls (lv_sub hl [2, 3, 4, 5, 1, 0] rfl)
