set_option maxHeartbeats 800000 in
set_option maxRecDepth 100000 in
theorem lp_X0_divideLimb {p : Program} {l : Launch} {e : Env} {s : State} {m : MethodId} {args : Array Value} {below : List Frame} {meth : Method} {c : Code} {D : va_G} {Rs : va_W} {cA cR cL : ClassId} {ro la cap wd : Nat → Nat} {A : Nat → Prop} (hx : p.tables.exec = Jvm.exec) (hb : c.code = b_X0_divideLimb) (hr : meth.sig.returnType = some .long) (hml : c.maxLocals = 10) (hown : s.vm.findClass R_Row = some m.cls) (hts : ∀ w ∈ gw, w.before args s = true) (hlocks : meth.locks = false) (hA : ∀ q : Nat, s.heap.size ≤ q → A q) (hK : va_K D cls0 (ty3 cA cR cL) s) (hw : rwOk cap wd) {i k : Nat} (hi : i < 64) (hk : k < wd i) {ab d : Int64} : ∀ (n : Nat) (r : Int64) (q : Int32) (F : Nat → Nat → Int32), n ≤ 32 → ∀ (H : Heap) (locs : List Loc), va_P D cls0 (rw Rs cA ro la cap wd F) H → va_D A (rw Rs cA ro la cap wd F) → va_S A s.heap H locs → ∀ (ls : Array Slot), lv_has ls 10 [(0, .ref (ro i)), (1, .int (nI k)), (2, .long ab), (4, .long d), (6, .long r), (8, .int q), (9, .int (nM n))] → W p l e ({ frames := 0, cells := 0, slots := 0, locals := 0 }) s m args below meth c H locs 0 0 (MQ below (xQ (some (.long (gDl (F i k) d n r q).1)) (xB D cls0 A (fun w => w = rw Rs cA ro la cap wd (va_up F i (upd (F i) k (gDl (F i k) d n r q).2)))) A) args s 0 0 A) (F0 m 10 ls []) := by
  intro n
  induction n with
  | zero =>
    intro r q F hn H locs hP hD hS ls hl
    have hwi := hw i hi
    rw [nM_0] at hl
    refine lv_iload hx hb d_X0_divideLimb_10 (lv_at hl 6 rfl) ?_
    refine lv_if_lt (tgt := 67) hx hb d_X0_divideLimb_12 (by decide) (fun c_1 => ?_) (fun c_1 => ?_)
    rotate_left
    · exact absurd (by decide) c_1
    refine lv_aload_n hx hb d_X0_divideLimb_67 rfl (lv_at hl 0 rfl) ?_
    refine c_getL hx hb hts hown hK hP (i := i) hi d_X0_divideLimb_68 ?_
    refine lv_iload_n hx hb d_X0_divideLimb_71 rfl (lv_at hl 1 rfl) ?_
    refine lv_iload hx hb d_X0_divideLimb_72 (lv_at hl 5 rfl) ?_
    have hq_74 := hw i hi
    refine c_ast hx hb hK hP hD hS (i := i) (k := k) (x := q) hi (by omega) (by omega) d_X0_divideLimb_74 (fun H locs hP hD hS => ?_)
    refine lv_lload hx hb d_X0_divideLimb_75 (lv_at hl 4 rfl) ?_
    exact x_lret hx hb hr hlocks hP hD hS d_X0_divideLimb_77 rfl rfl
  | succ n ih =>
    intro r q F hn H locs hP hD hS ls hl
    rw [nM_succ] at hl
    have hwi := hw i hi
    refine lv_iload hx hb d_X0_divideLimb_10 (lv_at hl 6 rfl) ?_
    refine n_if_lt (tgt := 67) hx hb d_X0_divideLimb_12 (by decide) (by omega) ?_
    refine lv_lload hx hb d_X0_divideLimb_15 (lv_at hl 4 rfl) ?_
    refine lv_iconst (v := nI 1) hx hb d_X0_divideLimb_17 (by decide) ?_
    refine lv_lshl (v := j_ll r (nI 1)) hx hb d_X0_divideLimb_18 rfl ?_
    refine lv_aload_n hx hb d_X0_divideLimb_19 rfl (lv_at hl 0 rfl) ?_
    refine c_getL hx hb hts hown hK hP (i := i) hi d_X0_divideLimb_20 ?_
    refine lv_iload_n hx hb d_X0_divideLimb_23 rfl (lv_at hl 1 rfl) ?_
    have hq_24 := hw i hi
    refine c_ald hx hb hK hP (i := i) (k := k) hi (by omega) (by omega) d_X0_divideLimb_24 ?_
    refine lv_iload hx hb d_X0_divideLimb_25 (lv_at hl 6 rfl) ?_
    refine lv_iushr (v := j_iu (F i k) (nI n)) hx hb d_X0_divideLimb_27 rfl ?_
    refine lv_iconst (v := nI 1) hx hb d_X0_divideLimb_28 (by decide) ?_
    refine lv_iand hx hb d_X0_divideLimb_29 ?_
    refine lv_i2l (v := ((j_iu (F i k) (nI n)) &&& (nI 1)).toInt64) hx hb d_X0_divideLimb_30 rfl ?_
    refine lv_lor hx hb d_X0_divideLimb_31 ?_
    refine lv_lstore (lv' := [(6, .long (j_ll r (nI 1) ||| (j_iu (F i k) (nI n) &&& nI 1).toInt64)), (0, .ref (ro i)), (1, .int (nI k)), (2, .long ab), (4, .long d), (8, .int q), (9, .int (nI n))]) hx hb d_X0_divideLimb_32 hl (by decide) rfl (fun ls hl => ?_)
    refine lv_iload hx hb d_X0_divideLimb_34 (lv_at hl 5 rfl) ?_
    refine lv_iconst (v := nI 1) hx hb d_X0_divideLimb_36 (by decide) ?_
    refine lv_ishl hx hb d_X0_divideLimb_37 ?_
    refine lv_istore (lv' := [(8, .int (q <<< (nI 1 &&& 31))), (6, .long (j_ll r (nI 1) ||| (j_iu (F i k) (nI n) &&& nI 1).toInt64)), (0, .ref (ro i)), (1, .int (nI k)), (2, .long ab), (4, .long d), (9, .int (nI n))]) hx hb d_X0_divideLimb_38 hl (by decide) rfl (fun ls hl => ?_)
    refine lv_lload hx hb d_X0_divideLimb_40 (lv_at hl 1 rfl) ?_
    refine lv_lload hx hb d_X0_divideLimb_42 (lv_at hl 5 rfl) ?_
    refine W.lcmp hx hb d_X0_divideLimb_44 ?_
    refine lv_if_lt (tgt := 61) hx hb d_X0_divideLimb_45 (by decide) (fun c_1 => ?_) (fun c_1 => ?_)
    · refine n_idec (lv' := [(9, .int (nM n)), (8, .int (q <<< (nI 1 &&& 31))), (6, .long (j_ll r (nI 1) ||| (j_iu (F i k) (nI n) &&& nI 1).toInt64)), (0, .ref (ro i)), (1, .int (nI k)), (2, .long ab), (4, .long d)]) hx hb d_X0_divideLimb_61 hl (k := 6) rfl (by decide) rfl (fun ls hl => ?_)
      refine lv_goto (tgt := 10) hx hb d_X0_divideLimb_64 (by decide) ?_
      rw [show gDl (F i k) d (n + 1) r q = gDl (F i k) d n (j_ll r (nI 1) ||| (j_iu (F i k) (nI n) &&& nI 1).toInt64) (q <<< (nI 1 &&& 31)) from if_pos c_1]
      exact ih _ _ F (by omega) H locs hP hD hS ls (lv_sub hl [3, 4, 5, 6, 2, 1, 0] rfl)
    · refine lv_lload hx hb d_X0_divideLimb_48 (lv_at hl 1 rfl) ?_
      refine lv_lload hx hb d_X0_divideLimb_50 (lv_at hl 5 rfl) ?_
      refine lv_lsub hx hb d_X0_divideLimb_52 ?_
      refine lv_lstore (lv' := [(6, .long ((j_ll r (nI 1) ||| (j_iu (F i k) (nI n) &&& nI 1).toInt64) - d)), (8, .int (q <<< (nI 1 &&& 31))), (0, .ref (ro i)), (1, .int (nI k)), (2, .long ab), (4, .long d), (9, .int (nI n))]) hx hb d_X0_divideLimb_53 hl (by decide) rfl (fun ls hl => ?_)
      refine lv_iload hx hb d_X0_divideLimb_55 (lv_at hl 1 rfl) ?_
      refine lv_iconst (v := nI 1) hx hb d_X0_divideLimb_57 (by decide) ?_
      refine lv_ior hx hb d_X0_divideLimb_58 ?_
      refine lv_istore (lv' := [(8, .int (q <<< (nI 1 &&& 31) ||| nI 1)), (6, .long ((j_ll r (nI 1) ||| (j_iu (F i k) (nI n) &&& nI 1).toInt64) - d)), (0, .ref (ro i)), (1, .int (nI k)), (2, .long ab), (4, .long d), (9, .int (nI n))]) hx hb d_X0_divideLimb_59 hl (by decide) rfl (fun ls hl => ?_)
      refine n_idec (lv' := [(9, .int (nM n)), (8, .int (q <<< (nI 1 &&& 31) ||| nI 1)), (6, .long ((j_ll r (nI 1) ||| (j_iu (F i k) (nI n) &&& nI 1).toInt64) - d)), (0, .ref (ro i)), (1, .int (nI k)), (2, .long ab), (4, .long d)]) hx hb d_X0_divideLimb_61 hl (k := 6) rfl (by decide) rfl (fun ls hl => ?_)
      refine lv_goto (tgt := 10) hx hb d_X0_divideLimb_64 (by decide) ?_
      rw [show gDl (F i k) d (n + 1) r q = gDl (F i k) d n ((j_ll r (nI 1) ||| (j_iu (F i k) (nI n) &&& nI 1).toInt64) - d) (q <<< (nI 1 &&& 31) ||| nI 1) from if_neg c_1]
      exact ih _ _ F (by omega) H locs hP hD hS ls (lv_sub hl [3, 4, 5, 6, 2, 1, 0] rfl)
abbrev w_X0_divideLimb : List Cond := .code y_X0_divideLimb b_X0_divideLimb 10 (some .long) :: gw
set_option maxHeartbeats 800000 in
set_option maxRecDepth 100000 in
theorem c_X0_divideLimb {l : Launch} {D : va_G} {Rs : va_W} {cA cR cL : ClassId} {ro la cap wd : Nat → Nat} {F : Nat → Nat → Int32} (hw : rwOk cap wd) {i : Nat} (hi : i < 64) {k : Nat} (hk : k < wd i) (ab d : Int64) : xC l y_X0_divideLimb w_X0_divideLimb ({ frames := 0, cells := 0, slots := 0, locals := 0 }) D cls0 (ty3 cA cR cL) [.ref (ro i), .int (nI k), .long ab, .long d] (rw Rs cA ro la cap wd F) (some (.long (gDl (F i k) d 32 ab (nI 0)).1)) (fun w => w = rw Rs cA ro la cap wd (va_up F i (upd (F i) k (gDl (F i k) d 32 ab (nI 0)).2))) 0 0 := by
  refine xC.ofW (cc := b_X0_divideLimb) (maxL := 10) (ret := some .long) (by decide) rfl (Nat.le_of_ble_eq_true rfl) ?_
  intro p e s m below meth c A ls _ hin hx hb hr hml hown hts hlocks hA hK hP hD hS hl
  have hts : ∀ w ∈ gw, w.before ([.ref (ro i), .int (nI k), .long ab, .long d]).toArray s = true := fun w h => hts w (List.mem_cons_of_mem _ h)
  have hown : s.vm.findClass R_Row = some m.cls := hown
  have hl : lv_has ls 10 [(0, .ref (ro i)), (1, .int (nI k)), (2, .long ab), (4, .long d)] := hl
  have hwi := hw i hi
  refine lv_lload_n hx hb d_X0_divideLimb_0 rfl (lv_at hl 2 rfl) ?_
  refine lv_lstore (lv' := [(6, .long ab), (0, .ref (ro i)), (1, .int (nI k)), (2, .long ab), (4, .long d)]) hx hb d_X0_divideLimb_1 hl (by decide) rfl (fun ls hl => ?_)
  refine lv_iconst (v := nI 0) hx hb d_X0_divideLimb_3 (by decide) ?_
  refine lv_istore (lv' := [(8, .int (nI 0)), (6, .long ab), (0, .ref (ro i)), (1, .int (nI k)), (2, .long ab), (4, .long d)]) hx hb d_X0_divideLimb_4 hl (by decide) rfl (fun ls hl => ?_)
  refine lv_bipush (v := nI 31) hx hb d_X0_divideLimb_6 (by decide) ?_
  refine lv_istore (lv' := [(9, .int (nI 31)), (8, .int (nI 0)), (6, .long ab), (0, .ref (ro i)), (1, .int (nI k)), (2, .long ab), (4, .long d)]) hx hb d_X0_divideLimb_8 hl (by decide) rfl (fun ls hl => ?_)
  rw [show nI 31 = nM 32 from (nM_succ 31).symm] at hl
  exact lp_X0_divideLimb hx hb hr hml hown hts hlocks hA hK hw hi hk 32 ab (nI 0) F (Nat.le_refl _) _ _ hP hD hS ls (lv_sub hl [3, 4, 5, 6, 2, 1, 0] rfl)
set_option maxHeartbeats 800000 in
set_option maxRecDepth 100000 in
theorem lp_X0_divideLimbs {p : Program} {l : Launch} {e : Env} {s : State} {m : MethodId} {args : Array Value} {below : List Frame} {meth : Method} {c : Code} {D : va_G} {Rs : va_W} {cA cR cL : ClassId} {ro la cap wd : Nat → Nat} {A : Nat → Prop} (hx : p.tables.exec = Jvm.exec) (hb : c.code = b_X0_divideLimbs) (hr : meth.sig.returnType = some .long) (hml : c.maxLocals = 6) (hown : s.vm.findClass R_Row = some m.cls) (hts : ∀ w ∈ gw, w.before args s = true) (hlocks : meth.locks = false) (hA : ∀ q : Nat, s.heap.size ≤ q → A q) (hK : va_K D cls0 (ty3 cA cR cL) s) (hw : rwOk cap wd) {i : Nat} (hi : i < 64) {d : Int64} : ∀ (n : Nat) (r : Int64) (F : Nat → Nat → Int32), n ≤ wd i → ∀ (H : Heap) (locs : List Loc), va_P D cls0 (rw Rs cA ro la cap wd F) H → va_D A (rw Rs cA ro la cap wd F) → va_S A s.heap H locs → ∀ (ls : Array Slot), lv_has ls 6 [(0, .ref (ro i)), (1, .long d), (3, .long r), (5, .int (nM n))] → W p l e ({ frames := 1, cells := 0, slots := 0, locals := 29 }) s m args below meth c H locs 0 0 (MQ below (xQ (some (.long (rDv i d n r F))) (xB D cls0 A (fun w => w = rw Rs cA ro la cap wd (gDv i d n r F))) A) args s 0 0 A) (F0 m 10 ls []) := by
  intro n
  induction n with
  | zero =>
    intro r F hn H locs hP hD hS ls hl
    have hwi := hw i hi
    rw [nM_0] at hl
    refine lv_iload hx hb d_X0_divideLimbs_10 (lv_at hl 3 rfl) ?_
    refine lv_if_lt (tgt := 30) hx hb d_X0_divideLimbs_12 (by decide) (fun c_1 => ?_) (fun c_1 => ?_)
    rotate_left
    · exact absurd (by decide) c_1
    refine lv_lload_n hx hb d_X0_divideLimbs_30 rfl (lv_at hl 2 rfl) ?_
    exact x_lret hx hb hr hlocks hP hD hS d_X0_divideLimbs_31 rfl rfl
  | succ n ih =>
    intro r F hn H locs hP hD hS ls hl
    rw [nM_succ] at hl
    have hwi := hw i hi
    refine lv_iload hx hb d_X0_divideLimbs_10 (lv_at hl 3 rfl) ?_
    refine n_if_lt (tgt := 30) hx hb d_X0_divideLimbs_12 (by decide) (by omega) ?_
    refine lv_aload_n hx hb d_X0_divideLimbs_15 rfl (lv_at hl 0 rfl) ?_
    refine lv_iload hx hb d_X0_divideLimbs_16 (lv_at hl 3 rfl) ?_
    refine lv_lload_n hx hb d_X0_divideLimbs_18 rfl (lv_at hl 2 rfl) ?_
    refine lv_lload_n hx hb d_X0_divideLimbs_19 rfl (lv_at hl 1 rfl) ?_
    refine x_call (st1 := [.long ((gDl (F i n) d 32 r (nI 0)).1)]) (x_runV (As := [.int (nI n), .long r, .long d]) (rest := []) (nL := 6) ⟨hx, hb, hml, hown, hts⟩ (c_X0_divideLimb hw hi (k := n) (by omega) r d _) (cwV 3 hts (gw_V k_439 k_441 k_28 k_51 k_442) rfl rfl rfl (by decide +kernel) ⟨Nat.le_of_ble_eq_true rfl, Nat.le_of_ble_eq_true rfl⟩) hK hP hD _ 0 (rw_row hi) rfl rfl hl.1 rfl (Nat.le_of_ble_eq_true rfl) d_X0_divideLimbs_20 ⟨Nat.zero_le _, Nat.zero_le _⟩) hS (x_sub hD hS hA) (x_sub hD hS hA) rfl (fun w1 H locs hY hP hD hS => ?_)
    subst hY
    refine lv_lstore_n (lv' := [(3, .long ((gDl (F i n) d 32 r (nI 0)).1)), (0, .ref (ro i)), (1, .long d), (5, .int (nI n))]) hx hb d_X0_divideLimbs_23 rfl hl (by decide) rfl (fun ls hl => ?_)
    refine n_idec (lv' := [(5, .int (nM n)), (3, .long ((gDl (F i n) d 32 r (nI 0)).1)), (0, .ref (ro i)), (1, .long d)]) hx hb d_X0_divideLimbs_24 hl (k := 3) rfl (by decide) rfl (fun ls hl => ?_)
    refine lv_goto (tgt := 10) hx hb d_X0_divideLimbs_27 (by decide) ?_
    exact ih _ _ (by omega) H locs hP hD hS ls (lv_sub hl [2, 3, 1, 0] rfl)
abbrev w_X0_divideLimbs : List Cond := .code y_X0_divideLimbs b_X0_divideLimbs 6 (some .long) :: gw
set_option maxHeartbeats 800000 in
set_option maxRecDepth 100000 in
theorem c_X0_divideLimbs {l : Launch} {D : va_G} {Rs : va_W} {cA cR cL : ClassId} {ro la cap wd : Nat → Nat} {F : Nat → Nat → Int32} (hw : rwOk cap wd) {i : Nat} (hi : i < 64) (d : Int64) : xC l y_X0_divideLimbs w_X0_divideLimbs ({ frames := 1, cells := 0, slots := 0, locals := 29 }) D cls0 (ty3 cA cR cL) [.ref (ro i), .long d] (rw Rs cA ro la cap wd F) (some (.long (rDv i d (wd i) 0 F))) (fun w => w = rw Rs cA ro la cap wd (gDv i d (wd i) 0 F)) 0 0 := by
  refine xC.ofW (cc := b_X0_divideLimbs) (maxL := 6) (ret := some .long) (by decide) rfl (Nat.le_of_ble_eq_true rfl) ?_
  intro p e s m below meth c A ls _ hin hx hb hr hml hown hts hlocks hA hK hP hD hS hl
  have hts : ∀ w ∈ gw, w.before ([.ref (ro i), .long d]).toArray s = true := fun w h => hts w (List.mem_cons_of_mem _ h)
  have hown : s.vm.findClass R_Row = some m.cls := hown
  have hl : lv_has ls 6 [(0, .ref (ro i)), (1, .long d)] := hl
  have hwi := hw i hi
  refine lv_lconst (v := 0) hx hb d_X0_divideLimbs_0 (by decide) ?_
  refine lv_lstore_n (lv' := [(3, .long 0), (0, .ref (ro i)), (1, .long d)]) hx hb d_X0_divideLimbs_1 rfl hl (by decide) rfl (fun ls hl => ?_)
  refine lv_aload_n hx hb d_X0_divideLimbs_2 rfl (lv_at hl 1 rfl) ?_
  refine c_getW hx hb hts hown hK hP (i := i) hi d_X0_divideLimbs_3 ?_
  refine lv_iconst (v := nI 1) hx hb d_X0_divideLimbs_6 (by decide) ?_
  refine n_isub hx hb d_X0_divideLimbs_7 (by omega) ?_
  refine lv_istore (lv' := [(5, .int (nI ((wd i) - 1))), (3, .long 0), (0, .ref (ro i)), (1, .long d)]) hx hb d_X0_divideLimbs_8 hl (by decide) rfl (fun ls hl => ?_)
  rw [← nM_pred hwi.1] at hl
  exact lp_X0_divideLimbs hx hb hr hml hown hts hlocks hA hK hw hi (wd i) 0 F (Nat.le_refl _) _ _ hP hD hS ls (lv_sub hl [2, 3, 1, 0] rfl)
abbrev w_X0_divideBy : List Cond := .code y_X0_divideBy b_X0_divideBy 5 (some .long) :: gw
set_option maxHeartbeats 800000 in
set_option maxRecDepth 100000 in
theorem c_X0_divideBy {l : Launch} {D : va_G} {Rs : va_W} {cA cR cL : ClassId} {ro la cap wd : Nat → Nat} {F : Nat → Nat → Int32} (hw : rwOk cap wd) {i : Nat} (hi : i < 64) (d : Int64) : xC l y_X0_divideBy w_X0_divideBy ({ frames := 2, cells := 0, slots := 0, locals := 54 }) D cls0 (ty3 cA cR cL) [.ref (ro i), .long d] (rw Rs cA ro la cap wd F) (some (.long (rDivB i (wd i) d F))) (fun w => w = rw Rs cA ro la cap wd (gDivB i (wd i) d F)) 0 0 := by
  refine xC.ofW (cc := b_X0_divideBy) (maxL := 5) (ret := some .long) (by decide) rfl (Nat.le_of_ble_eq_true rfl) ?_
  intro p e s m below meth c A ls _ hin hx hb hr hml hown hts hlocks hA hK hP hD hS hl
  have hts : ∀ w ∈ gw, w.before ([.ref (ro i), .long d]).toArray s = true := fun w h => hts w (List.mem_cons_of_mem _ h)
  have hown : s.vm.findClass R_Row = some m.cls := hown
  have hl : lv_has ls 5 [(0, .ref (ro i)), (1, .long d)] := hl
  refine lv_aload_n hx hb d_X0_divideBy_0 rfl (lv_at hl 0 rfl) ?_
  refine x_callR (st1 := [.int (rNeg (wd i) (F i))]) (x_runV (As := []) (rest := []) (nL := 5) ⟨hx, hb, hml, hown, hts⟩ (c_X0_isNegative hw hi _) (cwV 0 hts (gw_V k_283 k_285 k_10 k_51 k_286) rfl rfl rfl (by decide +kernel) ⟨Nat.le_of_ble_eq_true rfl, Nat.le_of_ble_eq_true rfl⟩) hK hP hD _ 0 (rw_row hi) rfl rfl hl.1 rfl (Nat.le_of_ble_eq_true rfl) d_X0_divideBy_1 ⟨Nat.zero_le _, Nat.zero_le _⟩) rfl ?_
  refine lv_if_ne (tgt := 13) hx hb d_X0_divideBy_4 (by decide) (fun c_1 => ?_) (fun c_1 => ?_)
  · refine lv_aload_n hx hb d_X0_divideBy_13 rfl (lv_at hl 0 rfl) ?_
    refine x_call (st1 := []) (x_runV (As := []) (rest := []) (nL := 5) ⟨hx, hb, hml, hown, hts⟩ (c_X0_complement hw hi _) (cwV 0 hts (gw_V k_338 k_340 k_16 k_51 k_341) rfl rfl rfl (by decide +kernel) ⟨Nat.le_of_ble_eq_true rfl, Nat.le_of_ble_eq_true rfl⟩) hK hP hD _ 0 (rw_row hi) rfl rfl hl.1 rfl (Nat.le_of_ble_eq_true rfl) d_X0_divideBy_14 ⟨Nat.zero_le _, Nat.zero_le _⟩) hS (x_sub hD hS hA) (x_sub hD hS hA) rfl (fun w1 H locs hY hP hD hS => ?_)
    subst hY
    refine lv_aload_n hx hb d_X0_divideBy_17 rfl (lv_at hl 0 rfl) ?_
    refine lv_lload_n hx hb d_X0_divideBy_18 rfl (lv_at hl 1 rfl) ?_
    refine x_call (st1 := [.long (rDv i d (wd i) 0 (gCpl i (wd i) 0 F))]) (x_runV (As := [.long d]) (rest := []) (nL := 5) ⟨hx, hb, hml, hown, hts⟩ (c_X0_divideLimbs hw hi d _) (cwV 1 hts (gw_V k_435 k_437 k_27 k_51 k_438) rfl rfl rfl (by decide +kernel) ⟨Nat.le_of_ble_eq_true rfl, Nat.le_of_ble_eq_true rfl⟩) hK hP hD _ 0 (rw_row hi) rfl rfl hl.1 rfl (Nat.le_of_ble_eq_true rfl) d_X0_divideBy_19 ⟨Nat.zero_le _, Nat.zero_le _⟩) hS (x_sub hD hS hA) (x_sub hD hS hA) rfl (fun w1 H locs hY hP hD hS => ?_)
    subst hY
    refine lv_lstore_n (lv' := [(3, .long (rDv i d (wd i) 0 (gCpl i (wd i) 0 F))), (0, .ref (ro i)), (1, .long d)]) hx hb d_X0_divideBy_22 rfl hl (by decide) rfl (fun ls hl => ?_)
    refine lv_aload_n hx hb d_X0_divideBy_23 rfl (lv_at hl 1 rfl) ?_
    refine x_call (st1 := []) (x_runV (As := []) (rest := []) (nL := 5) ⟨hx, hb, hml, hown, hts⟩ (c_X0_complement hw hi _) (cwV 0 hts (gw_V k_338 k_340 k_16 k_51 k_341) rfl rfl rfl (by decide +kernel) ⟨Nat.le_of_ble_eq_true rfl, Nat.le_of_ble_eq_true rfl⟩) hK hP hD _ 0 (rw_row hi) rfl rfl hl.1 rfl (Nat.le_of_ble_eq_true rfl) d_X0_divideBy_24 ⟨Nat.zero_le _, Nat.zero_le _⟩) hS (x_sub hD hS hA) (x_sub hD hS hA) rfl (fun w1 H locs hY hP hD hS => ?_)
    subst hY
    refine lv_lload_n hx hb d_X0_divideBy_27 rfl (lv_at hl 2 rfl) ?_
    refine lv_lconst (v := 1) hx hb d_X0_divideBy_28 (by decide) ?_
    refine lv_lsub hx hb d_X0_divideBy_29 ?_
    refine lv_lload_n hx hb d_X0_divideBy_30 rfl (lv_at hl 0 rfl) ?_
    refine lv_lsub hx hb d_X0_divideBy_31 ?_
    exact x_lret hx hb hr hlocks hP hD hS d_X0_divideBy_32 (by unfold rDivB; rw [if_neg c_1]) (by unfold gDivB; rw [if_neg c_1])
  · refine lv_aload_n hx hb d_X0_divideBy_7 rfl (lv_at hl 0 rfl) ?_
    refine lv_lload_n hx hb d_X0_divideBy_8 rfl (lv_at hl 1 rfl) ?_
    refine x_call (st1 := [.long (rDv i d (wd i) 0 F)]) (x_runV (As := [.long d]) (rest := []) (nL := 5) ⟨hx, hb, hml, hown, hts⟩ (c_X0_divideLimbs hw hi d _) (cwV 1 hts (gw_V k_435 k_437 k_27 k_51 k_438) rfl rfl rfl (by decide +kernel) ⟨Nat.le_of_ble_eq_true rfl, Nat.le_of_ble_eq_true rfl⟩) hK hP hD _ 0 (rw_row hi) rfl rfl hl.1 rfl (Nat.le_of_ble_eq_true rfl) d_X0_divideBy_9 ⟨Nat.zero_le _, Nat.zero_le _⟩) hS (x_sub hD hS hA) (x_sub hD hS hA) rfl (fun w1 H locs hY hP hD hS => ?_)
    subst hY
    exact x_lret hx hb hr hlocks hP hD hS d_X0_divideBy_12 (by unfold rDivB; rw [if_pos c_1]) (by unfold gDivB; rw [if_pos c_1])
