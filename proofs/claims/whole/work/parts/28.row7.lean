def gPrL (i j u wi wu : Nat) : Nat → Nat → (Nat → Nat → Int32) → Nat → Nat → Int32
  | 0, _, F => F
  | n + 1, k, F => gPrL i j u wi wu n (k + 1) (gMul i u wu k (rUn (F j k)) (wi - k) k 0 F)
/-- t: the bit length of row j's number -/
def gPrM (i j u wi wu t : Nat) (F : Nat → Nat → Int32) : Nat → Nat → Int32 := gPrL i j u wi wu (min (t / 32 + 1) wi) 0 F
def gPr (i j u wi wj wu t : Nat) (F : Nat → Nat → Int32) : Nat → Nat → Int32 :=
  if rNeg wj (gPrM i j u wi wu t F j) = 0 then gPrM i j u wi wu t F else gAdd i u wu (t / 32 + 1) (-1) (wi - (t / 32 + 1)) (t / 32 + 1) (-1 &&& nI 1).toInt64 (gPrM i j u wi wu t F)
def gSPr (i j u wi wj wu t : Nat) (F : Nat → Nat → Int32) : Nat → Nat → Int32 := gCpl i wi 0 (gPr i j u wi wj wu t (gCpl i wi 0 F))
def gPrT (i u wi wj wu nd j : Nat) (F : Nat → Nat → Int32) : Nat → Nat → Int32 := if rNeg wj (F j) = 0 then F else gAdd i u wu nd (-1) (wi - nd) nd (-1 &&& nI 1).toInt64 F
set_option maxHeartbeats 800000 in
set_option maxRecDepth 100000 in
theorem lp_X0_addProductOf {p : Program} {l : Launch} {e : Env} {s : State} {m : MethodId} {args : Array Value} {below : List Frame} {meth : Method} {c : Code} {D : va_G} {Rs : va_W} {cA cR cL : ClassId} {ro la cap wd : Nat → Nat} {A : Nat → Prop} (hx : p.tables.exec = Jvm.exec) (hb : c.code = b_X0_addProductOf) (hr : meth.sig.returnType = none) (hml : c.maxLocals = 6) (hown : s.vm.findClass R_Row = some m.cls) (hts : ∀ w ∈ gw, w.before args s = true) (hlocks : meth.locks = false) (hA : ∀ q : Nat, s.heap.size ≤ q → A q) (hK : va_K D cls0 (ty3 cA cR cL) s) (hw : rwOk cap wd) {i j u nd us : Nat} (hi : i < 64) (hj : j < 64) (hu : u < 64) (hnd : nd < 1000) (hus : us ≤ wd i ∧ us ≤ wd j) : ∀ (n : Nat) (k : Nat) (F : Nat → Nat → Int32), n = us - k → k < 1000 → ∀ (H : Heap) (locs : List Loc), va_P D cls0 (rw Rs cA ro la cap wd F) H → va_D A (rw Rs cA ro la cap wd F) → va_S A s.heap H locs → ∀ (ls : Array Slot), lv_has ls 6 [(0, .ref (ro i)), (1, .ref (ro j)), (2, .ref (ro u)), (3, .int (nI nd)), (4, .int (nI us)), (5, .int (nI k))] → W p l e ({ frames := 3, cells := 0, slots := 0, locals := 71 }) s m args below meth c H locs 0 0 (MQ below (xQ (none) (xB D cls0 A (fun w => w = rw Rs cA ro la cap wd (gPrT i u (wd i) (wd j) (wd u) nd j (gPrL i j u (wd i) (wd u) n k F)))) A) args s 0 0 A) (F0 m 23 ls []) := by
  intro n
  induction n with
  | zero =>
    intro k F hn hk H locs hP hD hS ls hl
    have hwi := hw i hi
    have hwj := hw j hj
    refine lv_iload hx hb d_X0_addProductOf_23 (lv_at hl 5 rfl) ?_
    refine lv_iload hx hb d_X0_addProductOf_25 (lv_at hl 4 rfl) ?_
    refine n_icmp_ge (tgt := 53) hx hb d_X0_addProductOf_27 (by decide) (by omega) (by omega) (fun c_1 => ?_) (fun c_1 => ?_)
    rotate_left
    · exact absurd c_1 (by omega)
    refine lv_aload_n hx hb d_X0_addProductOf_53 rfl (lv_at hl 1 rfl) ?_
    refine x_callR (st1 := [.int (rNeg (wd j) (F j))]) (x_runV (As := []) (rest := []) (nL := 6) ⟨hx, hb, hml, hown, hts⟩ (c_X0_isNegative hw hj _) (cwV 0 hts (gw_V k_283 k_285 k_10 k_51 k_286) rfl rfl rfl (by decide +kernel) ⟨Nat.le_of_ble_eq_true rfl, Nat.le_of_ble_eq_true rfl⟩) hK hP hD _ 0 (rw_row hj) rfl rfl hl.1 rfl (Nat.le_of_ble_eq_true rfl) d_X0_addProductOf_54 ⟨Nat.zero_le _, Nat.zero_le _⟩) rfl ?_
    refine lv_if_eq (tgt := 66) hx hb d_X0_addProductOf_57 (by decide) (fun c_2 => ?_) (fun c_2 => ?_)
    · exact x_vret hx hb hr hlocks hP hD hS d_X0_addProductOf_66 rfl (congrArg (rw Rs cA ro la cap wd) (show _ = gPrT i u (wd i) (wd j) (wd u) nd j F from (if_pos c_2).symm))
    · refine lv_aload_n hx hb d_X0_addProductOf_60 rfl (lv_at hl 0 rfl) ?_
      refine lv_iload_n hx hb d_X0_addProductOf_61 rfl (lv_at hl 3 rfl) ?_
      refine lv_aload_n hx hb d_X0_addProductOf_62 rfl (lv_at hl 2 rfl) ?_
      refine x_call (st1 := []) (x_runV (As := [.int (nI nd), .ref (ro u)]) (rest := []) (nL := 6) ⟨hx, hb, hml, hown, hts⟩ (c_X0_subtractFrom hw hi hu (st := nd) (by omega) _) (cwV 2 hts (gw_V k_326 k_296 k_11 k_51 k_297) rfl rfl rfl (by decide +kernel) ⟨Nat.le_of_ble_eq_true rfl, Nat.le_of_ble_eq_true rfl⟩) hK hP hD _ 0 (rw_row hi) rfl rfl hl.1 rfl (Nat.le_of_ble_eq_true rfl) d_X0_addProductOf_63 ⟨Nat.zero_le _, Nat.zero_le _⟩) hS (x_sub hD hS hA) (x_sub hD hS hA) rfl (fun w1 H locs hY hP hD hS => ?_)
      subst hY
      exact x_vret hx hb hr hlocks hP hD hS d_X0_addProductOf_66 rfl (congrArg (rw Rs cA ro la cap wd) (show _ = gPrT i u (wd i) (wd j) (wd u) nd j F from (if_neg c_2).symm))
  | succ n ih =>
    intro k F hn hk H locs hP hD hS ls hl
    have hwi := hw i hi
    have hwj := hw j hj
    refine lv_iload hx hb d_X0_addProductOf_23 (lv_at hl 5 rfl) ?_
    refine lv_iload hx hb d_X0_addProductOf_25 (lv_at hl 4 rfl) ?_
    refine n_icmp_ge (tgt := 53) hx hb d_X0_addProductOf_27 (by decide) (by omega) (by omega) (fun c_1 => ?_) (fun c_1 => ?_)
    · exact absurd c_1 (by omega)
    refine lv_aload_n hx hb d_X0_addProductOf_30 rfl (lv_at hl 0 rfl) ?_
    refine lv_iload hx hb d_X0_addProductOf_31 (lv_at hl 5 rfl) ?_
    refine lv_aload_n hx hb d_X0_addProductOf_33 rfl (lv_at hl 1 rfl) ?_
    refine c_getL hx hb hts hown hK hP (i := j) hj d_X0_addProductOf_34 ?_
    refine lv_iload hx hb d_X0_addProductOf_37 (lv_at hl 5 rfl) ?_
    have hq_39 := hw j hj
    refine c_ald hx hb hK hP (i := j) (k := k) hj (by omega) (by omega) d_X0_addProductOf_39 ?_
    refine x_callR (st1 := [.long (rUn (F j k)), .int (nI k), .ref (ro i)]) (x_runS (As := [.int (F j k)]) (rest := [.int (nI k), .ref (ro i)]) (nL := 6) ⟨hx, hb, hml, hown, hts⟩ (c_X0_unsigned hw (F j k) _) (cwS 1 hts (gw_S k_275 k_276 k_51 k_277) rfl rfl rfl (by decide +kernel) ⟨Nat.le_of_ble_eq_true rfl, Nat.le_of_ble_eq_true rfl⟩) hK hP hD rfl hl.1 rfl (Nat.le_of_ble_eq_true rfl) d_X0_addProductOf_40 ⟨Nat.zero_le _, Nat.zero_le _⟩) rfl ?_
    refine lv_aload_n hx hb d_X0_addProductOf_43 rfl (lv_at hl 2 rfl) ?_
    refine x_call (st1 := []) (x_runV (As := [.int (nI k), .long (rUn (F j k)), .ref (ro u)]) (rest := []) (nL := 6) ⟨hx, hb, hml, hown, hts⟩ (c_X0_addMultiple hw hi hu (st := k) (by omega) (rUn (F j k)) _) (cwV 3 hts (gw_V k_322 k_324 k_14 k_51 k_325) rfl rfl rfl (by decide +kernel) ⟨Nat.le_of_ble_eq_true rfl, Nat.le_of_ble_eq_true rfl⟩) hK hP hD _ 0 (rw_row hi) rfl rfl hl.1 rfl (Nat.le_of_ble_eq_true rfl) d_X0_addProductOf_44 ⟨Nat.zero_le _, Nat.zero_le _⟩) hS (x_sub hD hS hA) (x_sub hD hS hA) rfl (fun w1 H locs hY hP hD hS => ?_)
    subst hY
    refine n_iinc (lv' := [(5, .int (nI (k + 1))), (0, .ref (ro i)), (1, .ref (ro j)), (2, .ref (ro u)), (3, .int (nI nd)), (4, .int (nI us))]) hx hb d_X0_addProductOf_47 hl (k := 5) rfl (by decide) rfl (fun ls hl => ?_)
    refine lv_goto (tgt := 23) hx hb d_X0_addProductOf_50 (by decide) ?_
    exact ih (k + 1) _ (by omega) (by omega) H locs hP hD hS ls (lv_sub hl [1, 2, 3, 4, 5, 0] rfl)
abbrev w_X0_addProductOf : List Cond := .code y_X0_addProductOf b_X0_addProductOf 6 (none) :: gw
set_option maxHeartbeats 800000 in
set_option maxRecDepth 100000 in
theorem c_X0_addProductOf {l : Launch} {D : va_G} {Rs : va_W} {cA cR cL : ClassId} {ro la cap wd : Nat → Nat} {F : Nat → Nat → Int32} (hw : rwOk cap wd) {i j u : Nat} (hi : i < 64) (hj : j < 64) (hu : u < 64) {t : Nat} (ht : rBl (wd j) (F j) = nI t) (htw : t < 32 * wd j) : xC l y_X0_addProductOf w_X0_addProductOf ({ frames := 3, cells := 0, slots := 0, locals := 71 }) D cls0 (ty3 cA cR cL) [.ref (ro i), .ref (ro j), .ref (ro u)] (rw Rs cA ro la cap wd F) (none) (fun w => w = rw Rs cA ro la cap wd (gPr i j u (wd i) (wd j) (wd u) t F)) 0 0 := by
  refine xC.ofW (cc := b_X0_addProductOf) (maxL := 6) (ret := none) (by decide) rfl (Nat.le_of_ble_eq_true rfl) ?_
  intro p e s m below meth c A ls _ hin hx hb hr hml hown hts hlocks hA hK hP hD hS hl
  have hts : ∀ w ∈ gw, w.before ([.ref (ro i), .ref (ro j), .ref (ro u)]).toArray s = true := fun w h => hts w (List.mem_cons_of_mem _ h)
  have hown : s.vm.findClass R_Row = some m.cls := hown
  have hl : lv_has ls 6 [(0, .ref (ro i)), (1, .ref (ro j)), (2, .ref (ro u))] := hl
  have hwi := hw i hi
  have hwj := hw j hj
  refine lv_aload_n hx hb d_X0_addProductOf_0 rfl (lv_at hl 1 rfl) ?_
  refine x_callR (st1 := [.int (rBl (wd j) (F j))]) (x_runV (As := []) (rest := []) (nL := 6) ⟨hx, hb, hml, hown, hts⟩ (c_X0_bitLength hw hj _) (cwV 0 hts (gw_V k_313 k_315 k_13 k_51 k_316) rfl rfl rfl (by decide +kernel) ⟨Nat.le_of_ble_eq_true rfl, Nat.le_of_ble_eq_true rfl⟩) hK hP hD _ 0 (rw_row hj) rfl rfl hl.1 rfl (Nat.le_of_ble_eq_true rfl) d_X0_addProductOf_1 ⟨Nat.zero_le _, Nat.zero_le _⟩) rfl ?_
  rw [ht]
  refine lv_bipush (v := nI 32) hx hb d_X0_addProductOf_4 (by decide) ?_
  refine n_idiv hx hb d_X0_addProductOf_6 (by omega) (by omega) (by omega) ?_
  refine lv_iconst (v := nI 1) hx hb d_X0_addProductOf_7 (by decide) ?_
  refine n_iadd hx hb d_X0_addProductOf_8 ?_
  refine lv_istore_n (lv' := [(3, .int (nI ((t / 32) + 1))), (0, .ref (ro i)), (1, .ref (ro j)), (2, .ref (ro u))]) hx hb d_X0_addProductOf_9 rfl hl (by decide) rfl (fun ls hl => ?_)
  refine lv_iload_n hx hb d_X0_addProductOf_10 rfl (lv_at hl 0 rfl) ?_
  refine lv_aload_n hx hb d_X0_addProductOf_11 rfl (lv_at hl 1 rfl) ?_
  refine c_getW hx hb hts hown hK hP (i := i) hi d_X0_addProductOf_12 ?_
  refine va_mmin hx hb (hml.trans hl.1.symm) hown (hts _ (show Cond.methodLink "LimbRows$Row" 47 Lib.Math.min.name ∈ gw from k_321)) (hts _ (show Cond.static Lib.Math.min.name ∈ gw from k_210)) (hts _ k_59) (hts _ (show Cond.code Lib.Math.min.name Lib.Math.min.code 2 (some .int) ∈ gw from k_211)) (Nat.le_of_ble_eq_true rfl) (Nat.le_of_ble_eq_true rfl) (Nat.zero_le _) (Nat.zero_le _) d_X0_addProductOf_15 ?_
  rw [n_min (by omega) (by omega)]
  refine lv_istore (lv' := [(4, .int (nI (min ((t / 32) + 1) (wd i)))), (3, .int (nI ((t / 32) + 1))), (0, .ref (ro i)), (1, .ref (ro j)), (2, .ref (ro u))]) hx hb d_X0_addProductOf_18 hl (by decide) rfl (fun ls hl => ?_)
  refine lv_iconst (v := nI 0) hx hb d_X0_addProductOf_20 (by decide) ?_
  refine lv_istore (lv' := [(5, .int (nI 0)), (4, .int (nI (min ((t / 32) + 1) (wd i)))), (3, .int (nI ((t / 32) + 1))), (0, .ref (ro i)), (1, .ref (ro j)), (2, .ref (ro u))]) hx hb d_X0_addProductOf_21 hl (by decide) rfl (fun ls hl => ?_)
  exact lp_X0_addProductOf (nd := t / 32 + 1) (us := min (t / 32 + 1) (wd i)) hx hb hr hml hown hts hlocks hA hK hw hi hj hu (by omega) (by omega) (min (t / 32 + 1) (wd i)) 0 F rfl (by omega) _ _ hP hD hS ls (lv_sub hl [3, 4, 5, 2, 1, 0] rfl)
abbrev w_X0_subtractProductOf : List Cond := .code y_X0_subtractProductOf b_X0_subtractProductOf 3 (none) :: gw
set_option maxHeartbeats 800000 in
set_option maxRecDepth 100000 in
theorem c_X0_subtractProductOf {l : Launch} {D : va_G} {Rs : va_W} {cA cR cL : ClassId} {ro la cap wd : Nat → Nat} {F : Nat → Nat → Int32} (hw : rwOk cap wd) {i j u : Nat} (hi : i < 64) (hj : j < 64) (hu : u < 64) {t : Nat} (ht : rBl (wd j) (gCpl i (wd i) 0 F j) = nI t) (htw : t < 32 * wd j) : xC l y_X0_subtractProductOf w_X0_subtractProductOf ({ frames := 4, cells := 0, slots := 0, locals := 96 }) D cls0 (ty3 cA cR cL) [.ref (ro i), .ref (ro j), .ref (ro u)] (rw Rs cA ro la cap wd F) (none) (fun w => w = rw Rs cA ro la cap wd (gSPr i j u (wd i) (wd j) (wd u) t F)) 0 0 := by
  refine xC.ofW (cc := b_X0_subtractProductOf) (maxL := 3) (ret := none) (by decide) rfl (Nat.le_of_ble_eq_true rfl) ?_
  intro p e s m below meth c A ls _ hin hx hb hr hml hown hts hlocks hA hK hP hD hS hl
  have hts : ∀ w ∈ gw, w.before ([.ref (ro i), .ref (ro j), .ref (ro u)]).toArray s = true := fun w h => hts w (List.mem_cons_of_mem _ h)
  have hown : s.vm.findClass R_Row = some m.cls := hown
  have hl : lv_has ls 3 [(0, .ref (ro i)), (1, .ref (ro j)), (2, .ref (ro u))] := hl
  refine lv_aload_n hx hb d_X0_subtractProductOf_0 rfl (lv_at hl 0 rfl) ?_
  refine x_call (st1 := []) (x_runV (As := []) (rest := []) (nL := 3) ⟨hx, hb, hml, hown, hts⟩ (c_X0_complement hw hi _) (cwV 0 hts (gw_V k_338 k_340 k_16 k_51 k_341) rfl rfl rfl (by decide +kernel) ⟨Nat.le_of_ble_eq_true rfl, Nat.le_of_ble_eq_true rfl⟩) hK hP hD _ 0 (rw_row hi) rfl rfl hl.1 rfl (Nat.le_of_ble_eq_true rfl) d_X0_subtractProductOf_1 ⟨Nat.zero_le _, Nat.zero_le _⟩) hS (x_sub hD hS hA) (x_sub hD hS hA) rfl (fun w1 H locs hY hP hD hS => ?_)
  subst hY
  refine lv_aload_n hx hb d_X0_subtractProductOf_4 rfl (lv_at hl 0 rfl) ?_
  refine lv_aload_n hx hb d_X0_subtractProductOf_5 rfl (lv_at hl 1 rfl) ?_
  refine lv_aload_n hx hb d_X0_subtractProductOf_6 rfl (lv_at hl 2 rfl) ?_
  refine x_call (st1 := []) (x_runV (As := [.ref (ro j), .ref (ro u)]) (rest := []) (nL := 3) ⟨hx, hb, hml, hown, hts⟩ (c_X0_addProductOf hw hi hj hu ht htw _) (cwV 2 hts (gw_V k_342 k_311 k_12 k_51 k_312) rfl rfl rfl (by decide +kernel) ⟨Nat.le_of_ble_eq_true rfl, Nat.le_of_ble_eq_true rfl⟩) hK hP hD _ 0 (rw_row hi) rfl rfl hl.1 rfl (Nat.le_of_ble_eq_true rfl) d_X0_subtractProductOf_7 ⟨Nat.zero_le _, Nat.zero_le _⟩) hS (x_sub hD hS hA) (x_sub hD hS hA) rfl (fun w1 H locs hY hP hD hS => ?_)
  subst hY
  refine lv_aload_n hx hb d_X0_subtractProductOf_10 rfl (lv_at hl 0 rfl) ?_
  refine x_call (st1 := []) (x_runV (As := []) (rest := []) (nL := 3) ⟨hx, hb, hml, hown, hts⟩ (c_X0_complement hw hi _) (cwV 0 hts (gw_V k_338 k_340 k_16 k_51 k_341) rfl rfl rfl (by decide +kernel) ⟨Nat.le_of_ble_eq_true rfl, Nat.le_of_ble_eq_true rfl⟩) hK hP hD _ 0 (rw_row hi) rfl rfl hl.1 rfl (Nat.le_of_ble_eq_true rfl) d_X0_subtractProductOf_11 ⟨Nat.zero_le _, Nat.zero_le _⟩) hS (x_sub hD hS hA) (x_sub hD hS hA) rfl (fun w1 H locs hY hP hD hS => ?_)
  subst hY
  exact x_vret hx hb hr hlocks hP hD hS d_X0_subtractProductOf_14 rfl rfl
