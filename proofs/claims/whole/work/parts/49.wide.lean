def gFill (i : Nat) (ab : Int32) : Nat → Nat → (Nat → Nat → Int32) → Nat → Nat → Int32
  | 0, _, F => F
  | n + 1, k, F => gFill i ab n (k + 1) (va_up F i (upd (F i) k ab))
theorem gFill_o {i : Nat} {ab : Int32} : ∀ (n k : Nat) (F : Nat → Nat → Int32) (j : Nat), j ≠ i → gFill i ab n k F j = F j
  | 0, _, _, _, _ => rfl
  | n + 1, k, F, j, h => by
    unfold gFill
    rw [gFill_o n (k + 1) _ j h]
    unfold va_up
    rw [if_neg h]
theorem gFill_i {i : Nat} {ab : Int32} : ∀ (n k : Nat) (F : Nat → Nat → Int32) (t : Nat), gFill i ab n k F i t = if k ≤ t ∧ t < k + n then ab else F i t
  | 0, k, F, t => by
    unfold gFill
    rw [if_neg (by omega)]
  | n + 1, k, F, t => by
    unfold gFill
    rw [gFill_i n (k + 1) _ t]
    unfold va_up
    rw [if_pos rfl]
    unfold upd
    by_cases h : k + 1 ≤ t ∧ t < k + 1 + n
    · rw [if_pos h, if_pos (by omega)]
    · rw [if_neg h]
      by_cases e : t = k
      · rw [if_pos e, if_pos (by omega)]
      · rw [if_neg e, if_neg (by omega)]
/-- the limbs behind a change of the width -/
def rWid (w : Nat) (f : Nat → Int32) (k : Nat) : Int32 := if k < w then f k else rAt w f (nI w)
def yWid (Rs : va_W) (cA : ClassId) (ro wd : Nat → Nat) (F : Nat → Nat → Int32) (i nn : Nat) (w : va_W) : Prop := ∃ (la cap : Nat → Nat) (F' : Nat → Nat → Int32), w = rw Rs cA ro la cap (va_up wd i nn) F' ∧ rwOk cap (va_up wd i nn) ∧ (∀ j, j ≠ i → F' j = F j) ∧ ∀ k, k < nn → F' i k = rWid (wd i) (F i) k
theorem c_putW {Rs : va_W} {cA cR cL : ClassId} {ro la cap wd : Nat → Nat} {F : Nat → Nat → Int32} {p : Program} {l : Launch} {e : Env} {R : Room} {s : State} {m : MethodId} {args : Array Value} {below : List Frame} {meth : Method} {c : Code} {H : Heap} {locs : List Loc} {cells slots : Nat} {Q : State → Prop} {cc : ByteArray} {pc : Nat} {ls : Array Slot} {rest : List Value} {D : va_G} {A : Nat → Prop} {H0 : Heap}
    (hx : p.tables.exec = Jvm.exec) (hb : c.code = cc) (hts : ∀ w ∈ gw, w.before args s = true) (hown : s.vm.findClass R_Row = some m.cls) (hK : va_K D cls0 (ty3 cA cR cL) s) (hP : va_P D cls0 (rw Rs cA ro la cap wd F) H) (hD : va_D A (rw Rs cA ro la cap wd F)) (hS : va_S A H0 H locs) {i n : Nat} (hi : i < 64) (hdg : decode cc pc = .ok (.putfield 15, 3))
    (kk : ∀ (H1 : Heap) (locs1 : List Loc), va_P D cls0 (rw Rs cA ro la cap (va_up wd i n) F) H1 → va_D A (rw Rs cA ro la cap (va_up wd i n) F) → va_S A H0 H1 locs1 → W p l e R s m args below meth c H1 locs1 cells slots Q (F0 m (pc + 3) ls rest)) : W p l e R s m args below meth c H locs cells slots Q (F0 m pc ls (.int (nI n) :: .ref (ro i) :: rest)) :=
  va_put (D := D) (ci := 0) (v := .int (nI n)) (ty := .int) (C := R_Row) (T := T_Row) (N := 2) (own := R_Row) (ref := "LimbRows$Row") hx hb hts i_Row t_Row t_Row_ok n_Row hown hK hP hD hS _ (rw_row hi) rfl 1 (by decide) (hts (.fieldLink R_Row 15 "LimbRows$Row" "width" "I") k_79) (fun _ h9 => h9) rfl (by decide +kernel) rfl rfl (Nat.le_of_ble_eq_true rfl) hdg (fun H1 locs1 hP hD hS => by
    rw [show ([.ref (la i), .int (nI (wd i))] : List Value).set 1 (.int (nI n)) = [.ref (la i), .int (nI n)] from rfl, rw_setW hi] at hP hD
    exact kk H1 locs1 hP hD hS)
theorem c_putL {Rs : va_W} {cA cR cL : ClassId} {ro la cap wd : Nat → Nat} {F : Nat → Nat → Int32} {p : Program} {l : Launch} {e : Env} {R : Room} {s : State} {m : MethodId} {args : Array Value} {below : List Frame} {meth : Method} {c : Code} {H : Heap} {locs : List Loc} {cells slots : Nat} {Q : State → Prop} {cc : ByteArray} {pc : Nat} {ls : Array Slot} {rest : List Value} {D : va_G} {A : Nat → Prop} {H0 : Heap}
    (hx : p.tables.exec = Jvm.exec) (hb : c.code = cc) (hts : ∀ w ∈ gw, w.before args s = true) (hown : s.vm.findClass R_Row = some m.cls) (hK : va_K D cls0 (ty3 cA cR cL) s) {i q n : Nat} {f : Nat → Int32} (hP : va_P D cls0 (rw Rs cA ro la cap wd F ++ [(q, .inl (cA, n, .inl f))]) H) (hD : va_D A (rw Rs cA ro la cap wd F ++ [(q, .inl (cA, n, .inl f))])) (hS : va_S A H0 H locs) (hi : i < 64) (hdg : decode cc pc = .ok (.putfield 9, 3))
    (kk : ∀ (H1 : Heap) (locs1 : List Loc), va_P D cls0 (rw Rs cA ro (va_up la i q) (va_up cap i n) wd (va_up F i f)) H1 → va_D A (rw Rs cA ro (va_up la i q) (va_up cap i n) wd (va_up F i f)) → va_S A H0 H1 locs1 → W p l e R s m args below meth c H1 locs1 cells slots Q (F0 m (pc + 3) ls rest)) : W p l e R s m args below meth c H locs cells slots Q (F0 m pc ls (.ref q :: .ref (ro i) :: rest)) := by
  have hl : (rw Rs cA ro la cap wd F).length = Rs.length + 128 := by unfold rw; simp
  refine va_put (D := D) (ci := 0) (v := .ref q) (ty := .array .int) (C := R_Row) (T := T_Row) (N := 2) (own := R_Row) (ref := "LimbRows$Row") hx hb hts i_Row t_Row t_Row_ok n_Row hown hK hP hD hS (Rs.length + i) (by rw [List.getElem?_append_left (by omega)]; exact rw_row hi) rfl 0 (by decide) (hts (.fieldLink R_Row 9 "LimbRows$Row" "limbs" "[I") k_77) (fun _ h9 => h9) rfl (by decide +kernel) rfl rfl (Nat.le_of_ble_eq_true rfl) hdg (fun H1 locs1 hP hD hS => ?_)
  rw [show ([.ref (la i), .int (nI (wd i))] : List Value).set 0 (.ref q) = [.ref q, .int (nI (wd i))] from rfl, List.set_append_left _ _ (by omega)] at hP hD
  have hP2 := va_P_put (k := Rs.length + 64 + i) hP
  have hD2 := va_D_put (k := Rs.length + 64 + i) hD
  rw [rw_setA hi] at hP2 hD2
  exact kk H1 locs1 hP2 hD2 hS
set_option maxHeartbeats 800000 in
set_option maxRecDepth 100000 in
theorem lp_X0_changeWidth {p : Program} {l : Launch} {e : Env} {s : State} {m : MethodId} {args : Array Value} {below : List Frame} {meth : Method} {c : Code} {D : va_G} {Rs : va_W} {cA cR cL : ClassId} {ro la cap wd : Nat → Nat} {A : Nat → Prop} (hx : p.tables.exec = Jvm.exec) (hb : c.code = b_X0_changeWidth) (hr : meth.sig.returnType = some .boolean) (hml : c.maxLocals = 5) (hown : s.vm.findClass R_Row = some m.cls) (hts : ∀ w ∈ gw, w.before args s = true) (hlocks : meth.locks = false) (hA : ∀ q : Nat, s.heap.size ≤ q → A q) (hK : va_K D cls0 (ty3 cA cR cL) s) (hw : rwOk cap wd) {i nn : Nat} (hi : i < 64) (hnn : 1 ≤ nn ∧ nn ≤ cap i) {ft ab : Int32} (hft : narrow .boolean (.int ft) = .int ft) : ∀ (n k : Nat) (F : Nat → Nat → Int32), n = nn - k → k < 1000 → ∀ (H : Heap) (locs : List Loc), va_P D cls0 (rw Rs cA ro la cap wd F) H → va_D A (rw Rs cA ro la cap wd F) → va_S A s.heap H locs → ∀ (ls : Array Slot), lv_has ls 5 [(0, .ref (ro i)), (1, .int (nI nn)), (2, .int ft), (3, .int ab), (4, .int (nI k))] → W p l e ({ frames := 2, cells := 1, slots := 256, locals := 62 }) s m args below meth c H locs 1 256 (MQ below (xQ (some (.int ft)) (xB D cls0 A (fun w => w = rw Rs cA ro la cap (va_up wd i nn) (gFill i ab n k F))) A) args s 1 256 A) (F0 m 44 ls []) := by
  intro n
  induction n with
  | zero =>
    intro k F hn hk H locs hP hD hS ls hl
    have hwi := hw i hi
    refine lv_iload hx hb d_X0_changeWidth_44 (lv_at hl 4 rfl) ?_
    refine lv_iload_n hx hb d_X0_changeWidth_46 rfl (lv_at hl 1 rfl) ?_
    refine n_icmp_ge (tgt := 64) hx hb d_X0_changeWidth_47 (by decide) (by omega) (by omega) (fun c_1 => ?_) (fun c_1 => ?_)
    rotate_left
    · exact absurd c_1 (by omega)
    refine lv_aload_n hx hb d_X0_changeWidth_64 rfl (lv_at hl 0 rfl) ?_
    refine lv_iload_n hx hb d_X0_changeWidth_65 rfl (lv_at hl 1 rfl) ?_
    refine c_putW hx hb hts hown hK hP hD hS hi d_X0_changeWidth_66 (fun H locs hP hD hS => ?_)
    refine lv_iload_n hx hb d_X0_changeWidth_69 rfl (lv_at hl 2 rfl) ?_
    exact x_zret hx hb hr hlocks hP hD hS d_X0_changeWidth_70 hft rfl rfl
  | succ n ih =>
    intro k F hn hk H locs hP hD hS ls hl
    have hwi := hw i hi
    refine lv_iload hx hb d_X0_changeWidth_44 (lv_at hl 4 rfl) ?_
    refine lv_iload_n hx hb d_X0_changeWidth_46 rfl (lv_at hl 1 rfl) ?_
    refine n_icmp_ge (tgt := 64) hx hb d_X0_changeWidth_47 (by decide) (by omega) (by omega) (fun c_1 => ?_) (fun c_1 => ?_)
    · exact absurd c_1 (by omega)
    refine lv_aload_n hx hb d_X0_changeWidth_50 rfl (lv_at hl 0 rfl) ?_
    refine c_getL hx hb hts hown hK hP (i := i) hi d_X0_changeWidth_51 ?_
    refine lv_iload hx hb d_X0_changeWidth_54 (lv_at hl 4 rfl) ?_
    refine lv_iload_n hx hb d_X0_changeWidth_56 rfl (lv_at hl 3 rfl) ?_
    have hq_57 := hw i hi
    refine c_ast hx hb hK hP hD hS (i := i) (k := k) (x := ab) hi (by omega) (by omega) d_X0_changeWidth_57 (fun H locs hP hD hS => ?_)
    refine n_iinc (lv' := [(4, .int (nI (k + 1))), (0, .ref (ro i)), (1, .int (nI nn)), (2, .int ft), (3, .int ab)]) hx hb d_X0_changeWidth_58 hl (k := 4) rfl (by decide) rfl (fun ls hl => ?_)
    refine lv_goto (tgt := 44) hx hb d_X0_changeWidth_61 (by decide) ?_
    exact ih (k + 1) _ (by omega) (by omega) H locs hP hD hS ls (lv_sub hl [1, 2, 3, 4, 0] rfl)
abbrev w_X0_changeWidth : List Cond := .code y_X0_changeWidth b_X0_changeWidth 5 (some .boolean) :: gw
theorem xB_mono {D : va_G} {cl : List vw_C} {A : Nat → Prop} {Y Y' : va_W → Prop} (h : ∀ w, Y w → Y' w) {t : State} (hb : xB D cl A Y t) : xB D cl A Y' t := by
  obtain ⟨w, h1, h2, h3⟩ := hb
  exact ⟨w, h w h1, h2, h3⟩
theorem MQ_mono {below : List Frame} {D : va_G} {cl : List vw_C} {A : Nat → Prop} {Y Y' : va_W → Prop} {r : Option Value} {a : Array Value} {s : State} {mc ms : Nat} (h : ∀ w, Y w → Y' w) {p : Program} {l : Launch} {e : Env} {R : Room} {m : MethodId} {args : Array Value} {bl : List Frame} {meth : Method} {c : Code} {H : Heap} {locs : List Loc} {cells slots : Nat} {g : JFrame}
    (k : W p l e R s m args bl meth c H locs cells slots (MQ below (xQ r (xB D cl A Y) A) a s mc ms A) g) : W p l e R s m args bl meth c H locs cells slots (MQ below (xQ r (xB D cl A Y') A) a s mc ms A) g := by
  intro T hT X
  obtain ⟨t, a1, o, b1, b2, ⟨b3, b4, b5⟩, b6⟩ := k T hT X
  exact ⟨t, a1, o, b1, b2, ⟨b3, xB_mono h b4, b5⟩, b6⟩
set_option maxHeartbeats 800000 in
set_option maxRecDepth 100000 in
theorem c_X0_changeWidth {l : Launch} {D : va_G} {Rs : va_W} {cA cR cL : ClassId} {ro la cap wd : Nat → Nat} {F : Nat → Nat → Int32} (hw : rwOk cap wd) {i : Nat} (hi : i < 64) {nn : Nat} (hnn : 1 ≤ nn ∧ nn ≤ 256) : xC l y_X0_changeWidth w_X0_changeWidth ({ frames := 2, cells := 1, slots := 256, locals := 62 }) D cls0 (ty3 cA cR cL) [.ref (ro i), .int (nI nn)] (rw Rs cA ro la cap wd F) (some (.int (rFit (wd i) (F i) nn))) (yWid Rs cA ro wd F i nn) 1 256 := by
  refine xC.ofW (cc := b_X0_changeWidth) (maxL := 5) (ret := some .boolean) (by decide) rfl (Nat.le_of_ble_eq_true rfl) ?_
  intro p e s m below meth c A ls _ hin hx hb hr hml hown hts hlocks hA hK hP hD hS hl
  have hts : ∀ w ∈ gw, w.before ([.ref (ro i), .int (nI nn)]).toArray s = true := fun w h => hts w (List.mem_cons_of_mem _ h)
  have hown : s.vm.findClass R_Row = some m.cls := hown
  have hl : lv_has ls 5 [(0, .ref (ro i)), (1, .int (nI nn))] := hl
  have hwi := hw i hi
  refine lv_aload_n hx hb d_X0_changeWidth_0 rfl (lv_at hl 0 rfl) ?_
  refine lv_iload_n hx hb d_X0_changeWidth_1 rfl (lv_at hl 1 rfl) ?_
  refine x_callR (st1 := [.int (rFit (wd i) (F i) nn)]) (x_runV (As := [.int (nI nn)]) (rest := []) (nL := 5) ⟨hx, hb, hml, hown, hts⟩ (c_X0_fitsIn hw hi hnn _) (cwV 1 hts (gw_V k_191 k_193 k_3 k_51 k_194) rfl rfl rfl (by decide +kernel) ⟨Nat.le_of_ble_eq_true rfl, Nat.le_of_ble_eq_true rfl⟩) hK hP hD _ 0 (rw_row hi) rfl rfl hl.1 rfl (Nat.le_of_ble_eq_true rfl) d_X0_changeWidth_2 ⟨Nat.zero_le _, Nat.zero_le _⟩) rfl ?_
  refine lv_istore_n (lv' := [(2, .int (rFit (wd i) (F i) nn)), (0, .ref (ro i)), (1, .int (nI nn))]) hx hb d_X0_changeWidth_5 rfl hl (by decide) rfl (fun ls hl => ?_)
  refine lv_aload_n hx hb d_X0_changeWidth_6 rfl (lv_at hl 1 rfl) ?_
  refine lv_aload_n hx hb d_X0_changeWidth_7 rfl (lv_at hl 1 rfl) ?_
  refine c_getW hx hb hts hown hK hP (i := i) hi d_X0_changeWidth_8 ?_
  refine x_callR (st1 := [.int (rAt (wd i) (F i) (nI (wd i)))]) (x_runV (As := [.int (nI (wd i))]) (rest := []) (nL := 5) ⟨hx, hb, hml, hown, hts⟩ (c_X0_limbAt hw hi (nI (wd i)) _) (cwV 1 hts (gw_V k_195 k_197 k_4 k_51 k_198) rfl rfl rfl (by decide +kernel) ⟨Nat.le_of_ble_eq_true rfl, Nat.le_of_ble_eq_true rfl⟩) hK hP hD _ 0 (rw_row hi) rfl rfl hl.1 rfl (Nat.le_of_ble_eq_true rfl) d_X0_changeWidth_11 ⟨Nat.zero_le _, Nat.zero_le _⟩) rfl ?_
  refine lv_istore_n (lv' := [(3, .int (rAt (wd i) (F i) (nI (wd i)))), (2, .int (rFit (wd i) (F i) nn)), (0, .ref (ro i)), (1, .int (nI nn))]) hx hb d_X0_changeWidth_14 rfl hl (by decide) rfl (fun ls hl => ?_)
  refine lv_iload_n hx hb d_X0_changeWidth_15 rfl (lv_at hl 3 rfl) ?_
  refine lv_aload_n hx hb d_X0_changeWidth_16 rfl (lv_at hl 2 rfl) ?_
  refine c_getL hx hb hts hown hK hP (i := i) hi d_X0_changeWidth_17 ?_
  refine va_alen (v := nI (cap i)) hx hb hK hP _ 0 (rw_lim hi) rfl rfl d_X0_changeWidth_20 ?_
  refine n_icmp_le (tgt := 38) hx hb d_X0_changeWidth_21 (by decide) (by omega) (by omega) (fun c_1 => ?_) (fun c_1 => ?_)
  · refine lv_aload_n hx hb d_X0_changeWidth_38 rfl (lv_at hl 2 rfl) ?_
    refine c_getW hx hb hts hown hK hP (i := i) hi d_X0_changeWidth_39 ?_
    refine lv_istore (lv' := [(4, .int (nI (wd i))), (3, .int (rAt (wd i) (F i) (nI (wd i)))), (2, .int (rFit (wd i) (F i) nn)), (0, .ref (ro i)), (1, .int (nI nn))]) hx hb d_X0_changeWidth_42 hl (by decide) rfl (fun ls hl => ?_)
    refine W.widen (k := 1) (n := 256) (by decide) (by decide) ?_
    refine MQ_mono (fun w1 hw1 => ?_) (lp_X0_changeWidth hx hb hr hml hown hts hlocks hA hK hw hi (by omega) (rFit_b _ _ _) (nn - wd i) (wd i) _ rfl (by omega) _ _ hP hD hS ls (lv_sub hl [3, 4, 2, 1, 0] rfl))
    subst hw1
    refine ⟨_, _, _, rfl, fun j hj => ?_, fun j hj => ?_, fun k hk => ?_⟩
    · have := hw j hj
      unfold va_up at *
      by_cases e : j = i
      · subst e; simp only [if_true] at *; omega
      · simp only [if_neg e] at *; omega
    · rw [gFill_o _ _ _ _ hj]
    · rw [gFill_i]
      unfold rWid
      by_cases h : k < wd i
      · rw [if_neg (by omega), if_pos h]
      · rw [if_pos (by omega), if_neg h]
  · refine lv_aload_n hx hb d_X0_changeWidth_24 rfl (lv_at hl 2 rfl) ?_
    refine lv_aload_n hx hb d_X0_changeWidth_25 rfl (lv_at hl 2 rfl) ?_
    refine c_getL hx hb hts hown hK hP (i := i) hi d_X0_changeWidth_26 ?_
    refine lv_sipush (v := nI 256) hx hb d_X0_changeWidth_29 (by decide) ?_
    refine x_callX (Y := fun q w1 => w1 = rw Rs cA ro la cap wd F ++ [(q, .inl (cA, 256, .inl (fun j => if j < cap i then F i j else 0)))]) (x_runS (As := [.ref (la i), .int (nI 256)]) (rest := [.ref (ro i)]) (nL := 5) ⟨hx, hb, hml, hown, hts⟩ (c_JA_copyOf (rw_lim hi) (by omega) _) (va_cwS 2 hts (gw_SW k_199 k_200 k_58 k_201) rfl rfl rfl (by decide +kernel) ⟨Nat.le_of_ble_eq_true rfl, Nat.le_of_ble_eq_true rfl⟩) hK hP hD rfl hl.1 rfl (Nat.le_of_ble_eq_true rfl) d_X0_changeWidth_32 ⟨Nat.le_of_ble_eq_true rfl, Nat.le_of_ble_eq_true rfl⟩) hS (x_sub hD hS hA) (x_sub hD hS hA) (fun q w1 H locs hY hP hD hS => ?_)
    subst hY
    refine c_putL hx hb hts hown hK hP hD hS hi d_X0_changeWidth_35 (fun H locs hP hD hS => ?_)
    have hw2 : rwOk (va_up cap i 256) wd := fun j hj => by have := hw j hj; unfold va_up; split <;> omega
    refine lv_aload_n hx hb d_X0_changeWidth_38 rfl (lv_at hl 2 rfl) ?_
    refine c_getW hx hb hts hown hK hP (i := i) hi d_X0_changeWidth_39 ?_
    refine lv_istore (lv' := [(4, .int (nI (wd i))), (3, .int (rAt (wd i) (F i) (nI (wd i)))), (2, .int (rFit (wd i) (F i) nn)), (0, .ref (ro i)), (1, .int (nI nn))]) hx hb d_X0_changeWidth_42 hl (by decide) rfl (fun ls hl => ?_)
    refine MQ_mono (fun w1 hw1 => ?_) (lp_X0_changeWidth hx hb hr hml hown hts hlocks hA hK hw2 hi (by unfold va_up; rw [if_pos rfl]; exact hnn) (rFit_b _ _ _) (nn - wd i) (wd i) _ rfl (by omega) _ _ hP hD hS ls (lv_sub hl [3, 4, 2, 1, 0] rfl))
    subst hw1
    refine ⟨_, _, _, rfl, fun j hj => ?_, fun j hj => ?_, fun k hk => ?_⟩
    · have := hw2 j hj
      unfold va_up at *
      by_cases e : j = i
      · subst e; simp only [if_true] at *; omega
      · simp only [if_neg e] at *; omega
    · rw [gFill_o _ _ _ _ hj]; unfold va_up; rw [if_neg hj]
    · rw [gFill_i]
      unfold rWid
      by_cases h : k < wd i
      · rw [if_neg (by omega), if_pos h]; unfold va_up; rw [if_pos rfl, if_pos (by omega)]
      · rw [if_pos (by omega), if_neg h]
set_option maxHeartbeats 800000 in
set_option maxRecDepth 100000 in
theorem c_X1_widen {l : Launch} {D : va_G} {Rs : va_W} {cA cR cL : ClassId} {ro la cap wd : Nat → Nat} {F : Nat → Nat → Int32} {xo ra qx qa : Nat} (hxo : Rs[qx]? = some (xo, .inr (1, [.ref ra]))) (hra : Rs[qa]? = some (ra, .inl (cR, 64, .inr (.inr (.inr (.inr (fun i => if i < 64 then some (ro i) else none))))))) (hw : rwOk cap wd) {r : Nat} (hr64 : r < 64) {nn : Nat} (hnn : 1 ≤ nn ∧ nn ≤ 256) : xCE l y_X1_widen w_X1_widen ({ frames := 3, cells := 1, slots := 256, locals := 86 }) D cls0 (ty3 cA cR cL) [.ref xo, .int (nI r), .int (nI nn)] (rw Rs cA ro la cap wd F) (some (.int (rFit (wd r) (F r) nn))) (yWid Rs cA ro wd F r nn) 1 256 := by
  refine xCE.ofW (cc := b_X1_widen) (maxL := 4) (ret := some .boolean) (by decide) rfl (Nat.le_of_ble_eq_true rfl) ?_
  intro p e s m below meth c A ls _ hx hb hr hml hown hts hlocks hA hK hN hT hZ hP hD hS hl
  have hts : ∀ w ∈ gw, w.before ([.ref xo, .int (nI r), .int (nI nn)]).toArray s = true := fun w h => hts w (List.mem_cons_of_mem _ h)
  have hown : s.vm.findClass R_LR = some m.cls := hown
  have hl : lv_has ls 4 [(0, .ref xo), (1, .int (nI r)), (2, .int (nI nn))] := hl
  refine lv_aload_n hx hb d_X1_widen_0 rfl (lv_at hl 0 rfl) ?_
  refine lv_iload_n hx hb d_X1_widen_1 rfl (lv_at hl 1 rfl) ?_
  refine x_callR (st1 := [.ref (ro r)]) (x_runV (As := [.int (nI r)]) (rest := []) (nL := 4) ⟨hx, hb, hml, hown, hts⟩ (c_X1_rowAt hxo hra (r := r) hr64 _) (cwV 1 hts (gw_V k_100 k_102 k_0 k_50 k_103) rfl rfl rfl (by decide +kernel) ⟨Nat.le_of_ble_eq_true rfl, Nat.le_of_ble_eq_true rfl⟩) hK hP hD _ 1 (rw_in hxo) rfl rfl hl.1 rfl (Nat.le_of_ble_eq_true rfl) d_X1_widen_2 ⟨Nat.zero_le _, Nat.zero_le _⟩) rfl ?_
  refine lv_astore_n (lv' := [(3, .ref (ro r)), (0, .ref xo), (1, .int (nI r)), (2, .int (nI nn))]) hx hb d_X1_widen_5 rfl hl (by decide) rfl (fun ls hl => ?_)
  refine lv_iload_n hx hb d_X1_widen_6 rfl (lv_at hl 3 rfl) ?_
  refine lv_iconst (v := nI 1) hx hb d_X1_widen_7 (by decide) ?_
  refine n_icmp_lt (tgt := 18) hx hb d_X1_widen_8 (by decide) (by omega) (by omega) (fun c9 => absurd c9 (by omega)) (fun _ => ?_)
  refine lv_iload_n hx hb d_X1_widen_11 rfl (lv_at hl 3 rfl) ?_
  refine lv_sipush (v := nI 256) hx hb d_X1_widen_12 (by decide) ?_
  refine n_icmp_le (tgt := 28) hx hb d_X1_widen_15 (by decide) (by omega) (by omega) (fun _ => ?_) (fun c9 => absurd c9 (by omega))
  refine lv_aload_n hx hb d_X1_widen_28 rfl (lv_at hl 0 rfl) ?_
  refine lv_iload_n hx hb d_X1_widen_29 rfl (lv_at hl 3 rfl) ?_
  refine x_call (st1 := [.int (rFit (wd r) (F r) nn)]) (xn_runV (host := "LimbRows") (As := [.int (nI nn)]) (rest := []) (nL := 4) ⟨hx, hb, hml, hown, hts⟩ (c_X0_changeWidth hw hr64 hnn _) ⟨va_cnB 1 hts (gw_call k_190) rfl rfl rfl (hN.nw kt_187 rfl) (hts _ k_51) (by decide +kernel) ⟨Nat.le_of_ble_eq_true rfl, Nat.le_of_ble_eq_true rfl⟩, hts _ k_189, hts _ k_2⟩ hK hP hD _ 0 (rw_row hr64) rfl rfl hl.1 rfl (Nat.le_of_ble_eq_true rfl) d_X1_widen_30 ⟨Nat.le_of_ble_eq_true rfl, Nat.le_of_ble_eq_true rfl⟩) hS (x_sub hD hS hA) (x_sub hD hS hA) rfl (fun w1 H locs hY hP hD hS => ?_)
  exact x_zret hx hb hr hlocks hP hD hS d_X1_widen_33 (rFit_b _ _ _) rfl hY
