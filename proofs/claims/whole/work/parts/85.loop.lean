/-! The law's loop. -/
section LOOP
variable {p : Program} {l : Launch} {e : Env} {s : State} {m : MethodId} {below : List Frame} {meth : Method} {c : Code} {D : va_G} {cA cR cL : ClassId}
theorem law_end {b : Nat} {H : Heap} {locs : List Loc} {cells slots : Nat} {ls : Array Slot} (hx : p.tables.exec = Jvm.exec) (hb : c.code = code) (hr : meth.sig.returnType = ret) (hlocks : meth.locks = false) (hS : va_S (fun q => s.heap.size ≤ q) s.heap H locs) (h1 : cells ≤ 601024) (h2 : slots ≤ 7293033) :
    W p l e room_1 s m #[Value.ref b] below meth c H locs cells slots (lw_Z below #[Value.ref b] s) (F0 m 1597 ls []) :=
  va_forget hS.2.2 (W.widen h1 h2 (lv_iconst (v := 1) hx hb d_L_law_1597 (by decide) (lw_ret hx hb hr hlocks d_L_law_1598)))
set_option maxHeartbeats 1600000 in
set_option maxRecDepth 100000 in
theorem law_op {b L : Nat} {xs : Nat → Int32} (hst : l.stackTraces = false) (hx : p.tables.exec = Jvm.exec) (hb : c.code = code) (hr : meth.sig.returnType = ret) (hml : c.maxLocals = 8) (hown : s.vm.findClass "LimbRowsLaw" = some m.cls) (hts : ∀ w ∈ gw, w.before #[Value.ref b] s = true) (hlocks : meth.locks = false) (hK : va_K D cls0 (ty3 cA cR cL) s) (hN : xN s) (hT : xT s) (hZ : xZ (fun q => s.heap.size ≤ q) s s.heap) (hX : va_X b L xs s s.heap) (hbl : b < s.heap.size) (hL : L ≤ 2048) {i xo h ou : Nat} {H : Heap} {locs : List Loc} {cells slots : Nat} {ls : Array Slot} {w0 : va_W} (hi : i + 4 ≤ L) (h1 : cells + 1 ≤ 601024) (h2 : slots + 256 ≤ 7293033) (hLI : LI cA cR cL h xo ou w0) (hP : va_P D cls0 w0 H) (hD : va_D (fun q => s.heap.size ≤ q) w0) (hS : va_S (fun q => s.heap.size ≤ q) s.heap H locs) (hl : lv_has ls 8 [(0, .ref b), (1, .ref xo), (2, .ref h), (3, .ref ou), (4, .int (nI i))])
    (kk : ∀ (w2 : va_W) (H : Heap) (locs : List Loc) (ls : Array Slot), LI cA cR cL h xo ou w2 → va_P D cls0 w2 H → va_D (fun q => s.heap.size ≤ q) w2 → va_S (fun q => s.heap.size ≤ q) s.heap H locs → lv_has ls 8 [(0, .ref b), (1, .ref xo), (2, .ref h), (3, .ref ou), (4, .int (nI i))] → W p l e room_1 s m #[Value.ref b] below meth c H locs (cells + 1) (slots + 256) (lw_Z below #[Value.ref b] s) (F0 m 1591 ls [])) : ∀ t : Nat, t < 32 → W p l e room_1 s m #[Value.ref b] below meth c H locs cells slots (lw_Z below #[Value.ref b] s) (F0 m 39 ls [.int (nI t)]) := by
  have hA : ∀ q : Nat, s.heap.size ≤ q → (fun q => s.heap.size ≤ q) q := fun _ h => h
  have hbA : ¬ (fun q => s.heap.size ≤ q) b := fun q => absurd hbl (Nat.not_lt.mpr q)
  intro t ht
  by_cases h0 : t = 0
  · subst h0
    obtain ⟨k, mc, ms, rm, Y1, hk, hrm, hmc, hms, hW, hM⟩ := st_widen (D := D) hst hLI (xs (i + 1)) (xs (i + 2))
    refine lv_tableIn (off := 93) (tgt := 132) hx hb d_L_law_39 (by decide) (by decide) (by decide) (by decide) ?_
    exact law_widen hx hb hml hown hts hA hK hN hT hZ hX hbl hbA hL hi hk hrm ⟨by omega, by omega⟩ hW hM hP hD hS hl (fun w2 H locs ls hz hP hD hS hl => W.widen (by omega) (by omega) (kk w2 H locs ls hz hP hD hS hl))
  by_cases h1 : t = 1
  · subst h1
    obtain ⟨k, mc, ms, rm, Y1, hk, hrm, hmc, hms, hW, hM⟩ := st_width (D := D) hst hLI (xs (i + 1))
    refine lv_tableIn (off := 168) (tgt := 207) hx hb d_L_law_39 (by decide) (by decide) (by decide) (by decide) ?_
    exact law_width hx hb hml hown hts hA hK hN hT hZ hX hbl hbA hL hi hk hrm ⟨by omega, by omega⟩ hW hM hP hD hS hl (fun w2 H locs ls hz hP hD hS hl => W.widen (by omega) (by omega) (kk w2 H locs ls hz hP hD hS hl))
  by_cases h2 : t = 2
  · subst h2
    obtain ⟨k, mc, ms, rm, Y1, hk, hrm, hmc, hms, hW, hM⟩ := st_set (D := D) hst hLI (xs (i + 1)) (j_ll (xs (i + 2)).toInt64 (nI 32) ||| ((xs (i + 3)).toInt64 &&& 4294967295))
    refine lv_tableIn (off := 224) (tgt := 263) hx hb d_L_law_39 (by decide) (by decide) (by decide) (by decide) ?_
    exact law_set hx hb hml hown hts hA hK hN hT hZ hX hbl hbA hL hi hk hrm ⟨by omega, by omega⟩ hW hM hP hD hS hl (fun w2 H locs ls hz hP hD hS hl => W.widen (by omega) (by omega) (kk w2 H locs ls hz hP hD hS hl))
  by_cases h3 : t = 3
  · subst h3
    obtain ⟨k, mc, ms, rm, Y1, hk, hrm, hmc, hms, hW, hM⟩ := st_put (D := D) hst hLI (xs (i + 1)) (xs (i + 2)) (xs (i + 3))
    refine lv_tableIn (off := 331) (tgt := 370) hx hb d_L_law_39 (by decide) (by decide) (by decide) (by decide) ?_
    exact law_put hx hb hml hown hts hA hK hN hT hZ hX hbl hbA hL hi hk hrm ⟨by omega, by omega⟩ hW hM hP hD hS hl (fun w2 H locs ls hz hP hD hS hl => W.widen (by omega) (by omega) (kk w2 H locs ls hz hP hD hS hl))
  by_cases h4 : t = 4
  · subst h4
    obtain ⟨k, mc, ms, rm, Y1, hk, hrm, hmc, hms, hW, hM⟩ := st_limb (D := D) hst hLI (xs (i + 1)) (xs (i + 2))
    refine lv_tableIn (off := 411) (tgt := 450) hx hb d_L_law_39 (by decide) (by decide) (by decide) (by decide) ?_
    exact law_limb hx hb hml hown hts hA hK hN hT hZ hX hbl hbA hL hi hk hrm ⟨by omega, by omega⟩ hW hM hP hD hS hl (fun w2 H locs ls hz hP hD hS hl => W.widen (by omega) (by omega) (kk w2 H locs ls hz hP hD hS hl))
  by_cases h5 : t = 5
  · subst h5
    obtain ⟨k, mc, ms, rm, Y1, hk, hrm, hmc, hms, hW, hM⟩ := st_copy (D := D) hst hLI (xs (i + 1)) (xs (i + 2))
    refine lv_tableIn (off := 479) (tgt := 518) hx hb d_L_law_39 (by decide) (by decide) (by decide) (by decide) ?_
    exact law_copy hx hb hml hown hts hA hK hN hT hZ hX hbl hbA hL hi hk hrm ⟨by omega, by omega⟩ hW hM hP hD hS hl (fun w2 H locs ls hz hP hD hS hl => W.widen (by omega) (by omega) (kk w2 H locs ls hz hP hD hS hl))
  by_cases h6 : t = 6
  · subst h6
    obtain ⟨k, mc, ms, rm, Y1, hk, hrm, hmc, hms, hW, hM⟩ := st_add (D := D) hst hLI (xs (i + 1)) (xs (i + 2))
    refine lv_tableIn (off := 554) (tgt := 593) hx hb d_L_law_39 (by decide) (by decide) (by decide) (by decide) ?_
    exact law_add hx hb hml hown hts hA hK hN hT hZ hX hbl hbA hL hi hk hrm ⟨by omega, by omega⟩ hW hM hP hD hS hl (fun w2 H locs ls hz hP hD hS hl => W.widen (by omega) (by omega) (kk w2 H locs ls hz hP hD hS hl))
  by_cases h7 : t = 7
  · subst h7
    obtain ⟨k, mc, ms, rm, Y1, hk, hrm, hmc, hms, hW, hM⟩ := st_subtract (D := D) hst hLI (xs (i + 1)) (xs (i + 2))
    refine lv_tableIn (off := 622) (tgt := 661) hx hb d_L_law_39 (by decide) (by decide) (by decide) (by decide) ?_
    exact law_subtract hx hb hml hown hts hA hK hN hT hZ hX hbl hbA hL hi hk hrm ⟨by omega, by omega⟩ hW hM hP hD hS hl (fun w2 H locs ls hz hP hD hS hl => W.widen (by omega) (by omega) (kk w2 H locs ls hz hP hD hS hl))
  by_cases h8 : t = 8
  · subst h8
    obtain ⟨k, mc, ms, rm, Y1, hk, hrm, hmc, hms, hW, hM⟩ := st_addProduct (D := D) hst hLI (xs (i + 1)) (xs (i + 2)) (xs (i + 3))
    refine lv_tableIn (off := 690) (tgt := 729) hx hb d_L_law_39 (by decide) (by decide) (by decide) (by decide) ?_
    exact law_addProduct hx hb hml hown hts hA hK hN hT hZ hX hbl hbA hL hi hk hrm ⟨by omega, by omega⟩ hW hM hP hD hS hl (fun w2 H locs ls hz hP hD hS hl => W.widen (by omega) (by omega) (kk w2 H locs ls hz hP hD hS hl))
  by_cases h9 : t = 9
  · subst h9
    obtain ⟨k, mc, ms, rm, Y1, hk, hrm, hmc, hms, hW, hM⟩ := st_subtractProduct (D := D) hst hLI (xs (i + 1)) (xs (i + 2)) (xs (i + 3))
    refine lv_tableIn (off := 770) (tgt := 809) hx hb d_L_law_39 (by decide) (by decide) (by decide) (by decide) ?_
    exact law_subtractProduct hx hb hml hown hts hA hK hN hT hZ hX hbl hbA hL hi hk hrm ⟨by omega, by omega⟩ hW hM hP hD hS hl (fun w2 H locs ls hz hP hD hS hl => W.widen (by omega) (by omega) (kk w2 H locs ls hz hP hD hS hl))
  by_cases h10 : t = 10
  · subst h10
    obtain ⟨k, mc, ms, rm, Y1, hk, hrm, hmc, hms, hW, hM⟩ := st_times (D := D) hst hLI (xs (i + 1)) (j_ll (xs (i + 2)).toInt64 (nI 32) ||| ((xs (i + 3)).toInt64 &&& 4294967295))
    refine lv_tableIn (off := 850) (tgt := 889) hx hb d_L_law_39 (by decide) (by decide) (by decide) (by decide) ?_
    exact law_times hx hb hml hown hts hA hK hN hT hZ hX hbl hbA hL hi hk hrm ⟨by omega, by omega⟩ hW hM hP hD hS hl (fun w2 H locs ls hz hP hD hS hl => W.widen (by omega) (by omega) (kk w2 H locs ls hz hP hD hS hl))
  by_cases h11 : t = 11
  · subst h11
    obtain ⟨k, mc, ms, rm, Y1, hk, hrm, hmc, hms, hW, hM⟩ := st_negate (D := D) hst hLI (xs (i + 1))
    refine lv_tableIn (off := 950) (tgt := 989) hx hb d_L_law_39 (by decide) (by decide) (by decide) (by decide) ?_
    exact law_negate hx hb hml hown hts hA hK hN hT hZ hX hbl hbA hL hi hk hrm ⟨by omega, by omega⟩ hW hM hP hD hS hl (fun w2 H locs ls hz hP hD hS hl => W.widen (by omega) (by omega) (kk w2 H locs ls hz hP hD hS hl))
  by_cases h12 : t = 12
  · subst h12
    obtain ⟨k, mc, ms, rm, Y1, hk, hrm, hmc, hms, hW, hM⟩ := st_left (D := D) hst hLI (xs (i + 1)) (xs (i + 2))
    refine lv_tableIn (off := 1013) (tgt := 1052) hx hb d_L_law_39 (by decide) (by decide) (by decide) (by decide) ?_
    exact law_left hx hb hml hown hts hA hK hN hT hZ hX hbl hbA hL hi hk hrm ⟨by omega, by omega⟩ hW hM hP hD hS hl (fun w2 H locs ls hz hP hD hS hl => W.widen (by omega) (by omega) (kk w2 H locs ls hz hP hD hS hl))
  by_cases h13 : t = 13
  · subst h13
    obtain ⟨k, mc, ms, rm, Y1, hk, hrm, hmc, hms, hW, hM⟩ := st_right (D := D) hst hLI (xs (i + 1)) (xs (i + 2))
    refine lv_tableIn (off := 1081) (tgt := 1120) hx hb d_L_law_39 (by decide) (by decide) (by decide) (by decide) ?_
    exact law_right hx hb hml hown hts hA hK hN hT hZ hX hbl hbA hL hi hk hrm ⟨by omega, by omega⟩ hW hM hP hD hS hl (fun w2 H locs ls hz hP hD hS hl => W.widen (by omega) (by omega) (kk w2 H locs ls hz hP hD hS hl))
  by_cases h14 : t = 14
  · subst h14
    obtain ⟨k, mc, ms, rm, Y1, hk, hrm, hmc, hms, hW, hM⟩ := st_nearest (D := D) hst hLI (xs (i + 1)) (xs (i + 2))
    refine lv_tableIn (off := 1149) (tgt := 1188) hx hb d_L_law_39 (by decide) (by decide) (by decide) (by decide) ?_
    exact law_nearest hx hb hml hown hts hA hK hN hT hZ hX hbl hbA hL hi hk hrm ⟨by omega, by omega⟩ hW hM hP hD hS hl (fun w2 H locs ls hz hP hD hS hl => W.widen (by omega) (by omega) (kk w2 H locs ls hz hP hD hS hl))
  by_cases h15 : t = 15
  · subst h15
    obtain ⟨k, mc, ms, rm, Y1, hk, hrm, hmc, hms, hW, hM⟩ := st_divide (D := D) hst hLI (xs (i + 1)) (j_ll (xs (i + 2)).toInt64 (nI 32) ||| ((xs (i + 3)).toInt64 &&& 4294967295))
    refine lv_tableIn (off := 1217) (tgt := 1256) hx hb d_L_law_39 (by decide) (by decide) (by decide) (by decide) ?_
    exact law_divide hx hb hml hown hts hA hK hN hT hZ hX hbl hbA hL hi hk hrm ⟨by omega, by omega⟩ hW hM hP hD hS hl (fun w2 H locs ls hz hP hD hS hl => W.widen (by omega) (by omega) (kk w2 H locs ls hz hP hD hS hl))
  by_cases h16 : t = 16
  · subst h16
    obtain ⟨k, mc, ms, rm, Y1, hk, hrm, hmc, hms, hW, hM⟩ := st_zeros (D := D) hst hLI (xs (i + 1))
    refine lv_tableIn (off := 1316) (tgt := 1355) hx hb d_L_law_39 (by decide) (by decide) (by decide) (by decide) ?_
    exact law_zeros hx hb hml hown hts hA hK hN hT hZ hX hbl hbA hL hi hk hrm ⟨by omega, by omega⟩ hW hM hP hD hS hl (fun w2 H locs ls hz hP hD hS hl => W.widen (by omega) (by omega) (kk w2 H locs ls hz hP hD hS hl))
  by_cases h17 : t = 17
  · subst h17
    obtain ⟨k, mc, ms, rm, Y1, hk, hrm, hmc, hms, hW, hM⟩ := st_length (D := D) hst hLI (xs (i + 1))
    refine lv_tableIn (off := 1372) (tgt := 1411) hx hb d_L_law_39 (by decide) (by decide) (by decide) (by decide) ?_
    exact law_length hx hb hml hown hts hA hK hN hT hZ hX hbl hbA hL hi hk hrm ⟨by omega, by omega⟩ hW hM hP hD hS hl (fun w2 H locs ls hz hP hD hS hl => W.widen (by omega) (by omega) (kk w2 H locs ls hz hP hD hS hl))
  by_cases h18 : t = 18
  · subst h18
    obtain ⟨k, mc, ms, rm, Y1, hk, hrm, hmc, hms, hW, hM⟩ := st_sign (D := D) hst hLI (xs (i + 1))
    refine lv_tableIn (off := 1428) (tgt := 1467) hx hb d_L_law_39 (by decide) (by decide) (by decide) (by decide) ?_
    exact law_sign hx hb hml hown hts hA hK hN hT hZ hX hbl hbA hL hi hk hrm ⟨by omega, by omega⟩ hW hM hP hD hS hl (fun w2 H locs ls hz hP hD hS hl => W.widen (by omega) (by omega) (kk w2 H locs ls hz hP hD hS hl))
  by_cases h19 : t = 19
  · subst h19
    obtain ⟨k, mc, ms, rm, Y1, hk, hrm, hmc, hms, hW, hM⟩ := st_compare (D := D) hst hLI (xs (i + 1)) (xs (i + 2))
    refine lv_tableIn (off := 1484) (tgt := 1523) hx hb d_L_law_39 (by decide) (by decide) (by decide) (by decide) ?_
    exact law_compare hx hb hml hown hts hA hK hN hT hZ hX hbl hbA hL hi hk hrm ⟨by omega, by omega⟩ hW hM hP hD hS hl (fun w2 H locs ls hz hP hD hS hl => W.widen (by omega) (by omega) (kk w2 H locs ls hz hP hD hS hl))
  · refine lv_tableOut (tgt := 1591) hx hb d_L_law_39 (Or.inr (by rw [nI_toInt (by omega)]; omega)) (by decide) ?_
    exact W.widen (by omega) (by omega) (kk w0 H locs ls hLI hP hD hS hl)
set_option maxHeartbeats 1600000 in
set_option maxRecDepth 100000 in
theorem law_loop {b L : Nat} {xs : Nat → Int32} (hst : l.stackTraces = false) (hx : p.tables.exec = Jvm.exec) (hb : c.code = code) (hr : meth.sig.returnType = ret) (hml : c.maxLocals = 8) (hown : s.vm.findClass "LimbRowsLaw" = some m.cls) (hts : ∀ w ∈ gw, w.before #[Value.ref b] s = true) (hlocks : meth.locks = false) (hK : va_K D cls0 (ty3 cA cR cL) s) (hN : xN s) (hT : xT s) (hZ : xZ (fun q => s.heap.size ≤ q) s s.heap) (hX : va_X b L xs s s.heap) (hbl : b < s.heap.size) (hL : L ≤ 2048) {xo h ou : Nat} : ∀ (n i : Nat) (H : Heap) (locs : List Loc) (cells slots : Nat) (ls : Array Slot) (w0 : va_W), L ≤ i + 4 * n + 3 → i ≤ 4096 → cells + n ≤ 601024 → slots + 256 * n ≤ 7293033 → LI cA cR cL h xo ou w0 → va_P D cls0 w0 H → va_D (fun q => s.heap.size ≤ q) w0 → va_S (fun q => s.heap.size ≤ q) s.heap H locs → lv_has ls 8 [(0, .ref b), (1, .ref xo), (2, .ref h), (3, .ref ou), (4, .int (nI i))] → W p l e room_1 s m #[Value.ref b] below meth c H locs cells slots (lw_Z below #[Value.ref b] s) (F0 m 23 ls []) := by
  have hbA : ¬ (fun q => s.heap.size ≤ q) b := fun q => absurd hbl (Nat.not_lt.mpr q)
  have hd : ∀ i : Nat, i ≤ 4096 → (nI L - nI 4 < nI i ↔ L < i + 4) := by
    intro i hi
    rw [Int32.lt_iff_toInt_lt, pk_sub_toInt (by omega) (by decide), nI_toInt (by omega)]
    omega
  intro n
  induction n with
  | zero =>
    intro i H locs cells slots ls w0 hn hi hc hs hLI hP hD hS hl
    refine lv_iload hx hb d_L_law_23 (lv_at hl 4 rfl) ?_
    refine lv_aload_n hx hb d_L_law_25 rfl (lv_at hl 0 rfl) ?_
    refine va_slen hx hb hX hbl hbA hS d_L_law_26 ?_
    refine lv_iconst (v := nI 4) hx hb d_L_law_27 (by decide) ?_
    refine lv_isub hx hb d_L_law_28 ?_
    refine lv_icmp_gt (tgt := 1597) hx hb d_L_law_29 (by decide) (fun _ => law_end hx hb hr hlocks hS (by omega) (by omega)) (fun q => absurd ((hd i hi).mpr (by omega)) q)
  | succ n ih =>
    intro i H locs cells slots ls w0 hn hi hc hs hLI hP hD hS hl
    refine lv_iload hx hb d_L_law_23 (lv_at hl 4 rfl) ?_
    refine lv_aload_n hx hb d_L_law_25 rfl (lv_at hl 0 rfl) ?_
    refine va_slen hx hb hX hbl hbA hS d_L_law_26 ?_
    refine lv_iconst (v := nI 4) hx hb d_L_law_27 (by decide) ?_
    refine lv_isub hx hb d_L_law_28 ?_
    refine lv_icmp_gt (tgt := 1597) hx hb d_L_law_29 (by decide) (fun _ => law_end hx hb hr hlocks hS (by omega) (by omega)) (fun q => ?_)
    have hi4 : i + 4 ≤ L := Nat.le_of_not_lt (fun z => q ((hd i hi).mpr z))
    refine lv_aload_n hx hb d_L_law_32 rfl (lv_at hl 0 rfl) ?_
    refine lv_iload hx hb d_L_law_33 (lv_at hl 4 rfl) ?_
    refine q_sld hx hb hX hbl hbA hS (j := i) (by omega) hL d_L_law_35 ?_
    refine lv_bipush (v := nI 31) hx hb d_L_law_36 (by decide) ?_
    refine lv_iand hx hb d_L_law_38 ?_
    obtain ⟨t, ht, et⟩ := pk_andE (xs i) (m := nI 31) 5 (by decide)
    rw [et]
    refine law_op hst hx hb hr hml hown hts hlocks hK hN hT hZ hX hbl hL hi4 (by omega) (by omega) hLI hP hD hS hl (fun w2 H locs ls hLI hP hD hS hl => ?_) t ht
    refine lv_iinc (k := 4) (v := nI (i + 4)) (lv' := [(4, .int (nI (i + 4))), (0, .ref b), (1, .ref xo), (2, .ref h), (3, .ref ou)]) hx hb d_L_law_1591 hl rfl (by rw [← nI_add]; rfl) (by decide) rfl (fun ls hl => ?_)
    refine lv_goto (tgt := 23) hx hb d_L_law_1594 (by decide) ?_
    exact ih (i + 4) H locs (cells + 1) (slots + 256) ls w2 (by omega) (by omega) (by omega) (by omega) hLI hP hD hS (lv_sub hl [1, 2, 3, 4, 0] rfl)
end LOOP
