def R_IO : String := "java/lang/IndexOutOfBoundsException"
def R_IA : String := "java/lang/IllegalArgumentException"
abbrev nm2 : List String := ["java/lang/RuntimeException", "java/lang/Exception"]
theorem at_IO : ∀ w ∈ Cond.classLink "LimbRows" 39 R_IO :: Cond.initialized R_IO :: vx_atS "LimbRows" 43 R_IO nm2, w ∈ lw_tbl ∧ fw w = true := by decide +kernel
theorem at_IA : ∀ w ∈ Cond.classLink "LimbRows" 20 R_IA :: Cond.initialized R_IA :: vx_atS "LimbRows" 24 R_IA nm2, w ∈ lw_tbl ∧ fw w = true := by decide +kernel
theorem nm2_fit : ∀ n ∈ nm2, Bundle.fit n = true := by decide +kernel
theorem mIsRow_0 {x : Int32} (h : mIsRow x = nI 0) : x < 0 ∨ ¬ x < nI 64 := by
  unfold mIsRow at h
  split at h
  · exact Or.inl ‹_›
  · split at h
    · exact Or.inr (Int32.not_lt.mpr ‹_›)
    · exact absurd h (by decide)
set_option maxHeartbeats 800000 in
set_option maxRecDepth 100000 in
theorem c_X1_rowAt_n1 {l : Launch} (hst : l.stackTraces = false) {D : va_G} {Rs : va_W} {cA cR cL : ClassId} {ro la cap wd : Nat → Nat} {F : Nat → Nat → Int32} {xo ra qx qa : Nat} (hxo : Rs[qx]? = some (xo, .inr (1, [.ref ra]))) (hra : Rs[qa]? = some (ra, .inl (cR, 64, .inr (.inr (.inr (.inr (fun i => if i < 64 then some (ro i) else none))))))) (hw : rwOk cap wd) {x : Int32} (hy1 : x < 0) : xTE l y_X1_rowAt w_X1_rowAt ({ frames := 6, cells := 1, slots := 6, locals := 82 }) D cls0 (ty3 cA cR cL) [.ref xo, .int x] (rw Rs cA ro la cap wd F) R_IO 1 6 := by
  refine xTE.ofW (cc := b_X1_rowAt) (maxL := 2) (ret := some (.object "LimbRows$Row")) (by decide) rfl (Nat.le_of_ble_eq_true rfl) ?_
  intro p e s m below meth c A ls hx hb hr hml hown hts hlocks hA hK hN hT hZ hP hD hS hl htb
  have hts : ∀ w ∈ gw, w.before ([.ref xo, .int x]).toArray s = true := fun w h => hts w (List.mem_cons_of_mem _ h)
  have hown : s.vm.findClass R_LR = some m.cls := hown
  have hl : lv_has ls 2 [(0, .ref xo), (1, .int x)] := hl
  refine lv_iload_n hx hb d_X1_rowAt_0 rfl (lv_at hl 1 rfl) ?_
  refine lv_if_lt (tgt := 10) hx hb d_X1_rowAt_1 (by decide) (fun _ => ?_) (fun c9 => absurd hy1 c9)
  exact xt_throw (E := R_IO) (names := nm2) hx hb hst hown (by decide +kernel) nm2_fit at_IO kt_144 hN hT hZ hP hD hS (hl.1.trans hml.symm) d_X1_rowAt_10 d_X1_rowAt_13 d_X1_rowAt_14 d_X1_rowAt_16 d_X1_rowAt_19 htb ⟨Nat.le_of_ble_eq_true rfl, Nat.le_of_ble_eq_true rfl, Nat.le_of_ble_eq_true rfl, Nat.le_of_ble_eq_true rfl⟩ hlocks (Nat.le_refl _) (Nat.le_refl _)
set_option maxHeartbeats 800000 in
set_option maxRecDepth 100000 in
theorem c_X1_rowAt_n2 {l : Launch} (hst : l.stackTraces = false) {D : va_G} {Rs : va_W} {cA cR cL : ClassId} {ro la cap wd : Nat → Nat} {F : Nat → Nat → Int32} {xo ra qx qa : Nat} (hxo : Rs[qx]? = some (xo, .inr (1, [.ref ra]))) (hra : Rs[qa]? = some (ra, .inl (cR, 64, .inr (.inr (.inr (.inr (fun i => if i < 64 then some (ro i) else none))))))) (hw : rwOk cap wd) {x : Int32} (hy1 : ¬ x < 0) (hy2 : ¬ x < (nI 64)) : xTE l y_X1_rowAt w_X1_rowAt ({ frames := 6, cells := 1, slots := 6, locals := 82 }) D cls0 (ty3 cA cR cL) [.ref xo, .int x] (rw Rs cA ro la cap wd F) R_IO 1 6 := by
  refine xTE.ofW (cc := b_X1_rowAt) (maxL := 2) (ret := some (.object "LimbRows$Row")) (by decide) rfl (Nat.le_of_ble_eq_true rfl) ?_
  intro p e s m below meth c A ls hx hb hr hml hown hts hlocks hA hK hN hT hZ hP hD hS hl htb
  have hts : ∀ w ∈ gw, w.before ([.ref xo, .int x]).toArray s = true := fun w h => hts w (List.mem_cons_of_mem _ h)
  have hown : s.vm.findClass R_LR = some m.cls := hown
  have hl : lv_has ls 2 [(0, .ref xo), (1, .int x)] := hl
  refine lv_iload_n hx hb d_X1_rowAt_0 rfl (lv_at hl 1 rfl) ?_
  refine lv_if_lt (tgt := 10) hx hb d_X1_rowAt_1 (by decide) (fun c9 => absurd c9 hy1) (fun _ => ?_)
  refine lv_iload_n hx hb d_X1_rowAt_4 rfl (lv_at hl 1 rfl) ?_
  refine lv_bipush (v := nI 64) hx hb d_X1_rowAt_5 (by decide) ?_
  refine lv_icmp_lt (tgt := 20) hx hb d_X1_rowAt_7 (by decide) (fun c9 => absurd c9 hy2) (fun _ => ?_)
  exact xt_throw (E := R_IO) (names := nm2) hx hb hst hown (by decide +kernel) nm2_fit at_IO kt_144 hN hT hZ hP hD hS (hl.1.trans hml.symm) d_X1_rowAt_10 d_X1_rowAt_13 d_X1_rowAt_14 d_X1_rowAt_16 d_X1_rowAt_19 htb ⟨Nat.le_of_ble_eq_true rfl, Nat.le_of_ble_eq_true rfl, Nat.le_of_ble_eq_true rfl, Nat.le_of_ble_eq_true rfl⟩ hlocks (Nat.le_refl _) (Nat.le_refl _)
theorem c_X1_rowAt_no {l : Launch} (hst : l.stackTraces = false) {D : va_G} {Rs : va_W} {cA cR cL : ClassId} {ro la cap wd : Nat → Nat} {F : Nat → Nat → Int32} {xo ra qx qa : Nat} (hxo : Rs[qx]? = some (xo, .inr (1, [.ref ra]))) (hra : Rs[qa]? = some (ra, .inl (cR, 64, .inr (.inr (.inr (.inr (fun i => if i < 64 then some (ro i) else none))))))) (hw : rwOk cap wd) {x : Int32} (hno_x : mIsRow x = nI 0) : xTE l y_X1_rowAt w_X1_rowAt ({ frames := 6, cells := 1, slots := 6, locals := 82 }) D cls0 (ty3 cA cR cL) [.ref xo, .int x] (rw Rs cA ro la cap wd F) R_IO 1 6 := by
  by_cases h : x < 0
  · exact c_X1_rowAt_n1 hst hxo hra hw h
  · exact c_X1_rowAt_n2 hst hxo hra hw h ((mIsRow_0 hno_x).resolve_left h)
set_option maxHeartbeats 800000 in
set_option maxRecDepth 100000 in
theorem c_X1_refuseShift_no2 {l : Launch} (hst : l.stackTraces = false) {D : va_G} {Rs : va_W} {cA cR cL : ClassId} {ro la cap wd : Nat → Nat} {F : Nat → Nat → Int32} (hw : rwOk cap wd) {y : Int32} (hy1 : y < 0) : xTE l y_X1_refuseShift w_X1_refuseShift ({ frames := 6, cells := 1, slots := 6, locals := 82 }) D cls0 (ty3 cA cR cL) [.int y] (rw Rs cA ro la cap wd F) R_IA 1 6 := by
  refine xTE.ofW (cc := b_X1_refuseShift) (maxL := 1) (ret := none) (by decide) rfl (Nat.le_of_ble_eq_true rfl) ?_
  intro p e s m below meth c A ls hx hb hr hml hown hts hlocks hA hK hN hT hZ hP hD hS hl htb
  have hts : ∀ w ∈ gw, w.before ([.int y]).toArray s = true := fun w h => hts w (List.mem_cons_of_mem _ h)
  have hown : s.vm.findClass R_LR = some m.cls := hown
  have hl : lv_has ls 1 [(0, .int y)] := hl
  refine lv_iload_n hx hb d_X1_refuseShift_0 rfl (lv_at hl 0 rfl) ?_
  refine lv_if_lt (tgt := 11) hx hb d_X1_refuseShift_1 (by decide) (fun _ => ?_) (fun c9 => absurd hy1 c9)
  exact xt_throw (E := R_IA) (names := nm2) hx hb hst hown (by decide +kernel) nm2_fit at_IA kt_379 hN hT hZ hP hD hS (hl.1.trans hml.symm) d_X1_refuseShift_11 d_X1_refuseShift_14 d_X1_refuseShift_15 d_X1_refuseShift_17 d_X1_refuseShift_20 htb ⟨Nat.le_of_ble_eq_true rfl, Nat.le_of_ble_eq_true rfl, Nat.le_of_ble_eq_true rfl, Nat.le_of_ble_eq_true rfl⟩ hlocks (Nat.le_refl _) (Nat.le_refl _)
set_option maxHeartbeats 800000 in
set_option maxRecDepth 100000 in
theorem c_X1_refuseShift_no3 {l : Launch} (hst : l.stackTraces = false) {D : va_G} {Rs : va_W} {cA cR cL : ClassId} {ro la cap wd : Nat → Nat} {F : Nat → Nat → Int32} (hw : rwOk cap wd) {y : Int32} (hy1 : ¬ y < 0) (hy2 : ¬ y ≤ (nI 8192)) : xTE l y_X1_refuseShift w_X1_refuseShift ({ frames := 6, cells := 1, slots := 6, locals := 82 }) D cls0 (ty3 cA cR cL) [.int y] (rw Rs cA ro la cap wd F) R_IA 1 6 := by
  refine xTE.ofW (cc := b_X1_refuseShift) (maxL := 1) (ret := none) (by decide) rfl (Nat.le_of_ble_eq_true rfl) ?_
  intro p e s m below meth c A ls hx hb hr hml hown hts hlocks hA hK hN hT hZ hP hD hS hl htb
  have hts : ∀ w ∈ gw, w.before ([.int y]).toArray s = true := fun w h => hts w (List.mem_cons_of_mem _ h)
  have hown : s.vm.findClass R_LR = some m.cls := hown
  have hl : lv_has ls 1 [(0, .int y)] := hl
  refine lv_iload_n hx hb d_X1_refuseShift_0 rfl (lv_at hl 0 rfl) ?_
  refine lv_if_lt (tgt := 11) hx hb d_X1_refuseShift_1 (by decide) (fun c9 => absurd c9 hy1) (fun _ => ?_)
  refine lv_iload_n hx hb d_X1_refuseShift_4 rfl (lv_at hl 0 rfl) ?_
  refine lv_sipush (v := nI 8192) hx hb d_X1_refuseShift_5 (by decide) ?_
  refine lv_icmp_le (tgt := 21) hx hb d_X1_refuseShift_8 (by decide) (fun c9 => absurd c9 hy2) (fun _ => ?_)
  exact xt_throw (E := R_IA) (names := nm2) hx hb hst hown (by decide +kernel) nm2_fit at_IA kt_379 hN hT hZ hP hD hS (hl.1.trans hml.symm) d_X1_refuseShift_11 d_X1_refuseShift_14 d_X1_refuseShift_15 d_X1_refuseShift_17 d_X1_refuseShift_20 htb ⟨Nat.le_of_ble_eq_true rfl, Nat.le_of_ble_eq_true rfl, Nat.le_of_ble_eq_true rfl, Nat.le_of_ble_eq_true rfl⟩ hlocks (Nat.le_refl _) (Nat.le_refl _)
set_option maxHeartbeats 800000 in
set_option maxRecDepth 100000 in
theorem c_X1_refuseOwnFactor_no4 {l : Launch} (hst : l.stackTraces = false) {D : va_G} {Rs : va_W} {cA cR cL : ClassId} {ro la cap wd : Nat → Nat} {F : Nat → Nat → Int32} (hw : rwOk cap wd) {r a u : Nat} (hr64 : r < 64) (ha64 : a < 64) (hu64 : u < 64) (hra1 : r = a) : xTE l y_X1_refuseOwnFactor w_X1_refuseOwnFactor ({ frames := 6, cells := 1, slots := 6, locals := 82 }) D cls0 (ty3 cA cR cL) [.int (nI r), .int (nI a), .int (nI u)] (rw Rs cA ro la cap wd F) R_IA 1 6 := by
  refine xTE.ofW (cc := b_X1_refuseOwnFactor) (maxL := 3) (ret := none) (by decide) rfl (Nat.le_of_ble_eq_true rfl) ?_
  intro p e s m below meth c A ls hx hb hr hml hown hts hlocks hA hK hN hT hZ hP hD hS hl htb
  have hts : ∀ w ∈ gw, w.before ([.int (nI r), .int (nI a), .int (nI u)]).toArray s = true := fun w h => hts w (List.mem_cons_of_mem _ h)
  have hown : s.vm.findClass R_LR = some m.cls := hown
  have hl : lv_has ls 3 [(0, .int (nI r)), (1, .int (nI a)), (2, .int (nI u))] := hl
  refine lv_iload_n hx hb d_X1_refuseOwnFactor_0 rfl (lv_at hl 0 rfl) ?_
  refine lv_iload_n hx hb d_X1_refuseOwnFactor_1 rfl (lv_at hl 1 rfl) ?_
  refine n_icmp_eq (tgt := 10) hx hb d_X1_refuseOwnFactor_2 (by decide) (by omega) (by omega) (fun _ => ?_) (fun c9 => absurd c9 (by omega))
  exact xt_throw (E := R_IA) (names := nm2) hx hb hst hown (by decide +kernel) nm2_fit at_IA kt_308 hN hT hZ hP hD hS (hl.1.trans hml.symm) d_X1_refuseOwnFactor_10 d_X1_refuseOwnFactor_13 d_X1_refuseOwnFactor_14 d_X1_refuseOwnFactor_16 d_X1_refuseOwnFactor_19 htb ⟨Nat.le_of_ble_eq_true rfl, Nat.le_of_ble_eq_true rfl, Nat.le_of_ble_eq_true rfl, Nat.le_of_ble_eq_true rfl⟩ hlocks (Nat.le_refl _) (Nat.le_refl _)
set_option maxHeartbeats 800000 in
set_option maxRecDepth 100000 in
theorem c_X1_refuseOwnFactor_no5 {l : Launch} (hst : l.stackTraces = false) {D : va_G} {Rs : va_W} {cA cR cL : ClassId} {ro la cap wd : Nat → Nat} {F : Nat → Nat → Int32} (hw : rwOk cap wd) {r a u : Nat} (hr64 : r < 64) (ha64 : a < 64) (hu64 : u < 64) (hra1 : r ≠ a) (hru : r = u) : xTE l y_X1_refuseOwnFactor w_X1_refuseOwnFactor ({ frames := 6, cells := 1, slots := 6, locals := 82 }) D cls0 (ty3 cA cR cL) [.int (nI r), .int (nI a), .int (nI u)] (rw Rs cA ro la cap wd F) R_IA 1 6 := by
  refine xTE.ofW (cc := b_X1_refuseOwnFactor) (maxL := 3) (ret := none) (by decide) rfl (Nat.le_of_ble_eq_true rfl) ?_
  intro p e s m below meth c A ls hx hb hr hml hown hts hlocks hA hK hN hT hZ hP hD hS hl htb
  have hts : ∀ w ∈ gw, w.before ([.int (nI r), .int (nI a), .int (nI u)]).toArray s = true := fun w h => hts w (List.mem_cons_of_mem _ h)
  have hown : s.vm.findClass R_LR = some m.cls := hown
  have hl : lv_has ls 3 [(0, .int (nI r)), (1, .int (nI a)), (2, .int (nI u))] := hl
  refine lv_iload_n hx hb d_X1_refuseOwnFactor_0 rfl (lv_at hl 0 rfl) ?_
  refine lv_iload_n hx hb d_X1_refuseOwnFactor_1 rfl (lv_at hl 1 rfl) ?_
  refine n_icmp_eq (tgt := 10) hx hb d_X1_refuseOwnFactor_2 (by decide) (by omega) (by omega) (fun c9 => absurd c9 (by omega)) (fun _ => ?_)
  refine lv_iload_n hx hb d_X1_refuseOwnFactor_5 rfl (lv_at hl 0 rfl) ?_
  refine lv_iload_n hx hb d_X1_refuseOwnFactor_6 rfl (lv_at hl 2 rfl) ?_
  refine n_icmp_ne (tgt := 20) hx hb d_X1_refuseOwnFactor_7 (by decide) (by omega) (by omega) (fun c9 => absurd c9 (by omega)) (fun _ => ?_)
  exact xt_throw (E := R_IA) (names := nm2) hx hb hst hown (by decide +kernel) nm2_fit at_IA kt_308 hN hT hZ hP hD hS (hl.1.trans hml.symm) d_X1_refuseOwnFactor_10 d_X1_refuseOwnFactor_13 d_X1_refuseOwnFactor_14 d_X1_refuseOwnFactor_16 d_X1_refuseOwnFactor_19 htb ⟨Nat.le_of_ble_eq_true rfl, Nat.le_of_ble_eq_true rfl, Nat.le_of_ble_eq_true rfl, Nat.le_of_ble_eq_true rfl⟩ hlocks (Nat.le_refl _) (Nat.le_refl _)
set_option maxHeartbeats 800000 in
set_option maxRecDepth 100000 in
theorem c_X1_width_no {l : Launch} (hst : l.stackTraces = false) {D : va_G} {Rs : va_W} {cA cR cL : ClassId} {ro la cap wd : Nat → Nat} {F : Nat → Nat → Int32} {xo ra qx qa : Nat} (hxo : Rs[qx]? = some (xo, .inr (1, [.ref ra]))) (hra : Rs[qa]? = some (ra, .inl (cR, 64, .inr (.inr (.inr (.inr (fun i => if i < 64 then some (ro i) else none))))))) (hw : rwOk cap wd) {x : Int32} (hno_x : mIsRow x = nI 0) : xTE l y_X1_width w_X1_width ({ frames := 7, cells := 1, slots := 6, locals := 104 }) D cls0 (ty3 cA cR cL) [.ref xo, .int x] (rw Rs cA ro la cap wd F) R_IO 1 6 := by
  refine xTE.ofW (cc := b_X1_width) (maxL := 2) (ret := some .int) (by decide) rfl (Nat.le_of_ble_eq_true rfl) ?_
  intro p e s m below meth c A ls hx hb hr hml hown hts hlocks hA hK hN hT hZ hP hD hS hl htb
  have hts : ∀ w ∈ gw, w.before ([.ref xo, .int x]).toArray s = true := fun w h => hts w (List.mem_cons_of_mem _ h)
  have hown : s.vm.findClass R_LR = some m.cls := hown
  have hl : lv_has ls 2 [(0, .ref xo), (1, .int x)] := hl
  refine lv_aload_n hx hb d_X1_width_0 rfl (lv_at hl 0 rfl) ?_
  refine lv_iload_n hx hb d_X1_width_1 rfl (lv_at hl 1 rfl) ?_
  refine xt_call (xt_runV (As := [.int x]) (rest := []) (nL := 2) ⟨hx, hb, hml, hown, hts⟩ (c_X1_rowAt_no hst hxo hra hw hno_x _) (cwV 1 hts (gw_V k_100 k_102 k_0 k_50 k_103) rfl rfl rfl (by decide +kernel) ⟨Nat.le_of_ble_eq_true rfl, Nat.le_of_ble_eq_true rfl⟩) hK hN hT hZ hP hD hS (x_sub hD hS hA) _ 1 (rw_in hxo) rfl rfl hl.1 rfl (Nat.le_of_ble_eq_true rfl) d_X1_width_2 ⟨Nat.le_of_ble_eq_true rfl, Nat.le_of_ble_eq_true rfl⟩) hS (x_sub hD hS hA) (fun q9 ce H locs hP hD hS h1 h2 h3 => ?_)
  exact xt_out htb hlocks hP hD hS h1 h2 h3 (Nat.le_refl _) (Nat.le_refl _)
set_option maxHeartbeats 800000 in
set_option maxRecDepth 100000 in
theorem c_X1_set_no {l : Launch} (hst : l.stackTraces = false) {D : va_G} {Rs : va_W} {cA cR cL : ClassId} {ro la cap wd : Nat → Nat} {F : Nat → Nat → Int32} {xo ra qx qa : Nat} (hxo : Rs[qx]? = some (xo, .inr (1, [.ref ra]))) (hra : Rs[qa]? = some (ra, .inl (cR, 64, .inr (.inr (.inr (.inr (fun i => if i < 64 then some (ro i) else none))))))) (hw : rwOk cap wd) {x : Int32} (hno_x : mIsRow x = nI 0) (v : Int64) : xTE l y_X1_set w_X1_set ({ frames := 7, cells := 1, slots := 6, locals := 104 }) D cls0 (ty3 cA cR cL) [.ref xo, .int x, .long v] (rw Rs cA ro la cap wd F) R_IO 1 6 := by
  refine xTE.ofW (cc := b_X1_set) (maxL := 4) (ret := some .boolean) (by decide) rfl (Nat.le_of_ble_eq_true rfl) ?_
  intro p e s m below meth c A ls hx hb hr hml hown hts hlocks hA hK hN hT hZ hP hD hS hl htb
  have hts : ∀ w ∈ gw, w.before ([.ref xo, .int x, .long v]).toArray s = true := fun w h => hts w (List.mem_cons_of_mem _ h)
  have hown : s.vm.findClass R_LR = some m.cls := hown
  have hl : lv_has ls 4 [(0, .ref xo), (1, .int x), (2, .long v)] := hl
  refine lv_aload_n hx hb d_X1_set_0 rfl (lv_at hl 0 rfl) ?_
  refine lv_iload_n hx hb d_X1_set_1 rfl (lv_at hl 1 rfl) ?_
  refine xt_call (xt_runV (As := [.int x]) (rest := []) (nL := 4) ⟨hx, hb, hml, hown, hts⟩ (c_X1_rowAt_no hst hxo hra hw hno_x _) (cwV 1 hts (gw_V k_100 k_102 k_0 k_50 k_103) rfl rfl rfl (by decide +kernel) ⟨Nat.le_of_ble_eq_true rfl, Nat.le_of_ble_eq_true rfl⟩) hK hN hT hZ hP hD hS (x_sub hD hS hA) _ 1 (rw_in hxo) rfl rfl hl.1 rfl (Nat.le_of_ble_eq_true rfl) d_X1_set_2 ⟨Nat.le_of_ble_eq_true rfl, Nat.le_of_ble_eq_true rfl⟩) hS (x_sub hD hS hA) (fun q9 ce H locs hP hD hS h1 h2 h3 => ?_)
  exact xt_out htb hlocks hP hD hS h1 h2 h3 (Nat.le_refl _) (Nat.le_refl _)
set_option maxHeartbeats 800000 in
set_option maxRecDepth 100000 in
theorem c_X1_times_no {l : Launch} (hst : l.stackTraces = false) {D : va_G} {Rs : va_W} {cA cR cL : ClassId} {ro la cap wd : Nat → Nat} {F : Nat → Nat → Int32} {xo ra qx qa : Nat} (hxo : Rs[qx]? = some (xo, .inr (1, [.ref ra]))) (hra : Rs[qa]? = some (ra, .inl (cR, 64, .inr (.inr (.inr (.inr (fun i => if i < 64 then some (ro i) else none))))))) (hw : rwOk cap wd) {x : Int32} (hno_x : mIsRow x = nI 0) (v : Int64) : xTE l y_X1_times w_X1_times ({ frames := 7, cells := 1, slots := 6, locals := 104 }) D cls0 (ty3 cA cR cL) [.ref xo, .int x, .long v] (rw Rs cA ro la cap wd F) R_IO 1 6 := by
  refine xTE.ofW (cc := b_X1_times) (maxL := 5) (ret := some .int) (by decide) rfl (Nat.le_of_ble_eq_true rfl) ?_
  intro p e s m below meth c A ls hx hb hr hml hown hts hlocks hA hK hN hT hZ hP hD hS hl htb
  have hts : ∀ w ∈ gw, w.before ([.ref xo, .int x, .long v]).toArray s = true := fun w h => hts w (List.mem_cons_of_mem _ h)
  have hown : s.vm.findClass R_LR = some m.cls := hown
  have hl : lv_has ls 5 [(0, .ref xo), (1, .int x), (2, .long v)] := hl
  refine lv_aload_n hx hb d_X1_times_0 rfl (lv_at hl 0 rfl) ?_
  refine lv_iload_n hx hb d_X1_times_1 rfl (lv_at hl 1 rfl) ?_
  refine xt_call (xt_runV (As := [.int x]) (rest := []) (nL := 5) ⟨hx, hb, hml, hown, hts⟩ (c_X1_rowAt_no hst hxo hra hw hno_x _) (cwV 1 hts (gw_V k_100 k_102 k_0 k_50 k_103) rfl rfl rfl (by decide +kernel) ⟨Nat.le_of_ble_eq_true rfl, Nat.le_of_ble_eq_true rfl⟩) hK hN hT hZ hP hD hS (x_sub hD hS hA) _ 1 (rw_in hxo) rfl rfl hl.1 rfl (Nat.le_of_ble_eq_true rfl) d_X1_times_2 ⟨Nat.le_of_ble_eq_true rfl, Nat.le_of_ble_eq_true rfl⟩) hS (x_sub hD hS hA) (fun q9 ce H locs hP hD hS h1 h2 h3 => ?_)
  exact xt_out htb hlocks hP hD hS h1 h2 h3 (Nat.le_refl _) (Nat.le_refl _)
set_option maxHeartbeats 800000 in
set_option maxRecDepth 100000 in
theorem c_X1_negate_no {l : Launch} (hst : l.stackTraces = false) {D : va_G} {Rs : va_W} {cA cR cL : ClassId} {ro la cap wd : Nat → Nat} {F : Nat → Nat → Int32} {xo ra qx qa : Nat} (hxo : Rs[qx]? = some (xo, .inr (1, [.ref ra]))) (hra : Rs[qa]? = some (ra, .inl (cR, 64, .inr (.inr (.inr (.inr (fun i => if i < 64 then some (ro i) else none))))))) (hw : rwOk cap wd) {x : Int32} (hno_x : mIsRow x = nI 0) : xTE l y_X1_negate w_X1_negate ({ frames := 7, cells := 1, slots := 6, locals := 104 }) D cls0 (ty3 cA cR cL) [.ref xo, .int x] (rw Rs cA ro la cap wd F) R_IO 1 6 := by
  refine xTE.ofW (cc := b_X1_negate) (maxL := 2) (ret := some .boolean) (by decide) rfl (Nat.le_of_ble_eq_true rfl) ?_
  intro p e s m below meth c A ls hx hb hr hml hown hts hlocks hA hK hN hT hZ hP hD hS hl htb
  have hts : ∀ w ∈ gw, w.before ([.ref xo, .int x]).toArray s = true := fun w h => hts w (List.mem_cons_of_mem _ h)
  have hown : s.vm.findClass R_LR = some m.cls := hown
  have hl : lv_has ls 2 [(0, .ref xo), (1, .int x)] := hl
  refine lv_aload_n hx hb d_X1_negate_0 rfl (lv_at hl 0 rfl) ?_
  refine lv_iload_n hx hb d_X1_negate_1 rfl (lv_at hl 1 rfl) ?_
  refine xt_call (xt_runV (As := [.int x]) (rest := []) (nL := 2) ⟨hx, hb, hml, hown, hts⟩ (c_X1_rowAt_no hst hxo hra hw hno_x _) (cwV 1 hts (gw_V k_100 k_102 k_0 k_50 k_103) rfl rfl rfl (by decide +kernel) ⟨Nat.le_of_ble_eq_true rfl, Nat.le_of_ble_eq_true rfl⟩) hK hN hT hZ hP hD hS (x_sub hD hS hA) _ 1 (rw_in hxo) rfl rfl hl.1 rfl (Nat.le_of_ble_eq_true rfl) d_X1_negate_2 ⟨Nat.le_of_ble_eq_true rfl, Nat.le_of_ble_eq_true rfl⟩) hS (x_sub hD hS hA) (fun q9 ce H locs hP hD hS h1 h2 h3 => ?_)
  exact xt_out htb hlocks hP hD hS h1 h2 h3 (Nat.le_refl _) (Nat.le_refl _)
set_option maxHeartbeats 800000 in
set_option maxRecDepth 100000 in
theorem c_X1_zeros_no {l : Launch} (hst : l.stackTraces = false) {D : va_G} {Rs : va_W} {cA cR cL : ClassId} {ro la cap wd : Nat → Nat} {F : Nat → Nat → Int32} {xo ra qx qa : Nat} (hxo : Rs[qx]? = some (xo, .inr (1, [.ref ra]))) (hra : Rs[qa]? = some (ra, .inl (cR, 64, .inr (.inr (.inr (.inr (fun i => if i < 64 then some (ro i) else none))))))) (hw : rwOk cap wd) {x : Int32} (hno_x : mIsRow x = nI 0) : xTE l y_X1_zeros w_X1_zeros ({ frames := 7, cells := 1, slots := 6, locals := 104 }) D cls0 (ty3 cA cR cL) [.ref xo, .int x] (rw Rs cA ro la cap wd F) R_IO 1 6 := by
  refine xTE.ofW (cc := b_X1_zeros) (maxL := 2) (ret := some .int) (by decide) rfl (Nat.le_of_ble_eq_true rfl) ?_
  intro p e s m below meth c A ls hx hb hr hml hown hts hlocks hA hK hN hT hZ hP hD hS hl htb
  have hts : ∀ w ∈ gw, w.before ([.ref xo, .int x]).toArray s = true := fun w h => hts w (List.mem_cons_of_mem _ h)
  have hown : s.vm.findClass R_LR = some m.cls := hown
  have hl : lv_has ls 2 [(0, .ref xo), (1, .int x)] := hl
  refine lv_aload_n hx hb d_X1_zeros_0 rfl (lv_at hl 0 rfl) ?_
  refine lv_iload_n hx hb d_X1_zeros_1 rfl (lv_at hl 1 rfl) ?_
  refine xt_call (xt_runV (As := [.int x]) (rest := []) (nL := 2) ⟨hx, hb, hml, hown, hts⟩ (c_X1_rowAt_no hst hxo hra hw hno_x _) (cwV 1 hts (gw_V k_100 k_102 k_0 k_50 k_103) rfl rfl rfl (by decide +kernel) ⟨Nat.le_of_ble_eq_true rfl, Nat.le_of_ble_eq_true rfl⟩) hK hN hT hZ hP hD hS (x_sub hD hS hA) _ 1 (rw_in hxo) rfl rfl hl.1 rfl (Nat.le_of_ble_eq_true rfl) d_X1_zeros_2 ⟨Nat.le_of_ble_eq_true rfl, Nat.le_of_ble_eq_true rfl⟩) hS (x_sub hD hS hA) (fun q9 ce H locs hP hD hS h1 h2 h3 => ?_)
  exact xt_out htb hlocks hP hD hS h1 h2 h3 (Nat.le_refl _) (Nat.le_refl _)
set_option maxHeartbeats 800000 in
set_option maxRecDepth 100000 in
theorem c_X1_length_no {l : Launch} (hst : l.stackTraces = false) {D : va_G} {Rs : va_W} {cA cR cL : ClassId} {ro la cap wd : Nat → Nat} {F : Nat → Nat → Int32} {xo ra qx qa : Nat} (hxo : Rs[qx]? = some (xo, .inr (1, [.ref ra]))) (hra : Rs[qa]? = some (ra, .inl (cR, 64, .inr (.inr (.inr (.inr (fun i => if i < 64 then some (ro i) else none))))))) (hw : rwOk cap wd) {x : Int32} (hno_x : mIsRow x = nI 0) : xTE l y_X1_length w_X1_length ({ frames := 7, cells := 1, slots := 6, locals := 104 }) D cls0 (ty3 cA cR cL) [.ref xo, .int x] (rw Rs cA ro la cap wd F) R_IO 1 6 := by
  refine xTE.ofW (cc := b_X1_length) (maxL := 2) (ret := some .int) (by decide) rfl (Nat.le_of_ble_eq_true rfl) ?_
  intro p e s m below meth c A ls hx hb hr hml hown hts hlocks hA hK hN hT hZ hP hD hS hl htb
  have hts : ∀ w ∈ gw, w.before ([.ref xo, .int x]).toArray s = true := fun w h => hts w (List.mem_cons_of_mem _ h)
  have hown : s.vm.findClass R_LR = some m.cls := hown
  have hl : lv_has ls 2 [(0, .ref xo), (1, .int x)] := hl
  refine lv_aload_n hx hb d_X1_length_0 rfl (lv_at hl 0 rfl) ?_
  refine lv_iload_n hx hb d_X1_length_1 rfl (lv_at hl 1 rfl) ?_
  refine xt_call (xt_runV (As := [.int x]) (rest := []) (nL := 2) ⟨hx, hb, hml, hown, hts⟩ (c_X1_rowAt_no hst hxo hra hw hno_x _) (cwV 1 hts (gw_V k_100 k_102 k_0 k_50 k_103) rfl rfl rfl (by decide +kernel) ⟨Nat.le_of_ble_eq_true rfl, Nat.le_of_ble_eq_true rfl⟩) hK hN hT hZ hP hD hS (x_sub hD hS hA) _ 1 (rw_in hxo) rfl rfl hl.1 rfl (Nat.le_of_ble_eq_true rfl) d_X1_length_2 ⟨Nat.le_of_ble_eq_true rfl, Nat.le_of_ble_eq_true rfl⟩) hS (x_sub hD hS hA) (fun q9 ce H locs hP hD hS h1 h2 h3 => ?_)
  exact xt_out htb hlocks hP hD hS h1 h2 h3 (Nat.le_refl _) (Nat.le_refl _)
set_option maxHeartbeats 800000 in
set_option maxRecDepth 100000 in
theorem c_X1_sign_no {l : Launch} (hst : l.stackTraces = false) {D : va_G} {Rs : va_W} {cA cR cL : ClassId} {ro la cap wd : Nat → Nat} {F : Nat → Nat → Int32} {xo ra qx qa : Nat} (hxo : Rs[qx]? = some (xo, .inr (1, [.ref ra]))) (hra : Rs[qa]? = some (ra, .inl (cR, 64, .inr (.inr (.inr (.inr (fun i => if i < 64 then some (ro i) else none))))))) (hw : rwOk cap wd) {x : Int32} (hno_x : mIsRow x = nI 0) : xTE l y_X1_sign w_X1_sign ({ frames := 7, cells := 1, slots := 6, locals := 104 }) D cls0 (ty3 cA cR cL) [.ref xo, .int x] (rw Rs cA ro la cap wd F) R_IO 1 6 := by
  refine xTE.ofW (cc := b_X1_sign) (maxL := 2) (ret := some .int) (by decide) rfl (Nat.le_of_ble_eq_true rfl) ?_
  intro p e s m below meth c A ls hx hb hr hml hown hts hlocks hA hK hN hT hZ hP hD hS hl htb
  have hts : ∀ w ∈ gw, w.before ([.ref xo, .int x]).toArray s = true := fun w h => hts w (List.mem_cons_of_mem _ h)
  have hown : s.vm.findClass R_LR = some m.cls := hown
  have hl : lv_has ls 2 [(0, .ref xo), (1, .int x)] := hl
  refine lv_aload_n hx hb d_X1_sign_0 rfl (lv_at hl 0 rfl) ?_
  refine lv_iload_n hx hb d_X1_sign_1 rfl (lv_at hl 1 rfl) ?_
  refine xt_call (xt_runV (As := [.int x]) (rest := []) (nL := 2) ⟨hx, hb, hml, hown, hts⟩ (c_X1_rowAt_no hst hxo hra hw hno_x _) (cwV 1 hts (gw_V k_100 k_102 k_0 k_50 k_103) rfl rfl rfl (by decide +kernel) ⟨Nat.le_of_ble_eq_true rfl, Nat.le_of_ble_eq_true rfl⟩) hK hN hT hZ hP hD hS (x_sub hD hS hA) _ 1 (rw_in hxo) rfl rfl hl.1 rfl (Nat.le_of_ble_eq_true rfl) d_X1_sign_2 ⟨Nat.le_of_ble_eq_true rfl, Nat.le_of_ble_eq_true rfl⟩) hS (x_sub hD hS hA) (fun q9 ce H locs hP hD hS h1 h2 h3 => ?_)
  exact xt_out htb hlocks hP hD hS h1 h2 h3 (Nat.le_refl _) (Nat.le_refl _)
abbrev w_X1_widen : List Cond := .code y_X1_widen b_X1_widen 4 (some .boolean) :: gw
set_option maxHeartbeats 800000 in
set_option maxRecDepth 100000 in
theorem c_X1_widen_no {l : Launch} (hst : l.stackTraces = false) {D : va_G} {Rs : va_W} {cA cR cL : ClassId} {ro la cap wd : Nat → Nat} {F : Nat → Nat → Int32} {xo ra qx qa : Nat} (hxo : Rs[qx]? = some (xo, .inr (1, [.ref ra]))) (hra : Rs[qa]? = some (ra, .inl (cR, 64, .inr (.inr (.inr (.inr (fun i => if i < 64 then some (ro i) else none))))))) (hw : rwOk cap wd) {x : Int32} (hno_x : mIsRow x = nI 0) (y : Int32) : xTE l y_X1_widen w_X1_widen ({ frames := 7, cells := 1, slots := 6, locals := 104 }) D cls0 (ty3 cA cR cL) [.ref xo, .int x, .int y] (rw Rs cA ro la cap wd F) R_IO 1 6 := by
  refine xTE.ofW (cc := b_X1_widen) (maxL := 4) (ret := some .boolean) (by decide) rfl (Nat.le_of_ble_eq_true rfl) ?_
  intro p e s m below meth c A ls hx hb hr hml hown hts hlocks hA hK hN hT hZ hP hD hS hl htb
  have hts : ∀ w ∈ gw, w.before ([.ref xo, .int x, .int y]).toArray s = true := fun w h => hts w (List.mem_cons_of_mem _ h)
  have hown : s.vm.findClass R_LR = some m.cls := hown
  have hl : lv_has ls 4 [(0, .ref xo), (1, .int x), (2, .int y)] := hl
  refine lv_aload_n hx hb d_X1_widen_0 rfl (lv_at hl 0 rfl) ?_
  refine lv_iload_n hx hb d_X1_widen_1 rfl (lv_at hl 1 rfl) ?_
  refine xt_call (xt_runV (As := [.int x]) (rest := []) (nL := 4) ⟨hx, hb, hml, hown, hts⟩ (c_X1_rowAt_no hst hxo hra hw hno_x _) (cwV 1 hts (gw_V k_100 k_102 k_0 k_50 k_103) rfl rfl rfl (by decide +kernel) ⟨Nat.le_of_ble_eq_true rfl, Nat.le_of_ble_eq_true rfl⟩) hK hN hT hZ hP hD hS (x_sub hD hS hA) _ 1 (rw_in hxo) rfl rfl hl.1 rfl (Nat.le_of_ble_eq_true rfl) d_X1_widen_2 ⟨Nat.le_of_ble_eq_true rfl, Nat.le_of_ble_eq_true rfl⟩) hS (x_sub hD hS hA) (fun q9 ce H locs hP hD hS h1 h2 h3 => ?_)
  exact xt_out htb hlocks hP hD hS h1 h2 h3 (Nat.le_refl _) (Nat.le_refl _)
set_option maxHeartbeats 800000 in
set_option maxRecDepth 100000 in
theorem c_X1_left_no {l : Launch} (hst : l.stackTraces = false) {D : va_G} {Rs : va_W} {cA cR cL : ClassId} {ro la cap wd : Nat → Nat} {F : Nat → Nat → Int32} {xo ra qx qa : Nat} (hxo : Rs[qx]? = some (xo, .inr (1, [.ref ra]))) (hra : Rs[qa]? = some (ra, .inl (cR, 64, .inr (.inr (.inr (.inr (fun i => if i < 64 then some (ro i) else none))))))) (hw : rwOk cap wd) {x : Int32} (hno_x : mIsRow x = nI 0) (y : Int32) : xTE l y_X1_left w_X1_left ({ frames := 7, cells := 1, slots := 6, locals := 104 }) D cls0 (ty3 cA cR cL) [.ref xo, .int x, .int y] (rw Rs cA ro la cap wd F) R_IO 1 6 := by
  refine xTE.ofW (cc := b_X1_left) (maxL := 4) (ret := some .int) (by decide) rfl (Nat.le_of_ble_eq_true rfl) ?_
  intro p e s m below meth c A ls hx hb hr hml hown hts hlocks hA hK hN hT hZ hP hD hS hl htb
  have hts : ∀ w ∈ gw, w.before ([.ref xo, .int x, .int y]).toArray s = true := fun w h => hts w (List.mem_cons_of_mem _ h)
  have hown : s.vm.findClass R_LR = some m.cls := hown
  have hl : lv_has ls 4 [(0, .ref xo), (1, .int x), (2, .int y)] := hl
  refine lv_aload_n hx hb d_X1_left_0 rfl (lv_at hl 0 rfl) ?_
  refine lv_iload_n hx hb d_X1_left_1 rfl (lv_at hl 1 rfl) ?_
  refine xt_call (xt_runV (As := [.int x]) (rest := []) (nL := 4) ⟨hx, hb, hml, hown, hts⟩ (c_X1_rowAt_no hst hxo hra hw hno_x _) (cwV 1 hts (gw_V k_100 k_102 k_0 k_50 k_103) rfl rfl rfl (by decide +kernel) ⟨Nat.le_of_ble_eq_true rfl, Nat.le_of_ble_eq_true rfl⟩) hK hN hT hZ hP hD hS (x_sub hD hS hA) _ 1 (rw_in hxo) rfl rfl hl.1 rfl (Nat.le_of_ble_eq_true rfl) d_X1_left_2 ⟨Nat.le_of_ble_eq_true rfl, Nat.le_of_ble_eq_true rfl⟩) hS (x_sub hD hS hA) (fun q9 ce H locs hP hD hS h1 h2 h3 => ?_)
  exact xt_out htb hlocks hP hD hS h1 h2 h3 (Nat.le_refl _) (Nat.le_refl _)
set_option maxHeartbeats 800000 in
set_option maxRecDepth 100000 in
theorem c_X1_right_no {l : Launch} (hst : l.stackTraces = false) {D : va_G} {Rs : va_W} {cA cR cL : ClassId} {ro la cap wd : Nat → Nat} {F : Nat → Nat → Int32} {xo ra qx qa : Nat} (hxo : Rs[qx]? = some (xo, .inr (1, [.ref ra]))) (hra : Rs[qa]? = some (ra, .inl (cR, 64, .inr (.inr (.inr (.inr (fun i => if i < 64 then some (ro i) else none))))))) (hw : rwOk cap wd) {x : Int32} (hno_x : mIsRow x = nI 0) (y : Int32) : xTE l y_X1_right w_X1_right ({ frames := 7, cells := 1, slots := 6, locals := 104 }) D cls0 (ty3 cA cR cL) [.ref xo, .int x, .int y] (rw Rs cA ro la cap wd F) R_IO 1 6 := by
  refine xTE.ofW (cc := b_X1_right) (maxL := 4) (ret := some .int) (by decide) rfl (Nat.le_of_ble_eq_true rfl) ?_
  intro p e s m below meth c A ls hx hb hr hml hown hts hlocks hA hK hN hT hZ hP hD hS hl htb
  have hts : ∀ w ∈ gw, w.before ([.ref xo, .int x, .int y]).toArray s = true := fun w h => hts w (List.mem_cons_of_mem _ h)
  have hown : s.vm.findClass R_LR = some m.cls := hown
  have hl : lv_has ls 4 [(0, .ref xo), (1, .int x), (2, .int y)] := hl
  refine lv_aload_n hx hb d_X1_right_0 rfl (lv_at hl 0 rfl) ?_
  refine lv_iload_n hx hb d_X1_right_1 rfl (lv_at hl 1 rfl) ?_
  refine xt_call (xt_runV (As := [.int x]) (rest := []) (nL := 4) ⟨hx, hb, hml, hown, hts⟩ (c_X1_rowAt_no hst hxo hra hw hno_x _) (cwV 1 hts (gw_V k_100 k_102 k_0 k_50 k_103) rfl rfl rfl (by decide +kernel) ⟨Nat.le_of_ble_eq_true rfl, Nat.le_of_ble_eq_true rfl⟩) hK hN hT hZ hP hD hS (x_sub hD hS hA) _ 1 (rw_in hxo) rfl rfl hl.1 rfl (Nat.le_of_ble_eq_true rfl) d_X1_right_2 ⟨Nat.le_of_ble_eq_true rfl, Nat.le_of_ble_eq_true rfl⟩) hS (x_sub hD hS hA) (fun q9 ce H locs hP hD hS h1 h2 h3 => ?_)
  exact xt_out htb hlocks hP hD hS h1 h2 h3 (Nat.le_refl _) (Nat.le_refl _)
set_option maxHeartbeats 800000 in
set_option maxRecDepth 100000 in
theorem c_X1_nearest_no {l : Launch} (hst : l.stackTraces = false) {D : va_G} {Rs : va_W} {cA cR cL : ClassId} {ro la cap wd : Nat → Nat} {F : Nat → Nat → Int32} {xo ra qx qa : Nat} (hxo : Rs[qx]? = some (xo, .inr (1, [.ref ra]))) (hra : Rs[qa]? = some (ra, .inl (cR, 64, .inr (.inr (.inr (.inr (fun i => if i < 64 then some (ro i) else none))))))) (hw : rwOk cap wd) {x : Int32} (hno_x : mIsRow x = nI 0) (y : Int32) : xTE l y_X1_nearest w_X1_nearest ({ frames := 7, cells := 1, slots := 6, locals := 104 }) D cls0 (ty3 cA cR cL) [.ref xo, .int x, .int y] (rw Rs cA ro la cap wd F) R_IO 1 6 := by
  refine xTE.ofW (cc := b_X1_nearest) (maxL := 5) (ret := some .int) (by decide) rfl (Nat.le_of_ble_eq_true rfl) ?_
  intro p e s m below meth c A ls hx hb hr hml hown hts hlocks hA hK hN hT hZ hP hD hS hl htb
  have hts : ∀ w ∈ gw, w.before ([.ref xo, .int x, .int y]).toArray s = true := fun w h => hts w (List.mem_cons_of_mem _ h)
  have hown : s.vm.findClass R_LR = some m.cls := hown
  have hl : lv_has ls 5 [(0, .ref xo), (1, .int x), (2, .int y)] := hl
  refine lv_aload_n hx hb d_X1_nearest_0 rfl (lv_at hl 0 rfl) ?_
  refine lv_iload_n hx hb d_X1_nearest_1 rfl (lv_at hl 1 rfl) ?_
  refine xt_call (xt_runV (As := [.int x]) (rest := []) (nL := 5) ⟨hx, hb, hml, hown, hts⟩ (c_X1_rowAt_no hst hxo hra hw hno_x _) (cwV 1 hts (gw_V k_100 k_102 k_0 k_50 k_103) rfl rfl rfl (by decide +kernel) ⟨Nat.le_of_ble_eq_true rfl, Nat.le_of_ble_eq_true rfl⟩) hK hN hT hZ hP hD hS (x_sub hD hS hA) _ 1 (rw_in hxo) rfl rfl hl.1 rfl (Nat.le_of_ble_eq_true rfl) d_X1_nearest_2 ⟨Nat.le_of_ble_eq_true rfl, Nat.le_of_ble_eq_true rfl⟩) hS (x_sub hD hS hA) (fun q9 ce H locs hP hD hS h1 h2 h3 => ?_)
  exact xt_out htb hlocks hP hD hS h1 h2 h3 (Nat.le_refl _) (Nat.le_refl _)
set_option maxHeartbeats 800000 in
set_option maxRecDepth 100000 in
theorem c_X1_divide_no {l : Launch} (hst : l.stackTraces = false) {D : va_G} {Rs : va_W} {cA cR cL : ClassId} {ro la cap wd : Nat → Nat} {F : Nat → Nat → Int32} {xo ra qx qa : Nat} (hxo : Rs[qx]? = some (xo, .inr (1, [.ref ra]))) (hra : Rs[qa]? = some (ra, .inl (cR, 64, .inr (.inr (.inr (.inr (fun i => if i < 64 then some (ro i) else none))))))) (hw : rwOk cap wd) {x : Int32} (hno_x : mIsRow x = nI 0) (v : Int64) : xTE l y_X1_divide w_X1_divide ({ frames := 7, cells := 1, slots := 6, locals := 104 }) D cls0 (ty3 cA cR cL) [.ref xo, .int x, .long v] (rw Rs cA ro la cap wd F) R_IO 1 6 := by
  refine xTE.ofW (cc := b_X1_divide) (maxL := 5) (ret := some .long) (by decide) rfl (Nat.le_of_ble_eq_true rfl) ?_
  intro p e s m below meth c A ls hx hb hr hml hown hts hlocks hA hK hN hT hZ hP hD hS hl htb
  have hts : ∀ w ∈ gw, w.before ([.ref xo, .int x, .long v]).toArray s = true := fun w h => hts w (List.mem_cons_of_mem _ h)
  have hown : s.vm.findClass R_LR = some m.cls := hown
  have hl : lv_has ls 5 [(0, .ref xo), (1, .int x), (2, .long v)] := hl
  refine lv_aload_n hx hb d_X1_divide_0 rfl (lv_at hl 0 rfl) ?_
  refine lv_iload_n hx hb d_X1_divide_1 rfl (lv_at hl 1 rfl) ?_
  refine xt_call (xt_runV (As := [.int x]) (rest := []) (nL := 5) ⟨hx, hb, hml, hown, hts⟩ (c_X1_rowAt_no hst hxo hra hw hno_x _) (cwV 1 hts (gw_V k_100 k_102 k_0 k_50 k_103) rfl rfl rfl (by decide +kernel) ⟨Nat.le_of_ble_eq_true rfl, Nat.le_of_ble_eq_true rfl⟩) hK hN hT hZ hP hD hS (x_sub hD hS hA) _ 1 (rw_in hxo) rfl rfl hl.1 rfl (Nat.le_of_ble_eq_true rfl) d_X1_divide_2 ⟨Nat.le_of_ble_eq_true rfl, Nat.le_of_ble_eq_true rfl⟩) hS (x_sub hD hS hA) (fun q9 ce H locs hP hD hS h1 h2 h3 => ?_)
  exact xt_out htb hlocks hP hD hS h1 h2 h3 (Nat.le_refl _) (Nat.le_refl _)
set_option maxHeartbeats 800000 in
set_option maxRecDepth 100000 in
theorem c_X1_put_no {l : Launch} (hst : l.stackTraces = false) {D : va_G} {Rs : va_W} {cA cR cL : ClassId} {ro la cap wd : Nat → Nat} {F : Nat → Nat → Int32} {xo ra qx qa : Nat} (hxo : Rs[qx]? = some (xo, .inr (1, [.ref ra]))) (hra : Rs[qa]? = some (ra, .inl (cR, 64, .inr (.inr (.inr (.inr (fun i => if i < 64 then some (ro i) else none))))))) (hw : rwOk cap wd) {x : Int32} (hno_x : mIsRow x = nI 0) (y u : Int32) : xTE l y_X1_put w_X1_put ({ frames := 7, cells := 1, slots := 6, locals := 104 }) D cls0 (ty3 cA cR cL) [.ref xo, .int x, .int y, .int u] (rw Rs cA ro la cap wd F) R_IO 1 6 := by
  refine xTE.ofW (cc := b_X1_put) (maxL := 6) (ret := some .int) (by decide) rfl (Nat.le_of_ble_eq_true rfl) ?_
  intro p e s m below meth c A ls hx hb hr hml hown hts hlocks hA hK hN hT hZ hP hD hS hl htb
  have hts : ∀ w ∈ gw, w.before ([.ref xo, .int x, .int y, .int u]).toArray s = true := fun w h => hts w (List.mem_cons_of_mem _ h)
  have hown : s.vm.findClass R_LR = some m.cls := hown
  have hl : lv_has ls 6 [(0, .ref xo), (1, .int x), (2, .int y), (3, .int u)] := hl
  refine lv_aload_n hx hb d_X1_put_0 rfl (lv_at hl 0 rfl) ?_
  refine lv_iload_n hx hb d_X1_put_1 rfl (lv_at hl 1 rfl) ?_
  refine xt_call (xt_runV (As := [.int x]) (rest := []) (nL := 6) ⟨hx, hb, hml, hown, hts⟩ (c_X1_rowAt_no hst hxo hra hw hno_x _) (cwV 1 hts (gw_V k_100 k_102 k_0 k_50 k_103) rfl rfl rfl (by decide +kernel) ⟨Nat.le_of_ble_eq_true rfl, Nat.le_of_ble_eq_true rfl⟩) hK hN hT hZ hP hD hS (x_sub hD hS hA) _ 1 (rw_in hxo) rfl rfl hl.1 rfl (Nat.le_of_ble_eq_true rfl) d_X1_put_2 ⟨Nat.le_of_ble_eq_true rfl, Nat.le_of_ble_eq_true rfl⟩) hS (x_sub hD hS hA) (fun q9 ce H locs hP hD hS h1 h2 h3 => ?_)
  exact xt_out htb hlocks hP hD hS h1 h2 h3 (Nat.le_refl _) (Nat.le_refl _)
set_option maxHeartbeats 800000 in
set_option maxRecDepth 100000 in
theorem c_X1_limb_no {l : Launch} (hst : l.stackTraces = false) {D : va_G} {Rs : va_W} {cA cR cL : ClassId} {ro la cap wd : Nat → Nat} {F : Nat → Nat → Int32} {xo ra qx qa : Nat} (hxo : Rs[qx]? = some (xo, .inr (1, [.ref ra]))) (hra : Rs[qa]? = some (ra, .inl (cR, 64, .inr (.inr (.inr (.inr (fun i => if i < 64 then some (ro i) else none))))))) (hw : rwOk cap wd) {x : Int32} (hno_x : mIsRow x = nI 0) (y : Int32) : xTE l y_X1_limb w_X1_limb ({ frames := 7, cells := 1, slots := 6, locals := 104 }) D cls0 (ty3 cA cR cL) [.ref xo, .int x, .int y] (rw Rs cA ro la cap wd F) R_IO 1 6 := by
  refine xTE.ofW (cc := b_X1_limb) (maxL := 4) (ret := some .int) (by decide) rfl (Nat.le_of_ble_eq_true rfl) ?_
  intro p e s m below meth c A ls hx hb hr hml hown hts hlocks hA hK hN hT hZ hP hD hS hl htb
  have hts : ∀ w ∈ gw, w.before ([.ref xo, .int x, .int y]).toArray s = true := fun w h => hts w (List.mem_cons_of_mem _ h)
  have hown : s.vm.findClass R_LR = some m.cls := hown
  have hl : lv_has ls 4 [(0, .ref xo), (1, .int x), (2, .int y)] := hl
  refine lv_aload_n hx hb d_X1_limb_0 rfl (lv_at hl 0 rfl) ?_
  refine lv_iload_n hx hb d_X1_limb_1 rfl (lv_at hl 1 rfl) ?_
  refine xt_call (xt_runV (As := [.int x]) (rest := []) (nL := 4) ⟨hx, hb, hml, hown, hts⟩ (c_X1_rowAt_no hst hxo hra hw hno_x _) (cwV 1 hts (gw_V k_100 k_102 k_0 k_50 k_103) rfl rfl rfl (by decide +kernel) ⟨Nat.le_of_ble_eq_true rfl, Nat.le_of_ble_eq_true rfl⟩) hK hN hT hZ hP hD hS (x_sub hD hS hA) _ 1 (rw_in hxo) rfl rfl hl.1 rfl (Nat.le_of_ble_eq_true rfl) d_X1_limb_2 ⟨Nat.le_of_ble_eq_true rfl, Nat.le_of_ble_eq_true rfl⟩) hS (x_sub hD hS hA) (fun q9 ce H locs hP hD hS h1 h2 h3 => ?_)
  exact xt_out htb hlocks hP hD hS h1 h2 h3 (Nat.le_refl _) (Nat.le_refl _)
set_option maxHeartbeats 800000 in
set_option maxRecDepth 100000 in
theorem c_X1_copy_no {l : Launch} (hst : l.stackTraces = false) {D : va_G} {Rs : va_W} {cA cR cL : ClassId} {ro la cap wd : Nat → Nat} {F : Nat → Nat → Int32} {xo ra qx qa : Nat} (hxo : Rs[qx]? = some (xo, .inr (1, [.ref ra]))) (hra : Rs[qa]? = some (ra, .inl (cR, 64, .inr (.inr (.inr (.inr (fun i => if i < 64 then some (ro i) else none))))))) (hw : rwOk cap wd) {x : Int32} (hno_x : mIsRow x = nI 0) (y : Int32) : xTE l y_X1_copy w_X1_copy ({ frames := 7, cells := 1, slots := 6, locals := 104 }) D cls0 (ty3 cA cR cL) [.ref xo, .int x, .int y] (rw Rs cA ro la cap wd F) R_IO 1 6 := by
  refine xTE.ofW (cc := b_X1_copy) (maxL := 5) (ret := some .boolean) (by decide) rfl (Nat.le_of_ble_eq_true rfl) ?_
  intro p e s m below meth c A ls hx hb hr hml hown hts hlocks hA hK hN hT hZ hP hD hS hl htb
  have hts : ∀ w ∈ gw, w.before ([.ref xo, .int x, .int y]).toArray s = true := fun w h => hts w (List.mem_cons_of_mem _ h)
  have hown : s.vm.findClass R_LR = some m.cls := hown
  have hl : lv_has ls 5 [(0, .ref xo), (1, .int x), (2, .int y)] := hl
  refine lv_aload_n hx hb d_X1_copy_0 rfl (lv_at hl 0 rfl) ?_
  refine lv_iload_n hx hb d_X1_copy_1 rfl (lv_at hl 1 rfl) ?_
  refine xt_call (xt_runV (As := [.int x]) (rest := []) (nL := 5) ⟨hx, hb, hml, hown, hts⟩ (c_X1_rowAt_no hst hxo hra hw hno_x _) (cwV 1 hts (gw_V k_100 k_102 k_0 k_50 k_103) rfl rfl rfl (by decide +kernel) ⟨Nat.le_of_ble_eq_true rfl, Nat.le_of_ble_eq_true rfl⟩) hK hN hT hZ hP hD hS (x_sub hD hS hA) _ 1 (rw_in hxo) rfl rfl hl.1 rfl (Nat.le_of_ble_eq_true rfl) d_X1_copy_2 ⟨Nat.le_of_ble_eq_true rfl, Nat.le_of_ble_eq_true rfl⟩) hS (x_sub hD hS hA) (fun q9 ce H locs hP hD hS h1 h2 h3 => ?_)
  exact xt_out htb hlocks hP hD hS h1 h2 h3 (Nat.le_refl _) (Nat.le_refl _)
set_option maxHeartbeats 800000 in
set_option maxRecDepth 100000 in
theorem c_X1_add_no {l : Launch} (hst : l.stackTraces = false) {D : va_G} {Rs : va_W} {cA cR cL : ClassId} {ro la cap wd : Nat → Nat} {F : Nat → Nat → Int32} {xo ra qx qa : Nat} (hxo : Rs[qx]? = some (xo, .inr (1, [.ref ra]))) (hra : Rs[qa]? = some (ra, .inl (cR, 64, .inr (.inr (.inr (.inr (fun i => if i < 64 then some (ro i) else none))))))) (hw : rwOk cap wd) {x : Int32} (hno_x : mIsRow x = nI 0) (y : Int32) : xTE l y_X1_add w_X1_add ({ frames := 7, cells := 1, slots := 6, locals := 104 }) D cls0 (ty3 cA cR cL) [.ref xo, .int x, .int y] (rw Rs cA ro la cap wd F) R_IO 1 6 := by
  refine xTE.ofW (cc := b_X1_add) (maxL := 5) (ret := some .int) (by decide) rfl (Nat.le_of_ble_eq_true rfl) ?_
  intro p e s m below meth c A ls hx hb hr hml hown hts hlocks hA hK hN hT hZ hP hD hS hl htb
  have hts : ∀ w ∈ gw, w.before ([.ref xo, .int x, .int y]).toArray s = true := fun w h => hts w (List.mem_cons_of_mem _ h)
  have hown : s.vm.findClass R_LR = some m.cls := hown
  have hl : lv_has ls 5 [(0, .ref xo), (1, .int x), (2, .int y)] := hl
  refine lv_aload_n hx hb d_X1_add_0 rfl (lv_at hl 0 rfl) ?_
  refine lv_iload_n hx hb d_X1_add_1 rfl (lv_at hl 1 rfl) ?_
  refine xt_call (xt_runV (As := [.int x]) (rest := []) (nL := 5) ⟨hx, hb, hml, hown, hts⟩ (c_X1_rowAt_no hst hxo hra hw hno_x _) (cwV 1 hts (gw_V k_100 k_102 k_0 k_50 k_103) rfl rfl rfl (by decide +kernel) ⟨Nat.le_of_ble_eq_true rfl, Nat.le_of_ble_eq_true rfl⟩) hK hN hT hZ hP hD hS (x_sub hD hS hA) _ 1 (rw_in hxo) rfl rfl hl.1 rfl (Nat.le_of_ble_eq_true rfl) d_X1_add_2 ⟨Nat.le_of_ble_eq_true rfl, Nat.le_of_ble_eq_true rfl⟩) hS (x_sub hD hS hA) (fun q9 ce H locs hP hD hS h1 h2 h3 => ?_)
  exact xt_out htb hlocks hP hD hS h1 h2 h3 (Nat.le_refl _) (Nat.le_refl _)
set_option maxHeartbeats 800000 in
set_option maxRecDepth 100000 in
theorem c_X1_subtract_no {l : Launch} (hst : l.stackTraces = false) {D : va_G} {Rs : va_W} {cA cR cL : ClassId} {ro la cap wd : Nat → Nat} {F : Nat → Nat → Int32} {xo ra qx qa : Nat} (hxo : Rs[qx]? = some (xo, .inr (1, [.ref ra]))) (hra : Rs[qa]? = some (ra, .inl (cR, 64, .inr (.inr (.inr (.inr (fun i => if i < 64 then some (ro i) else none))))))) (hw : rwOk cap wd) {x : Int32} (hno_x : mIsRow x = nI 0) (y : Int32) : xTE l y_X1_subtract w_X1_subtract ({ frames := 7, cells := 1, slots := 6, locals := 104 }) D cls0 (ty3 cA cR cL) [.ref xo, .int x, .int y] (rw Rs cA ro la cap wd F) R_IO 1 6 := by
  refine xTE.ofW (cc := b_X1_subtract) (maxL := 5) (ret := some .int) (by decide) rfl (Nat.le_of_ble_eq_true rfl) ?_
  intro p e s m below meth c A ls hx hb hr hml hown hts hlocks hA hK hN hT hZ hP hD hS hl htb
  have hts : ∀ w ∈ gw, w.before ([.ref xo, .int x, .int y]).toArray s = true := fun w h => hts w (List.mem_cons_of_mem _ h)
  have hown : s.vm.findClass R_LR = some m.cls := hown
  have hl : lv_has ls 5 [(0, .ref xo), (1, .int x), (2, .int y)] := hl
  refine lv_aload_n hx hb d_X1_subtract_0 rfl (lv_at hl 0 rfl) ?_
  refine lv_iload_n hx hb d_X1_subtract_1 rfl (lv_at hl 1 rfl) ?_
  refine xt_call (xt_runV (As := [.int x]) (rest := []) (nL := 5) ⟨hx, hb, hml, hown, hts⟩ (c_X1_rowAt_no hst hxo hra hw hno_x _) (cwV 1 hts (gw_V k_100 k_102 k_0 k_50 k_103) rfl rfl rfl (by decide +kernel) ⟨Nat.le_of_ble_eq_true rfl, Nat.le_of_ble_eq_true rfl⟩) hK hN hT hZ hP hD hS (x_sub hD hS hA) _ 1 (rw_in hxo) rfl rfl hl.1 rfl (Nat.le_of_ble_eq_true rfl) d_X1_subtract_2 ⟨Nat.le_of_ble_eq_true rfl, Nat.le_of_ble_eq_true rfl⟩) hS (x_sub hD hS hA) (fun q9 ce H locs hP hD hS h1 h2 h3 => ?_)
  exact xt_out htb hlocks hP hD hS h1 h2 h3 (Nat.le_refl _) (Nat.le_refl _)
set_option maxHeartbeats 800000 in
set_option maxRecDepth 100000 in
theorem c_X1_compare_no {l : Launch} (hst : l.stackTraces = false) {D : va_G} {Rs : va_W} {cA cR cL : ClassId} {ro la cap wd : Nat → Nat} {F : Nat → Nat → Int32} {xo ra qx qa : Nat} (hxo : Rs[qx]? = some (xo, .inr (1, [.ref ra]))) (hra : Rs[qa]? = some (ra, .inl (cR, 64, .inr (.inr (.inr (.inr (fun i => if i < 64 then some (ro i) else none))))))) (hw : rwOk cap wd) {x : Int32} (hno_x : mIsRow x = nI 0) (y : Int32) : xTE l y_X1_compare w_X1_compare ({ frames := 7, cells := 1, slots := 6, locals := 104 }) D cls0 (ty3 cA cR cL) [.ref xo, .int x, .int y] (rw Rs cA ro la cap wd F) R_IO 1 6 := by
  refine xTE.ofW (cc := b_X1_compare) (maxL := 5) (ret := some .int) (by decide) rfl (Nat.le_of_ble_eq_true rfl) ?_
  intro p e s m below meth c A ls hx hb hr hml hown hts hlocks hA hK hN hT hZ hP hD hS hl htb
  have hts : ∀ w ∈ gw, w.before ([.ref xo, .int x, .int y]).toArray s = true := fun w h => hts w (List.mem_cons_of_mem _ h)
  have hown : s.vm.findClass R_LR = some m.cls := hown
  have hl : lv_has ls 5 [(0, .ref xo), (1, .int x), (2, .int y)] := hl
  refine lv_aload_n hx hb d_X1_compare_0 rfl (lv_at hl 0 rfl) ?_
  refine lv_iload_n hx hb d_X1_compare_1 rfl (lv_at hl 1 rfl) ?_
  refine xt_call (xt_runV (As := [.int x]) (rest := []) (nL := 5) ⟨hx, hb, hml, hown, hts⟩ (c_X1_rowAt_no hst hxo hra hw hno_x _) (cwV 1 hts (gw_V k_100 k_102 k_0 k_50 k_103) rfl rfl rfl (by decide +kernel) ⟨Nat.le_of_ble_eq_true rfl, Nat.le_of_ble_eq_true rfl⟩) hK hN hT hZ hP hD hS (x_sub hD hS hA) _ 1 (rw_in hxo) rfl rfl hl.1 rfl (Nat.le_of_ble_eq_true rfl) d_X1_compare_2 ⟨Nat.le_of_ble_eq_true rfl, Nat.le_of_ble_eq_true rfl⟩) hS (x_sub hD hS hA) (fun q9 ce H locs hP hD hS h1 h2 h3 => ?_)
  exact xt_out htb hlocks hP hD hS h1 h2 h3 (Nat.le_refl _) (Nat.le_refl _)
set_option maxHeartbeats 800000 in
set_option maxRecDepth 100000 in
theorem c_X1_addProduct_no {l : Launch} (hst : l.stackTraces = false) {D : va_G} {Rs : va_W} {cA cR cL : ClassId} {ro la cap wd : Nat → Nat} {F : Nat → Nat → Int32} {xo ra qx qa : Nat} (hxo : Rs[qx]? = some (xo, .inr (1, [.ref ra]))) (hra : Rs[qa]? = some (ra, .inl (cR, 64, .inr (.inr (.inr (.inr (fun i => if i < 64 then some (ro i) else none))))))) (hw : rwOk cap wd) {x : Int32} (hno_x : mIsRow x = nI 0) (y u : Int32) : xTE l y_X1_addProduct w_X1_addProduct ({ frames := 7, cells := 1, slots := 6, locals := 104 }) D cls0 (ty3 cA cR cL) [.ref xo, .int x, .int y, .int u] (rw Rs cA ro la cap wd F) R_IO 1 6 := by
  refine xTE.ofW (cc := b_X1_addProduct) (maxL := 7) (ret := some .int) (by decide) rfl (Nat.le_of_ble_eq_true rfl) ?_
  intro p e s m below meth c A ls hx hb hr hml hown hts hlocks hA hK hN hT hZ hP hD hS hl htb
  have hts : ∀ w ∈ gw, w.before ([.ref xo, .int x, .int y, .int u]).toArray s = true := fun w h => hts w (List.mem_cons_of_mem _ h)
  have hown : s.vm.findClass R_LR = some m.cls := hown
  have hl : lv_has ls 7 [(0, .ref xo), (1, .int x), (2, .int y), (3, .int u)] := hl
  refine lv_aload_n hx hb d_X1_addProduct_0 rfl (lv_at hl 0 rfl) ?_
  refine lv_iload_n hx hb d_X1_addProduct_1 rfl (lv_at hl 1 rfl) ?_
  refine xt_call (xt_runV (As := [.int x]) (rest := []) (nL := 7) ⟨hx, hb, hml, hown, hts⟩ (c_X1_rowAt_no hst hxo hra hw hno_x _) (cwV 1 hts (gw_V k_100 k_102 k_0 k_50 k_103) rfl rfl rfl (by decide +kernel) ⟨Nat.le_of_ble_eq_true rfl, Nat.le_of_ble_eq_true rfl⟩) hK hN hT hZ hP hD hS (x_sub hD hS hA) _ 1 (rw_in hxo) rfl rfl hl.1 rfl (Nat.le_of_ble_eq_true rfl) d_X1_addProduct_2 ⟨Nat.le_of_ble_eq_true rfl, Nat.le_of_ble_eq_true rfl⟩) hS (x_sub hD hS hA) (fun q9 ce H locs hP hD hS h1 h2 h3 => ?_)
  exact xt_out htb hlocks hP hD hS h1 h2 h3 (Nat.le_refl _) (Nat.le_refl _)
set_option maxHeartbeats 800000 in
set_option maxRecDepth 100000 in
theorem c_X1_subtractProduct_no {l : Launch} (hst : l.stackTraces = false) {D : va_G} {Rs : va_W} {cA cR cL : ClassId} {ro la cap wd : Nat → Nat} {F : Nat → Nat → Int32} {xo ra qx qa : Nat} (hxo : Rs[qx]? = some (xo, .inr (1, [.ref ra]))) (hra : Rs[qa]? = some (ra, .inl (cR, 64, .inr (.inr (.inr (.inr (fun i => if i < 64 then some (ro i) else none))))))) (hw : rwOk cap wd) {x : Int32} (hno_x : mIsRow x = nI 0) (y u : Int32) : xTE l y_X1_subtractProduct w_X1_subtractProduct ({ frames := 7, cells := 1, slots := 6, locals := 104 }) D cls0 (ty3 cA cR cL) [.ref xo, .int x, .int y, .int u] (rw Rs cA ro la cap wd F) R_IO 1 6 := by
  refine xTE.ofW (cc := b_X1_subtractProduct) (maxL := 7) (ret := some .int) (by decide) rfl (Nat.le_of_ble_eq_true rfl) ?_
  intro p e s m below meth c A ls hx hb hr hml hown hts hlocks hA hK hN hT hZ hP hD hS hl htb
  have hts : ∀ w ∈ gw, w.before ([.ref xo, .int x, .int y, .int u]).toArray s = true := fun w h => hts w (List.mem_cons_of_mem _ h)
  have hown : s.vm.findClass R_LR = some m.cls := hown
  have hl : lv_has ls 7 [(0, .ref xo), (1, .int x), (2, .int y), (3, .int u)] := hl
  refine lv_aload_n hx hb d_X1_subtractProduct_0 rfl (lv_at hl 0 rfl) ?_
  refine lv_iload_n hx hb d_X1_subtractProduct_1 rfl (lv_at hl 1 rfl) ?_
  refine xt_call (xt_runV (As := [.int x]) (rest := []) (nL := 7) ⟨hx, hb, hml, hown, hts⟩ (c_X1_rowAt_no hst hxo hra hw hno_x _) (cwV 1 hts (gw_V k_100 k_102 k_0 k_50 k_103) rfl rfl rfl (by decide +kernel) ⟨Nat.le_of_ble_eq_true rfl, Nat.le_of_ble_eq_true rfl⟩) hK hN hT hZ hP hD hS (x_sub hD hS hA) _ 1 (rw_in hxo) rfl rfl hl.1 rfl (Nat.le_of_ble_eq_true rfl) d_X1_subtractProduct_2 ⟨Nat.le_of_ble_eq_true rfl, Nat.le_of_ble_eq_true rfl⟩) hS (x_sub hD hS hA) (fun q9 ce H locs hP hD hS h1 h2 h3 => ?_)
  exact xt_out htb hlocks hP hD hS h1 h2 h3 (Nat.le_refl _) (Nat.le_refl _)
set_option maxHeartbeats 800000 in
set_option maxRecDepth 100000 in
theorem c_X1_copy_no2 {l : Launch} (hst : l.stackTraces = false) {D : va_G} {Rs : va_W} {cA cR cL : ClassId} {ro la cap wd : Nat → Nat} {F : Nat → Nat → Int32} {xo ra qx qa : Nat} (hxo : Rs[qx]? = some (xo, .inr (1, [.ref ra]))) (hra : Rs[qa]? = some (ra, .inl (cR, 64, .inr (.inr (.inr (.inr (fun i => if i < 64 then some (ro i) else none))))))) (hw : rwOk cap wd) {r : Nat} (hr64 : r < 64) {y : Int32} (hno_y : mIsRow y = nI 0) : xTE l y_X1_copy w_X1_copy ({ frames := 7, cells := 1, slots := 6, locals := 104 }) D cls0 (ty3 cA cR cL) [.ref xo, .int (nI r), .int y] (rw Rs cA ro la cap wd F) R_IO 1 6 := by
  refine xTE.ofW (cc := b_X1_copy) (maxL := 5) (ret := some .boolean) (by decide) rfl (Nat.le_of_ble_eq_true rfl) ?_
  intro p e s m below meth c A ls hx hb hr hml hown hts hlocks hA hK hN hT hZ hP hD hS hl htb
  have hts : ∀ w ∈ gw, w.before ([.ref xo, .int (nI r), .int y]).toArray s = true := fun w h => hts w (List.mem_cons_of_mem _ h)
  have hown : s.vm.findClass R_LR = some m.cls := hown
  have hl : lv_has ls 5 [(0, .ref xo), (1, .int (nI r)), (2, .int y)] := hl
  refine lv_aload_n hx hb d_X1_copy_0 rfl (lv_at hl 0 rfl) ?_
  refine lv_iload_n hx hb d_X1_copy_1 rfl (lv_at hl 1 rfl) ?_
  refine x_callR (st1 := [.ref (ro r)]) (x_runV (As := [.int (nI r)]) (rest := []) (nL := 5) ⟨hx, hb, hml, hown, hts⟩ (c_X1_rowAt hxo hra (r := r) hr64 _) (cwV 1 hts (gw_V k_100 k_102 k_0 k_50 k_103) rfl rfl rfl (by decide +kernel) ⟨Nat.le_of_ble_eq_true rfl, Nat.le_of_ble_eq_true rfl⟩) hK hP hD _ 1 (rw_in hxo) rfl rfl hl.1 rfl (Nat.le_of_ble_eq_true rfl) d_X1_copy_2 ⟨Nat.zero_le _, Nat.zero_le _⟩) rfl ?_
  refine lv_astore_n (lv' := [(3, .ref (ro r)), (0, .ref xo), (1, .int (nI r)), (2, .int y)]) hx hb d_X1_copy_5 rfl hl (by decide) rfl (fun ls hl => ?_)
  refine lv_aload_n hx hb d_X1_copy_6 rfl (lv_at hl 1 rfl) ?_
  refine lv_iload_n hx hb d_X1_copy_7 rfl (lv_at hl 3 rfl) ?_
  refine xt_call (xt_runV (As := [.int y]) (rest := []) (nL := 5) ⟨hx, hb, hml, hown, hts⟩ (c_X1_rowAt_no hst hxo hra hw hno_y _) (cwV 1 hts (gw_V k_100 k_102 k_0 k_50 k_103) rfl rfl rfl (by decide +kernel) ⟨Nat.le_of_ble_eq_true rfl, Nat.le_of_ble_eq_true rfl⟩) hK hN hT hZ hP hD hS (x_sub hD hS hA) _ 1 (rw_in hxo) rfl rfl hl.1 rfl (Nat.le_of_ble_eq_true rfl) d_X1_copy_8 ⟨Nat.le_of_ble_eq_true rfl, Nat.le_of_ble_eq_true rfl⟩) hS (x_sub hD hS hA) (fun q9 ce H locs hP hD hS h1 h2 h3 => ?_)
  exact xt_out htb hlocks hP hD hS h1 h2 h3 (Nat.le_refl _) (Nat.le_refl _)
set_option maxHeartbeats 800000 in
set_option maxRecDepth 100000 in
theorem c_X1_add_no2 {l : Launch} (hst : l.stackTraces = false) {D : va_G} {Rs : va_W} {cA cR cL : ClassId} {ro la cap wd : Nat → Nat} {F : Nat → Nat → Int32} {xo ra qx qa : Nat} (hxo : Rs[qx]? = some (xo, .inr (1, [.ref ra]))) (hra : Rs[qa]? = some (ra, .inl (cR, 64, .inr (.inr (.inr (.inr (fun i => if i < 64 then some (ro i) else none))))))) (hw : rwOk cap wd) {r : Nat} (hr64 : r < 64) {y : Int32} (hno_y : mIsRow y = nI 0) : xTE l y_X1_add w_X1_add ({ frames := 7, cells := 1, slots := 6, locals := 104 }) D cls0 (ty3 cA cR cL) [.ref xo, .int (nI r), .int y] (rw Rs cA ro la cap wd F) R_IO 1 6 := by
  refine xTE.ofW (cc := b_X1_add) (maxL := 5) (ret := some .int) (by decide) rfl (Nat.le_of_ble_eq_true rfl) ?_
  intro p e s m below meth c A ls hx hb hr hml hown hts hlocks hA hK hN hT hZ hP hD hS hl htb
  have hts : ∀ w ∈ gw, w.before ([.ref xo, .int (nI r), .int y]).toArray s = true := fun w h => hts w (List.mem_cons_of_mem _ h)
  have hown : s.vm.findClass R_LR = some m.cls := hown
  have hl : lv_has ls 5 [(0, .ref xo), (1, .int (nI r)), (2, .int y)] := hl
  refine lv_aload_n hx hb d_X1_add_0 rfl (lv_at hl 0 rfl) ?_
  refine lv_iload_n hx hb d_X1_add_1 rfl (lv_at hl 1 rfl) ?_
  refine x_callR (st1 := [.ref (ro r)]) (x_runV (As := [.int (nI r)]) (rest := []) (nL := 5) ⟨hx, hb, hml, hown, hts⟩ (c_X1_rowAt hxo hra (r := r) hr64 _) (cwV 1 hts (gw_V k_100 k_102 k_0 k_50 k_103) rfl rfl rfl (by decide +kernel) ⟨Nat.le_of_ble_eq_true rfl, Nat.le_of_ble_eq_true rfl⟩) hK hP hD _ 1 (rw_in hxo) rfl rfl hl.1 rfl (Nat.le_of_ble_eq_true rfl) d_X1_add_2 ⟨Nat.zero_le _, Nat.zero_le _⟩) rfl ?_
  refine lv_astore_n (lv' := [(3, .ref (ro r)), (0, .ref xo), (1, .int (nI r)), (2, .int y)]) hx hb d_X1_add_5 rfl hl (by decide) rfl (fun ls hl => ?_)
  refine lv_aload_n hx hb d_X1_add_6 rfl (lv_at hl 1 rfl) ?_
  refine lv_iload_n hx hb d_X1_add_7 rfl (lv_at hl 3 rfl) ?_
  refine xt_call (xt_runV (As := [.int y]) (rest := []) (nL := 5) ⟨hx, hb, hml, hown, hts⟩ (c_X1_rowAt_no hst hxo hra hw hno_y _) (cwV 1 hts (gw_V k_100 k_102 k_0 k_50 k_103) rfl rfl rfl (by decide +kernel) ⟨Nat.le_of_ble_eq_true rfl, Nat.le_of_ble_eq_true rfl⟩) hK hN hT hZ hP hD hS (x_sub hD hS hA) _ 1 (rw_in hxo) rfl rfl hl.1 rfl (Nat.le_of_ble_eq_true rfl) d_X1_add_8 ⟨Nat.le_of_ble_eq_true rfl, Nat.le_of_ble_eq_true rfl⟩) hS (x_sub hD hS hA) (fun q9 ce H locs hP hD hS h1 h2 h3 => ?_)
  exact xt_out htb hlocks hP hD hS h1 h2 h3 (Nat.le_refl _) (Nat.le_refl _)
set_option maxHeartbeats 800000 in
set_option maxRecDepth 100000 in
theorem c_X1_subtract_no2 {l : Launch} (hst : l.stackTraces = false) {D : va_G} {Rs : va_W} {cA cR cL : ClassId} {ro la cap wd : Nat → Nat} {F : Nat → Nat → Int32} {xo ra qx qa : Nat} (hxo : Rs[qx]? = some (xo, .inr (1, [.ref ra]))) (hra : Rs[qa]? = some (ra, .inl (cR, 64, .inr (.inr (.inr (.inr (fun i => if i < 64 then some (ro i) else none))))))) (hw : rwOk cap wd) {r : Nat} (hr64 : r < 64) {y : Int32} (hno_y : mIsRow y = nI 0) : xTE l y_X1_subtract w_X1_subtract ({ frames := 7, cells := 1, slots := 6, locals := 104 }) D cls0 (ty3 cA cR cL) [.ref xo, .int (nI r), .int y] (rw Rs cA ro la cap wd F) R_IO 1 6 := by
  refine xTE.ofW (cc := b_X1_subtract) (maxL := 5) (ret := some .int) (by decide) rfl (Nat.le_of_ble_eq_true rfl) ?_
  intro p e s m below meth c A ls hx hb hr hml hown hts hlocks hA hK hN hT hZ hP hD hS hl htb
  have hts : ∀ w ∈ gw, w.before ([.ref xo, .int (nI r), .int y]).toArray s = true := fun w h => hts w (List.mem_cons_of_mem _ h)
  have hown : s.vm.findClass R_LR = some m.cls := hown
  have hl : lv_has ls 5 [(0, .ref xo), (1, .int (nI r)), (2, .int y)] := hl
  refine lv_aload_n hx hb d_X1_subtract_0 rfl (lv_at hl 0 rfl) ?_
  refine lv_iload_n hx hb d_X1_subtract_1 rfl (lv_at hl 1 rfl) ?_
  refine x_callR (st1 := [.ref (ro r)]) (x_runV (As := [.int (nI r)]) (rest := []) (nL := 5) ⟨hx, hb, hml, hown, hts⟩ (c_X1_rowAt hxo hra (r := r) hr64 _) (cwV 1 hts (gw_V k_100 k_102 k_0 k_50 k_103) rfl rfl rfl (by decide +kernel) ⟨Nat.le_of_ble_eq_true rfl, Nat.le_of_ble_eq_true rfl⟩) hK hP hD _ 1 (rw_in hxo) rfl rfl hl.1 rfl (Nat.le_of_ble_eq_true rfl) d_X1_subtract_2 ⟨Nat.zero_le _, Nat.zero_le _⟩) rfl ?_
  refine lv_astore_n (lv' := [(3, .ref (ro r)), (0, .ref xo), (1, .int (nI r)), (2, .int y)]) hx hb d_X1_subtract_5 rfl hl (by decide) rfl (fun ls hl => ?_)
  refine lv_aload_n hx hb d_X1_subtract_6 rfl (lv_at hl 1 rfl) ?_
  refine lv_iload_n hx hb d_X1_subtract_7 rfl (lv_at hl 3 rfl) ?_
  refine xt_call (xt_runV (As := [.int y]) (rest := []) (nL := 5) ⟨hx, hb, hml, hown, hts⟩ (c_X1_rowAt_no hst hxo hra hw hno_y _) (cwV 1 hts (gw_V k_100 k_102 k_0 k_50 k_103) rfl rfl rfl (by decide +kernel) ⟨Nat.le_of_ble_eq_true rfl, Nat.le_of_ble_eq_true rfl⟩) hK hN hT hZ hP hD hS (x_sub hD hS hA) _ 1 (rw_in hxo) rfl rfl hl.1 rfl (Nat.le_of_ble_eq_true rfl) d_X1_subtract_8 ⟨Nat.le_of_ble_eq_true rfl, Nat.le_of_ble_eq_true rfl⟩) hS (x_sub hD hS hA) (fun q9 ce H locs hP hD hS h1 h2 h3 => ?_)
  exact xt_out htb hlocks hP hD hS h1 h2 h3 (Nat.le_refl _) (Nat.le_refl _)
set_option maxHeartbeats 800000 in
set_option maxRecDepth 100000 in
theorem c_X1_compare_no2 {l : Launch} (hst : l.stackTraces = false) {D : va_G} {Rs : va_W} {cA cR cL : ClassId} {ro la cap wd : Nat → Nat} {F : Nat → Nat → Int32} {xo ra qx qa : Nat} (hxo : Rs[qx]? = some (xo, .inr (1, [.ref ra]))) (hra : Rs[qa]? = some (ra, .inl (cR, 64, .inr (.inr (.inr (.inr (fun i => if i < 64 then some (ro i) else none))))))) (hw : rwOk cap wd) {r : Nat} (hr64 : r < 64) {y : Int32} (hno_y : mIsRow y = nI 0) : xTE l y_X1_compare w_X1_compare ({ frames := 7, cells := 1, slots := 6, locals := 104 }) D cls0 (ty3 cA cR cL) [.ref xo, .int (nI r), .int y] (rw Rs cA ro la cap wd F) R_IO 1 6 := by
  refine xTE.ofW (cc := b_X1_compare) (maxL := 5) (ret := some .int) (by decide) rfl (Nat.le_of_ble_eq_true rfl) ?_
  intro p e s m below meth c A ls hx hb hr hml hown hts hlocks hA hK hN hT hZ hP hD hS hl htb
  have hts : ∀ w ∈ gw, w.before ([.ref xo, .int (nI r), .int y]).toArray s = true := fun w h => hts w (List.mem_cons_of_mem _ h)
  have hown : s.vm.findClass R_LR = some m.cls := hown
  have hl : lv_has ls 5 [(0, .ref xo), (1, .int (nI r)), (2, .int y)] := hl
  refine lv_aload_n hx hb d_X1_compare_0 rfl (lv_at hl 0 rfl) ?_
  refine lv_iload_n hx hb d_X1_compare_1 rfl (lv_at hl 1 rfl) ?_
  refine x_callR (st1 := [.ref (ro r)]) (x_runV (As := [.int (nI r)]) (rest := []) (nL := 5) ⟨hx, hb, hml, hown, hts⟩ (c_X1_rowAt hxo hra (r := r) hr64 _) (cwV 1 hts (gw_V k_100 k_102 k_0 k_50 k_103) rfl rfl rfl (by decide +kernel) ⟨Nat.le_of_ble_eq_true rfl, Nat.le_of_ble_eq_true rfl⟩) hK hP hD _ 1 (rw_in hxo) rfl rfl hl.1 rfl (Nat.le_of_ble_eq_true rfl) d_X1_compare_2 ⟨Nat.zero_le _, Nat.zero_le _⟩) rfl ?_
  refine lv_astore_n (lv' := [(3, .ref (ro r)), (0, .ref xo), (1, .int (nI r)), (2, .int y)]) hx hb d_X1_compare_5 rfl hl (by decide) rfl (fun ls hl => ?_)
  refine lv_aload_n hx hb d_X1_compare_6 rfl (lv_at hl 1 rfl) ?_
  refine lv_iload_n hx hb d_X1_compare_7 rfl (lv_at hl 3 rfl) ?_
  refine xt_call (xt_runV (As := [.int y]) (rest := []) (nL := 5) ⟨hx, hb, hml, hown, hts⟩ (c_X1_rowAt_no hst hxo hra hw hno_y _) (cwV 1 hts (gw_V k_100 k_102 k_0 k_50 k_103) rfl rfl rfl (by decide +kernel) ⟨Nat.le_of_ble_eq_true rfl, Nat.le_of_ble_eq_true rfl⟩) hK hN hT hZ hP hD hS (x_sub hD hS hA) _ 1 (rw_in hxo) rfl rfl hl.1 rfl (Nat.le_of_ble_eq_true rfl) d_X1_compare_8 ⟨Nat.le_of_ble_eq_true rfl, Nat.le_of_ble_eq_true rfl⟩) hS (x_sub hD hS hA) (fun q9 ce H locs hP hD hS h1 h2 h3 => ?_)
  exact xt_out htb hlocks hP hD hS h1 h2 h3 (Nat.le_refl _) (Nat.le_refl _)
set_option maxHeartbeats 800000 in
set_option maxRecDepth 100000 in
theorem c_X1_addProduct_no2 {l : Launch} (hst : l.stackTraces = false) {D : va_G} {Rs : va_W} {cA cR cL : ClassId} {ro la cap wd : Nat → Nat} {F : Nat → Nat → Int32} {xo ra qx qa : Nat} (hxo : Rs[qx]? = some (xo, .inr (1, [.ref ra]))) (hra : Rs[qa]? = some (ra, .inl (cR, 64, .inr (.inr (.inr (.inr (fun i => if i < 64 then some (ro i) else none))))))) (hw : rwOk cap wd) {r : Nat} (hr64 : r < 64) {y : Int32} (hno_y : mIsRow y = nI 0) (u : Int32) : xTE l y_X1_addProduct w_X1_addProduct ({ frames := 7, cells := 1, slots := 6, locals := 104 }) D cls0 (ty3 cA cR cL) [.ref xo, .int (nI r), .int y, .int u] (rw Rs cA ro la cap wd F) R_IO 1 6 := by
  refine xTE.ofW (cc := b_X1_addProduct) (maxL := 7) (ret := some .int) (by decide) rfl (Nat.le_of_ble_eq_true rfl) ?_
  intro p e s m below meth c A ls hx hb hr hml hown hts hlocks hA hK hN hT hZ hP hD hS hl htb
  have hts : ∀ w ∈ gw, w.before ([.ref xo, .int (nI r), .int y, .int u]).toArray s = true := fun w h => hts w (List.mem_cons_of_mem _ h)
  have hown : s.vm.findClass R_LR = some m.cls := hown
  have hl : lv_has ls 7 [(0, .ref xo), (1, .int (nI r)), (2, .int y), (3, .int u)] := hl
  refine lv_aload_n hx hb d_X1_addProduct_0 rfl (lv_at hl 0 rfl) ?_
  refine lv_iload_n hx hb d_X1_addProduct_1 rfl (lv_at hl 1 rfl) ?_
  refine x_callR (st1 := [.ref (ro r)]) (x_runV (As := [.int (nI r)]) (rest := []) (nL := 7) ⟨hx, hb, hml, hown, hts⟩ (c_X1_rowAt hxo hra (r := r) hr64 _) (cwV 1 hts (gw_V k_100 k_102 k_0 k_50 k_103) rfl rfl rfl (by decide +kernel) ⟨Nat.le_of_ble_eq_true rfl, Nat.le_of_ble_eq_true rfl⟩) hK hP hD _ 1 (rw_in hxo) rfl rfl hl.1 rfl (Nat.le_of_ble_eq_true rfl) d_X1_addProduct_2 ⟨Nat.zero_le _, Nat.zero_le _⟩) rfl ?_
  refine lv_astore (lv' := [(4, .ref (ro r)), (0, .ref xo), (1, .int (nI r)), (2, .int y), (3, .int u)]) hx hb d_X1_addProduct_5 hl (by decide) rfl (fun ls hl => ?_)
  refine lv_aload_n hx hb d_X1_addProduct_7 rfl (lv_at hl 1 rfl) ?_
  refine lv_iload_n hx hb d_X1_addProduct_8 rfl (lv_at hl 3 rfl) ?_
  refine xt_call (xt_runV (As := [.int y]) (rest := []) (nL := 7) ⟨hx, hb, hml, hown, hts⟩ (c_X1_rowAt_no hst hxo hra hw hno_y _) (cwV 1 hts (gw_V k_100 k_102 k_0 k_50 k_103) rfl rfl rfl (by decide +kernel) ⟨Nat.le_of_ble_eq_true rfl, Nat.le_of_ble_eq_true rfl⟩) hK hN hT hZ hP hD hS (x_sub hD hS hA) _ 1 (rw_in hxo) rfl rfl hl.1 rfl (Nat.le_of_ble_eq_true rfl) d_X1_addProduct_9 ⟨Nat.le_of_ble_eq_true rfl, Nat.le_of_ble_eq_true rfl⟩) hS (x_sub hD hS hA) (fun q9 ce H locs hP hD hS h1 h2 h3 => ?_)
  exact xt_out htb hlocks hP hD hS h1 h2 h3 (Nat.le_refl _) (Nat.le_refl _)
set_option maxHeartbeats 800000 in
set_option maxRecDepth 100000 in
theorem c_X1_addProduct_no3 {l : Launch} (hst : l.stackTraces = false) {D : va_G} {Rs : va_W} {cA cR cL : ClassId} {ro la cap wd : Nat → Nat} {F : Nat → Nat → Int32} {xo ra qx qa : Nat} (hxo : Rs[qx]? = some (xo, .inr (1, [.ref ra]))) (hra : Rs[qa]? = some (ra, .inl (cR, 64, .inr (.inr (.inr (.inr (fun i => if i < 64 then some (ro i) else none))))))) (hw : rwOk cap wd) {r a : Nat} (hr64 : r < 64) (ha64 : a < 64) {u : Int32} (hno_u : mIsRow u = nI 0) : xTE l y_X1_addProduct w_X1_addProduct ({ frames := 7, cells := 1, slots := 6, locals := 104 }) D cls0 (ty3 cA cR cL) [.ref xo, .int (nI r), .int (nI a), .int u] (rw Rs cA ro la cap wd F) R_IO 1 6 := by
  refine xTE.ofW (cc := b_X1_addProduct) (maxL := 7) (ret := some .int) (by decide) rfl (Nat.le_of_ble_eq_true rfl) ?_
  intro p e s m below meth c A ls hx hb hr hml hown hts hlocks hA hK hN hT hZ hP hD hS hl htb
  have hts : ∀ w ∈ gw, w.before ([.ref xo, .int (nI r), .int (nI a), .int u]).toArray s = true := fun w h => hts w (List.mem_cons_of_mem _ h)
  have hown : s.vm.findClass R_LR = some m.cls := hown
  have hl : lv_has ls 7 [(0, .ref xo), (1, .int (nI r)), (2, .int (nI a)), (3, .int u)] := hl
  refine lv_aload_n hx hb d_X1_addProduct_0 rfl (lv_at hl 0 rfl) ?_
  refine lv_iload_n hx hb d_X1_addProduct_1 rfl (lv_at hl 1 rfl) ?_
  refine x_callR (st1 := [.ref (ro r)]) (x_runV (As := [.int (nI r)]) (rest := []) (nL := 7) ⟨hx, hb, hml, hown, hts⟩ (c_X1_rowAt hxo hra (r := r) hr64 _) (cwV 1 hts (gw_V k_100 k_102 k_0 k_50 k_103) rfl rfl rfl (by decide +kernel) ⟨Nat.le_of_ble_eq_true rfl, Nat.le_of_ble_eq_true rfl⟩) hK hP hD _ 1 (rw_in hxo) rfl rfl hl.1 rfl (Nat.le_of_ble_eq_true rfl) d_X1_addProduct_2 ⟨Nat.zero_le _, Nat.zero_le _⟩) rfl ?_
  refine lv_astore (lv' := [(4, .ref (ro r)), (0, .ref xo), (1, .int (nI r)), (2, .int (nI a)), (3, .int u)]) hx hb d_X1_addProduct_5 hl (by decide) rfl (fun ls hl => ?_)
  refine lv_aload_n hx hb d_X1_addProduct_7 rfl (lv_at hl 1 rfl) ?_
  refine lv_iload_n hx hb d_X1_addProduct_8 rfl (lv_at hl 3 rfl) ?_
  refine x_callR (st1 := [.ref (ro a)]) (x_runV (As := [.int (nI a)]) (rest := []) (nL := 7) ⟨hx, hb, hml, hown, hts⟩ (c_X1_rowAt hxo hra (r := a) ha64 _) (cwV 1 hts (gw_V k_100 k_102 k_0 k_50 k_103) rfl rfl rfl (by decide +kernel) ⟨Nat.le_of_ble_eq_true rfl, Nat.le_of_ble_eq_true rfl⟩) hK hP hD _ 1 (rw_in hxo) rfl rfl hl.1 rfl (Nat.le_of_ble_eq_true rfl) d_X1_addProduct_9 ⟨Nat.zero_le _, Nat.zero_le _⟩) rfl ?_
  refine lv_astore (lv' := [(5, .ref (ro a)), (4, .ref (ro r)), (0, .ref xo), (1, .int (nI r)), (2, .int (nI a)), (3, .int u)]) hx hb d_X1_addProduct_12 hl (by decide) rfl (fun ls hl => ?_)
  refine lv_aload_n hx hb d_X1_addProduct_14 rfl (lv_at hl 2 rfl) ?_
  refine lv_iload_n hx hb d_X1_addProduct_15 rfl (lv_at hl 5 rfl) ?_
  refine xt_call (xt_runV (As := [.int u]) (rest := []) (nL := 7) ⟨hx, hb, hml, hown, hts⟩ (c_X1_rowAt_no hst hxo hra hw hno_u _) (cwV 1 hts (gw_V k_100 k_102 k_0 k_50 k_103) rfl rfl rfl (by decide +kernel) ⟨Nat.le_of_ble_eq_true rfl, Nat.le_of_ble_eq_true rfl⟩) hK hN hT hZ hP hD hS (x_sub hD hS hA) _ 1 (rw_in hxo) rfl rfl hl.1 rfl (Nat.le_of_ble_eq_true rfl) d_X1_addProduct_16 ⟨Nat.le_of_ble_eq_true rfl, Nat.le_of_ble_eq_true rfl⟩) hS (x_sub hD hS hA) (fun q9 ce H locs hP hD hS h1 h2 h3 => ?_)
  exact xt_out htb hlocks hP hD hS h1 h2 h3 (Nat.le_refl _) (Nat.le_refl _)
set_option maxHeartbeats 800000 in
set_option maxRecDepth 100000 in
theorem c_X1_addProduct_no4 {l : Launch} (hst : l.stackTraces = false) {D : va_G} {Rs : va_W} {cA cR cL : ClassId} {ro la cap wd : Nat → Nat} {F : Nat → Nat → Int32} {xo ra qx qa : Nat} (hxo : Rs[qx]? = some (xo, .inr (1, [.ref ra]))) (hra : Rs[qa]? = some (ra, .inl (cR, 64, .inr (.inr (.inr (.inr (fun i => if i < 64 then some (ro i) else none))))))) (hw : rwOk cap wd) {r a u : Nat} (hr64 : r < 64) (ha64 : a < 64) (hu64 : u < 64) (hra1 : r = a) : xTE l y_X1_addProduct w_X1_addProduct ({ frames := 7, cells := 1, slots := 6, locals := 104 }) D cls0 (ty3 cA cR cL) [.ref xo, .int (nI r), .int (nI a), .int (nI u)] (rw Rs cA ro la cap wd F) R_IA 1 6 := by
  refine xTE.ofW (cc := b_X1_addProduct) (maxL := 7) (ret := some .int) (by decide) rfl (Nat.le_of_ble_eq_true rfl) ?_
  intro p e s m below meth c A ls hx hb hr hml hown hts hlocks hA hK hN hT hZ hP hD hS hl htb
  have hts : ∀ w ∈ gw, w.before ([.ref xo, .int (nI r), .int (nI a), .int (nI u)]).toArray s = true := fun w h => hts w (List.mem_cons_of_mem _ h)
  have hown : s.vm.findClass R_LR = some m.cls := hown
  have hl : lv_has ls 7 [(0, .ref xo), (1, .int (nI r)), (2, .int (nI a)), (3, .int (nI u))] := hl
  refine lv_aload_n hx hb d_X1_addProduct_0 rfl (lv_at hl 0 rfl) ?_
  refine lv_iload_n hx hb d_X1_addProduct_1 rfl (lv_at hl 1 rfl) ?_
  refine x_callR (st1 := [.ref (ro r)]) (x_runV (As := [.int (nI r)]) (rest := []) (nL := 7) ⟨hx, hb, hml, hown, hts⟩ (c_X1_rowAt hxo hra (r := r) hr64 _) (cwV 1 hts (gw_V k_100 k_102 k_0 k_50 k_103) rfl rfl rfl (by decide +kernel) ⟨Nat.le_of_ble_eq_true rfl, Nat.le_of_ble_eq_true rfl⟩) hK hP hD _ 1 (rw_in hxo) rfl rfl hl.1 rfl (Nat.le_of_ble_eq_true rfl) d_X1_addProduct_2 ⟨Nat.zero_le _, Nat.zero_le _⟩) rfl ?_
  refine lv_astore (lv' := [(4, .ref (ro r)), (0, .ref xo), (1, .int (nI r)), (2, .int (nI a)), (3, .int (nI u))]) hx hb d_X1_addProduct_5 hl (by decide) rfl (fun ls hl => ?_)
  refine lv_aload_n hx hb d_X1_addProduct_7 rfl (lv_at hl 1 rfl) ?_
  refine lv_iload_n hx hb d_X1_addProduct_8 rfl (lv_at hl 3 rfl) ?_
  refine x_callR (st1 := [.ref (ro a)]) (x_runV (As := [.int (nI a)]) (rest := []) (nL := 7) ⟨hx, hb, hml, hown, hts⟩ (c_X1_rowAt hxo hra (r := a) ha64 _) (cwV 1 hts (gw_V k_100 k_102 k_0 k_50 k_103) rfl rfl rfl (by decide +kernel) ⟨Nat.le_of_ble_eq_true rfl, Nat.le_of_ble_eq_true rfl⟩) hK hP hD _ 1 (rw_in hxo) rfl rfl hl.1 rfl (Nat.le_of_ble_eq_true rfl) d_X1_addProduct_9 ⟨Nat.zero_le _, Nat.zero_le _⟩) rfl ?_
  refine lv_astore (lv' := [(5, .ref (ro a)), (4, .ref (ro r)), (0, .ref xo), (1, .int (nI r)), (2, .int (nI a)), (3, .int (nI u))]) hx hb d_X1_addProduct_12 hl (by decide) rfl (fun ls hl => ?_)
  refine lv_aload_n hx hb d_X1_addProduct_14 rfl (lv_at hl 2 rfl) ?_
  refine lv_iload_n hx hb d_X1_addProduct_15 rfl (lv_at hl 5 rfl) ?_
  refine x_callR (st1 := [.ref (ro u)]) (x_runV (As := [.int (nI u)]) (rest := []) (nL := 7) ⟨hx, hb, hml, hown, hts⟩ (c_X1_rowAt hxo hra (r := u) hu64 _) (cwV 1 hts (gw_V k_100 k_102 k_0 k_50 k_103) rfl rfl rfl (by decide +kernel) ⟨Nat.le_of_ble_eq_true rfl, Nat.le_of_ble_eq_true rfl⟩) hK hP hD _ 1 (rw_in hxo) rfl rfl hl.1 rfl (Nat.le_of_ble_eq_true rfl) d_X1_addProduct_16 ⟨Nat.zero_le _, Nat.zero_le _⟩) rfl ?_
  refine lv_astore (lv' := [(6, .ref (ro u)), (5, .ref (ro a)), (4, .ref (ro r)), (0, .ref xo), (1, .int (nI r)), (2, .int (nI a)), (3, .int (nI u))]) hx hb d_X1_addProduct_19 hl (by decide) rfl (fun ls hl => ?_)
  refine lv_iload_n hx hb d_X1_addProduct_21 rfl (lv_at hl 4 rfl) ?_
  refine lv_iload_n hx hb d_X1_addProduct_22 rfl (lv_at hl 5 rfl) ?_
  refine lv_iload_n hx hb d_X1_addProduct_23 rfl (lv_at hl 6 rfl) ?_
  refine xt_call (xt_runS (As := [.int (nI r), .int (nI a), .int (nI u)]) (rest := []) (nL := 7) ⟨hx, hb, hml, hown, hts⟩ (c_X1_refuseOwnFactor_no4 hst hw hr64 ha64 hu64 hra1 _) (cwS 3 hts (gw_S k_305 k_306 k_50 k_307) rfl rfl rfl (by decide +kernel) ⟨Nat.le_of_ble_eq_true rfl, Nat.le_of_ble_eq_true rfl⟩) hK hN hT hZ hP hD hS (x_sub hD hS hA) rfl hl.1 rfl (Nat.le_of_ble_eq_true rfl) d_X1_addProduct_24 ⟨Nat.le_of_ble_eq_true rfl, Nat.le_of_ble_eq_true rfl⟩) hS (x_sub hD hS hA) (fun q9 ce H locs hP hD hS h1 h2 h3 => ?_)
  exact xt_out htb hlocks hP hD hS h1 h2 h3 (Nat.le_refl _) (Nat.le_refl _)
set_option maxHeartbeats 800000 in
set_option maxRecDepth 100000 in
theorem c_X1_addProduct_no5 {l : Launch} (hst : l.stackTraces = false) {D : va_G} {Rs : va_W} {cA cR cL : ClassId} {ro la cap wd : Nat → Nat} {F : Nat → Nat → Int32} {xo ra qx qa : Nat} (hxo : Rs[qx]? = some (xo, .inr (1, [.ref ra]))) (hra : Rs[qa]? = some (ra, .inl (cR, 64, .inr (.inr (.inr (.inr (fun i => if i < 64 then some (ro i) else none))))))) (hw : rwOk cap wd) {r a u : Nat} (hr64 : r < 64) (ha64 : a < 64) (hu64 : u < 64) (hra1 : r ≠ a) (hru : r = u) : xTE l y_X1_addProduct w_X1_addProduct ({ frames := 7, cells := 1, slots := 6, locals := 104 }) D cls0 (ty3 cA cR cL) [.ref xo, .int (nI r), .int (nI a), .int (nI u)] (rw Rs cA ro la cap wd F) R_IA 1 6 := by
  refine xTE.ofW (cc := b_X1_addProduct) (maxL := 7) (ret := some .int) (by decide) rfl (Nat.le_of_ble_eq_true rfl) ?_
  intro p e s m below meth c A ls hx hb hr hml hown hts hlocks hA hK hN hT hZ hP hD hS hl htb
  have hts : ∀ w ∈ gw, w.before ([.ref xo, .int (nI r), .int (nI a), .int (nI u)]).toArray s = true := fun w h => hts w (List.mem_cons_of_mem _ h)
  have hown : s.vm.findClass R_LR = some m.cls := hown
  have hl : lv_has ls 7 [(0, .ref xo), (1, .int (nI r)), (2, .int (nI a)), (3, .int (nI u))] := hl
  refine lv_aload_n hx hb d_X1_addProduct_0 rfl (lv_at hl 0 rfl) ?_
  refine lv_iload_n hx hb d_X1_addProduct_1 rfl (lv_at hl 1 rfl) ?_
  refine x_callR (st1 := [.ref (ro r)]) (x_runV (As := [.int (nI r)]) (rest := []) (nL := 7) ⟨hx, hb, hml, hown, hts⟩ (c_X1_rowAt hxo hra (r := r) hr64 _) (cwV 1 hts (gw_V k_100 k_102 k_0 k_50 k_103) rfl rfl rfl (by decide +kernel) ⟨Nat.le_of_ble_eq_true rfl, Nat.le_of_ble_eq_true rfl⟩) hK hP hD _ 1 (rw_in hxo) rfl rfl hl.1 rfl (Nat.le_of_ble_eq_true rfl) d_X1_addProduct_2 ⟨Nat.zero_le _, Nat.zero_le _⟩) rfl ?_
  refine lv_astore (lv' := [(4, .ref (ro r)), (0, .ref xo), (1, .int (nI r)), (2, .int (nI a)), (3, .int (nI u))]) hx hb d_X1_addProduct_5 hl (by decide) rfl (fun ls hl => ?_)
  refine lv_aload_n hx hb d_X1_addProduct_7 rfl (lv_at hl 1 rfl) ?_
  refine lv_iload_n hx hb d_X1_addProduct_8 rfl (lv_at hl 3 rfl) ?_
  refine x_callR (st1 := [.ref (ro a)]) (x_runV (As := [.int (nI a)]) (rest := []) (nL := 7) ⟨hx, hb, hml, hown, hts⟩ (c_X1_rowAt hxo hra (r := a) ha64 _) (cwV 1 hts (gw_V k_100 k_102 k_0 k_50 k_103) rfl rfl rfl (by decide +kernel) ⟨Nat.le_of_ble_eq_true rfl, Nat.le_of_ble_eq_true rfl⟩) hK hP hD _ 1 (rw_in hxo) rfl rfl hl.1 rfl (Nat.le_of_ble_eq_true rfl) d_X1_addProduct_9 ⟨Nat.zero_le _, Nat.zero_le _⟩) rfl ?_
  refine lv_astore (lv' := [(5, .ref (ro a)), (4, .ref (ro r)), (0, .ref xo), (1, .int (nI r)), (2, .int (nI a)), (3, .int (nI u))]) hx hb d_X1_addProduct_12 hl (by decide) rfl (fun ls hl => ?_)
  refine lv_aload_n hx hb d_X1_addProduct_14 rfl (lv_at hl 2 rfl) ?_
  refine lv_iload_n hx hb d_X1_addProduct_15 rfl (lv_at hl 5 rfl) ?_
  refine x_callR (st1 := [.ref (ro u)]) (x_runV (As := [.int (nI u)]) (rest := []) (nL := 7) ⟨hx, hb, hml, hown, hts⟩ (c_X1_rowAt hxo hra (r := u) hu64 _) (cwV 1 hts (gw_V k_100 k_102 k_0 k_50 k_103) rfl rfl rfl (by decide +kernel) ⟨Nat.le_of_ble_eq_true rfl, Nat.le_of_ble_eq_true rfl⟩) hK hP hD _ 1 (rw_in hxo) rfl rfl hl.1 rfl (Nat.le_of_ble_eq_true rfl) d_X1_addProduct_16 ⟨Nat.zero_le _, Nat.zero_le _⟩) rfl ?_
  refine lv_astore (lv' := [(6, .ref (ro u)), (5, .ref (ro a)), (4, .ref (ro r)), (0, .ref xo), (1, .int (nI r)), (2, .int (nI a)), (3, .int (nI u))]) hx hb d_X1_addProduct_19 hl (by decide) rfl (fun ls hl => ?_)
  refine lv_iload_n hx hb d_X1_addProduct_21 rfl (lv_at hl 4 rfl) ?_
  refine lv_iload_n hx hb d_X1_addProduct_22 rfl (lv_at hl 5 rfl) ?_
  refine lv_iload_n hx hb d_X1_addProduct_23 rfl (lv_at hl 6 rfl) ?_
  refine xt_call (xt_runS (As := [.int (nI r), .int (nI a), .int (nI u)]) (rest := []) (nL := 7) ⟨hx, hb, hml, hown, hts⟩ (c_X1_refuseOwnFactor_no5 hst hw hr64 ha64 hu64 hra1 hru _) (cwS 3 hts (gw_S k_305 k_306 k_50 k_307) rfl rfl rfl (by decide +kernel) ⟨Nat.le_of_ble_eq_true rfl, Nat.le_of_ble_eq_true rfl⟩) hK hN hT hZ hP hD hS (x_sub hD hS hA) rfl hl.1 rfl (Nat.le_of_ble_eq_true rfl) d_X1_addProduct_24 ⟨Nat.le_of_ble_eq_true rfl, Nat.le_of_ble_eq_true rfl⟩) hS (x_sub hD hS hA) (fun q9 ce H locs hP hD hS h1 h2 h3 => ?_)
  exact xt_out htb hlocks hP hD hS h1 h2 h3 (Nat.le_refl _) (Nat.le_refl _)
set_option maxHeartbeats 800000 in
set_option maxRecDepth 100000 in
theorem c_X1_subtractProduct_no2 {l : Launch} (hst : l.stackTraces = false) {D : va_G} {Rs : va_W} {cA cR cL : ClassId} {ro la cap wd : Nat → Nat} {F : Nat → Nat → Int32} {xo ra qx qa : Nat} (hxo : Rs[qx]? = some (xo, .inr (1, [.ref ra]))) (hra : Rs[qa]? = some (ra, .inl (cR, 64, .inr (.inr (.inr (.inr (fun i => if i < 64 then some (ro i) else none))))))) (hw : rwOk cap wd) {r : Nat} (hr64 : r < 64) {y : Int32} (hno_y : mIsRow y = nI 0) (u : Int32) : xTE l y_X1_subtractProduct w_X1_subtractProduct ({ frames := 7, cells := 1, slots := 6, locals := 104 }) D cls0 (ty3 cA cR cL) [.ref xo, .int (nI r), .int y, .int u] (rw Rs cA ro la cap wd F) R_IO 1 6 := by
  refine xTE.ofW (cc := b_X1_subtractProduct) (maxL := 7) (ret := some .int) (by decide) rfl (Nat.le_of_ble_eq_true rfl) ?_
  intro p e s m below meth c A ls hx hb hr hml hown hts hlocks hA hK hN hT hZ hP hD hS hl htb
  have hts : ∀ w ∈ gw, w.before ([.ref xo, .int (nI r), .int y, .int u]).toArray s = true := fun w h => hts w (List.mem_cons_of_mem _ h)
  have hown : s.vm.findClass R_LR = some m.cls := hown
  have hl : lv_has ls 7 [(0, .ref xo), (1, .int (nI r)), (2, .int y), (3, .int u)] := hl
  refine lv_aload_n hx hb d_X1_subtractProduct_0 rfl (lv_at hl 0 rfl) ?_
  refine lv_iload_n hx hb d_X1_subtractProduct_1 rfl (lv_at hl 1 rfl) ?_
  refine x_callR (st1 := [.ref (ro r)]) (x_runV (As := [.int (nI r)]) (rest := []) (nL := 7) ⟨hx, hb, hml, hown, hts⟩ (c_X1_rowAt hxo hra (r := r) hr64 _) (cwV 1 hts (gw_V k_100 k_102 k_0 k_50 k_103) rfl rfl rfl (by decide +kernel) ⟨Nat.le_of_ble_eq_true rfl, Nat.le_of_ble_eq_true rfl⟩) hK hP hD _ 1 (rw_in hxo) rfl rfl hl.1 rfl (Nat.le_of_ble_eq_true rfl) d_X1_subtractProduct_2 ⟨Nat.zero_le _, Nat.zero_le _⟩) rfl ?_
  refine lv_astore (lv' := [(4, .ref (ro r)), (0, .ref xo), (1, .int (nI r)), (2, .int y), (3, .int u)]) hx hb d_X1_subtractProduct_5 hl (by decide) rfl (fun ls hl => ?_)
  refine lv_aload_n hx hb d_X1_subtractProduct_7 rfl (lv_at hl 1 rfl) ?_
  refine lv_iload_n hx hb d_X1_subtractProduct_8 rfl (lv_at hl 3 rfl) ?_
  refine xt_call (xt_runV (As := [.int y]) (rest := []) (nL := 7) ⟨hx, hb, hml, hown, hts⟩ (c_X1_rowAt_no hst hxo hra hw hno_y _) (cwV 1 hts (gw_V k_100 k_102 k_0 k_50 k_103) rfl rfl rfl (by decide +kernel) ⟨Nat.le_of_ble_eq_true rfl, Nat.le_of_ble_eq_true rfl⟩) hK hN hT hZ hP hD hS (x_sub hD hS hA) _ 1 (rw_in hxo) rfl rfl hl.1 rfl (Nat.le_of_ble_eq_true rfl) d_X1_subtractProduct_9 ⟨Nat.le_of_ble_eq_true rfl, Nat.le_of_ble_eq_true rfl⟩) hS (x_sub hD hS hA) (fun q9 ce H locs hP hD hS h1 h2 h3 => ?_)
  exact xt_out htb hlocks hP hD hS h1 h2 h3 (Nat.le_refl _) (Nat.le_refl _)
set_option maxHeartbeats 800000 in
set_option maxRecDepth 100000 in
theorem c_X1_subtractProduct_no3 {l : Launch} (hst : l.stackTraces = false) {D : va_G} {Rs : va_W} {cA cR cL : ClassId} {ro la cap wd : Nat → Nat} {F : Nat → Nat → Int32} {xo ra qx qa : Nat} (hxo : Rs[qx]? = some (xo, .inr (1, [.ref ra]))) (hra : Rs[qa]? = some (ra, .inl (cR, 64, .inr (.inr (.inr (.inr (fun i => if i < 64 then some (ro i) else none))))))) (hw : rwOk cap wd) {r a : Nat} (hr64 : r < 64) (ha64 : a < 64) {u : Int32} (hno_u : mIsRow u = nI 0) : xTE l y_X1_subtractProduct w_X1_subtractProduct ({ frames := 7, cells := 1, slots := 6, locals := 104 }) D cls0 (ty3 cA cR cL) [.ref xo, .int (nI r), .int (nI a), .int u] (rw Rs cA ro la cap wd F) R_IO 1 6 := by
  refine xTE.ofW (cc := b_X1_subtractProduct) (maxL := 7) (ret := some .int) (by decide) rfl (Nat.le_of_ble_eq_true rfl) ?_
  intro p e s m below meth c A ls hx hb hr hml hown hts hlocks hA hK hN hT hZ hP hD hS hl htb
  have hts : ∀ w ∈ gw, w.before ([.ref xo, .int (nI r), .int (nI a), .int u]).toArray s = true := fun w h => hts w (List.mem_cons_of_mem _ h)
  have hown : s.vm.findClass R_LR = some m.cls := hown
  have hl : lv_has ls 7 [(0, .ref xo), (1, .int (nI r)), (2, .int (nI a)), (3, .int u)] := hl
  refine lv_aload_n hx hb d_X1_subtractProduct_0 rfl (lv_at hl 0 rfl) ?_
  refine lv_iload_n hx hb d_X1_subtractProduct_1 rfl (lv_at hl 1 rfl) ?_
  refine x_callR (st1 := [.ref (ro r)]) (x_runV (As := [.int (nI r)]) (rest := []) (nL := 7) ⟨hx, hb, hml, hown, hts⟩ (c_X1_rowAt hxo hra (r := r) hr64 _) (cwV 1 hts (gw_V k_100 k_102 k_0 k_50 k_103) rfl rfl rfl (by decide +kernel) ⟨Nat.le_of_ble_eq_true rfl, Nat.le_of_ble_eq_true rfl⟩) hK hP hD _ 1 (rw_in hxo) rfl rfl hl.1 rfl (Nat.le_of_ble_eq_true rfl) d_X1_subtractProduct_2 ⟨Nat.zero_le _, Nat.zero_le _⟩) rfl ?_
  refine lv_astore (lv' := [(4, .ref (ro r)), (0, .ref xo), (1, .int (nI r)), (2, .int (nI a)), (3, .int u)]) hx hb d_X1_subtractProduct_5 hl (by decide) rfl (fun ls hl => ?_)
  refine lv_aload_n hx hb d_X1_subtractProduct_7 rfl (lv_at hl 1 rfl) ?_
  refine lv_iload_n hx hb d_X1_subtractProduct_8 rfl (lv_at hl 3 rfl) ?_
  refine x_callR (st1 := [.ref (ro a)]) (x_runV (As := [.int (nI a)]) (rest := []) (nL := 7) ⟨hx, hb, hml, hown, hts⟩ (c_X1_rowAt hxo hra (r := a) ha64 _) (cwV 1 hts (gw_V k_100 k_102 k_0 k_50 k_103) rfl rfl rfl (by decide +kernel) ⟨Nat.le_of_ble_eq_true rfl, Nat.le_of_ble_eq_true rfl⟩) hK hP hD _ 1 (rw_in hxo) rfl rfl hl.1 rfl (Nat.le_of_ble_eq_true rfl) d_X1_subtractProduct_9 ⟨Nat.zero_le _, Nat.zero_le _⟩) rfl ?_
  refine lv_astore (lv' := [(5, .ref (ro a)), (4, .ref (ro r)), (0, .ref xo), (1, .int (nI r)), (2, .int (nI a)), (3, .int u)]) hx hb d_X1_subtractProduct_12 hl (by decide) rfl (fun ls hl => ?_)
  refine lv_aload_n hx hb d_X1_subtractProduct_14 rfl (lv_at hl 2 rfl) ?_
  refine lv_iload_n hx hb d_X1_subtractProduct_15 rfl (lv_at hl 5 rfl) ?_
  refine xt_call (xt_runV (As := [.int u]) (rest := []) (nL := 7) ⟨hx, hb, hml, hown, hts⟩ (c_X1_rowAt_no hst hxo hra hw hno_u _) (cwV 1 hts (gw_V k_100 k_102 k_0 k_50 k_103) rfl rfl rfl (by decide +kernel) ⟨Nat.le_of_ble_eq_true rfl, Nat.le_of_ble_eq_true rfl⟩) hK hN hT hZ hP hD hS (x_sub hD hS hA) _ 1 (rw_in hxo) rfl rfl hl.1 rfl (Nat.le_of_ble_eq_true rfl) d_X1_subtractProduct_16 ⟨Nat.le_of_ble_eq_true rfl, Nat.le_of_ble_eq_true rfl⟩) hS (x_sub hD hS hA) (fun q9 ce H locs hP hD hS h1 h2 h3 => ?_)
  exact xt_out htb hlocks hP hD hS h1 h2 h3 (Nat.le_refl _) (Nat.le_refl _)
set_option maxHeartbeats 800000 in
set_option maxRecDepth 100000 in
theorem c_X1_subtractProduct_no4 {l : Launch} (hst : l.stackTraces = false) {D : va_G} {Rs : va_W} {cA cR cL : ClassId} {ro la cap wd : Nat → Nat} {F : Nat → Nat → Int32} {xo ra qx qa : Nat} (hxo : Rs[qx]? = some (xo, .inr (1, [.ref ra]))) (hra : Rs[qa]? = some (ra, .inl (cR, 64, .inr (.inr (.inr (.inr (fun i => if i < 64 then some (ro i) else none))))))) (hw : rwOk cap wd) {r a u : Nat} (hr64 : r < 64) (ha64 : a < 64) (hu64 : u < 64) (hra1 : r = a) : xTE l y_X1_subtractProduct w_X1_subtractProduct ({ frames := 7, cells := 1, slots := 6, locals := 104 }) D cls0 (ty3 cA cR cL) [.ref xo, .int (nI r), .int (nI a), .int (nI u)] (rw Rs cA ro la cap wd F) R_IA 1 6 := by
  refine xTE.ofW (cc := b_X1_subtractProduct) (maxL := 7) (ret := some .int) (by decide) rfl (Nat.le_of_ble_eq_true rfl) ?_
  intro p e s m below meth c A ls hx hb hr hml hown hts hlocks hA hK hN hT hZ hP hD hS hl htb
  have hts : ∀ w ∈ gw, w.before ([.ref xo, .int (nI r), .int (nI a), .int (nI u)]).toArray s = true := fun w h => hts w (List.mem_cons_of_mem _ h)
  have hown : s.vm.findClass R_LR = some m.cls := hown
  have hl : lv_has ls 7 [(0, .ref xo), (1, .int (nI r)), (2, .int (nI a)), (3, .int (nI u))] := hl
  refine lv_aload_n hx hb d_X1_subtractProduct_0 rfl (lv_at hl 0 rfl) ?_
  refine lv_iload_n hx hb d_X1_subtractProduct_1 rfl (lv_at hl 1 rfl) ?_
  refine x_callR (st1 := [.ref (ro r)]) (x_runV (As := [.int (nI r)]) (rest := []) (nL := 7) ⟨hx, hb, hml, hown, hts⟩ (c_X1_rowAt hxo hra (r := r) hr64 _) (cwV 1 hts (gw_V k_100 k_102 k_0 k_50 k_103) rfl rfl rfl (by decide +kernel) ⟨Nat.le_of_ble_eq_true rfl, Nat.le_of_ble_eq_true rfl⟩) hK hP hD _ 1 (rw_in hxo) rfl rfl hl.1 rfl (Nat.le_of_ble_eq_true rfl) d_X1_subtractProduct_2 ⟨Nat.zero_le _, Nat.zero_le _⟩) rfl ?_
  refine lv_astore (lv' := [(4, .ref (ro r)), (0, .ref xo), (1, .int (nI r)), (2, .int (nI a)), (3, .int (nI u))]) hx hb d_X1_subtractProduct_5 hl (by decide) rfl (fun ls hl => ?_)
  refine lv_aload_n hx hb d_X1_subtractProduct_7 rfl (lv_at hl 1 rfl) ?_
  refine lv_iload_n hx hb d_X1_subtractProduct_8 rfl (lv_at hl 3 rfl) ?_
  refine x_callR (st1 := [.ref (ro a)]) (x_runV (As := [.int (nI a)]) (rest := []) (nL := 7) ⟨hx, hb, hml, hown, hts⟩ (c_X1_rowAt hxo hra (r := a) ha64 _) (cwV 1 hts (gw_V k_100 k_102 k_0 k_50 k_103) rfl rfl rfl (by decide +kernel) ⟨Nat.le_of_ble_eq_true rfl, Nat.le_of_ble_eq_true rfl⟩) hK hP hD _ 1 (rw_in hxo) rfl rfl hl.1 rfl (Nat.le_of_ble_eq_true rfl) d_X1_subtractProduct_9 ⟨Nat.zero_le _, Nat.zero_le _⟩) rfl ?_
  refine lv_astore (lv' := [(5, .ref (ro a)), (4, .ref (ro r)), (0, .ref xo), (1, .int (nI r)), (2, .int (nI a)), (3, .int (nI u))]) hx hb d_X1_subtractProduct_12 hl (by decide) rfl (fun ls hl => ?_)
  refine lv_aload_n hx hb d_X1_subtractProduct_14 rfl (lv_at hl 2 rfl) ?_
  refine lv_iload_n hx hb d_X1_subtractProduct_15 rfl (lv_at hl 5 rfl) ?_
  refine x_callR (st1 := [.ref (ro u)]) (x_runV (As := [.int (nI u)]) (rest := []) (nL := 7) ⟨hx, hb, hml, hown, hts⟩ (c_X1_rowAt hxo hra (r := u) hu64 _) (cwV 1 hts (gw_V k_100 k_102 k_0 k_50 k_103) rfl rfl rfl (by decide +kernel) ⟨Nat.le_of_ble_eq_true rfl, Nat.le_of_ble_eq_true rfl⟩) hK hP hD _ 1 (rw_in hxo) rfl rfl hl.1 rfl (Nat.le_of_ble_eq_true rfl) d_X1_subtractProduct_16 ⟨Nat.zero_le _, Nat.zero_le _⟩) rfl ?_
  refine lv_astore (lv' := [(6, .ref (ro u)), (5, .ref (ro a)), (4, .ref (ro r)), (0, .ref xo), (1, .int (nI r)), (2, .int (nI a)), (3, .int (nI u))]) hx hb d_X1_subtractProduct_19 hl (by decide) rfl (fun ls hl => ?_)
  refine lv_iload_n hx hb d_X1_subtractProduct_21 rfl (lv_at hl 4 rfl) ?_
  refine lv_iload_n hx hb d_X1_subtractProduct_22 rfl (lv_at hl 5 rfl) ?_
  refine lv_iload_n hx hb d_X1_subtractProduct_23 rfl (lv_at hl 6 rfl) ?_
  refine xt_call (xt_runS (As := [.int (nI r), .int (nI a), .int (nI u)]) (rest := []) (nL := 7) ⟨hx, hb, hml, hown, hts⟩ (c_X1_refuseOwnFactor_no4 hst hw hr64 ha64 hu64 hra1 _) (cwS 3 hts (gw_S k_305 k_306 k_50 k_307) rfl rfl rfl (by decide +kernel) ⟨Nat.le_of_ble_eq_true rfl, Nat.le_of_ble_eq_true rfl⟩) hK hN hT hZ hP hD hS (x_sub hD hS hA) rfl hl.1 rfl (Nat.le_of_ble_eq_true rfl) d_X1_subtractProduct_24 ⟨Nat.le_of_ble_eq_true rfl, Nat.le_of_ble_eq_true rfl⟩) hS (x_sub hD hS hA) (fun q9 ce H locs hP hD hS h1 h2 h3 => ?_)
  exact xt_out htb hlocks hP hD hS h1 h2 h3 (Nat.le_refl _) (Nat.le_refl _)
set_option maxHeartbeats 800000 in
set_option maxRecDepth 100000 in
theorem c_X1_subtractProduct_no5 {l : Launch} (hst : l.stackTraces = false) {D : va_G} {Rs : va_W} {cA cR cL : ClassId} {ro la cap wd : Nat → Nat} {F : Nat → Nat → Int32} {xo ra qx qa : Nat} (hxo : Rs[qx]? = some (xo, .inr (1, [.ref ra]))) (hra : Rs[qa]? = some (ra, .inl (cR, 64, .inr (.inr (.inr (.inr (fun i => if i < 64 then some (ro i) else none))))))) (hw : rwOk cap wd) {r a u : Nat} (hr64 : r < 64) (ha64 : a < 64) (hu64 : u < 64) (hra1 : r ≠ a) (hru : r = u) : xTE l y_X1_subtractProduct w_X1_subtractProduct ({ frames := 7, cells := 1, slots := 6, locals := 104 }) D cls0 (ty3 cA cR cL) [.ref xo, .int (nI r), .int (nI a), .int (nI u)] (rw Rs cA ro la cap wd F) R_IA 1 6 := by
  refine xTE.ofW (cc := b_X1_subtractProduct) (maxL := 7) (ret := some .int) (by decide) rfl (Nat.le_of_ble_eq_true rfl) ?_
  intro p e s m below meth c A ls hx hb hr hml hown hts hlocks hA hK hN hT hZ hP hD hS hl htb
  have hts : ∀ w ∈ gw, w.before ([.ref xo, .int (nI r), .int (nI a), .int (nI u)]).toArray s = true := fun w h => hts w (List.mem_cons_of_mem _ h)
  have hown : s.vm.findClass R_LR = some m.cls := hown
  have hl : lv_has ls 7 [(0, .ref xo), (1, .int (nI r)), (2, .int (nI a)), (3, .int (nI u))] := hl
  refine lv_aload_n hx hb d_X1_subtractProduct_0 rfl (lv_at hl 0 rfl) ?_
  refine lv_iload_n hx hb d_X1_subtractProduct_1 rfl (lv_at hl 1 rfl) ?_
  refine x_callR (st1 := [.ref (ro r)]) (x_runV (As := [.int (nI r)]) (rest := []) (nL := 7) ⟨hx, hb, hml, hown, hts⟩ (c_X1_rowAt hxo hra (r := r) hr64 _) (cwV 1 hts (gw_V k_100 k_102 k_0 k_50 k_103) rfl rfl rfl (by decide +kernel) ⟨Nat.le_of_ble_eq_true rfl, Nat.le_of_ble_eq_true rfl⟩) hK hP hD _ 1 (rw_in hxo) rfl rfl hl.1 rfl (Nat.le_of_ble_eq_true rfl) d_X1_subtractProduct_2 ⟨Nat.zero_le _, Nat.zero_le _⟩) rfl ?_
  refine lv_astore (lv' := [(4, .ref (ro r)), (0, .ref xo), (1, .int (nI r)), (2, .int (nI a)), (3, .int (nI u))]) hx hb d_X1_subtractProduct_5 hl (by decide) rfl (fun ls hl => ?_)
  refine lv_aload_n hx hb d_X1_subtractProduct_7 rfl (lv_at hl 1 rfl) ?_
  refine lv_iload_n hx hb d_X1_subtractProduct_8 rfl (lv_at hl 3 rfl) ?_
  refine x_callR (st1 := [.ref (ro a)]) (x_runV (As := [.int (nI a)]) (rest := []) (nL := 7) ⟨hx, hb, hml, hown, hts⟩ (c_X1_rowAt hxo hra (r := a) ha64 _) (cwV 1 hts (gw_V k_100 k_102 k_0 k_50 k_103) rfl rfl rfl (by decide +kernel) ⟨Nat.le_of_ble_eq_true rfl, Nat.le_of_ble_eq_true rfl⟩) hK hP hD _ 1 (rw_in hxo) rfl rfl hl.1 rfl (Nat.le_of_ble_eq_true rfl) d_X1_subtractProduct_9 ⟨Nat.zero_le _, Nat.zero_le _⟩) rfl ?_
  refine lv_astore (lv' := [(5, .ref (ro a)), (4, .ref (ro r)), (0, .ref xo), (1, .int (nI r)), (2, .int (nI a)), (3, .int (nI u))]) hx hb d_X1_subtractProduct_12 hl (by decide) rfl (fun ls hl => ?_)
  refine lv_aload_n hx hb d_X1_subtractProduct_14 rfl (lv_at hl 2 rfl) ?_
  refine lv_iload_n hx hb d_X1_subtractProduct_15 rfl (lv_at hl 5 rfl) ?_
  refine x_callR (st1 := [.ref (ro u)]) (x_runV (As := [.int (nI u)]) (rest := []) (nL := 7) ⟨hx, hb, hml, hown, hts⟩ (c_X1_rowAt hxo hra (r := u) hu64 _) (cwV 1 hts (gw_V k_100 k_102 k_0 k_50 k_103) rfl rfl rfl (by decide +kernel) ⟨Nat.le_of_ble_eq_true rfl, Nat.le_of_ble_eq_true rfl⟩) hK hP hD _ 1 (rw_in hxo) rfl rfl hl.1 rfl (Nat.le_of_ble_eq_true rfl) d_X1_subtractProduct_16 ⟨Nat.zero_le _, Nat.zero_le _⟩) rfl ?_
  refine lv_astore (lv' := [(6, .ref (ro u)), (5, .ref (ro a)), (4, .ref (ro r)), (0, .ref xo), (1, .int (nI r)), (2, .int (nI a)), (3, .int (nI u))]) hx hb d_X1_subtractProduct_19 hl (by decide) rfl (fun ls hl => ?_)
  refine lv_iload_n hx hb d_X1_subtractProduct_21 rfl (lv_at hl 4 rfl) ?_
  refine lv_iload_n hx hb d_X1_subtractProduct_22 rfl (lv_at hl 5 rfl) ?_
  refine lv_iload_n hx hb d_X1_subtractProduct_23 rfl (lv_at hl 6 rfl) ?_
  refine xt_call (xt_runS (As := [.int (nI r), .int (nI a), .int (nI u)]) (rest := []) (nL := 7) ⟨hx, hb, hml, hown, hts⟩ (c_X1_refuseOwnFactor_no5 hst hw hr64 ha64 hu64 hra1 hru _) (cwS 3 hts (gw_S k_305 k_306 k_50 k_307) rfl rfl rfl (by decide +kernel) ⟨Nat.le_of_ble_eq_true rfl, Nat.le_of_ble_eq_true rfl⟩) hK hN hT hZ hP hD hS (x_sub hD hS hA) rfl hl.1 rfl (Nat.le_of_ble_eq_true rfl) d_X1_subtractProduct_24 ⟨Nat.le_of_ble_eq_true rfl, Nat.le_of_ble_eq_true rfl⟩) hS (x_sub hD hS hA) (fun q9 ce H locs hP hD hS h1 h2 h3 => ?_)
  exact xt_out htb hlocks hP hD hS h1 h2 h3 (Nat.le_refl _) (Nat.le_refl _)
set_option maxHeartbeats 800000 in
set_option maxRecDepth 100000 in
theorem c_X1_left_no2 {l : Launch} (hst : l.stackTraces = false) {D : va_G} {Rs : va_W} {cA cR cL : ClassId} {ro la cap wd : Nat → Nat} {F : Nat → Nat → Int32} {xo ra qx qa : Nat} (hxo : Rs[qx]? = some (xo, .inr (1, [.ref ra]))) (hra : Rs[qa]? = some (ra, .inl (cR, 64, .inr (.inr (.inr (.inr (fun i => if i < 64 then some (ro i) else none))))))) (hw : rwOk cap wd) {r : Nat} (hr64 : r < 64) {y : Int32} (hy1 : y < 0) : xTE l y_X1_left w_X1_left ({ frames := 7, cells := 1, slots := 6, locals := 104 }) D cls0 (ty3 cA cR cL) [.ref xo, .int (nI r), .int y] (rw Rs cA ro la cap wd F) R_IA 1 6 := by
  refine xTE.ofW (cc := b_X1_left) (maxL := 4) (ret := some .int) (by decide) rfl (Nat.le_of_ble_eq_true rfl) ?_
  intro p e s m below meth c A ls hx hb hr hml hown hts hlocks hA hK hN hT hZ hP hD hS hl htb
  have hts : ∀ w ∈ gw, w.before ([.ref xo, .int (nI r), .int y]).toArray s = true := fun w h => hts w (List.mem_cons_of_mem _ h)
  have hown : s.vm.findClass R_LR = some m.cls := hown
  have hl : lv_has ls 4 [(0, .ref xo), (1, .int (nI r)), (2, .int y)] := hl
  refine lv_aload_n hx hb d_X1_left_0 rfl (lv_at hl 0 rfl) ?_
  refine lv_iload_n hx hb d_X1_left_1 rfl (lv_at hl 1 rfl) ?_
  refine x_callR (st1 := [.ref (ro r)]) (x_runV (As := [.int (nI r)]) (rest := []) (nL := 4) ⟨hx, hb, hml, hown, hts⟩ (c_X1_rowAt hxo hra (r := r) hr64 _) (cwV 1 hts (gw_V k_100 k_102 k_0 k_50 k_103) rfl rfl rfl (by decide +kernel) ⟨Nat.le_of_ble_eq_true rfl, Nat.le_of_ble_eq_true rfl⟩) hK hP hD _ 1 (rw_in hxo) rfl rfl hl.1 rfl (Nat.le_of_ble_eq_true rfl) d_X1_left_2 ⟨Nat.zero_le _, Nat.zero_le _⟩) rfl ?_
  refine lv_astore_n (lv' := [(3, .ref (ro r)), (0, .ref xo), (1, .int (nI r)), (2, .int y)]) hx hb d_X1_left_5 rfl hl (by decide) rfl (fun ls hl => ?_)
  refine lv_iload_n hx hb d_X1_left_6 rfl (lv_at hl 3 rfl) ?_
  refine xt_call (xt_runS (As := [.int y]) (rest := []) (nL := 4) ⟨hx, hb, hml, hown, hts⟩ (c_X1_refuseShift_no2 hst hw hy1 _) (cwS 1 hts (gw_S k_376 k_377 k_50 k_378) rfl rfl rfl (by decide +kernel) ⟨Nat.le_of_ble_eq_true rfl, Nat.le_of_ble_eq_true rfl⟩) hK hN hT hZ hP hD hS (x_sub hD hS hA) rfl hl.1 rfl (Nat.le_of_ble_eq_true rfl) d_X1_left_7 ⟨Nat.le_of_ble_eq_true rfl, Nat.le_of_ble_eq_true rfl⟩) hS (x_sub hD hS hA) (fun q9 ce H locs hP hD hS h1 h2 h3 => ?_)
  exact xt_out htb hlocks hP hD hS h1 h2 h3 (Nat.le_refl _) (Nat.le_refl _)
set_option maxHeartbeats 800000 in
set_option maxRecDepth 100000 in
theorem c_X1_left_no3 {l : Launch} (hst : l.stackTraces = false) {D : va_G} {Rs : va_W} {cA cR cL : ClassId} {ro la cap wd : Nat → Nat} {F : Nat → Nat → Int32} {xo ra qx qa : Nat} (hxo : Rs[qx]? = some (xo, .inr (1, [.ref ra]))) (hra : Rs[qa]? = some (ra, .inl (cR, 64, .inr (.inr (.inr (.inr (fun i => if i < 64 then some (ro i) else none))))))) (hw : rwOk cap wd) {r : Nat} (hr64 : r < 64) {y : Int32} (hy1 : ¬ y < 0) (hy2 : ¬ y ≤ nI 8192) : xTE l y_X1_left w_X1_left ({ frames := 7, cells := 1, slots := 6, locals := 104 }) D cls0 (ty3 cA cR cL) [.ref xo, .int (nI r), .int y] (rw Rs cA ro la cap wd F) R_IA 1 6 := by
  refine xTE.ofW (cc := b_X1_left) (maxL := 4) (ret := some .int) (by decide) rfl (Nat.le_of_ble_eq_true rfl) ?_
  intro p e s m below meth c A ls hx hb hr hml hown hts hlocks hA hK hN hT hZ hP hD hS hl htb
  have hts : ∀ w ∈ gw, w.before ([.ref xo, .int (nI r), .int y]).toArray s = true := fun w h => hts w (List.mem_cons_of_mem _ h)
  have hown : s.vm.findClass R_LR = some m.cls := hown
  have hl : lv_has ls 4 [(0, .ref xo), (1, .int (nI r)), (2, .int y)] := hl
  refine lv_aload_n hx hb d_X1_left_0 rfl (lv_at hl 0 rfl) ?_
  refine lv_iload_n hx hb d_X1_left_1 rfl (lv_at hl 1 rfl) ?_
  refine x_callR (st1 := [.ref (ro r)]) (x_runV (As := [.int (nI r)]) (rest := []) (nL := 4) ⟨hx, hb, hml, hown, hts⟩ (c_X1_rowAt hxo hra (r := r) hr64 _) (cwV 1 hts (gw_V k_100 k_102 k_0 k_50 k_103) rfl rfl rfl (by decide +kernel) ⟨Nat.le_of_ble_eq_true rfl, Nat.le_of_ble_eq_true rfl⟩) hK hP hD _ 1 (rw_in hxo) rfl rfl hl.1 rfl (Nat.le_of_ble_eq_true rfl) d_X1_left_2 ⟨Nat.zero_le _, Nat.zero_le _⟩) rfl ?_
  refine lv_astore_n (lv' := [(3, .ref (ro r)), (0, .ref xo), (1, .int (nI r)), (2, .int y)]) hx hb d_X1_left_5 rfl hl (by decide) rfl (fun ls hl => ?_)
  refine lv_iload_n hx hb d_X1_left_6 rfl (lv_at hl 3 rfl) ?_
  refine xt_call (xt_runS (As := [.int y]) (rest := []) (nL := 4) ⟨hx, hb, hml, hown, hts⟩ (c_X1_refuseShift_no3 hst hw hy1 hy2 _) (cwS 1 hts (gw_S k_376 k_377 k_50 k_378) rfl rfl rfl (by decide +kernel) ⟨Nat.le_of_ble_eq_true rfl, Nat.le_of_ble_eq_true rfl⟩) hK hN hT hZ hP hD hS (x_sub hD hS hA) rfl hl.1 rfl (Nat.le_of_ble_eq_true rfl) d_X1_left_7 ⟨Nat.le_of_ble_eq_true rfl, Nat.le_of_ble_eq_true rfl⟩) hS (x_sub hD hS hA) (fun q9 ce H locs hP hD hS h1 h2 h3 => ?_)
  exact xt_out htb hlocks hP hD hS h1 h2 h3 (Nat.le_refl _) (Nat.le_refl _)
set_option maxHeartbeats 800000 in
set_option maxRecDepth 100000 in
theorem c_X1_right_no2 {l : Launch} (hst : l.stackTraces = false) {D : va_G} {Rs : va_W} {cA cR cL : ClassId} {ro la cap wd : Nat → Nat} {F : Nat → Nat → Int32} {xo ra qx qa : Nat} (hxo : Rs[qx]? = some (xo, .inr (1, [.ref ra]))) (hra : Rs[qa]? = some (ra, .inl (cR, 64, .inr (.inr (.inr (.inr (fun i => if i < 64 then some (ro i) else none))))))) (hw : rwOk cap wd) {r : Nat} (hr64 : r < 64) {y : Int32} (hy1 : y < 0) : xTE l y_X1_right w_X1_right ({ frames := 7, cells := 1, slots := 6, locals := 104 }) D cls0 (ty3 cA cR cL) [.ref xo, .int (nI r), .int y] (rw Rs cA ro la cap wd F) R_IA 1 6 := by
  refine xTE.ofW (cc := b_X1_right) (maxL := 4) (ret := some .int) (by decide) rfl (Nat.le_of_ble_eq_true rfl) ?_
  intro p e s m below meth c A ls hx hb hr hml hown hts hlocks hA hK hN hT hZ hP hD hS hl htb
  have hts : ∀ w ∈ gw, w.before ([.ref xo, .int (nI r), .int y]).toArray s = true := fun w h => hts w (List.mem_cons_of_mem _ h)
  have hown : s.vm.findClass R_LR = some m.cls := hown
  have hl : lv_has ls 4 [(0, .ref xo), (1, .int (nI r)), (2, .int y)] := hl
  refine lv_aload_n hx hb d_X1_right_0 rfl (lv_at hl 0 rfl) ?_
  refine lv_iload_n hx hb d_X1_right_1 rfl (lv_at hl 1 rfl) ?_
  refine x_callR (st1 := [.ref (ro r)]) (x_runV (As := [.int (nI r)]) (rest := []) (nL := 4) ⟨hx, hb, hml, hown, hts⟩ (c_X1_rowAt hxo hra (r := r) hr64 _) (cwV 1 hts (gw_V k_100 k_102 k_0 k_50 k_103) rfl rfl rfl (by decide +kernel) ⟨Nat.le_of_ble_eq_true rfl, Nat.le_of_ble_eq_true rfl⟩) hK hP hD _ 1 (rw_in hxo) rfl rfl hl.1 rfl (Nat.le_of_ble_eq_true rfl) d_X1_right_2 ⟨Nat.zero_le _, Nat.zero_le _⟩) rfl ?_
  refine lv_astore_n (lv' := [(3, .ref (ro r)), (0, .ref xo), (1, .int (nI r)), (2, .int y)]) hx hb d_X1_right_5 rfl hl (by decide) rfl (fun ls hl => ?_)
  refine lv_iload_n hx hb d_X1_right_6 rfl (lv_at hl 3 rfl) ?_
  refine xt_call (xt_runS (As := [.int y]) (rest := []) (nL := 4) ⟨hx, hb, hml, hown, hts⟩ (c_X1_refuseShift_no2 hst hw hy1 _) (cwS 1 hts (gw_S k_376 k_377 k_50 k_378) rfl rfl rfl (by decide +kernel) ⟨Nat.le_of_ble_eq_true rfl, Nat.le_of_ble_eq_true rfl⟩) hK hN hT hZ hP hD hS (x_sub hD hS hA) rfl hl.1 rfl (Nat.le_of_ble_eq_true rfl) d_X1_right_7 ⟨Nat.le_of_ble_eq_true rfl, Nat.le_of_ble_eq_true rfl⟩) hS (x_sub hD hS hA) (fun q9 ce H locs hP hD hS h1 h2 h3 => ?_)
  exact xt_out htb hlocks hP hD hS h1 h2 h3 (Nat.le_refl _) (Nat.le_refl _)
set_option maxHeartbeats 800000 in
set_option maxRecDepth 100000 in
theorem c_X1_right_no3 {l : Launch} (hst : l.stackTraces = false) {D : va_G} {Rs : va_W} {cA cR cL : ClassId} {ro la cap wd : Nat → Nat} {F : Nat → Nat → Int32} {xo ra qx qa : Nat} (hxo : Rs[qx]? = some (xo, .inr (1, [.ref ra]))) (hra : Rs[qa]? = some (ra, .inl (cR, 64, .inr (.inr (.inr (.inr (fun i => if i < 64 then some (ro i) else none))))))) (hw : rwOk cap wd) {r : Nat} (hr64 : r < 64) {y : Int32} (hy1 : ¬ y < 0) (hy2 : ¬ y ≤ nI 8192) : xTE l y_X1_right w_X1_right ({ frames := 7, cells := 1, slots := 6, locals := 104 }) D cls0 (ty3 cA cR cL) [.ref xo, .int (nI r), .int y] (rw Rs cA ro la cap wd F) R_IA 1 6 := by
  refine xTE.ofW (cc := b_X1_right) (maxL := 4) (ret := some .int) (by decide) rfl (Nat.le_of_ble_eq_true rfl) ?_
  intro p e s m below meth c A ls hx hb hr hml hown hts hlocks hA hK hN hT hZ hP hD hS hl htb
  have hts : ∀ w ∈ gw, w.before ([.ref xo, .int (nI r), .int y]).toArray s = true := fun w h => hts w (List.mem_cons_of_mem _ h)
  have hown : s.vm.findClass R_LR = some m.cls := hown
  have hl : lv_has ls 4 [(0, .ref xo), (1, .int (nI r)), (2, .int y)] := hl
  refine lv_aload_n hx hb d_X1_right_0 rfl (lv_at hl 0 rfl) ?_
  refine lv_iload_n hx hb d_X1_right_1 rfl (lv_at hl 1 rfl) ?_
  refine x_callR (st1 := [.ref (ro r)]) (x_runV (As := [.int (nI r)]) (rest := []) (nL := 4) ⟨hx, hb, hml, hown, hts⟩ (c_X1_rowAt hxo hra (r := r) hr64 _) (cwV 1 hts (gw_V k_100 k_102 k_0 k_50 k_103) rfl rfl rfl (by decide +kernel) ⟨Nat.le_of_ble_eq_true rfl, Nat.le_of_ble_eq_true rfl⟩) hK hP hD _ 1 (rw_in hxo) rfl rfl hl.1 rfl (Nat.le_of_ble_eq_true rfl) d_X1_right_2 ⟨Nat.zero_le _, Nat.zero_le _⟩) rfl ?_
  refine lv_astore_n (lv' := [(3, .ref (ro r)), (0, .ref xo), (1, .int (nI r)), (2, .int y)]) hx hb d_X1_right_5 rfl hl (by decide) rfl (fun ls hl => ?_)
  refine lv_iload_n hx hb d_X1_right_6 rfl (lv_at hl 3 rfl) ?_
  refine xt_call (xt_runS (As := [.int y]) (rest := []) (nL := 4) ⟨hx, hb, hml, hown, hts⟩ (c_X1_refuseShift_no3 hst hw hy1 hy2 _) (cwS 1 hts (gw_S k_376 k_377 k_50 k_378) rfl rfl rfl (by decide +kernel) ⟨Nat.le_of_ble_eq_true rfl, Nat.le_of_ble_eq_true rfl⟩) hK hN hT hZ hP hD hS (x_sub hD hS hA) rfl hl.1 rfl (Nat.le_of_ble_eq_true rfl) d_X1_right_7 ⟨Nat.le_of_ble_eq_true rfl, Nat.le_of_ble_eq_true rfl⟩) hS (x_sub hD hS hA) (fun q9 ce H locs hP hD hS h1 h2 h3 => ?_)
  exact xt_out htb hlocks hP hD hS h1 h2 h3 (Nat.le_refl _) (Nat.le_refl _)
set_option maxHeartbeats 800000 in
set_option maxRecDepth 100000 in
theorem c_X1_nearest_no2 {l : Launch} (hst : l.stackTraces = false) {D : va_G} {Rs : va_W} {cA cR cL : ClassId} {ro la cap wd : Nat → Nat} {F : Nat → Nat → Int32} {xo ra qx qa : Nat} (hxo : Rs[qx]? = some (xo, .inr (1, [.ref ra]))) (hra : Rs[qa]? = some (ra, .inl (cR, 64, .inr (.inr (.inr (.inr (fun i => if i < 64 then some (ro i) else none))))))) (hw : rwOk cap wd) {r : Nat} (hr64 : r < 64) {y : Int32} (hy1 : y < 0) : xTE l y_X1_nearest w_X1_nearest ({ frames := 7, cells := 1, slots := 6, locals := 104 }) D cls0 (ty3 cA cR cL) [.ref xo, .int (nI r), .int y] (rw Rs cA ro la cap wd F) R_IA 1 6 := by
  refine xTE.ofW (cc := b_X1_nearest) (maxL := 5) (ret := some .int) (by decide) rfl (Nat.le_of_ble_eq_true rfl) ?_
  intro p e s m below meth c A ls hx hb hr hml hown hts hlocks hA hK hN hT hZ hP hD hS hl htb
  have hts : ∀ w ∈ gw, w.before ([.ref xo, .int (nI r), .int y]).toArray s = true := fun w h => hts w (List.mem_cons_of_mem _ h)
  have hown : s.vm.findClass R_LR = some m.cls := hown
  have hl : lv_has ls 5 [(0, .ref xo), (1, .int (nI r)), (2, .int y)] := hl
  refine lv_aload_n hx hb d_X1_nearest_0 rfl (lv_at hl 0 rfl) ?_
  refine lv_iload_n hx hb d_X1_nearest_1 rfl (lv_at hl 1 rfl) ?_
  refine x_callR (st1 := [.ref (ro r)]) (x_runV (As := [.int (nI r)]) (rest := []) (nL := 5) ⟨hx, hb, hml, hown, hts⟩ (c_X1_rowAt hxo hra (r := r) hr64 _) (cwV 1 hts (gw_V k_100 k_102 k_0 k_50 k_103) rfl rfl rfl (by decide +kernel) ⟨Nat.le_of_ble_eq_true rfl, Nat.le_of_ble_eq_true rfl⟩) hK hP hD _ 1 (rw_in hxo) rfl rfl hl.1 rfl (Nat.le_of_ble_eq_true rfl) d_X1_nearest_2 ⟨Nat.zero_le _, Nat.zero_le _⟩) rfl ?_
  refine lv_astore_n (lv' := [(3, .ref (ro r)), (0, .ref xo), (1, .int (nI r)), (2, .int y)]) hx hb d_X1_nearest_5 rfl hl (by decide) rfl (fun ls hl => ?_)
  refine lv_iload_n hx hb d_X1_nearest_6 rfl (lv_at hl 3 rfl) ?_
  refine xt_call (xt_runS (As := [.int y]) (rest := []) (nL := 5) ⟨hx, hb, hml, hown, hts⟩ (c_X1_refuseShift_no2 hst hw hy1 _) (cwS 1 hts (gw_S k_376 k_377 k_50 k_378) rfl rfl rfl (by decide +kernel) ⟨Nat.le_of_ble_eq_true rfl, Nat.le_of_ble_eq_true rfl⟩) hK hN hT hZ hP hD hS (x_sub hD hS hA) rfl hl.1 rfl (Nat.le_of_ble_eq_true rfl) d_X1_nearest_7 ⟨Nat.le_of_ble_eq_true rfl, Nat.le_of_ble_eq_true rfl⟩) hS (x_sub hD hS hA) (fun q9 ce H locs hP hD hS h1 h2 h3 => ?_)
  exact xt_out htb hlocks hP hD hS h1 h2 h3 (Nat.le_refl _) (Nat.le_refl _)
set_option maxHeartbeats 800000 in
set_option maxRecDepth 100000 in
theorem c_X1_nearest_no3 {l : Launch} (hst : l.stackTraces = false) {D : va_G} {Rs : va_W} {cA cR cL : ClassId} {ro la cap wd : Nat → Nat} {F : Nat → Nat → Int32} {xo ra qx qa : Nat} (hxo : Rs[qx]? = some (xo, .inr (1, [.ref ra]))) (hra : Rs[qa]? = some (ra, .inl (cR, 64, .inr (.inr (.inr (.inr (fun i => if i < 64 then some (ro i) else none))))))) (hw : rwOk cap wd) {r : Nat} (hr64 : r < 64) {y : Int32} (hy1 : ¬ y < 0) (hy2 : ¬ y ≤ nI 8192) : xTE l y_X1_nearest w_X1_nearest ({ frames := 7, cells := 1, slots := 6, locals := 104 }) D cls0 (ty3 cA cR cL) [.ref xo, .int (nI r), .int y] (rw Rs cA ro la cap wd F) R_IA 1 6 := by
  refine xTE.ofW (cc := b_X1_nearest) (maxL := 5) (ret := some .int) (by decide) rfl (Nat.le_of_ble_eq_true rfl) ?_
  intro p e s m below meth c A ls hx hb hr hml hown hts hlocks hA hK hN hT hZ hP hD hS hl htb
  have hts : ∀ w ∈ gw, w.before ([.ref xo, .int (nI r), .int y]).toArray s = true := fun w h => hts w (List.mem_cons_of_mem _ h)
  have hown : s.vm.findClass R_LR = some m.cls := hown
  have hl : lv_has ls 5 [(0, .ref xo), (1, .int (nI r)), (2, .int y)] := hl
  refine lv_aload_n hx hb d_X1_nearest_0 rfl (lv_at hl 0 rfl) ?_
  refine lv_iload_n hx hb d_X1_nearest_1 rfl (lv_at hl 1 rfl) ?_
  refine x_callR (st1 := [.ref (ro r)]) (x_runV (As := [.int (nI r)]) (rest := []) (nL := 5) ⟨hx, hb, hml, hown, hts⟩ (c_X1_rowAt hxo hra (r := r) hr64 _) (cwV 1 hts (gw_V k_100 k_102 k_0 k_50 k_103) rfl rfl rfl (by decide +kernel) ⟨Nat.le_of_ble_eq_true rfl, Nat.le_of_ble_eq_true rfl⟩) hK hP hD _ 1 (rw_in hxo) rfl rfl hl.1 rfl (Nat.le_of_ble_eq_true rfl) d_X1_nearest_2 ⟨Nat.zero_le _, Nat.zero_le _⟩) rfl ?_
  refine lv_astore_n (lv' := [(3, .ref (ro r)), (0, .ref xo), (1, .int (nI r)), (2, .int y)]) hx hb d_X1_nearest_5 rfl hl (by decide) rfl (fun ls hl => ?_)
  refine lv_iload_n hx hb d_X1_nearest_6 rfl (lv_at hl 3 rfl) ?_
  refine xt_call (xt_runS (As := [.int y]) (rest := []) (nL := 5) ⟨hx, hb, hml, hown, hts⟩ (c_X1_refuseShift_no3 hst hw hy1 hy2 _) (cwS 1 hts (gw_S k_376 k_377 k_50 k_378) rfl rfl rfl (by decide +kernel) ⟨Nat.le_of_ble_eq_true rfl, Nat.le_of_ble_eq_true rfl⟩) hK hN hT hZ hP hD hS (x_sub hD hS hA) rfl hl.1 rfl (Nat.le_of_ble_eq_true rfl) d_X1_nearest_7 ⟨Nat.le_of_ble_eq_true rfl, Nat.le_of_ble_eq_true rfl⟩) hS (x_sub hD hS hA) (fun q9 ce H locs hP hD hS h1 h2 h3 => ?_)
  exact xt_out htb hlocks hP hD hS h1 h2 h3 (Nat.le_refl _) (Nat.le_refl _)
set_option maxHeartbeats 800000 in
set_option maxRecDepth 100000 in
theorem c_X1_widen_no2 {l : Launch} (hst : l.stackTraces = false) {D : va_G} {Rs : va_W} {cA cR cL : ClassId} {ro la cap wd : Nat → Nat} {F : Nat → Nat → Int32} {xo ra qx qa : Nat} (hxo : Rs[qx]? = some (xo, .inr (1, [.ref ra]))) (hra : Rs[qa]? = some (ra, .inl (cR, 64, .inr (.inr (.inr (.inr (fun i => if i < 64 then some (ro i) else none))))))) (hw : rwOk cap wd) {r : Nat} (hr64 : r < 64) {y : Int32} (hy1 : y < (nI 1)) : xTE l y_X1_widen w_X1_widen ({ frames := 7, cells := 1, slots := 6, locals := 104 }) D cls0 (ty3 cA cR cL) [.ref xo, .int (nI r), .int y] (rw Rs cA ro la cap wd F) R_IA 1 6 := by
  refine xTE.ofW (cc := b_X1_widen) (maxL := 4) (ret := some .boolean) (by decide) rfl (Nat.le_of_ble_eq_true rfl) ?_
  intro p e s m below meth c A ls hx hb hr hml hown hts hlocks hA hK hN hT hZ hP hD hS hl htb
  have hts : ∀ w ∈ gw, w.before ([.ref xo, .int (nI r), .int y]).toArray s = true := fun w h => hts w (List.mem_cons_of_mem _ h)
  have hown : s.vm.findClass R_LR = some m.cls := hown
  have hl : lv_has ls 4 [(0, .ref xo), (1, .int (nI r)), (2, .int y)] := hl
  refine lv_aload_n hx hb d_X1_widen_0 rfl (lv_at hl 0 rfl) ?_
  refine lv_iload_n hx hb d_X1_widen_1 rfl (lv_at hl 1 rfl) ?_
  refine x_callR (st1 := [.ref (ro r)]) (x_runV (As := [.int (nI r)]) (rest := []) (nL := 4) ⟨hx, hb, hml, hown, hts⟩ (c_X1_rowAt hxo hra (r := r) hr64 _) (cwV 1 hts (gw_V k_100 k_102 k_0 k_50 k_103) rfl rfl rfl (by decide +kernel) ⟨Nat.le_of_ble_eq_true rfl, Nat.le_of_ble_eq_true rfl⟩) hK hP hD _ 1 (rw_in hxo) rfl rfl hl.1 rfl (Nat.le_of_ble_eq_true rfl) d_X1_widen_2 ⟨Nat.zero_le _, Nat.zero_le _⟩) rfl ?_
  refine lv_astore_n (lv' := [(3, .ref (ro r)), (0, .ref xo), (1, .int (nI r)), (2, .int y)]) hx hb d_X1_widen_5 rfl hl (by decide) rfl (fun ls hl => ?_)
  refine lv_iload_n hx hb d_X1_widen_6 rfl (lv_at hl 3 rfl) ?_
  refine lv_iconst (v := nI 1) hx hb d_X1_widen_7 (by decide) ?_
  refine lv_icmp_lt (tgt := 18) hx hb d_X1_widen_8 (by decide) (fun _ => ?_) (fun c9 => absurd hy1 c9)
  exact xt_throw (E := R_IA) (names := nm2) hx hb hst hown (by decide +kernel) nm2_fit at_IA kt_180 hN hT hZ hP hD hS (hl.1.trans hml.symm) d_X1_widen_18 d_X1_widen_21 d_X1_widen_22 d_X1_widen_24 d_X1_widen_27 htb ⟨Nat.le_of_ble_eq_true rfl, Nat.le_of_ble_eq_true rfl, Nat.le_of_ble_eq_true rfl, Nat.le_of_ble_eq_true rfl⟩ hlocks (Nat.le_refl _) (Nat.le_refl _)
set_option maxHeartbeats 800000 in
set_option maxRecDepth 100000 in
theorem c_X1_widen_no3 {l : Launch} (hst : l.stackTraces = false) {D : va_G} {Rs : va_W} {cA cR cL : ClassId} {ro la cap wd : Nat → Nat} {F : Nat → Nat → Int32} {xo ra qx qa : Nat} (hxo : Rs[qx]? = some (xo, .inr (1, [.ref ra]))) (hra : Rs[qa]? = some (ra, .inl (cR, 64, .inr (.inr (.inr (.inr (fun i => if i < 64 then some (ro i) else none))))))) (hw : rwOk cap wd) {r : Nat} (hr64 : r < 64) {y : Int32} (hy1 : ¬ y < (nI 1)) (hy2 : ¬ y ≤ (nI 256)) : xTE l y_X1_widen w_X1_widen ({ frames := 7, cells := 1, slots := 6, locals := 104 }) D cls0 (ty3 cA cR cL) [.ref xo, .int (nI r), .int y] (rw Rs cA ro la cap wd F) R_IA 1 6 := by
  refine xTE.ofW (cc := b_X1_widen) (maxL := 4) (ret := some .boolean) (by decide) rfl (Nat.le_of_ble_eq_true rfl) ?_
  intro p e s m below meth c A ls hx hb hr hml hown hts hlocks hA hK hN hT hZ hP hD hS hl htb
  have hts : ∀ w ∈ gw, w.before ([.ref xo, .int (nI r), .int y]).toArray s = true := fun w h => hts w (List.mem_cons_of_mem _ h)
  have hown : s.vm.findClass R_LR = some m.cls := hown
  have hl : lv_has ls 4 [(0, .ref xo), (1, .int (nI r)), (2, .int y)] := hl
  refine lv_aload_n hx hb d_X1_widen_0 rfl (lv_at hl 0 rfl) ?_
  refine lv_iload_n hx hb d_X1_widen_1 rfl (lv_at hl 1 rfl) ?_
  refine x_callR (st1 := [.ref (ro r)]) (x_runV (As := [.int (nI r)]) (rest := []) (nL := 4) ⟨hx, hb, hml, hown, hts⟩ (c_X1_rowAt hxo hra (r := r) hr64 _) (cwV 1 hts (gw_V k_100 k_102 k_0 k_50 k_103) rfl rfl rfl (by decide +kernel) ⟨Nat.le_of_ble_eq_true rfl, Nat.le_of_ble_eq_true rfl⟩) hK hP hD _ 1 (rw_in hxo) rfl rfl hl.1 rfl (Nat.le_of_ble_eq_true rfl) d_X1_widen_2 ⟨Nat.zero_le _, Nat.zero_le _⟩) rfl ?_
  refine lv_astore_n (lv' := [(3, .ref (ro r)), (0, .ref xo), (1, .int (nI r)), (2, .int y)]) hx hb d_X1_widen_5 rfl hl (by decide) rfl (fun ls hl => ?_)
  refine lv_iload_n hx hb d_X1_widen_6 rfl (lv_at hl 3 rfl) ?_
  refine lv_iconst (v := nI 1) hx hb d_X1_widen_7 (by decide) ?_
  refine lv_icmp_lt (tgt := 18) hx hb d_X1_widen_8 (by decide) (fun c9 => absurd c9 hy1) (fun _ => ?_)
  refine lv_iload_n hx hb d_X1_widen_11 rfl (lv_at hl 3 rfl) ?_
  refine lv_sipush (v := nI 256) hx hb d_X1_widen_12 (by decide) ?_
  refine lv_icmp_le (tgt := 28) hx hb d_X1_widen_15 (by decide) (fun c9 => absurd c9 hy2) (fun _ => ?_)
  exact xt_throw (E := R_IA) (names := nm2) hx hb hst hown (by decide +kernel) nm2_fit at_IA kt_180 hN hT hZ hP hD hS (hl.1.trans hml.symm) d_X1_widen_18 d_X1_widen_21 d_X1_widen_22 d_X1_widen_24 d_X1_widen_27 htb ⟨Nat.le_of_ble_eq_true rfl, Nat.le_of_ble_eq_true rfl, Nat.le_of_ble_eq_true rfl, Nat.le_of_ble_eq_true rfl⟩ hlocks (Nat.le_refl _) (Nat.le_refl _)
set_option maxHeartbeats 800000 in
set_option maxRecDepth 100000 in
theorem c_X1_divide_no2 {l : Launch} (hst : l.stackTraces = false) {D : va_G} {Rs : va_W} {cA cR cL : ClassId} {ro la cap wd : Nat → Nat} {F : Nat → Nat → Int32} {xo ra qx qa : Nat} (hxo : Rs[qx]? = some (xo, .inr (1, [.ref ra]))) (hra : Rs[qa]? = some (ra, .inl (cR, 64, .inr (.inr (.inr (.inr (fun i => if i < 64 then some (ro i) else none))))))) (hw : rwOk cap wd) {r : Nat} (hr64 : r < 64) {v : Int64} (hy1 : (lg_cmp v 1) < 0) : xTE l y_X1_divide w_X1_divide ({ frames := 7, cells := 1, slots := 6, locals := 104 }) D cls0 (ty3 cA cR cL) [.ref xo, .int (nI r), .long v] (rw Rs cA ro la cap wd F) R_IA 1 6 := by
  refine xTE.ofW (cc := b_X1_divide) (maxL := 5) (ret := some .long) (by decide) rfl (Nat.le_of_ble_eq_true rfl) ?_
  intro p e s m below meth c A ls hx hb hr hml hown hts hlocks hA hK hN hT hZ hP hD hS hl htb
  have hts : ∀ w ∈ gw, w.before ([.ref xo, .int (nI r), .long v]).toArray s = true := fun w h => hts w (List.mem_cons_of_mem _ h)
  have hown : s.vm.findClass R_LR = some m.cls := hown
  have hl : lv_has ls 5 [(0, .ref xo), (1, .int (nI r)), (2, .long v)] := hl
  refine lv_aload_n hx hb d_X1_divide_0 rfl (lv_at hl 0 rfl) ?_
  refine lv_iload_n hx hb d_X1_divide_1 rfl (lv_at hl 1 rfl) ?_
  refine x_callR (st1 := [.ref (ro r)]) (x_runV (As := [.int (nI r)]) (rest := []) (nL := 5) ⟨hx, hb, hml, hown, hts⟩ (c_X1_rowAt hxo hra (r := r) hr64 _) (cwV 1 hts (gw_V k_100 k_102 k_0 k_50 k_103) rfl rfl rfl (by decide +kernel) ⟨Nat.le_of_ble_eq_true rfl, Nat.le_of_ble_eq_true rfl⟩) hK hP hD _ 1 (rw_in hxo) rfl rfl hl.1 rfl (Nat.le_of_ble_eq_true rfl) d_X1_divide_2 ⟨Nat.zero_le _, Nat.zero_le _⟩) rfl ?_
  refine lv_astore (lv' := [(4, .ref (ro r)), (0, .ref xo), (1, .int (nI r)), (2, .long v)]) hx hb d_X1_divide_5 hl (by decide) rfl (fun ls hl => ?_)
  refine lv_lload_n hx hb d_X1_divide_7 rfl (lv_at hl 3 rfl) ?_
  refine lv_lconst (v := 1) hx hb d_X1_divide_8 (by decide) ?_
  refine W.lcmp hx hb d_X1_divide_9 ?_
  refine lv_if_lt (tgt := 21) hx hb d_X1_divide_10 (by decide) (fun _ => ?_) (fun c9 => absurd hy1 c9)
  exact xt_throw (E := R_IA) (names := nm2) hx hb hst hown (by decide +kernel) nm2_fit at_IA kt_430 hN hT hZ hP hD hS (hl.1.trans hml.symm) d_X1_divide_21 d_X1_divide_24 d_X1_divide_25 d_X1_divide_27 d_X1_divide_30 htb ⟨Nat.le_of_ble_eq_true rfl, Nat.le_of_ble_eq_true rfl, Nat.le_of_ble_eq_true rfl, Nat.le_of_ble_eq_true rfl⟩ hlocks (Nat.le_refl _) (Nat.le_refl _)
set_option maxHeartbeats 800000 in
set_option maxRecDepth 100000 in
theorem c_X1_divide_no3 {l : Launch} (hst : l.stackTraces = false) {D : va_G} {Rs : va_W} {cA cR cL : ClassId} {ro la cap wd : Nat → Nat} {F : Nat → Nat → Int32} {xo ra qx qa : Nat} (hxo : Rs[qx]? = some (xo, .inr (1, [.ref ra]))) (hra : Rs[qa]? = some (ra, .inl (cR, 64, .inr (.inr (.inr (.inr (fun i => if i < 64 then some (ro i) else none))))))) (hw : rwOk cap wd) {r : Nat} (hr64 : r < 64) {v : Int64} (hy1 : ¬ (lg_cmp v 1) < 0) (hy2 : ¬ (lg_cmp v 4611686018427387903) ≤ 0) : xTE l y_X1_divide w_X1_divide ({ frames := 7, cells := 1, slots := 6, locals := 104 }) D cls0 (ty3 cA cR cL) [.ref xo, .int (nI r), .long v] (rw Rs cA ro la cap wd F) R_IA 1 6 := by
  refine xTE.ofW (cc := b_X1_divide) (maxL := 5) (ret := some .long) (by decide) rfl (Nat.le_of_ble_eq_true rfl) ?_
  intro p e s m below meth c A ls hx hb hr hml hown hts hlocks hA hK hN hT hZ hP hD hS hl htb
  have hts : ∀ w ∈ gw, w.before ([.ref xo, .int (nI r), .long v]).toArray s = true := fun w h => hts w (List.mem_cons_of_mem _ h)
  have hown : s.vm.findClass R_LR = some m.cls := hown
  have hl : lv_has ls 5 [(0, .ref xo), (1, .int (nI r)), (2, .long v)] := hl
  refine lv_aload_n hx hb d_X1_divide_0 rfl (lv_at hl 0 rfl) ?_
  refine lv_iload_n hx hb d_X1_divide_1 rfl (lv_at hl 1 rfl) ?_
  refine x_callR (st1 := [.ref (ro r)]) (x_runV (As := [.int (nI r)]) (rest := []) (nL := 5) ⟨hx, hb, hml, hown, hts⟩ (c_X1_rowAt hxo hra (r := r) hr64 _) (cwV 1 hts (gw_V k_100 k_102 k_0 k_50 k_103) rfl rfl rfl (by decide +kernel) ⟨Nat.le_of_ble_eq_true rfl, Nat.le_of_ble_eq_true rfl⟩) hK hP hD _ 1 (rw_in hxo) rfl rfl hl.1 rfl (Nat.le_of_ble_eq_true rfl) d_X1_divide_2 ⟨Nat.zero_le _, Nat.zero_le _⟩) rfl ?_
  refine lv_astore (lv' := [(4, .ref (ro r)), (0, .ref xo), (1, .int (nI r)), (2, .long v)]) hx hb d_X1_divide_5 hl (by decide) rfl (fun ls hl => ?_)
  refine lv_lload_n hx hb d_X1_divide_7 rfl (lv_at hl 3 rfl) ?_
  refine lv_lconst (v := 1) hx hb d_X1_divide_8 (by decide) ?_
  refine W.lcmp hx hb d_X1_divide_9 ?_
  refine lv_if_lt (tgt := 21) hx hb d_X1_divide_10 (by decide) (fun c9 => absurd c9 hy1) (fun _ => ?_)
  refine lv_lload_n hx hb d_X1_divide_13 rfl (lv_at hl 3 rfl) ?_
  refine lv_ldc2 (v := 4611686018427387903) hx hb hown (hts (.constantLong "LimbRows" 102 4611686018427387903) k_429) d_X1_divide_14 ?_
  refine W.lcmp hx hb d_X1_divide_17 ?_
  refine lv_if_le (tgt := 31) hx hb d_X1_divide_18 (by decide) (fun c9 => absurd c9 hy2) (fun _ => ?_)
  exact xt_throw (E := R_IA) (names := nm2) hx hb hst hown (by decide +kernel) nm2_fit at_IA kt_430 hN hT hZ hP hD hS (hl.1.trans hml.symm) d_X1_divide_21 d_X1_divide_24 d_X1_divide_25 d_X1_divide_27 d_X1_divide_30 htb ⟨Nat.le_of_ble_eq_true rfl, Nat.le_of_ble_eq_true rfl, Nat.le_of_ble_eq_true rfl, Nat.le_of_ble_eq_true rfl⟩ hlocks (Nat.le_refl _) (Nat.le_refl _)
set_option maxHeartbeats 800000 in
set_option maxRecDepth 100000 in
theorem c_X1_put_no2 {l : Launch} (hst : l.stackTraces = false) {D : va_G} {Rs : va_W} {cA cR cL : ClassId} {ro la cap wd : Nat → Nat} {F : Nat → Nat → Int32} {xo ra qx qa : Nat} (hxo : Rs[qx]? = some (xo, .inr (1, [.ref ra]))) (hra : Rs[qa]? = some (ra, .inl (cR, 64, .inr (.inr (.inr (.inr (fun i => if i < 64 then some (ro i) else none))))))) (hw : rwOk cap wd) {r : Nat} (hr64 : r < 64) {y u : Int32} (hy1 : y < 0) : xTE l y_X1_put w_X1_put ({ frames := 7, cells := 1, slots := 6, locals := 104 }) D cls0 (ty3 cA cR cL) [.ref xo, .int (nI r), .int y, .int u] (rw Rs cA ro la cap wd F) R_IO 1 6 := by
  refine xTE.ofW (cc := b_X1_put) (maxL := 6) (ret := some .int) (by decide) rfl (Nat.le_of_ble_eq_true rfl) ?_
  intro p e s m below meth c A ls hx hb hr hml hown hts hlocks hA hK hN hT hZ hP hD hS hl htb
  have hts : ∀ w ∈ gw, w.before ([.ref xo, .int (nI r), .int y, .int u]).toArray s = true := fun w h => hts w (List.mem_cons_of_mem _ h)
  have hown : s.vm.findClass R_LR = some m.cls := hown
  have hl : lv_has ls 6 [(0, .ref xo), (1, .int (nI r)), (2, .int y), (3, .int u)] := hl
  refine lv_aload_n hx hb d_X1_put_0 rfl (lv_at hl 0 rfl) ?_
  refine lv_iload_n hx hb d_X1_put_1 rfl (lv_at hl 1 rfl) ?_
  refine x_callR (st1 := [.ref (ro r)]) (x_runV (As := [.int (nI r)]) (rest := []) (nL := 6) ⟨hx, hb, hml, hown, hts⟩ (c_X1_rowAt hxo hra (r := r) hr64 _) (cwV 1 hts (gw_V k_100 k_102 k_0 k_50 k_103) rfl rfl rfl (by decide +kernel) ⟨Nat.le_of_ble_eq_true rfl, Nat.le_of_ble_eq_true rfl⟩) hK hP hD _ 1 (rw_in hxo) rfl rfl hl.1 rfl (Nat.le_of_ble_eq_true rfl) d_X1_put_2 ⟨Nat.zero_le _, Nat.zero_le _⟩) rfl ?_
  refine lv_astore (lv' := [(4, .ref (ro r)), (0, .ref xo), (1, .int (nI r)), (2, .int y), (3, .int u)]) hx hb d_X1_put_5 hl (by decide) rfl (fun ls hl => ?_)
  refine lv_iload_n hx hb d_X1_put_7 rfl (lv_at hl 3 rfl) ?_
  refine lv_if_lt (tgt := 20) hx hb d_X1_put_8 (by decide) (fun _ => ?_) (fun c9 => absurd hy1 c9)
  exact xt_throw (E := R_IO) (names := nm2) hx hb hst hown (by decide +kernel) nm2_fit at_IO kt_240 hN hT hZ hP hD hS (hl.1.trans hml.symm) d_X1_put_20 d_X1_put_23 d_X1_put_24 d_X1_put_26 d_X1_put_29 htb ⟨Nat.le_of_ble_eq_true rfl, Nat.le_of_ble_eq_true rfl, Nat.le_of_ble_eq_true rfl, Nat.le_of_ble_eq_true rfl⟩ hlocks (Nat.le_refl _) (Nat.le_refl _)
set_option maxHeartbeats 800000 in
set_option maxRecDepth 100000 in
theorem c_X1_put_no3 {l : Launch} (hst : l.stackTraces = false) {D : va_G} {Rs : va_W} {cA cR cL : ClassId} {ro la cap wd : Nat → Nat} {F : Nat → Nat → Int32} {xo ra qx qa : Nat} (hxo : Rs[qx]? = some (xo, .inr (1, [.ref ra]))) (hra : Rs[qa]? = some (ra, .inl (cR, 64, .inr (.inr (.inr (.inr (fun i => if i < 64 then some (ro i) else none))))))) (hw : rwOk cap wd) {r : Nat} (hr64 : r < 64) {k : Nat} (hk31 : k < 2 ^ 31) (hkw : wd r ≤ k) {u : Int32} : xTE l y_X1_put w_X1_put ({ frames := 7, cells := 1, slots := 6, locals := 104 }) D cls0 (ty3 cA cR cL) [.ref xo, .int (nI r), .int (nI k), .int u] (rw Rs cA ro la cap wd F) R_IO 1 6 := by
  refine xTE.ofW (cc := b_X1_put) (maxL := 6) (ret := some .int) (by decide) rfl (Nat.le_of_ble_eq_true rfl) ?_
  intro p e s m below meth c A ls hx hb hr hml hown hts hlocks hA hK hN hT hZ hP hD hS hl htb
  have hts : ∀ w ∈ gw, w.before ([.ref xo, .int (nI r), .int (nI k), .int u]).toArray s = true := fun w h => hts w (List.mem_cons_of_mem _ h)
  have hown : s.vm.findClass R_LR = some m.cls := hown
  have hl : lv_has ls 6 [(0, .ref xo), (1, .int (nI r)), (2, .int (nI k)), (3, .int u)] := hl
  have hwr := hw r hr64
  refine lv_aload_n hx hb d_X1_put_0 rfl (lv_at hl 0 rfl) ?_
  refine lv_iload_n hx hb d_X1_put_1 rfl (lv_at hl 1 rfl) ?_
  refine x_callR (st1 := [.ref (ro r)]) (x_runV (As := [.int (nI r)]) (rest := []) (nL := 6) ⟨hx, hb, hml, hown, hts⟩ (c_X1_rowAt hxo hra (r := r) hr64 _) (cwV 1 hts (gw_V k_100 k_102 k_0 k_50 k_103) rfl rfl rfl (by decide +kernel) ⟨Nat.le_of_ble_eq_true rfl, Nat.le_of_ble_eq_true rfl⟩) hK hP hD _ 1 (rw_in hxo) rfl rfl hl.1 rfl (Nat.le_of_ble_eq_true rfl) d_X1_put_2 ⟨Nat.zero_le _, Nat.zero_le _⟩) rfl ?_
  refine lv_astore (lv' := [(4, .ref (ro r)), (0, .ref xo), (1, .int (nI r)), (2, .int (nI k)), (3, .int u)]) hx hb d_X1_put_5 hl (by decide) rfl (fun ls hl => ?_)
  refine lv_iload_n hx hb d_X1_put_7 rfl (lv_at hl 3 rfl) ?_
  refine n_if_lt (tgt := 20) hx hb d_X1_put_8 (by decide) (by omega) ?_
  refine lv_iload_n hx hb d_X1_put_11 rfl (lv_at hl 3 rfl) ?_
  refine lv_aload hx hb d_X1_put_12 (lv_at hl 0 rfl) ?_
  refine q_getW hN hx hb hts hown hK hP (i := r) hr64 d_X1_put_14 ?_
  have hq_14 := hw r hr64
  refine n_icmp_lt (tgt := 30) hx hb d_X1_put_17 (by decide) (by omega) (by omega) (fun c9 => absurd c9 (by omega)) (fun _ => ?_)
  exact xt_throw (E := R_IO) (names := nm2) hx hb hst hown (by decide +kernel) nm2_fit at_IO kt_240 hN hT hZ hP hD hS (hl.1.trans hml.symm) d_X1_put_20 d_X1_put_23 d_X1_put_24 d_X1_put_26 d_X1_put_29 htb ⟨Nat.le_of_ble_eq_true rfl, Nat.le_of_ble_eq_true rfl, Nat.le_of_ble_eq_true rfl, Nat.le_of_ble_eq_true rfl⟩ hlocks (Nat.le_refl _) (Nat.le_refl _)
set_option maxHeartbeats 800000 in
set_option maxRecDepth 100000 in
theorem c_X1_limb_no2 {l : Launch} (hst : l.stackTraces = false) {D : va_G} {Rs : va_W} {cA cR cL : ClassId} {ro la cap wd : Nat → Nat} {F : Nat → Nat → Int32} {xo ra qx qa : Nat} (hxo : Rs[qx]? = some (xo, .inr (1, [.ref ra]))) (hra : Rs[qa]? = some (ra, .inl (cR, 64, .inr (.inr (.inr (.inr (fun i => if i < 64 then some (ro i) else none))))))) (hw : rwOk cap wd) {r : Nat} (hr64 : r < 64) {y : Int32} (hy1 : ¬ 0 ≤ y) : xTE l y_X1_limb w_X1_limb ({ frames := 7, cells := 1, slots := 6, locals := 104 }) D cls0 (ty3 cA cR cL) [.ref xo, .int (nI r), .int y] (rw Rs cA ro la cap wd F) R_IO 1 6 := by
  refine xTE.ofW (cc := b_X1_limb) (maxL := 4) (ret := some .int) (by decide) rfl (Nat.le_of_ble_eq_true rfl) ?_
  intro p e s m below meth c A ls hx hb hr hml hown hts hlocks hA hK hN hT hZ hP hD hS hl htb
  have hts : ∀ w ∈ gw, w.before ([.ref xo, .int (nI r), .int y]).toArray s = true := fun w h => hts w (List.mem_cons_of_mem _ h)
  have hown : s.vm.findClass R_LR = some m.cls := hown
  have hl : lv_has ls 4 [(0, .ref xo), (1, .int (nI r)), (2, .int y)] := hl
  refine lv_aload_n hx hb d_X1_limb_0 rfl (lv_at hl 0 rfl) ?_
  refine lv_iload_n hx hb d_X1_limb_1 rfl (lv_at hl 1 rfl) ?_
  refine x_callR (st1 := [.ref (ro r)]) (x_runV (As := [.int (nI r)]) (rest := []) (nL := 4) ⟨hx, hb, hml, hown, hts⟩ (c_X1_rowAt hxo hra (r := r) hr64 _) (cwV 1 hts (gw_V k_100 k_102 k_0 k_50 k_103) rfl rfl rfl (by decide +kernel) ⟨Nat.le_of_ble_eq_true rfl, Nat.le_of_ble_eq_true rfl⟩) hK hP hD _ 1 (rw_in hxo) rfl rfl hl.1 rfl (Nat.le_of_ble_eq_true rfl) d_X1_limb_2 ⟨Nat.zero_le _, Nat.zero_le _⟩) rfl ?_
  refine lv_astore_n (lv' := [(3, .ref (ro r)), (0, .ref xo), (1, .int (nI r)), (2, .int y)]) hx hb d_X1_limb_5 rfl hl (by decide) rfl (fun ls hl => ?_)
  refine lv_iload_n hx hb d_X1_limb_6 rfl (lv_at hl 3 rfl) ?_
  refine lv_if_ge (tgt := 20) hx hb d_X1_limb_7 (by decide) (fun c9 => absurd c9 hy1) (fun _ => ?_)
  exact xt_throw (E := R_IO) (names := nm2) hx hb hst hown (by decide +kernel) nm2_fit at_IO kt_240 hN hT hZ hP hD hS (hl.1.trans hml.symm) d_X1_limb_10 d_X1_limb_13 d_X1_limb_14 d_X1_limb_16 d_X1_limb_19 htb ⟨Nat.le_of_ble_eq_true rfl, Nat.le_of_ble_eq_true rfl, Nat.le_of_ble_eq_true rfl, Nat.le_of_ble_eq_true rfl⟩ hlocks (Nat.le_refl _) (Nat.le_refl _)
