abbrev w_L_widen : List Cond := .codeWith y_L_widen b_L_widen 5 (some .int) [(0, 17, 20, 13), (0, 17, 24, 15)] :: gw
set_option maxHeartbeats 800000 in
set_option maxRecDepth 100000 in
theorem c_L_widen_ok {l : Launch} {D : va_G} {cA cR cL : ClassId} {w0 : va_W} {xo qx ou : Nat} {fs : List Value} (hxo : w0[qx]? = some (xo, .inr (1, fs))) {x : Int32} {y : Int32} {v : Int32} {Y : va_W → Prop} {qo : Nat} {fo : Nat → Int64} (hYo : ∀ w1, Y w1 → w1[qo]? = some (ou, .inl (cL, 1, .inr (.inl fo)))) (hC : xCE l y_X1_widen w_X1_widen ({ frames := 3, cells := 1, slots := 256, locals := 86 }) D cls0 (ty3 cA cR cL) [.ref xo, .int x, .int y] w0 (some (.int v)) Y 1 256) : xCW l y_L_widen w_L_widen ({ frames := 4, cells := 1, slots := 256, locals := 109 }) D cls0 (ty3 cA cR cL) [.ref xo, .int x, .int y, .ref ou] w0 (some (.int (nI 0))) (fun w => ∃ w1, Y w1 ∧ w = w1.set qo (ou, .inl (cL, 1, .inr (.inl (vp_updL fo 0 (if v = 0 then 0 else 1)))))) 1 256 := by
  refine xCW.ofW (cc := b_L_widen) (maxL := 5) (ret := some .int) (hh := [(0, 17, 20, 13), (0, 17, 24, 15)]) (by decide) rfl (Nat.le_of_ble_eq_true rfl) ?_
  intro p e s m below meth c A ls hx hb hr hml hown hts hlocks hA hK hN hT hZ hP hD hS hl htab
  have hts : ∀ w ∈ gw, w.before ([.ref xo, .int x, .int y, .ref ou]).toArray s = true := fun w h => hts w (List.mem_cons_of_mem _ h)
  have hown : s.vm.findClass "LimbRowsLaw" = some m.cls := hown
  have hl : lv_has ls 5 [(0, .ref xo), (1, .int x), (2, .int y), (3, .ref ou)] := hl
  refine lv_aload_n hx hb d_L_widen_0 rfl (lv_at hl 3 rfl) ?_
  refine lv_iconst (v := nI 0) hx hb d_L_widen_1 (by decide) ?_
  refine lv_aload_n hx hb d_L_widen_2 rfl (lv_at hl 0 rfl) ?_
  refine lv_iload_n hx hb d_L_widen_3 rfl (lv_at hl 1 rfl) ?_
  refine lv_iload_n hx hb d_L_widen_4 rfl (lv_at hl 2 rfl) ?_
  refine x_call (st1 := [.int v, .int (nI 0), .ref ou]) (xe_runV (As := [.int x, .int y]) (rest := [.int (nI 0), .ref ou]) (nL := 5) ⟨hx, hb, hml, hown, hts⟩ (hC _) (cwV 2 hts (gw_V k_96 k_97 k_98 k_50 k_99) rfl rfl rfl (by decide +kernel) ⟨Nat.le_of_ble_eq_true rfl, Nat.le_of_ble_eq_true rfl⟩) hK hN hT hZ hP hD hS (x_sub hD hS hA) qx 1 hxo rfl rfl hl.1 rfl (Nat.le_of_ble_eq_true rfl) d_L_widen_5 ⟨Nat.le_of_ble_eq_true rfl, Nat.le_of_ble_eq_true rfl⟩) hS (x_sub hD hS hA) (x_sub hD hS hA) rfl (fun w1 H locs hY hP hD hS => ?_)
  refine lv_if_eq (tgt := 15) hx hb d_L_widen_8 (by decide) (fun c_1 => ?_) (fun c_1 => ?_)
  · refine lv_lconst (v := 0) hx hb d_L_widen_15 (by decide) ?_
    refine va_last hx hb hK hP hD hS qo 2 (hYo w1 hY) rfl (i := nI 0) (x := 0) (vp_in_nI (by decide) (by decide)) d_L_widen_16 (fun H locs hP hD hS => ?_)
    refine lv_goto (tgt := 28) hx hb d_L_widen_17 (by decide) ?_
    refine lv_iconst (v := nI 0) hx hb d_L_widen_28 (by decide) ?_
    exact x_iret hx hb hr hlocks hP hD hS d_L_widen_29 rfl ⟨w1, hY, by rw [if_pos c_1]; rfl⟩
  · refine lv_lconst (v := 1) hx hb d_L_widen_11 (by decide) ?_
    refine lv_goto (tgt := 16) hx hb d_L_widen_12 (by decide) ?_
    refine va_last hx hb hK hP hD hS qo 2 (hYo w1 hY) rfl (i := nI 0) (x := 1) (vp_in_nI (by decide) (by decide)) d_L_widen_16 (fun H locs hP hD hS => ?_)
    refine lv_goto (tgt := 28) hx hb d_L_widen_17 (by decide) ?_
    refine lv_iconst (v := nI 0) hx hb d_L_widen_28 (by decide) ?_
    exact x_iret hx hb hr hlocks hP hD hS d_L_widen_29 rfl ⟨w1, hY, by rw [if_neg c_1]; rfl⟩
set_option maxHeartbeats 800000 in
set_option maxRecDepth 100000 in
theorem c_L_widen_IO {l : Launch} {D : va_G} {cA cR cL : ClassId} {w0 : va_W} {xo qx ou : Nat} {fs : List Value} (hxo : w0[qx]? = some (xo, .inr (1, fs))) {x : Int32} {y : Int32} (hC : xTE l y_X1_widen w_X1_widen ({ frames := 7, cells := 1, slots := 6, locals := 104 }) D cls0 (ty3 cA cR cL) [.ref xo, .int x, .int y] w0 R_IO 1 6) : xCW l y_L_widen w_L_widen ({ frames := 8, cells := 1, slots := 6, locals := 127 }) D cls0 (ty3 cA cR cL) [.ref xo, .int x, .int y, .ref ou] w0 (some (.int (nI 1))) (fun w => w = w0) 1 6 := by
  refine xCW.ofW (cc := b_L_widen) (maxL := 5) (ret := some .int) (hh := [(0, 17, 20, 13), (0, 17, 24, 15)]) (by decide) rfl (Nat.le_of_ble_eq_true rfl) ?_
  intro p e s m below meth c A ls hx hb hr hml hown hts hlocks hA hK hN hT hZ hP hD hS hl htab
  have hts : ∀ w ∈ gw, w.before ([.ref xo, .int x, .int y, .ref ou]).toArray s = true := fun w h => hts w (List.mem_cons_of_mem _ h)
  have hown : s.vm.findClass "LimbRowsLaw" = some m.cls := hown
  have hl : lv_has ls 5 [(0, .ref xo), (1, .int x), (2, .int y), (3, .ref ou)] := hl
  refine lv_aload_n hx hb d_L_widen_0 rfl (lv_at hl 3 rfl) ?_
  refine lv_iconst (v := nI 0) hx hb d_L_widen_1 (by decide) ?_
  refine lv_aload_n hx hb d_L_widen_2 rfl (lv_at hl 0 rfl) ?_
  refine lv_iload_n hx hb d_L_widen_3 rfl (lv_at hl 1 rfl) ?_
  refine lv_iload_n hx hb d_L_widen_4 rfl (lv_at hl 2 rfl) ?_
  refine xt_call (xt_runV (As := [.int x, .int y]) (rest := [.int (nI 0), .ref ou]) (nL := 5) ⟨hx, hb, hml, hown, hts⟩ (hC _) (cwV 2 hts (gw_V k_96 k_97 k_98 k_50 k_99) rfl rfl rfl (by decide +kernel) ⟨Nat.le_of_ble_eq_true rfl, Nat.le_of_ble_eq_true rfl⟩) hK hN hT hZ hP hD hS (x_sub hD hS hA) qx 1 hxo rfl rfl hl.1 rfl (Nat.le_of_ble_eq_true rfl) d_L_widen_5 ⟨Nat.le_of_ble_eq_true rfl, Nat.le_of_ble_eq_true rfl⟩) hS (x_sub hD hS hA) (fun q9 ce H locs hP hD hS h1 h2 h3 => ?_)
  refine xt_catch1 hown hts hN htab (by decide) h1 h2 h3 ?_
  refine lv_astore (lv' := [(4, .ref q9), (0, .ref xo), (1, .int x), (2, .int y), (3, .ref ou)]) hx hb d_L_widen_20 hl (by decide) rfl (fun ls hl => ?_)
  refine lv_iconst (v := nI 1) hx hb d_L_widen_22 (by decide) ?_
  exact x_iret hx hb hr hlocks hP hD hS d_L_widen_23 rfl rfl
set_option maxHeartbeats 800000 in
set_option maxRecDepth 100000 in
theorem c_L_widen_IA {l : Launch} {D : va_G} {cA cR cL : ClassId} {w0 : va_W} {xo qx ou : Nat} {fs : List Value} (hxo : w0[qx]? = some (xo, .inr (1, fs))) {x : Int32} {y : Int32} (hC : xTE l y_X1_widen w_X1_widen ({ frames := 7, cells := 1, slots := 6, locals := 104 }) D cls0 (ty3 cA cR cL) [.ref xo, .int x, .int y] w0 R_IA 1 6) : xCW l y_L_widen w_L_widen ({ frames := 8, cells := 1, slots := 6, locals := 127 }) D cls0 (ty3 cA cR cL) [.ref xo, .int x, .int y, .ref ou] w0 (some (.int (nI 2))) (fun w => w = w0) 1 6 := by
  refine xCW.ofW (cc := b_L_widen) (maxL := 5) (ret := some .int) (hh := [(0, 17, 20, 13), (0, 17, 24, 15)]) (by decide) rfl (Nat.le_of_ble_eq_true rfl) ?_
  intro p e s m below meth c A ls hx hb hr hml hown hts hlocks hA hK hN hT hZ hP hD hS hl htab
  have hts : ∀ w ∈ gw, w.before ([.ref xo, .int x, .int y, .ref ou]).toArray s = true := fun w h => hts w (List.mem_cons_of_mem _ h)
  have hown : s.vm.findClass "LimbRowsLaw" = some m.cls := hown
  have hl : lv_has ls 5 [(0, .ref xo), (1, .int x), (2, .int y), (3, .ref ou)] := hl
  refine lv_aload_n hx hb d_L_widen_0 rfl (lv_at hl 3 rfl) ?_
  refine lv_iconst (v := nI 0) hx hb d_L_widen_1 (by decide) ?_
  refine lv_aload_n hx hb d_L_widen_2 rfl (lv_at hl 0 rfl) ?_
  refine lv_iload_n hx hb d_L_widen_3 rfl (lv_at hl 1 rfl) ?_
  refine lv_iload_n hx hb d_L_widen_4 rfl (lv_at hl 2 rfl) ?_
  refine xt_call (xt_runV (As := [.int x, .int y]) (rest := [.int (nI 0), .ref ou]) (nL := 5) ⟨hx, hb, hml, hown, hts⟩ (hC _) (cwV 2 hts (gw_V k_96 k_97 k_98 k_50 k_99) rfl rfl rfl (by decide +kernel) ⟨Nat.le_of_ble_eq_true rfl, Nat.le_of_ble_eq_true rfl⟩) hK hN hT hZ hP hD hS (x_sub hD hS hA) qx 1 hxo rfl rfl hl.1 rfl (Nat.le_of_ble_eq_true rfl) d_L_widen_5 ⟨Nat.le_of_ble_eq_true rfl, Nat.le_of_ble_eq_true rfl⟩) hS (x_sub hD hS hA) (fun q9 ce H locs hP hD hS h1 h2 h3 => ?_)
  refine xt_catch2 hown hts hN hT htab (by decide) h1 h2 h3 ?_
  refine lv_astore (lv' := [(4, .ref q9), (0, .ref xo), (1, .int x), (2, .int y), (3, .ref ou)]) hx hb d_L_widen_24 hl (by decide) rfl (fun ls hl => ?_)
  refine lv_iconst (v := nI 2) hx hb d_L_widen_26 (by decide) ?_
  exact x_iret hx hb hr hlocks hP hD hS d_L_widen_27 rfl rfl
abbrev w_L_width : List Cond := .codeWith y_L_width b_L_width 4 (some .int) [(0, 9, 12, 13)] :: gw
set_option maxHeartbeats 800000 in
set_option maxRecDepth 100000 in
theorem c_L_width_ok {l : Launch} {D : va_G} {cA cR cL : ClassId} {w0 : va_W} {xo qx ou : Nat} {fs : List Value} (hxo : w0[qx]? = some (xo, .inr (1, fs))) {x : Int32} {v : Int32} {Y : va_W → Prop} {qo : Nat} {fo : Nat → Int64} (hYo : ∀ w1, Y w1 → w1[qo]? = some (ou, .inl (cL, 1, .inr (.inl fo)))) (hC : xCE l y_X1_width w_X1_width ({ frames := 1, cells := 0, slots := 0, locals := 21 }) D cls0 (ty3 cA cR cL) [.ref xo, .int x] w0 (some (.int v)) Y 0 0) : xCW l y_L_width w_L_width ({ frames := 2, cells := 0, slots := 0, locals := 42 }) D cls0 (ty3 cA cR cL) [.ref xo, .int x, .ref ou] w0 (some (.int (nI 0))) (fun w => ∃ w1, Y w1 ∧ w = w1.set qo (ou, .inl (cL, 1, .inr (.inl (vp_updL fo 0 v.toInt64))))) 0 0 := by
  refine xCW.ofW (cc := b_L_width) (maxL := 4) (ret := some .int) (hh := [(0, 9, 12, 13)]) (by decide) rfl (Nat.le_of_ble_eq_true rfl) ?_
  intro p e s m below meth c A ls hx hb hr hml hown hts hlocks hA hK hN hT hZ hP hD hS hl htab
  have hts : ∀ w ∈ gw, w.before ([.ref xo, .int x, .ref ou]).toArray s = true := fun w h => hts w (List.mem_cons_of_mem _ h)
  have hown : s.vm.findClass "LimbRowsLaw" = some m.cls := hown
  have hl : lv_has ls 4 [(0, .ref xo), (1, .int x), (2, .ref ou)] := hl
  refine lv_aload_n hx hb d_L_width_0 rfl (lv_at hl 2 rfl) ?_
  refine lv_iconst (v := nI 0) hx hb d_L_width_1 (by decide) ?_
  refine lv_aload_n hx hb d_L_width_2 rfl (lv_at hl 0 rfl) ?_
  refine lv_iload_n hx hb d_L_width_3 rfl (lv_at hl 1 rfl) ?_
  refine x_call (st1 := [.int v, .int (nI 0), .ref ou]) (xe_runV (As := [.int x]) (rest := [.int (nI 0), .ref ou]) (nL := 4) ⟨hx, hb, hml, hown, hts⟩ (hC _) (cwV 1 hts (gw_V k_218 k_219 k_220 k_50 k_221) rfl rfl rfl (by decide +kernel) ⟨Nat.le_of_ble_eq_true rfl, Nat.le_of_ble_eq_true rfl⟩) hK hN hT hZ hP hD hS (x_sub hD hS hA) qx 1 hxo rfl rfl hl.1 rfl (Nat.le_of_ble_eq_true rfl) d_L_width_4 ⟨Nat.le_of_ble_eq_true rfl, Nat.le_of_ble_eq_true rfl⟩) hS (x_sub hD hS hA) (x_sub hD hS hA) rfl (fun w1 H locs hY hP hD hS => ?_)
  refine lv_i2l (v := v.toInt64) hx hb d_L_width_7 rfl ?_
  refine va_last hx hb hK hP hD hS qo 2 (hYo w1 hY) rfl (i := nI 0) (x := v.toInt64) (vp_in_nI (by decide) (by decide)) d_L_width_8 (fun H locs hP hD hS => ?_)
  refine lv_goto (tgt := 15) hx hb d_L_width_9 (by decide) ?_
  refine lv_iconst (v := nI 0) hx hb d_L_width_15 (by decide) ?_
  exact x_iret hx hb hr hlocks hP hD hS d_L_width_16 rfl ⟨w1, hY, rfl⟩
set_option maxHeartbeats 800000 in
set_option maxRecDepth 100000 in
theorem c_L_width_IO {l : Launch} {D : va_G} {cA cR cL : ClassId} {w0 : va_W} {xo qx ou : Nat} {fs : List Value} (hxo : w0[qx]? = some (xo, .inr (1, fs))) {x : Int32} (hC : xTE l y_X1_width w_X1_width ({ frames := 7, cells := 1, slots := 6, locals := 104 }) D cls0 (ty3 cA cR cL) [.ref xo, .int x] w0 R_IO 1 6) : xCW l y_L_width w_L_width ({ frames := 8, cells := 1, slots := 6, locals := 125 }) D cls0 (ty3 cA cR cL) [.ref xo, .int x, .ref ou] w0 (some (.int (nI 1))) (fun w => w = w0) 1 6 := by
  refine xCW.ofW (cc := b_L_width) (maxL := 4) (ret := some .int) (hh := [(0, 9, 12, 13)]) (by decide) rfl (Nat.le_of_ble_eq_true rfl) ?_
  intro p e s m below meth c A ls hx hb hr hml hown hts hlocks hA hK hN hT hZ hP hD hS hl htab
  have hts : ∀ w ∈ gw, w.before ([.ref xo, .int x, .ref ou]).toArray s = true := fun w h => hts w (List.mem_cons_of_mem _ h)
  have hown : s.vm.findClass "LimbRowsLaw" = some m.cls := hown
  have hl : lv_has ls 4 [(0, .ref xo), (1, .int x), (2, .ref ou)] := hl
  refine lv_aload_n hx hb d_L_width_0 rfl (lv_at hl 2 rfl) ?_
  refine lv_iconst (v := nI 0) hx hb d_L_width_1 (by decide) ?_
  refine lv_aload_n hx hb d_L_width_2 rfl (lv_at hl 0 rfl) ?_
  refine lv_iload_n hx hb d_L_width_3 rfl (lv_at hl 1 rfl) ?_
  refine xt_call (xt_runV (As := [.int x]) (rest := [.int (nI 0), .ref ou]) (nL := 4) ⟨hx, hb, hml, hown, hts⟩ (hC _) (cwV 1 hts (gw_V k_218 k_219 k_220 k_50 k_221) rfl rfl rfl (by decide +kernel) ⟨Nat.le_of_ble_eq_true rfl, Nat.le_of_ble_eq_true rfl⟩) hK hN hT hZ hP hD hS (x_sub hD hS hA) qx 1 hxo rfl rfl hl.1 rfl (Nat.le_of_ble_eq_true rfl) d_L_width_4 ⟨Nat.le_of_ble_eq_true rfl, Nat.le_of_ble_eq_true rfl⟩) hS (x_sub hD hS hA) (fun q9 ce H locs hP hD hS h1 h2 h3 => ?_)
  refine xt_catch1 hown hts hN htab (by decide) h1 h2 h3 ?_
  refine lv_astore_n (lv' := [(3, .ref q9), (0, .ref xo), (1, .int x), (2, .ref ou)]) hx hb d_L_width_12 rfl hl (by decide) rfl (fun ls hl => ?_)
  refine lv_iconst (v := nI 1) hx hb d_L_width_13 (by decide) ?_
  exact x_iret hx hb hr hlocks hP hD hS d_L_width_14 rfl rfl
abbrev w_L_set : List Cond := .codeWith y_L_set b_L_set 6 (some .int) [(0, 18, 21, 13)] :: gw
set_option maxHeartbeats 800000 in
set_option maxRecDepth 100000 in
theorem c_L_set_ok {l : Launch} {D : va_G} {cA cR cL : ClassId} {w0 : va_W} {xo qx ou : Nat} {fs : List Value} (hxo : w0[qx]? = some (xo, .inr (1, fs))) {x : Int32} {z : Int64} {v : Int32} {Y : va_W → Prop} {qo : Nat} {fo : Nat → Int64} (hYo : ∀ w1, Y w1 → w1[qo]? = some (ou, .inl (cL, 1, .inr (.inl fo)))) (hC : xCE l y_X1_set w_X1_set ({ frames := 1, cells := 0, slots := 0, locals := 25 }) D cls0 (ty3 cA cR cL) [.ref xo, .int x, .long z] w0 (some (.int v)) Y 0 0) : xCW l y_L_set w_L_set ({ frames := 2, cells := 0, slots := 0, locals := 48 }) D cls0 (ty3 cA cR cL) [.ref xo, .int x, .long z, .ref ou] w0 (some (.int (nI 0))) (fun w => ∃ w1, Y w1 ∧ w = w1.set qo (ou, .inl (cL, 1, .inr (.inl (vp_updL fo 0 (if v = 0 then 0 else 1)))))) 0 0 := by
  refine xCW.ofW (cc := b_L_set) (maxL := 6) (ret := some .int) (hh := [(0, 18, 21, 13)]) (by decide) rfl (Nat.le_of_ble_eq_true rfl) ?_
  intro p e s m below meth c A ls hx hb hr hml hown hts hlocks hA hK hN hT hZ hP hD hS hl htab
  have hts : ∀ w ∈ gw, w.before ([.ref xo, .int x, .long z, .ref ou]).toArray s = true := fun w h => hts w (List.mem_cons_of_mem _ h)
  have hown : s.vm.findClass "LimbRowsLaw" = some m.cls := hown
  have hl : lv_has ls 6 [(0, .ref xo), (1, .int x), (2, .long z), (4, .ref ou)] := hl
  refine lv_aload hx hb d_L_set_0 (lv_at hl 3 rfl) ?_
  refine lv_iconst (v := nI 0) hx hb d_L_set_2 (by decide) ?_
  refine lv_aload_n hx hb d_L_set_3 rfl (lv_at hl 0 rfl) ?_
  refine lv_iload_n hx hb d_L_set_4 rfl (lv_at hl 1 rfl) ?_
  refine lv_lload_n hx hb d_L_set_5 rfl (lv_at hl 2 rfl) ?_
  refine x_call (st1 := [.int v, .int (nI 0), .ref ou]) (xe_runV (As := [.int x, .long z]) (rest := [.int (nI 0), .ref ou]) (nL := 6) ⟨hx, hb, hml, hown, hts⟩ (hC _) (cwV 2 hts (gw_V k_225 k_226 k_227 k_50 k_228) rfl rfl rfl (by decide +kernel) ⟨Nat.le_of_ble_eq_true rfl, Nat.le_of_ble_eq_true rfl⟩) hK hN hT hZ hP hD hS (x_sub hD hS hA) qx 1 hxo rfl rfl hl.1 rfl (Nat.le_of_ble_eq_true rfl) d_L_set_6 ⟨Nat.le_of_ble_eq_true rfl, Nat.le_of_ble_eq_true rfl⟩) hS (x_sub hD hS hA) (x_sub hD hS hA) rfl (fun w1 H locs hY hP hD hS => ?_)
  refine lv_if_eq (tgt := 16) hx hb d_L_set_9 (by decide) (fun c_1 => ?_) (fun c_1 => ?_)
  · refine lv_lconst (v := 0) hx hb d_L_set_16 (by decide) ?_
    refine va_last hx hb hK hP hD hS qo 2 (hYo w1 hY) rfl (i := nI 0) (x := 0) (vp_in_nI (by decide) (by decide)) d_L_set_17 (fun H locs hP hD hS => ?_)
    refine lv_goto (tgt := 25) hx hb d_L_set_18 (by decide) ?_
    refine lv_iconst (v := nI 0) hx hb d_L_set_25 (by decide) ?_
    exact x_iret hx hb hr hlocks hP hD hS d_L_set_26 rfl ⟨w1, hY, by rw [if_pos c_1]; rfl⟩
  · refine lv_lconst (v := 1) hx hb d_L_set_12 (by decide) ?_
    refine lv_goto (tgt := 17) hx hb d_L_set_13 (by decide) ?_
    refine va_last hx hb hK hP hD hS qo 2 (hYo w1 hY) rfl (i := nI 0) (x := 1) (vp_in_nI (by decide) (by decide)) d_L_set_17 (fun H locs hP hD hS => ?_)
    refine lv_goto (tgt := 25) hx hb d_L_set_18 (by decide) ?_
    refine lv_iconst (v := nI 0) hx hb d_L_set_25 (by decide) ?_
    exact x_iret hx hb hr hlocks hP hD hS d_L_set_26 rfl ⟨w1, hY, by rw [if_neg c_1]; rfl⟩
set_option maxHeartbeats 800000 in
set_option maxRecDepth 100000 in
theorem c_L_set_IO {l : Launch} {D : va_G} {cA cR cL : ClassId} {w0 : va_W} {xo qx ou : Nat} {fs : List Value} (hxo : w0[qx]? = some (xo, .inr (1, fs))) {x : Int32} {z : Int64} (hC : xTE l y_X1_set w_X1_set ({ frames := 7, cells := 1, slots := 6, locals := 104 }) D cls0 (ty3 cA cR cL) [.ref xo, .int x, .long z] w0 R_IO 1 6) : xCW l y_L_set w_L_set ({ frames := 8, cells := 1, slots := 6, locals := 127 }) D cls0 (ty3 cA cR cL) [.ref xo, .int x, .long z, .ref ou] w0 (some (.int (nI 1))) (fun w => w = w0) 1 6 := by
  refine xCW.ofW (cc := b_L_set) (maxL := 6) (ret := some .int) (hh := [(0, 18, 21, 13)]) (by decide) rfl (Nat.le_of_ble_eq_true rfl) ?_
  intro p e s m below meth c A ls hx hb hr hml hown hts hlocks hA hK hN hT hZ hP hD hS hl htab
  have hts : ∀ w ∈ gw, w.before ([.ref xo, .int x, .long z, .ref ou]).toArray s = true := fun w h => hts w (List.mem_cons_of_mem _ h)
  have hown : s.vm.findClass "LimbRowsLaw" = some m.cls := hown
  have hl : lv_has ls 6 [(0, .ref xo), (1, .int x), (2, .long z), (4, .ref ou)] := hl
  refine lv_aload hx hb d_L_set_0 (lv_at hl 3 rfl) ?_
  refine lv_iconst (v := nI 0) hx hb d_L_set_2 (by decide) ?_
  refine lv_aload_n hx hb d_L_set_3 rfl (lv_at hl 0 rfl) ?_
  refine lv_iload_n hx hb d_L_set_4 rfl (lv_at hl 1 rfl) ?_
  refine lv_lload_n hx hb d_L_set_5 rfl (lv_at hl 2 rfl) ?_
  refine xt_call (xt_runV (As := [.int x, .long z]) (rest := [.int (nI 0), .ref ou]) (nL := 6) ⟨hx, hb, hml, hown, hts⟩ (hC _) (cwV 2 hts (gw_V k_225 k_226 k_227 k_50 k_228) rfl rfl rfl (by decide +kernel) ⟨Nat.le_of_ble_eq_true rfl, Nat.le_of_ble_eq_true rfl⟩) hK hN hT hZ hP hD hS (x_sub hD hS hA) qx 1 hxo rfl rfl hl.1 rfl (Nat.le_of_ble_eq_true rfl) d_L_set_6 ⟨Nat.le_of_ble_eq_true rfl, Nat.le_of_ble_eq_true rfl⟩) hS (x_sub hD hS hA) (fun q9 ce H locs hP hD hS h1 h2 h3 => ?_)
  refine xt_catch1 hown hts hN htab (by decide) h1 h2 h3 ?_
  refine lv_astore (lv' := [(5, .ref q9), (0, .ref xo), (1, .int x), (2, .long z), (4, .ref ou)]) hx hb d_L_set_21 hl (by decide) rfl (fun ls hl => ?_)
  refine lv_iconst (v := nI 1) hx hb d_L_set_23 (by decide) ?_
  exact x_iret hx hb hr hlocks hP hD hS d_L_set_24 rfl rfl
abbrev w_L_put : List Cond := .codeWith y_L_put b_L_put 6 (some .int) [(0, 12, 15, 13)] :: gw
set_option maxHeartbeats 800000 in
set_option maxRecDepth 100000 in
theorem c_L_put_ok {l : Launch} {D : va_G} {cA cR cL : ClassId} {w0 : va_W} {xo qx ou : Nat} {fs : List Value} (hxo : w0[qx]? = some (xo, .inr (1, fs))) {x : Int32} {y : Int32} {u : Int32} {v : Int32} {Y : va_W → Prop} {qo : Nat} {fo : Nat → Int64} (hYo : ∀ w1, Y w1 → w1[qo]? = some (ou, .inl (cL, 1, .inr (.inl fo)))) (hC : xCE l y_X1_put w_X1_put ({ frames := 1, cells := 0, slots := 0, locals := 21 }) D cls0 (ty3 cA cR cL) [.ref xo, .int x, .int y, .int u] w0 (some (.int v)) Y 0 0) : xCW l y_L_put w_L_put ({ frames := 2, cells := 0, slots := 0, locals := 46 }) D cls0 (ty3 cA cR cL) [.ref xo, .int x, .int y, .int u, .ref ou] w0 (some (.int (nI 0))) (fun w => ∃ w1, Y w1 ∧ w = w1.set qo (ou, .inl (cL, 1, .inr (.inl (vp_updL fo 0 v.toInt64))))) 0 0 := by
  refine xCW.ofW (cc := b_L_put) (maxL := 6) (ret := some .int) (hh := [(0, 12, 15, 13)]) (by decide) rfl (Nat.le_of_ble_eq_true rfl) ?_
  intro p e s m below meth c A ls hx hb hr hml hown hts hlocks hA hK hN hT hZ hP hD hS hl htab
  have hts : ∀ w ∈ gw, w.before ([.ref xo, .int x, .int y, .int u, .ref ou]).toArray s = true := fun w h => hts w (List.mem_cons_of_mem _ h)
  have hown : s.vm.findClass "LimbRowsLaw" = some m.cls := hown
  have hl : lv_has ls 6 [(0, .ref xo), (1, .int x), (2, .int y), (3, .int u), (4, .ref ou)] := hl
  refine lv_aload hx hb d_L_put_0 (lv_at hl 4 rfl) ?_
  refine lv_iconst (v := nI 0) hx hb d_L_put_2 (by decide) ?_
  refine lv_aload_n hx hb d_L_put_3 rfl (lv_at hl 0 rfl) ?_
  refine lv_iload_n hx hb d_L_put_4 rfl (lv_at hl 1 rfl) ?_
  refine lv_iload_n hx hb d_L_put_5 rfl (lv_at hl 2 rfl) ?_
  refine lv_iload_n hx hb d_L_put_6 rfl (lv_at hl 3 rfl) ?_
  refine x_call (st1 := [.int v, .int (nI 0), .ref ou]) (xe_runV (As := [.int x, .int y, .int u]) (rest := [.int (nI 0), .ref ou]) (nL := 6) ⟨hx, hb, hml, hown, hts⟩ (hC _) (cwV 3 hts (gw_V k_236 k_237 k_238 k_50 k_239) rfl rfl rfl (by decide +kernel) ⟨Nat.le_of_ble_eq_true rfl, Nat.le_of_ble_eq_true rfl⟩) hK hN hT hZ hP hD hS (x_sub hD hS hA) qx 1 hxo rfl rfl hl.1 rfl (Nat.le_of_ble_eq_true rfl) d_L_put_7 ⟨Nat.le_of_ble_eq_true rfl, Nat.le_of_ble_eq_true rfl⟩) hS (x_sub hD hS hA) (x_sub hD hS hA) rfl (fun w1 H locs hY hP hD hS => ?_)
  refine lv_i2l (v := v.toInt64) hx hb d_L_put_10 rfl ?_
  refine va_last hx hb hK hP hD hS qo 2 (hYo w1 hY) rfl (i := nI 0) (x := v.toInt64) (vp_in_nI (by decide) (by decide)) d_L_put_11 (fun H locs hP hD hS => ?_)
  refine lv_goto (tgt := 19) hx hb d_L_put_12 (by decide) ?_
  refine lv_iconst (v := nI 0) hx hb d_L_put_19 (by decide) ?_
  exact x_iret hx hb hr hlocks hP hD hS d_L_put_20 rfl ⟨w1, hY, rfl⟩
set_option maxHeartbeats 800000 in
set_option maxRecDepth 100000 in
theorem c_L_put_IO {l : Launch} {D : va_G} {cA cR cL : ClassId} {w0 : va_W} {xo qx ou : Nat} {fs : List Value} (hxo : w0[qx]? = some (xo, .inr (1, fs))) {x : Int32} {y : Int32} {u : Int32} (hC : xTE l y_X1_put w_X1_put ({ frames := 7, cells := 1, slots := 6, locals := 104 }) D cls0 (ty3 cA cR cL) [.ref xo, .int x, .int y, .int u] w0 R_IO 1 6) : xCW l y_L_put w_L_put ({ frames := 8, cells := 1, slots := 6, locals := 129 }) D cls0 (ty3 cA cR cL) [.ref xo, .int x, .int y, .int u, .ref ou] w0 (some (.int (nI 1))) (fun w => w = w0) 1 6 := by
  refine xCW.ofW (cc := b_L_put) (maxL := 6) (ret := some .int) (hh := [(0, 12, 15, 13)]) (by decide) rfl (Nat.le_of_ble_eq_true rfl) ?_
  intro p e s m below meth c A ls hx hb hr hml hown hts hlocks hA hK hN hT hZ hP hD hS hl htab
  have hts : ∀ w ∈ gw, w.before ([.ref xo, .int x, .int y, .int u, .ref ou]).toArray s = true := fun w h => hts w (List.mem_cons_of_mem _ h)
  have hown : s.vm.findClass "LimbRowsLaw" = some m.cls := hown
  have hl : lv_has ls 6 [(0, .ref xo), (1, .int x), (2, .int y), (3, .int u), (4, .ref ou)] := hl
  refine lv_aload hx hb d_L_put_0 (lv_at hl 4 rfl) ?_
  refine lv_iconst (v := nI 0) hx hb d_L_put_2 (by decide) ?_
  refine lv_aload_n hx hb d_L_put_3 rfl (lv_at hl 0 rfl) ?_
  refine lv_iload_n hx hb d_L_put_4 rfl (lv_at hl 1 rfl) ?_
  refine lv_iload_n hx hb d_L_put_5 rfl (lv_at hl 2 rfl) ?_
  refine lv_iload_n hx hb d_L_put_6 rfl (lv_at hl 3 rfl) ?_
  refine xt_call (xt_runV (As := [.int x, .int y, .int u]) (rest := [.int (nI 0), .ref ou]) (nL := 6) ⟨hx, hb, hml, hown, hts⟩ (hC _) (cwV 3 hts (gw_V k_236 k_237 k_238 k_50 k_239) rfl rfl rfl (by decide +kernel) ⟨Nat.le_of_ble_eq_true rfl, Nat.le_of_ble_eq_true rfl⟩) hK hN hT hZ hP hD hS (x_sub hD hS hA) qx 1 hxo rfl rfl hl.1 rfl (Nat.le_of_ble_eq_true rfl) d_L_put_7 ⟨Nat.le_of_ble_eq_true rfl, Nat.le_of_ble_eq_true rfl⟩) hS (x_sub hD hS hA) (fun q9 ce H locs hP hD hS h1 h2 h3 => ?_)
  refine xt_catch1 hown hts hN htab (by decide) h1 h2 h3 ?_
  refine lv_astore (lv' := [(5, .ref q9), (0, .ref xo), (1, .int x), (2, .int y), (3, .int u), (4, .ref ou)]) hx hb d_L_put_15 hl (by decide) rfl (fun ls hl => ?_)
  refine lv_iconst (v := nI 1) hx hb d_L_put_17 (by decide) ?_
  exact x_iret hx hb hr hlocks hP hD hS d_L_put_18 rfl rfl
abbrev w_L_limb : List Cond := .codeWith y_L_limb b_L_limb 5 (some .int) [(0, 10, 13, 13)] :: gw
set_option maxHeartbeats 800000 in
set_option maxRecDepth 100000 in
theorem c_L_limb_ok {l : Launch} {D : va_G} {cA cR cL : ClassId} {w0 : va_W} {xo qx ou : Nat} {fs : List Value} (hxo : w0[qx]? = some (xo, .inr (1, fs))) {x : Int32} {y : Int32} {v : Int32} {Y : va_W → Prop} {qo : Nat} {fo : Nat → Int64} (hYo : ∀ w1, Y w1 → w1[qo]? = some (ou, .inl (cL, 1, .inr (.inl fo)))) (hC : xCE l y_X1_limb w_X1_limb ({ frames := 1, cells := 0, slots := 0, locals := 21 }) D cls0 (ty3 cA cR cL) [.ref xo, .int x, .int y] w0 (some (.int v)) Y 0 0) : xCW l y_L_limb w_L_limb ({ frames := 2, cells := 0, slots := 0, locals := 44 }) D cls0 (ty3 cA cR cL) [.ref xo, .int x, .int y, .ref ou] w0 (some (.int (nI 0))) (fun w => ∃ w1, Y w1 ∧ w = w1.set qo (ou, .inl (cL, 1, .inr (.inl (vp_updL fo 0 v.toInt64))))) 0 0 := by
  refine xCW.ofW (cc := b_L_limb) (maxL := 5) (ret := some .int) (hh := [(0, 10, 13, 13)]) (by decide) rfl (Nat.le_of_ble_eq_true rfl) ?_
  intro p e s m below meth c A ls hx hb hr hml hown hts hlocks hA hK hN hT hZ hP hD hS hl htab
  have hts : ∀ w ∈ gw, w.before ([.ref xo, .int x, .int y, .ref ou]).toArray s = true := fun w h => hts w (List.mem_cons_of_mem _ h)
  have hown : s.vm.findClass "LimbRowsLaw" = some m.cls := hown
  have hl : lv_has ls 5 [(0, .ref xo), (1, .int x), (2, .int y), (3, .ref ou)] := hl
  refine lv_aload_n hx hb d_L_limb_0 rfl (lv_at hl 3 rfl) ?_
  refine lv_iconst (v := nI 0) hx hb d_L_limb_1 (by decide) ?_
  refine lv_aload_n hx hb d_L_limb_2 rfl (lv_at hl 0 rfl) ?_
  refine lv_iload_n hx hb d_L_limb_3 rfl (lv_at hl 1 rfl) ?_
  refine lv_iload_n hx hb d_L_limb_4 rfl (lv_at hl 2 rfl) ?_
  refine x_call (st1 := [.int v, .int (nI 0), .ref ou]) (xe_runV (As := [.int x, .int y]) (rest := [.int (nI 0), .ref ou]) (nL := 5) ⟨hx, hb, hml, hown, hts⟩ (hC _) (cwV 2 hts (gw_V k_244 k_245 k_246 k_50 k_247) rfl rfl rfl (by decide +kernel) ⟨Nat.le_of_ble_eq_true rfl, Nat.le_of_ble_eq_true rfl⟩) hK hN hT hZ hP hD hS (x_sub hD hS hA) qx 1 hxo rfl rfl hl.1 rfl (Nat.le_of_ble_eq_true rfl) d_L_limb_5 ⟨Nat.le_of_ble_eq_true rfl, Nat.le_of_ble_eq_true rfl⟩) hS (x_sub hD hS hA) (x_sub hD hS hA) rfl (fun w1 H locs hY hP hD hS => ?_)
  refine lv_i2l (v := v.toInt64) hx hb d_L_limb_8 rfl ?_
  refine va_last hx hb hK hP hD hS qo 2 (hYo w1 hY) rfl (i := nI 0) (x := v.toInt64) (vp_in_nI (by decide) (by decide)) d_L_limb_9 (fun H locs hP hD hS => ?_)
  refine lv_goto (tgt := 17) hx hb d_L_limb_10 (by decide) ?_
  refine lv_iconst (v := nI 0) hx hb d_L_limb_17 (by decide) ?_
  exact x_iret hx hb hr hlocks hP hD hS d_L_limb_18 rfl ⟨w1, hY, rfl⟩
set_option maxHeartbeats 800000 in
set_option maxRecDepth 100000 in
theorem c_L_limb_IO {l : Launch} {D : va_G} {cA cR cL : ClassId} {w0 : va_W} {xo qx ou : Nat} {fs : List Value} (hxo : w0[qx]? = some (xo, .inr (1, fs))) {x : Int32} {y : Int32} (hC : xTE l y_X1_limb w_X1_limb ({ frames := 7, cells := 1, slots := 6, locals := 104 }) D cls0 (ty3 cA cR cL) [.ref xo, .int x, .int y] w0 R_IO 1 6) : xCW l y_L_limb w_L_limb ({ frames := 8, cells := 1, slots := 6, locals := 127 }) D cls0 (ty3 cA cR cL) [.ref xo, .int x, .int y, .ref ou] w0 (some (.int (nI 1))) (fun w => w = w0) 1 6 := by
  refine xCW.ofW (cc := b_L_limb) (maxL := 5) (ret := some .int) (hh := [(0, 10, 13, 13)]) (by decide) rfl (Nat.le_of_ble_eq_true rfl) ?_
  intro p e s m below meth c A ls hx hb hr hml hown hts hlocks hA hK hN hT hZ hP hD hS hl htab
  have hts : ∀ w ∈ gw, w.before ([.ref xo, .int x, .int y, .ref ou]).toArray s = true := fun w h => hts w (List.mem_cons_of_mem _ h)
  have hown : s.vm.findClass "LimbRowsLaw" = some m.cls := hown
  have hl : lv_has ls 5 [(0, .ref xo), (1, .int x), (2, .int y), (3, .ref ou)] := hl
  refine lv_aload_n hx hb d_L_limb_0 rfl (lv_at hl 3 rfl) ?_
  refine lv_iconst (v := nI 0) hx hb d_L_limb_1 (by decide) ?_
  refine lv_aload_n hx hb d_L_limb_2 rfl (lv_at hl 0 rfl) ?_
  refine lv_iload_n hx hb d_L_limb_3 rfl (lv_at hl 1 rfl) ?_
  refine lv_iload_n hx hb d_L_limb_4 rfl (lv_at hl 2 rfl) ?_
  refine xt_call (xt_runV (As := [.int x, .int y]) (rest := [.int (nI 0), .ref ou]) (nL := 5) ⟨hx, hb, hml, hown, hts⟩ (hC _) (cwV 2 hts (gw_V k_244 k_245 k_246 k_50 k_247) rfl rfl rfl (by decide +kernel) ⟨Nat.le_of_ble_eq_true rfl, Nat.le_of_ble_eq_true rfl⟩) hK hN hT hZ hP hD hS (x_sub hD hS hA) qx 1 hxo rfl rfl hl.1 rfl (Nat.le_of_ble_eq_true rfl) d_L_limb_5 ⟨Nat.le_of_ble_eq_true rfl, Nat.le_of_ble_eq_true rfl⟩) hS (x_sub hD hS hA) (fun q9 ce H locs hP hD hS h1 h2 h3 => ?_)
  refine xt_catch1 hown hts hN htab (by decide) h1 h2 h3 ?_
  refine lv_astore (lv' := [(4, .ref q9), (0, .ref xo), (1, .int x), (2, .int y), (3, .ref ou)]) hx hb d_L_limb_13 hl (by decide) rfl (fun ls hl => ?_)
  refine lv_iconst (v := nI 1) hx hb d_L_limb_15 (by decide) ?_
  exact x_iret hx hb hr hlocks hP hD hS d_L_limb_16 rfl rfl
abbrev w_L_copy : List Cond := .codeWith y_L_copy b_L_copy 5 (some .int) [(0, 17, 20, 13)] :: gw
set_option maxHeartbeats 800000 in
set_option maxRecDepth 100000 in
theorem c_L_copy_ok {l : Launch} {D : va_G} {cA cR cL : ClassId} {w0 : va_W} {xo qx ou : Nat} {fs : List Value} (hxo : w0[qx]? = some (xo, .inr (1, fs))) {x : Int32} {y : Int32} {v : Int32} {Y : va_W → Prop} {qo : Nat} {fo : Nat → Int64} (hYo : ∀ w1, Y w1 → w1[qo]? = some (ou, .inl (cL, 1, .inr (.inl fo)))) (hC : xCE l y_X1_copy w_X1_copy ({ frames := 3, cells := 0, slots := 0, locals := 67 }) D cls0 (ty3 cA cR cL) [.ref xo, .int x, .int y] w0 (some (.int v)) Y 0 0) : xCW l y_L_copy w_L_copy ({ frames := 4, cells := 0, slots := 0, locals := 91 }) D cls0 (ty3 cA cR cL) [.ref xo, .int x, .int y, .ref ou] w0 (some (.int (nI 0))) (fun w => ∃ w1, Y w1 ∧ w = w1.set qo (ou, .inl (cL, 1, .inr (.inl (vp_updL fo 0 (if v = 0 then 0 else 1)))))) 0 0 := by
  refine xCW.ofW (cc := b_L_copy) (maxL := 5) (ret := some .int) (hh := [(0, 17, 20, 13)]) (by decide) rfl (Nat.le_of_ble_eq_true rfl) ?_
  intro p e s m below meth c A ls hx hb hr hml hown hts hlocks hA hK hN hT hZ hP hD hS hl htab
  have hts : ∀ w ∈ gw, w.before ([.ref xo, .int x, .int y, .ref ou]).toArray s = true := fun w h => hts w (List.mem_cons_of_mem _ h)
  have hown : s.vm.findClass "LimbRowsLaw" = some m.cls := hown
  have hl : lv_has ls 5 [(0, .ref xo), (1, .int x), (2, .int y), (3, .ref ou)] := hl
  refine lv_aload_n hx hb d_L_copy_0 rfl (lv_at hl 3 rfl) ?_
  refine lv_iconst (v := nI 0) hx hb d_L_copy_1 (by decide) ?_
  refine lv_aload_n hx hb d_L_copy_2 rfl (lv_at hl 0 rfl) ?_
  refine lv_iload_n hx hb d_L_copy_3 rfl (lv_at hl 1 rfl) ?_
  refine lv_iload_n hx hb d_L_copy_4 rfl (lv_at hl 2 rfl) ?_
  refine x_call (st1 := [.int v, .int (nI 0), .ref ou]) (xe_runV (As := [.int x, .int y]) (rest := [.int (nI 0), .ref ou]) (nL := 5) ⟨hx, hb, hml, hown, hts⟩ (hC _) (cwV 2 hts (gw_V k_252 k_253 k_254 k_50 k_255) rfl rfl rfl (by decide +kernel) ⟨Nat.le_of_ble_eq_true rfl, Nat.le_of_ble_eq_true rfl⟩) hK hN hT hZ hP hD hS (x_sub hD hS hA) qx 1 hxo rfl rfl hl.1 rfl (Nat.le_of_ble_eq_true rfl) d_L_copy_5 ⟨Nat.le_of_ble_eq_true rfl, Nat.le_of_ble_eq_true rfl⟩) hS (x_sub hD hS hA) (x_sub hD hS hA) rfl (fun w1 H locs hY hP hD hS => ?_)
  refine lv_if_eq (tgt := 15) hx hb d_L_copy_8 (by decide) (fun c_1 => ?_) (fun c_1 => ?_)
  · refine lv_lconst (v := 0) hx hb d_L_copy_15 (by decide) ?_
    refine va_last hx hb hK hP hD hS qo 2 (hYo w1 hY) rfl (i := nI 0) (x := 0) (vp_in_nI (by decide) (by decide)) d_L_copy_16 (fun H locs hP hD hS => ?_)
    refine lv_goto (tgt := 24) hx hb d_L_copy_17 (by decide) ?_
    refine lv_iconst (v := nI 0) hx hb d_L_copy_24 (by decide) ?_
    exact x_iret hx hb hr hlocks hP hD hS d_L_copy_25 rfl ⟨w1, hY, by rw [if_pos c_1]; rfl⟩
  · refine lv_lconst (v := 1) hx hb d_L_copy_11 (by decide) ?_
    refine lv_goto (tgt := 16) hx hb d_L_copy_12 (by decide) ?_
    refine va_last hx hb hK hP hD hS qo 2 (hYo w1 hY) rfl (i := nI 0) (x := 1) (vp_in_nI (by decide) (by decide)) d_L_copy_16 (fun H locs hP hD hS => ?_)
    refine lv_goto (tgt := 24) hx hb d_L_copy_17 (by decide) ?_
    refine lv_iconst (v := nI 0) hx hb d_L_copy_24 (by decide) ?_
    exact x_iret hx hb hr hlocks hP hD hS d_L_copy_25 rfl ⟨w1, hY, by rw [if_neg c_1]; rfl⟩
set_option maxHeartbeats 800000 in
set_option maxRecDepth 100000 in
theorem c_L_copy_IO {l : Launch} {D : va_G} {cA cR cL : ClassId} {w0 : va_W} {xo qx ou : Nat} {fs : List Value} (hxo : w0[qx]? = some (xo, .inr (1, fs))) {x : Int32} {y : Int32} (hC : xTE l y_X1_copy w_X1_copy ({ frames := 7, cells := 1, slots := 6, locals := 104 }) D cls0 (ty3 cA cR cL) [.ref xo, .int x, .int y] w0 R_IO 1 6) : xCW l y_L_copy w_L_copy ({ frames := 8, cells := 1, slots := 6, locals := 128 }) D cls0 (ty3 cA cR cL) [.ref xo, .int x, .int y, .ref ou] w0 (some (.int (nI 1))) (fun w => w = w0) 1 6 := by
  refine xCW.ofW (cc := b_L_copy) (maxL := 5) (ret := some .int) (hh := [(0, 17, 20, 13)]) (by decide) rfl (Nat.le_of_ble_eq_true rfl) ?_
  intro p e s m below meth c A ls hx hb hr hml hown hts hlocks hA hK hN hT hZ hP hD hS hl htab
  have hts : ∀ w ∈ gw, w.before ([.ref xo, .int x, .int y, .ref ou]).toArray s = true := fun w h => hts w (List.mem_cons_of_mem _ h)
  have hown : s.vm.findClass "LimbRowsLaw" = some m.cls := hown
  have hl : lv_has ls 5 [(0, .ref xo), (1, .int x), (2, .int y), (3, .ref ou)] := hl
  refine lv_aload_n hx hb d_L_copy_0 rfl (lv_at hl 3 rfl) ?_
  refine lv_iconst (v := nI 0) hx hb d_L_copy_1 (by decide) ?_
  refine lv_aload_n hx hb d_L_copy_2 rfl (lv_at hl 0 rfl) ?_
  refine lv_iload_n hx hb d_L_copy_3 rfl (lv_at hl 1 rfl) ?_
  refine lv_iload_n hx hb d_L_copy_4 rfl (lv_at hl 2 rfl) ?_
  refine xt_call (xt_runV (As := [.int x, .int y]) (rest := [.int (nI 0), .ref ou]) (nL := 5) ⟨hx, hb, hml, hown, hts⟩ (hC _) (cwV 2 hts (gw_V k_252 k_253 k_254 k_50 k_255) rfl rfl rfl (by decide +kernel) ⟨Nat.le_of_ble_eq_true rfl, Nat.le_of_ble_eq_true rfl⟩) hK hN hT hZ hP hD hS (x_sub hD hS hA) qx 1 hxo rfl rfl hl.1 rfl (Nat.le_of_ble_eq_true rfl) d_L_copy_5 ⟨Nat.le_of_ble_eq_true rfl, Nat.le_of_ble_eq_true rfl⟩) hS (x_sub hD hS hA) (fun q9 ce H locs hP hD hS h1 h2 h3 => ?_)
  refine xt_catch1 hown hts hN htab (by decide) h1 h2 h3 ?_
  refine lv_astore (lv' := [(4, .ref q9), (0, .ref xo), (1, .int x), (2, .int y), (3, .ref ou)]) hx hb d_L_copy_20 hl (by decide) rfl (fun ls hl => ?_)
  refine lv_iconst (v := nI 1) hx hb d_L_copy_22 (by decide) ?_
  exact x_iret hx hb hr hlocks hP hD hS d_L_copy_23 rfl rfl
abbrev w_L_add : List Cond := .codeWith y_L_add b_L_add 5 (some .int) [(0, 10, 13, 13)] :: gw
set_option maxHeartbeats 800000 in
set_option maxRecDepth 100000 in
theorem c_L_add_ok {l : Launch} {D : va_G} {cA cR cL : ClassId} {w0 : va_W} {xo qx ou : Nat} {fs : List Value} (hxo : w0[qx]? = some (xo, .inr (1, fs))) {x : Int32} {y : Int32} {v : Int32} {Y : va_W → Prop} {qo : Nat} {fo : Nat → Int64} (hYo : ∀ w1, Y w1 → w1[qo]? = some (ou, .inl (cL, 1, .inr (.inl fo)))) (hC : xCE l y_X1_add w_X1_add ({ frames := 3, cells := 0, slots := 0, locals := 71 }) D cls0 (ty3 cA cR cL) [.ref xo, .int x, .int y] w0 (some (.int v)) Y 0 0) : xCW l y_L_add w_L_add ({ frames := 4, cells := 0, slots := 0, locals := 95 }) D cls0 (ty3 cA cR cL) [.ref xo, .int x, .int y, .ref ou] w0 (some (.int (nI 0))) (fun w => ∃ w1, Y w1 ∧ w = w1.set qo (ou, .inl (cL, 1, .inr (.inl (vp_updL fo 0 v.toInt64))))) 0 0 := by
  refine xCW.ofW (cc := b_L_add) (maxL := 5) (ret := some .int) (hh := [(0, 10, 13, 13)]) (by decide) rfl (Nat.le_of_ble_eq_true rfl) ?_
  intro p e s m below meth c A ls hx hb hr hml hown hts hlocks hA hK hN hT hZ hP hD hS hl htab
  have hts : ∀ w ∈ gw, w.before ([.ref xo, .int x, .int y, .ref ou]).toArray s = true := fun w h => hts w (List.mem_cons_of_mem _ h)
  have hown : s.vm.findClass "LimbRowsLaw" = some m.cls := hown
  have hl : lv_has ls 5 [(0, .ref xo), (1, .int x), (2, .int y), (3, .ref ou)] := hl
  refine lv_aload_n hx hb d_L_add_0 rfl (lv_at hl 3 rfl) ?_
  refine lv_iconst (v := nI 0) hx hb d_L_add_1 (by decide) ?_
  refine lv_aload_n hx hb d_L_add_2 rfl (lv_at hl 0 rfl) ?_
  refine lv_iload_n hx hb d_L_add_3 rfl (lv_at hl 1 rfl) ?_
  refine lv_iload_n hx hb d_L_add_4 rfl (lv_at hl 2 rfl) ?_
  refine x_call (st1 := [.int v, .int (nI 0), .ref ou]) (xe_runV (As := [.int x, .int y]) (rest := [.int (nI 0), .ref ou]) (nL := 5) ⟨hx, hb, hml, hown, hts⟩ (hC _) (cwV 2 hts (gw_V k_263 k_264 k_265 k_50 k_266) rfl rfl rfl (by decide +kernel) ⟨Nat.le_of_ble_eq_true rfl, Nat.le_of_ble_eq_true rfl⟩) hK hN hT hZ hP hD hS (x_sub hD hS hA) qx 1 hxo rfl rfl hl.1 rfl (Nat.le_of_ble_eq_true rfl) d_L_add_5 ⟨Nat.le_of_ble_eq_true rfl, Nat.le_of_ble_eq_true rfl⟩) hS (x_sub hD hS hA) (x_sub hD hS hA) rfl (fun w1 H locs hY hP hD hS => ?_)
  refine lv_i2l (v := v.toInt64) hx hb d_L_add_8 rfl ?_
  refine va_last hx hb hK hP hD hS qo 2 (hYo w1 hY) rfl (i := nI 0) (x := v.toInt64) (vp_in_nI (by decide) (by decide)) d_L_add_9 (fun H locs hP hD hS => ?_)
  refine lv_goto (tgt := 17) hx hb d_L_add_10 (by decide) ?_
  refine lv_iconst (v := nI 0) hx hb d_L_add_17 (by decide) ?_
  exact x_iret hx hb hr hlocks hP hD hS d_L_add_18 rfl ⟨w1, hY, rfl⟩
set_option maxHeartbeats 800000 in
set_option maxRecDepth 100000 in
theorem c_L_add_IO {l : Launch} {D : va_G} {cA cR cL : ClassId} {w0 : va_W} {xo qx ou : Nat} {fs : List Value} (hxo : w0[qx]? = some (xo, .inr (1, fs))) {x : Int32} {y : Int32} (hC : xTE l y_X1_add w_X1_add ({ frames := 7, cells := 1, slots := 6, locals := 104 }) D cls0 (ty3 cA cR cL) [.ref xo, .int x, .int y] w0 R_IO 1 6) : xCW l y_L_add w_L_add ({ frames := 8, cells := 1, slots := 6, locals := 128 }) D cls0 (ty3 cA cR cL) [.ref xo, .int x, .int y, .ref ou] w0 (some (.int (nI 1))) (fun w => w = w0) 1 6 := by
  refine xCW.ofW (cc := b_L_add) (maxL := 5) (ret := some .int) (hh := [(0, 10, 13, 13)]) (by decide) rfl (Nat.le_of_ble_eq_true rfl) ?_
  intro p e s m below meth c A ls hx hb hr hml hown hts hlocks hA hK hN hT hZ hP hD hS hl htab
  have hts : ∀ w ∈ gw, w.before ([.ref xo, .int x, .int y, .ref ou]).toArray s = true := fun w h => hts w (List.mem_cons_of_mem _ h)
  have hown : s.vm.findClass "LimbRowsLaw" = some m.cls := hown
  have hl : lv_has ls 5 [(0, .ref xo), (1, .int x), (2, .int y), (3, .ref ou)] := hl
  refine lv_aload_n hx hb d_L_add_0 rfl (lv_at hl 3 rfl) ?_
  refine lv_iconst (v := nI 0) hx hb d_L_add_1 (by decide) ?_
  refine lv_aload_n hx hb d_L_add_2 rfl (lv_at hl 0 rfl) ?_
  refine lv_iload_n hx hb d_L_add_3 rfl (lv_at hl 1 rfl) ?_
  refine lv_iload_n hx hb d_L_add_4 rfl (lv_at hl 2 rfl) ?_
  refine xt_call (xt_runV (As := [.int x, .int y]) (rest := [.int (nI 0), .ref ou]) (nL := 5) ⟨hx, hb, hml, hown, hts⟩ (hC _) (cwV 2 hts (gw_V k_263 k_264 k_265 k_50 k_266) rfl rfl rfl (by decide +kernel) ⟨Nat.le_of_ble_eq_true rfl, Nat.le_of_ble_eq_true rfl⟩) hK hN hT hZ hP hD hS (x_sub hD hS hA) qx 1 hxo rfl rfl hl.1 rfl (Nat.le_of_ble_eq_true rfl) d_L_add_5 ⟨Nat.le_of_ble_eq_true rfl, Nat.le_of_ble_eq_true rfl⟩) hS (x_sub hD hS hA) (fun q9 ce H locs hP hD hS h1 h2 h3 => ?_)
  refine xt_catch1 hown hts hN htab (by decide) h1 h2 h3 ?_
  refine lv_astore (lv' := [(4, .ref q9), (0, .ref xo), (1, .int x), (2, .int y), (3, .ref ou)]) hx hb d_L_add_13 hl (by decide) rfl (fun ls hl => ?_)
  refine lv_iconst (v := nI 1) hx hb d_L_add_15 (by decide) ?_
  exact x_iret hx hb hr hlocks hP hD hS d_L_add_16 rfl rfl
abbrev w_L_subtract : List Cond := .codeWith y_L_subtract b_L_subtract 5 (some .int) [(0, 10, 13, 13)] :: gw
set_option maxHeartbeats 800000 in
set_option maxRecDepth 100000 in
theorem c_L_subtract_ok {l : Launch} {D : va_G} {cA cR cL : ClassId} {w0 : va_W} {xo qx ou : Nat} {fs : List Value} (hxo : w0[qx]? = some (xo, .inr (1, fs))) {x : Int32} {y : Int32} {v : Int32} {Y : va_W → Prop} {qo : Nat} {fo : Nat → Int64} (hYo : ∀ w1, Y w1 → w1[qo]? = some (ou, .inl (cL, 1, .inr (.inl fo)))) (hC : xCE l y_X1_subtract w_X1_subtract ({ frames := 3, cells := 0, slots := 0, locals := 71 }) D cls0 (ty3 cA cR cL) [.ref xo, .int x, .int y] w0 (some (.int v)) Y 0 0) : xCW l y_L_subtract w_L_subtract ({ frames := 4, cells := 0, slots := 0, locals := 95 }) D cls0 (ty3 cA cR cL) [.ref xo, .int x, .int y, .ref ou] w0 (some (.int (nI 0))) (fun w => ∃ w1, Y w1 ∧ w = w1.set qo (ou, .inl (cL, 1, .inr (.inl (vp_updL fo 0 v.toInt64))))) 0 0 := by
  refine xCW.ofW (cc := b_L_subtract) (maxL := 5) (ret := some .int) (hh := [(0, 10, 13, 13)]) (by decide) rfl (Nat.le_of_ble_eq_true rfl) ?_
  intro p e s m below meth c A ls hx hb hr hml hown hts hlocks hA hK hN hT hZ hP hD hS hl htab
  have hts : ∀ w ∈ gw, w.before ([.ref xo, .int x, .int y, .ref ou]).toArray s = true := fun w h => hts w (List.mem_cons_of_mem _ h)
  have hown : s.vm.findClass "LimbRowsLaw" = some m.cls := hown
  have hl : lv_has ls 5 [(0, .ref xo), (1, .int x), (2, .int y), (3, .ref ou)] := hl
  refine lv_aload_n hx hb d_L_subtract_0 rfl (lv_at hl 3 rfl) ?_
  refine lv_iconst (v := nI 0) hx hb d_L_subtract_1 (by decide) ?_
  refine lv_aload_n hx hb d_L_subtract_2 rfl (lv_at hl 0 rfl) ?_
  refine lv_iload_n hx hb d_L_subtract_3 rfl (lv_at hl 1 rfl) ?_
  refine lv_iload_n hx hb d_L_subtract_4 rfl (lv_at hl 2 rfl) ?_
  refine x_call (st1 := [.int v, .int (nI 0), .ref ou]) (xe_runV (As := [.int x, .int y]) (rest := [.int (nI 0), .ref ou]) (nL := 5) ⟨hx, hb, hml, hown, hts⟩ (hC _) (cwV 2 hts (gw_V k_290 k_291 k_292 k_50 k_293) rfl rfl rfl (by decide +kernel) ⟨Nat.le_of_ble_eq_true rfl, Nat.le_of_ble_eq_true rfl⟩) hK hN hT hZ hP hD hS (x_sub hD hS hA) qx 1 hxo rfl rfl hl.1 rfl (Nat.le_of_ble_eq_true rfl) d_L_subtract_5 ⟨Nat.le_of_ble_eq_true rfl, Nat.le_of_ble_eq_true rfl⟩) hS (x_sub hD hS hA) (x_sub hD hS hA) rfl (fun w1 H locs hY hP hD hS => ?_)
  refine lv_i2l (v := v.toInt64) hx hb d_L_subtract_8 rfl ?_
  refine va_last hx hb hK hP hD hS qo 2 (hYo w1 hY) rfl (i := nI 0) (x := v.toInt64) (vp_in_nI (by decide) (by decide)) d_L_subtract_9 (fun H locs hP hD hS => ?_)
  refine lv_goto (tgt := 17) hx hb d_L_subtract_10 (by decide) ?_
  refine lv_iconst (v := nI 0) hx hb d_L_subtract_17 (by decide) ?_
  exact x_iret hx hb hr hlocks hP hD hS d_L_subtract_18 rfl ⟨w1, hY, rfl⟩
set_option maxHeartbeats 800000 in
set_option maxRecDepth 100000 in
theorem c_L_subtract_IO {l : Launch} {D : va_G} {cA cR cL : ClassId} {w0 : va_W} {xo qx ou : Nat} {fs : List Value} (hxo : w0[qx]? = some (xo, .inr (1, fs))) {x : Int32} {y : Int32} (hC : xTE l y_X1_subtract w_X1_subtract ({ frames := 7, cells := 1, slots := 6, locals := 104 }) D cls0 (ty3 cA cR cL) [.ref xo, .int x, .int y] w0 R_IO 1 6) : xCW l y_L_subtract w_L_subtract ({ frames := 8, cells := 1, slots := 6, locals := 128 }) D cls0 (ty3 cA cR cL) [.ref xo, .int x, .int y, .ref ou] w0 (some (.int (nI 1))) (fun w => w = w0) 1 6 := by
  refine xCW.ofW (cc := b_L_subtract) (maxL := 5) (ret := some .int) (hh := [(0, 10, 13, 13)]) (by decide) rfl (Nat.le_of_ble_eq_true rfl) ?_
  intro p e s m below meth c A ls hx hb hr hml hown hts hlocks hA hK hN hT hZ hP hD hS hl htab
  have hts : ∀ w ∈ gw, w.before ([.ref xo, .int x, .int y, .ref ou]).toArray s = true := fun w h => hts w (List.mem_cons_of_mem _ h)
  have hown : s.vm.findClass "LimbRowsLaw" = some m.cls := hown
  have hl : lv_has ls 5 [(0, .ref xo), (1, .int x), (2, .int y), (3, .ref ou)] := hl
  refine lv_aload_n hx hb d_L_subtract_0 rfl (lv_at hl 3 rfl) ?_
  refine lv_iconst (v := nI 0) hx hb d_L_subtract_1 (by decide) ?_
  refine lv_aload_n hx hb d_L_subtract_2 rfl (lv_at hl 0 rfl) ?_
  refine lv_iload_n hx hb d_L_subtract_3 rfl (lv_at hl 1 rfl) ?_
  refine lv_iload_n hx hb d_L_subtract_4 rfl (lv_at hl 2 rfl) ?_
  refine xt_call (xt_runV (As := [.int x, .int y]) (rest := [.int (nI 0), .ref ou]) (nL := 5) ⟨hx, hb, hml, hown, hts⟩ (hC _) (cwV 2 hts (gw_V k_290 k_291 k_292 k_50 k_293) rfl rfl rfl (by decide +kernel) ⟨Nat.le_of_ble_eq_true rfl, Nat.le_of_ble_eq_true rfl⟩) hK hN hT hZ hP hD hS (x_sub hD hS hA) qx 1 hxo rfl rfl hl.1 rfl (Nat.le_of_ble_eq_true rfl) d_L_subtract_5 ⟨Nat.le_of_ble_eq_true rfl, Nat.le_of_ble_eq_true rfl⟩) hS (x_sub hD hS hA) (fun q9 ce H locs hP hD hS h1 h2 h3 => ?_)
  refine xt_catch1 hown hts hN htab (by decide) h1 h2 h3 ?_
  refine lv_astore (lv' := [(4, .ref q9), (0, .ref xo), (1, .int x), (2, .int y), (3, .ref ou)]) hx hb d_L_subtract_13 hl (by decide) rfl (fun ls hl => ?_)
  refine lv_iconst (v := nI 1) hx hb d_L_subtract_15 (by decide) ?_
  exact x_iret hx hb hr hlocks hP hD hS d_L_subtract_16 rfl rfl
abbrev w_L_addProduct : List Cond := .codeWith y_L_addProduct b_L_addProduct 6 (some .int) [(0, 12, 15, 13), (0, 12, 19, 15)] :: gw
set_option maxHeartbeats 800000 in
set_option maxRecDepth 100000 in
theorem c_L_addProduct_ok {l : Launch} {D : va_G} {cA cR cL : ClassId} {w0 : va_W} {xo qx ou : Nat} {fs : List Value} (hxo : w0[qx]? = some (xo, .inr (1, fs))) {x : Int32} {y : Int32} {u : Int32} {v : Int32} {Y : va_W → Prop} {qo : Nat} {fo : Nat → Int64} (hYo : ∀ w1, Y w1 → w1[qo]? = some (ou, .inl (cL, 1, .inr (.inl fo)))) (hC : xCE l y_X1_addProduct w_X1_addProduct ({ frames := 4, cells := 0, slots := 0, locals := 96 }) D cls0 (ty3 cA cR cL) [.ref xo, .int x, .int y, .int u] w0 (some (.int v)) Y 0 0) : xCW l y_L_addProduct w_L_addProduct ({ frames := 5, cells := 0, slots := 0, locals := 122 }) D cls0 (ty3 cA cR cL) [.ref xo, .int x, .int y, .int u, .ref ou] w0 (some (.int (nI 0))) (fun w => ∃ w1, Y w1 ∧ w = w1.set qo (ou, .inl (cL, 1, .inr (.inl (vp_updL fo 0 v.toInt64))))) 0 0 := by
  refine xCW.ofW (cc := b_L_addProduct) (maxL := 6) (ret := some .int) (hh := [(0, 12, 15, 13), (0, 12, 19, 15)]) (by decide) rfl (Nat.le_of_ble_eq_true rfl) ?_
  intro p e s m below meth c A ls hx hb hr hml hown hts hlocks hA hK hN hT hZ hP hD hS hl htab
  have hts : ∀ w ∈ gw, w.before ([.ref xo, .int x, .int y, .int u, .ref ou]).toArray s = true := fun w h => hts w (List.mem_cons_of_mem _ h)
  have hown : s.vm.findClass "LimbRowsLaw" = some m.cls := hown
  have hl : lv_has ls 6 [(0, .ref xo), (1, .int x), (2, .int y), (3, .int u), (4, .ref ou)] := hl
  refine lv_aload hx hb d_L_addProduct_0 (lv_at hl 4 rfl) ?_
  refine lv_iconst (v := nI 0) hx hb d_L_addProduct_2 (by decide) ?_
  refine lv_aload_n hx hb d_L_addProduct_3 rfl (lv_at hl 0 rfl) ?_
  refine lv_iload_n hx hb d_L_addProduct_4 rfl (lv_at hl 1 rfl) ?_
  refine lv_iload_n hx hb d_L_addProduct_5 rfl (lv_at hl 2 rfl) ?_
  refine lv_iload_n hx hb d_L_addProduct_6 rfl (lv_at hl 3 rfl) ?_
  refine x_call (st1 := [.int v, .int (nI 0), .ref ou]) (xe_runV (As := [.int x, .int y, .int u]) (rest := [.int (nI 0), .ref ou]) (nL := 6) ⟨hx, hb, hml, hown, hts⟩ (hC _) (cwV 3 hts (gw_V k_301 k_302 k_303 k_50 k_304) rfl rfl rfl (by decide +kernel) ⟨Nat.le_of_ble_eq_true rfl, Nat.le_of_ble_eq_true rfl⟩) hK hN hT hZ hP hD hS (x_sub hD hS hA) qx 1 hxo rfl rfl hl.1 rfl (Nat.le_of_ble_eq_true rfl) d_L_addProduct_7 ⟨Nat.le_of_ble_eq_true rfl, Nat.le_of_ble_eq_true rfl⟩) hS (x_sub hD hS hA) (x_sub hD hS hA) rfl (fun w1 H locs hY hP hD hS => ?_)
  refine lv_i2l (v := v.toInt64) hx hb d_L_addProduct_10 rfl ?_
  refine va_last hx hb hK hP hD hS qo 2 (hYo w1 hY) rfl (i := nI 0) (x := v.toInt64) (vp_in_nI (by decide) (by decide)) d_L_addProduct_11 (fun H locs hP hD hS => ?_)
  refine lv_goto (tgt := 23) hx hb d_L_addProduct_12 (by decide) ?_
  refine lv_iconst (v := nI 0) hx hb d_L_addProduct_23 (by decide) ?_
  exact x_iret hx hb hr hlocks hP hD hS d_L_addProduct_24 rfl ⟨w1, hY, rfl⟩
set_option maxHeartbeats 800000 in
set_option maxRecDepth 100000 in
theorem c_L_addProduct_IO {l : Launch} {D : va_G} {cA cR cL : ClassId} {w0 : va_W} {xo qx ou : Nat} {fs : List Value} (hxo : w0[qx]? = some (xo, .inr (1, fs))) {x : Int32} {y : Int32} {u : Int32} (hC : xTE l y_X1_addProduct w_X1_addProduct ({ frames := 7, cells := 1, slots := 6, locals := 104 }) D cls0 (ty3 cA cR cL) [.ref xo, .int x, .int y, .int u] w0 R_IO 1 6) : xCW l y_L_addProduct w_L_addProduct ({ frames := 8, cells := 1, slots := 6, locals := 130 }) D cls0 (ty3 cA cR cL) [.ref xo, .int x, .int y, .int u, .ref ou] w0 (some (.int (nI 1))) (fun w => w = w0) 1 6 := by
  refine xCW.ofW (cc := b_L_addProduct) (maxL := 6) (ret := some .int) (hh := [(0, 12, 15, 13), (0, 12, 19, 15)]) (by decide) rfl (Nat.le_of_ble_eq_true rfl) ?_
  intro p e s m below meth c A ls hx hb hr hml hown hts hlocks hA hK hN hT hZ hP hD hS hl htab
  have hts : ∀ w ∈ gw, w.before ([.ref xo, .int x, .int y, .int u, .ref ou]).toArray s = true := fun w h => hts w (List.mem_cons_of_mem _ h)
  have hown : s.vm.findClass "LimbRowsLaw" = some m.cls := hown
  have hl : lv_has ls 6 [(0, .ref xo), (1, .int x), (2, .int y), (3, .int u), (4, .ref ou)] := hl
  refine lv_aload hx hb d_L_addProduct_0 (lv_at hl 4 rfl) ?_
  refine lv_iconst (v := nI 0) hx hb d_L_addProduct_2 (by decide) ?_
  refine lv_aload_n hx hb d_L_addProduct_3 rfl (lv_at hl 0 rfl) ?_
  refine lv_iload_n hx hb d_L_addProduct_4 rfl (lv_at hl 1 rfl) ?_
  refine lv_iload_n hx hb d_L_addProduct_5 rfl (lv_at hl 2 rfl) ?_
  refine lv_iload_n hx hb d_L_addProduct_6 rfl (lv_at hl 3 rfl) ?_
  refine xt_call (xt_runV (As := [.int x, .int y, .int u]) (rest := [.int (nI 0), .ref ou]) (nL := 6) ⟨hx, hb, hml, hown, hts⟩ (hC _) (cwV 3 hts (gw_V k_301 k_302 k_303 k_50 k_304) rfl rfl rfl (by decide +kernel) ⟨Nat.le_of_ble_eq_true rfl, Nat.le_of_ble_eq_true rfl⟩) hK hN hT hZ hP hD hS (x_sub hD hS hA) qx 1 hxo rfl rfl hl.1 rfl (Nat.le_of_ble_eq_true rfl) d_L_addProduct_7 ⟨Nat.le_of_ble_eq_true rfl, Nat.le_of_ble_eq_true rfl⟩) hS (x_sub hD hS hA) (fun q9 ce H locs hP hD hS h1 h2 h3 => ?_)
  refine xt_catch1 hown hts hN htab (by decide) h1 h2 h3 ?_
  refine lv_astore (lv' := [(5, .ref q9), (0, .ref xo), (1, .int x), (2, .int y), (3, .int u), (4, .ref ou)]) hx hb d_L_addProduct_15 hl (by decide) rfl (fun ls hl => ?_)
  refine lv_iconst (v := nI 1) hx hb d_L_addProduct_17 (by decide) ?_
  exact x_iret hx hb hr hlocks hP hD hS d_L_addProduct_18 rfl rfl
set_option maxHeartbeats 800000 in
set_option maxRecDepth 100000 in
theorem c_L_addProduct_IA {l : Launch} {D : va_G} {cA cR cL : ClassId} {w0 : va_W} {xo qx ou : Nat} {fs : List Value} (hxo : w0[qx]? = some (xo, .inr (1, fs))) {x : Int32} {y : Int32} {u : Int32} (hC : xTE l y_X1_addProduct w_X1_addProduct ({ frames := 7, cells := 1, slots := 6, locals := 104 }) D cls0 (ty3 cA cR cL) [.ref xo, .int x, .int y, .int u] w0 R_IA 1 6) : xCW l y_L_addProduct w_L_addProduct ({ frames := 8, cells := 1, slots := 6, locals := 130 }) D cls0 (ty3 cA cR cL) [.ref xo, .int x, .int y, .int u, .ref ou] w0 (some (.int (nI 2))) (fun w => w = w0) 1 6 := by
  refine xCW.ofW (cc := b_L_addProduct) (maxL := 6) (ret := some .int) (hh := [(0, 12, 15, 13), (0, 12, 19, 15)]) (by decide) rfl (Nat.le_of_ble_eq_true rfl) ?_
  intro p e s m below meth c A ls hx hb hr hml hown hts hlocks hA hK hN hT hZ hP hD hS hl htab
  have hts : ∀ w ∈ gw, w.before ([.ref xo, .int x, .int y, .int u, .ref ou]).toArray s = true := fun w h => hts w (List.mem_cons_of_mem _ h)
  have hown : s.vm.findClass "LimbRowsLaw" = some m.cls := hown
  have hl : lv_has ls 6 [(0, .ref xo), (1, .int x), (2, .int y), (3, .int u), (4, .ref ou)] := hl
  refine lv_aload hx hb d_L_addProduct_0 (lv_at hl 4 rfl) ?_
  refine lv_iconst (v := nI 0) hx hb d_L_addProduct_2 (by decide) ?_
  refine lv_aload_n hx hb d_L_addProduct_3 rfl (lv_at hl 0 rfl) ?_
  refine lv_iload_n hx hb d_L_addProduct_4 rfl (lv_at hl 1 rfl) ?_
  refine lv_iload_n hx hb d_L_addProduct_5 rfl (lv_at hl 2 rfl) ?_
  refine lv_iload_n hx hb d_L_addProduct_6 rfl (lv_at hl 3 rfl) ?_
  refine xt_call (xt_runV (As := [.int x, .int y, .int u]) (rest := [.int (nI 0), .ref ou]) (nL := 6) ⟨hx, hb, hml, hown, hts⟩ (hC _) (cwV 3 hts (gw_V k_301 k_302 k_303 k_50 k_304) rfl rfl rfl (by decide +kernel) ⟨Nat.le_of_ble_eq_true rfl, Nat.le_of_ble_eq_true rfl⟩) hK hN hT hZ hP hD hS (x_sub hD hS hA) qx 1 hxo rfl rfl hl.1 rfl (Nat.le_of_ble_eq_true rfl) d_L_addProduct_7 ⟨Nat.le_of_ble_eq_true rfl, Nat.le_of_ble_eq_true rfl⟩) hS (x_sub hD hS hA) (fun q9 ce H locs hP hD hS h1 h2 h3 => ?_)
  refine xt_catch2 hown hts hN hT htab (by decide) h1 h2 h3 ?_
  refine lv_astore (lv' := [(5, .ref q9), (0, .ref xo), (1, .int x), (2, .int y), (3, .int u), (4, .ref ou)]) hx hb d_L_addProduct_19 hl (by decide) rfl (fun ls hl => ?_)
  refine lv_iconst (v := nI 2) hx hb d_L_addProduct_21 (by decide) ?_
  exact x_iret hx hb hr hlocks hP hD hS d_L_addProduct_22 rfl rfl
abbrev w_L_subtractProduct : List Cond := .codeWith y_L_subtractProduct b_L_subtractProduct 6 (some .int) [(0, 12, 15, 13), (0, 12, 19, 15)] :: gw
set_option maxHeartbeats 800000 in
set_option maxRecDepth 100000 in
theorem c_L_subtractProduct_ok {l : Launch} {D : va_G} {cA cR cL : ClassId} {w0 : va_W} {xo qx ou : Nat} {fs : List Value} (hxo : w0[qx]? = some (xo, .inr (1, fs))) {x : Int32} {y : Int32} {u : Int32} {v : Int32} {Y : va_W → Prop} {qo : Nat} {fo : Nat → Int64} (hYo : ∀ w1, Y w1 → w1[qo]? = some (ou, .inl (cL, 1, .inr (.inl fo)))) (hC : xCE l y_X1_subtractProduct w_X1_subtractProduct ({ frames := 5, cells := 0, slots := 0, locals := 118 }) D cls0 (ty3 cA cR cL) [.ref xo, .int x, .int y, .int u] w0 (some (.int v)) Y 0 0) : xCW l y_L_subtractProduct w_L_subtractProduct ({ frames := 6, cells := 0, slots := 0, locals := 144 }) D cls0 (ty3 cA cR cL) [.ref xo, .int x, .int y, .int u, .ref ou] w0 (some (.int (nI 0))) (fun w => ∃ w1, Y w1 ∧ w = w1.set qo (ou, .inl (cL, 1, .inr (.inl (vp_updL fo 0 v.toInt64))))) 0 0 := by
  refine xCW.ofW (cc := b_L_subtractProduct) (maxL := 6) (ret := some .int) (hh := [(0, 12, 15, 13), (0, 12, 19, 15)]) (by decide) rfl (Nat.le_of_ble_eq_true rfl) ?_
  intro p e s m below meth c A ls hx hb hr hml hown hts hlocks hA hK hN hT hZ hP hD hS hl htab
  have hts : ∀ w ∈ gw, w.before ([.ref xo, .int x, .int y, .int u, .ref ou]).toArray s = true := fun w h => hts w (List.mem_cons_of_mem _ h)
  have hown : s.vm.findClass "LimbRowsLaw" = some m.cls := hown
  have hl : lv_has ls 6 [(0, .ref xo), (1, .int x), (2, .int y), (3, .int u), (4, .ref ou)] := hl
  refine lv_aload hx hb d_L_subtractProduct_0 (lv_at hl 4 rfl) ?_
  refine lv_iconst (v := nI 0) hx hb d_L_subtractProduct_2 (by decide) ?_
  refine lv_aload_n hx hb d_L_subtractProduct_3 rfl (lv_at hl 0 rfl) ?_
  refine lv_iload_n hx hb d_L_subtractProduct_4 rfl (lv_at hl 1 rfl) ?_
  refine lv_iload_n hx hb d_L_subtractProduct_5 rfl (lv_at hl 2 rfl) ?_
  refine lv_iload_n hx hb d_L_subtractProduct_6 rfl (lv_at hl 3 rfl) ?_
  refine x_call (st1 := [.int v, .int (nI 0), .ref ou]) (xe_runV (As := [.int x, .int y, .int u]) (rest := [.int (nI 0), .ref ou]) (nL := 6) ⟨hx, hb, hml, hown, hts⟩ (hC _) (cwV 3 hts (gw_V k_330 k_331 k_332 k_50 k_333) rfl rfl rfl (by decide +kernel) ⟨Nat.le_of_ble_eq_true rfl, Nat.le_of_ble_eq_true rfl⟩) hK hN hT hZ hP hD hS (x_sub hD hS hA) qx 1 hxo rfl rfl hl.1 rfl (Nat.le_of_ble_eq_true rfl) d_L_subtractProduct_7 ⟨Nat.le_of_ble_eq_true rfl, Nat.le_of_ble_eq_true rfl⟩) hS (x_sub hD hS hA) (x_sub hD hS hA) rfl (fun w1 H locs hY hP hD hS => ?_)
  refine lv_i2l (v := v.toInt64) hx hb d_L_subtractProduct_10 rfl ?_
  refine va_last hx hb hK hP hD hS qo 2 (hYo w1 hY) rfl (i := nI 0) (x := v.toInt64) (vp_in_nI (by decide) (by decide)) d_L_subtractProduct_11 (fun H locs hP hD hS => ?_)
  refine lv_goto (tgt := 23) hx hb d_L_subtractProduct_12 (by decide) ?_
  refine lv_iconst (v := nI 0) hx hb d_L_subtractProduct_23 (by decide) ?_
  exact x_iret hx hb hr hlocks hP hD hS d_L_subtractProduct_24 rfl ⟨w1, hY, rfl⟩
set_option maxHeartbeats 800000 in
set_option maxRecDepth 100000 in
theorem c_L_subtractProduct_IO {l : Launch} {D : va_G} {cA cR cL : ClassId} {w0 : va_W} {xo qx ou : Nat} {fs : List Value} (hxo : w0[qx]? = some (xo, .inr (1, fs))) {x : Int32} {y : Int32} {u : Int32} (hC : xTE l y_X1_subtractProduct w_X1_subtractProduct ({ frames := 7, cells := 1, slots := 6, locals := 104 }) D cls0 (ty3 cA cR cL) [.ref xo, .int x, .int y, .int u] w0 R_IO 1 6) : xCW l y_L_subtractProduct w_L_subtractProduct ({ frames := 8, cells := 1, slots := 6, locals := 130 }) D cls0 (ty3 cA cR cL) [.ref xo, .int x, .int y, .int u, .ref ou] w0 (some (.int (nI 1))) (fun w => w = w0) 1 6 := by
  refine xCW.ofW (cc := b_L_subtractProduct) (maxL := 6) (ret := some .int) (hh := [(0, 12, 15, 13), (0, 12, 19, 15)]) (by decide) rfl (Nat.le_of_ble_eq_true rfl) ?_
  intro p e s m below meth c A ls hx hb hr hml hown hts hlocks hA hK hN hT hZ hP hD hS hl htab
  have hts : ∀ w ∈ gw, w.before ([.ref xo, .int x, .int y, .int u, .ref ou]).toArray s = true := fun w h => hts w (List.mem_cons_of_mem _ h)
  have hown : s.vm.findClass "LimbRowsLaw" = some m.cls := hown
  have hl : lv_has ls 6 [(0, .ref xo), (1, .int x), (2, .int y), (3, .int u), (4, .ref ou)] := hl
  refine lv_aload hx hb d_L_subtractProduct_0 (lv_at hl 4 rfl) ?_
  refine lv_iconst (v := nI 0) hx hb d_L_subtractProduct_2 (by decide) ?_
  refine lv_aload_n hx hb d_L_subtractProduct_3 rfl (lv_at hl 0 rfl) ?_
  refine lv_iload_n hx hb d_L_subtractProduct_4 rfl (lv_at hl 1 rfl) ?_
  refine lv_iload_n hx hb d_L_subtractProduct_5 rfl (lv_at hl 2 rfl) ?_
  refine lv_iload_n hx hb d_L_subtractProduct_6 rfl (lv_at hl 3 rfl) ?_
  refine xt_call (xt_runV (As := [.int x, .int y, .int u]) (rest := [.int (nI 0), .ref ou]) (nL := 6) ⟨hx, hb, hml, hown, hts⟩ (hC _) (cwV 3 hts (gw_V k_330 k_331 k_332 k_50 k_333) rfl rfl rfl (by decide +kernel) ⟨Nat.le_of_ble_eq_true rfl, Nat.le_of_ble_eq_true rfl⟩) hK hN hT hZ hP hD hS (x_sub hD hS hA) qx 1 hxo rfl rfl hl.1 rfl (Nat.le_of_ble_eq_true rfl) d_L_subtractProduct_7 ⟨Nat.le_of_ble_eq_true rfl, Nat.le_of_ble_eq_true rfl⟩) hS (x_sub hD hS hA) (fun q9 ce H locs hP hD hS h1 h2 h3 => ?_)
  refine xt_catch1 hown hts hN htab (by decide) h1 h2 h3 ?_
  refine lv_astore (lv' := [(5, .ref q9), (0, .ref xo), (1, .int x), (2, .int y), (3, .int u), (4, .ref ou)]) hx hb d_L_subtractProduct_15 hl (by decide) rfl (fun ls hl => ?_)
  refine lv_iconst (v := nI 1) hx hb d_L_subtractProduct_17 (by decide) ?_
  exact x_iret hx hb hr hlocks hP hD hS d_L_subtractProduct_18 rfl rfl
set_option maxHeartbeats 800000 in
set_option maxRecDepth 100000 in
theorem c_L_subtractProduct_IA {l : Launch} {D : va_G} {cA cR cL : ClassId} {w0 : va_W} {xo qx ou : Nat} {fs : List Value} (hxo : w0[qx]? = some (xo, .inr (1, fs))) {x : Int32} {y : Int32} {u : Int32} (hC : xTE l y_X1_subtractProduct w_X1_subtractProduct ({ frames := 7, cells := 1, slots := 6, locals := 104 }) D cls0 (ty3 cA cR cL) [.ref xo, .int x, .int y, .int u] w0 R_IA 1 6) : xCW l y_L_subtractProduct w_L_subtractProduct ({ frames := 8, cells := 1, slots := 6, locals := 130 }) D cls0 (ty3 cA cR cL) [.ref xo, .int x, .int y, .int u, .ref ou] w0 (some (.int (nI 2))) (fun w => w = w0) 1 6 := by
  refine xCW.ofW (cc := b_L_subtractProduct) (maxL := 6) (ret := some .int) (hh := [(0, 12, 15, 13), (0, 12, 19, 15)]) (by decide) rfl (Nat.le_of_ble_eq_true rfl) ?_
  intro p e s m below meth c A ls hx hb hr hml hown hts hlocks hA hK hN hT hZ hP hD hS hl htab
  have hts : ∀ w ∈ gw, w.before ([.ref xo, .int x, .int y, .int u, .ref ou]).toArray s = true := fun w h => hts w (List.mem_cons_of_mem _ h)
  have hown : s.vm.findClass "LimbRowsLaw" = some m.cls := hown
  have hl : lv_has ls 6 [(0, .ref xo), (1, .int x), (2, .int y), (3, .int u), (4, .ref ou)] := hl
  refine lv_aload hx hb d_L_subtractProduct_0 (lv_at hl 4 rfl) ?_
  refine lv_iconst (v := nI 0) hx hb d_L_subtractProduct_2 (by decide) ?_
  refine lv_aload_n hx hb d_L_subtractProduct_3 rfl (lv_at hl 0 rfl) ?_
  refine lv_iload_n hx hb d_L_subtractProduct_4 rfl (lv_at hl 1 rfl) ?_
  refine lv_iload_n hx hb d_L_subtractProduct_5 rfl (lv_at hl 2 rfl) ?_
  refine lv_iload_n hx hb d_L_subtractProduct_6 rfl (lv_at hl 3 rfl) ?_
  refine xt_call (xt_runV (As := [.int x, .int y, .int u]) (rest := [.int (nI 0), .ref ou]) (nL := 6) ⟨hx, hb, hml, hown, hts⟩ (hC _) (cwV 3 hts (gw_V k_330 k_331 k_332 k_50 k_333) rfl rfl rfl (by decide +kernel) ⟨Nat.le_of_ble_eq_true rfl, Nat.le_of_ble_eq_true rfl⟩) hK hN hT hZ hP hD hS (x_sub hD hS hA) qx 1 hxo rfl rfl hl.1 rfl (Nat.le_of_ble_eq_true rfl) d_L_subtractProduct_7 ⟨Nat.le_of_ble_eq_true rfl, Nat.le_of_ble_eq_true rfl⟩) hS (x_sub hD hS hA) (fun q9 ce H locs hP hD hS h1 h2 h3 => ?_)
  refine xt_catch2 hown hts hN hT htab (by decide) h1 h2 h3 ?_
  refine lv_astore (lv' := [(5, .ref q9), (0, .ref xo), (1, .int x), (2, .int y), (3, .int u), (4, .ref ou)]) hx hb d_L_subtractProduct_19 hl (by decide) rfl (fun ls hl => ?_)
  refine lv_iconst (v := nI 2) hx hb d_L_subtractProduct_21 (by decide) ?_
  exact x_iret hx hb hr hlocks hP hD hS d_L_subtractProduct_22 rfl rfl
abbrev w_L_times : List Cond := .codeWith y_L_times b_L_times 6 (some .int) [(0, 11, 14, 13)] :: gw
set_option maxHeartbeats 800000 in
set_option maxRecDepth 100000 in
theorem c_L_times_ok {l : Launch} {D : va_G} {cA cR cL : ClassId} {w0 : va_W} {xo qx ou : Nat} {fs : List Value} (hxo : w0[qx]? = some (xo, .inr (1, fs))) {x : Int32} {z : Int64} {v : Int32} {Y : va_W → Prop} {qo : Nat} {fo : Nat → Int64} (hYo : ∀ w1, Y w1 → w1[qo]? = some (ou, .inl (cL, 1, .inr (.inl fo)))) (hC : xCE l y_X1_times w_X1_times ({ frames := 2, cells := 0, slots := 0, locals := 53 }) D cls0 (ty3 cA cR cL) [.ref xo, .int x, .long z] w0 (some (.int v)) Y 0 0) : xCW l y_L_times w_L_times ({ frames := 3, cells := 0, slots := 0, locals := 77 }) D cls0 (ty3 cA cR cL) [.ref xo, .int x, .long z, .ref ou] w0 (some (.int (nI 0))) (fun w => ∃ w1, Y w1 ∧ w = w1.set qo (ou, .inl (cL, 1, .inr (.inl (vp_updL fo 0 v.toInt64))))) 0 0 := by
  refine xCW.ofW (cc := b_L_times) (maxL := 6) (ret := some .int) (hh := [(0, 11, 14, 13)]) (by decide) rfl (Nat.le_of_ble_eq_true rfl) ?_
  intro p e s m below meth c A ls hx hb hr hml hown hts hlocks hA hK hN hT hZ hP hD hS hl htab
  have hts : ∀ w ∈ gw, w.before ([.ref xo, .int x, .long z, .ref ou]).toArray s = true := fun w h => hts w (List.mem_cons_of_mem _ h)
  have hown : s.vm.findClass "LimbRowsLaw" = some m.cls := hown
  have hl : lv_has ls 6 [(0, .ref xo), (1, .int x), (2, .long z), (4, .ref ou)] := hl
  refine lv_aload hx hb d_L_times_0 (lv_at hl 3 rfl) ?_
  refine lv_iconst (v := nI 0) hx hb d_L_times_2 (by decide) ?_
  refine lv_aload_n hx hb d_L_times_3 rfl (lv_at hl 0 rfl) ?_
  refine lv_iload_n hx hb d_L_times_4 rfl (lv_at hl 1 rfl) ?_
  refine lv_lload_n hx hb d_L_times_5 rfl (lv_at hl 2 rfl) ?_
  refine x_call (st1 := [.int v, .int (nI 0), .ref ou]) (xe_runV (As := [.int x, .long z]) (rest := [.int (nI 0), .ref ou]) (nL := 6) ⟨hx, hb, hml, hown, hts⟩ (hC _) (cwV 2 hts (gw_V k_346 k_347 k_348 k_50 k_349) rfl rfl rfl (by decide +kernel) ⟨Nat.le_of_ble_eq_true rfl, Nat.le_of_ble_eq_true rfl⟩) hK hN hT hZ hP hD hS (x_sub hD hS hA) qx 1 hxo rfl rfl hl.1 rfl (Nat.le_of_ble_eq_true rfl) d_L_times_6 ⟨Nat.le_of_ble_eq_true rfl, Nat.le_of_ble_eq_true rfl⟩) hS (x_sub hD hS hA) (x_sub hD hS hA) rfl (fun w1 H locs hY hP hD hS => ?_)
  refine lv_i2l (v := v.toInt64) hx hb d_L_times_9 rfl ?_
  refine va_last hx hb hK hP hD hS qo 2 (hYo w1 hY) rfl (i := nI 0) (x := v.toInt64) (vp_in_nI (by decide) (by decide)) d_L_times_10 (fun H locs hP hD hS => ?_)
  refine lv_goto (tgt := 18) hx hb d_L_times_11 (by decide) ?_
  refine lv_iconst (v := nI 0) hx hb d_L_times_18 (by decide) ?_
  exact x_iret hx hb hr hlocks hP hD hS d_L_times_19 rfl ⟨w1, hY, rfl⟩
set_option maxHeartbeats 800000 in
set_option maxRecDepth 100000 in
theorem c_L_times_IO {l : Launch} {D : va_G} {cA cR cL : ClassId} {w0 : va_W} {xo qx ou : Nat} {fs : List Value} (hxo : w0[qx]? = some (xo, .inr (1, fs))) {x : Int32} {z : Int64} (hC : xTE l y_X1_times w_X1_times ({ frames := 7, cells := 1, slots := 6, locals := 104 }) D cls0 (ty3 cA cR cL) [.ref xo, .int x, .long z] w0 R_IO 1 6) : xCW l y_L_times w_L_times ({ frames := 8, cells := 1, slots := 6, locals := 128 }) D cls0 (ty3 cA cR cL) [.ref xo, .int x, .long z, .ref ou] w0 (some (.int (nI 1))) (fun w => w = w0) 1 6 := by
  refine xCW.ofW (cc := b_L_times) (maxL := 6) (ret := some .int) (hh := [(0, 11, 14, 13)]) (by decide) rfl (Nat.le_of_ble_eq_true rfl) ?_
  intro p e s m below meth c A ls hx hb hr hml hown hts hlocks hA hK hN hT hZ hP hD hS hl htab
  have hts : ∀ w ∈ gw, w.before ([.ref xo, .int x, .long z, .ref ou]).toArray s = true := fun w h => hts w (List.mem_cons_of_mem _ h)
  have hown : s.vm.findClass "LimbRowsLaw" = some m.cls := hown
  have hl : lv_has ls 6 [(0, .ref xo), (1, .int x), (2, .long z), (4, .ref ou)] := hl
  refine lv_aload hx hb d_L_times_0 (lv_at hl 3 rfl) ?_
  refine lv_iconst (v := nI 0) hx hb d_L_times_2 (by decide) ?_
  refine lv_aload_n hx hb d_L_times_3 rfl (lv_at hl 0 rfl) ?_
  refine lv_iload_n hx hb d_L_times_4 rfl (lv_at hl 1 rfl) ?_
  refine lv_lload_n hx hb d_L_times_5 rfl (lv_at hl 2 rfl) ?_
  refine xt_call (xt_runV (As := [.int x, .long z]) (rest := [.int (nI 0), .ref ou]) (nL := 6) ⟨hx, hb, hml, hown, hts⟩ (hC _) (cwV 2 hts (gw_V k_346 k_347 k_348 k_50 k_349) rfl rfl rfl (by decide +kernel) ⟨Nat.le_of_ble_eq_true rfl, Nat.le_of_ble_eq_true rfl⟩) hK hN hT hZ hP hD hS (x_sub hD hS hA) qx 1 hxo rfl rfl hl.1 rfl (Nat.le_of_ble_eq_true rfl) d_L_times_6 ⟨Nat.le_of_ble_eq_true rfl, Nat.le_of_ble_eq_true rfl⟩) hS (x_sub hD hS hA) (fun q9 ce H locs hP hD hS h1 h2 h3 => ?_)
  refine xt_catch1 hown hts hN htab (by decide) h1 h2 h3 ?_
  refine lv_astore (lv' := [(5, .ref q9), (0, .ref xo), (1, .int x), (2, .long z), (4, .ref ou)]) hx hb d_L_times_14 hl (by decide) rfl (fun ls hl => ?_)
  refine lv_iconst (v := nI 1) hx hb d_L_times_16 (by decide) ?_
  exact x_iret hx hb hr hlocks hP hD hS d_L_times_17 rfl rfl
abbrev w_L_negate : List Cond := .codeWith y_L_negate b_L_negate 4 (some .int) [(0, 16, 19, 13)] :: gw
set_option maxHeartbeats 800000 in
set_option maxRecDepth 100000 in
theorem c_L_negate_ok {l : Launch} {D : va_G} {cA cR cL : ClassId} {w0 : va_W} {xo qx ou : Nat} {fs : List Value} (hxo : w0[qx]? = some (xo, .inr (1, fs))) {x : Int32} {v : Int32} {Y : va_W → Prop} {qo : Nat} {fo : Nat → Int64} (hYo : ∀ w1, Y w1 → w1[qo]? = some (ou, .inl (cL, 1, .inr (.inl fo)))) (hC : xCE l y_X1_negate w_X1_negate ({ frames := 2, cells := 0, slots := 0, locals := 42 }) D cls0 (ty3 cA cR cL) [.ref xo, .int x] w0 (some (.int v)) Y 0 0) : xCW l y_L_negate w_L_negate ({ frames := 3, cells := 0, slots := 0, locals := 63 }) D cls0 (ty3 cA cR cL) [.ref xo, .int x, .ref ou] w0 (some (.int (nI 0))) (fun w => ∃ w1, Y w1 ∧ w = w1.set qo (ou, .inl (cL, 1, .inr (.inl (vp_updL fo 0 (if v = 0 then 0 else 1)))))) 0 0 := by
  refine xCW.ofW (cc := b_L_negate) (maxL := 4) (ret := some .int) (hh := [(0, 16, 19, 13)]) (by decide) rfl (Nat.le_of_ble_eq_true rfl) ?_
  intro p e s m below meth c A ls hx hb hr hml hown hts hlocks hA hK hN hT hZ hP hD hS hl htab
  have hts : ∀ w ∈ gw, w.before ([.ref xo, .int x, .ref ou]).toArray s = true := fun w h => hts w (List.mem_cons_of_mem _ h)
  have hown : s.vm.findClass "LimbRowsLaw" = some m.cls := hown
  have hl : lv_has ls 4 [(0, .ref xo), (1, .int x), (2, .ref ou)] := hl
  refine lv_aload_n hx hb d_L_negate_0 rfl (lv_at hl 2 rfl) ?_
  refine lv_iconst (v := nI 0) hx hb d_L_negate_1 (by decide) ?_
  refine lv_aload_n hx hb d_L_negate_2 rfl (lv_at hl 0 rfl) ?_
  refine lv_iload_n hx hb d_L_negate_3 rfl (lv_at hl 1 rfl) ?_
  refine x_call (st1 := [.int v, .int (nI 0), .ref ou]) (xe_runV (As := [.int x]) (rest := [.int (nI 0), .ref ou]) (nL := 4) ⟨hx, hb, hml, hown, hts⟩ (hC _) (cwV 1 hts (gw_V k_357 k_358 k_359 k_50 k_360) rfl rfl rfl (by decide +kernel) ⟨Nat.le_of_ble_eq_true rfl, Nat.le_of_ble_eq_true rfl⟩) hK hN hT hZ hP hD hS (x_sub hD hS hA) qx 1 hxo rfl rfl hl.1 rfl (Nat.le_of_ble_eq_true rfl) d_L_negate_4 ⟨Nat.le_of_ble_eq_true rfl, Nat.le_of_ble_eq_true rfl⟩) hS (x_sub hD hS hA) (x_sub hD hS hA) rfl (fun w1 H locs hY hP hD hS => ?_)
  refine lv_if_eq (tgt := 14) hx hb d_L_negate_7 (by decide) (fun c_1 => ?_) (fun c_1 => ?_)
  · refine lv_lconst (v := 0) hx hb d_L_negate_14 (by decide) ?_
    refine va_last hx hb hK hP hD hS qo 2 (hYo w1 hY) rfl (i := nI 0) (x := 0) (vp_in_nI (by decide) (by decide)) d_L_negate_15 (fun H locs hP hD hS => ?_)
    refine lv_goto (tgt := 22) hx hb d_L_negate_16 (by decide) ?_
    refine lv_iconst (v := nI 0) hx hb d_L_negate_22 (by decide) ?_
    exact x_iret hx hb hr hlocks hP hD hS d_L_negate_23 rfl ⟨w1, hY, by rw [if_pos c_1]; rfl⟩
  · refine lv_lconst (v := 1) hx hb d_L_negate_10 (by decide) ?_
    refine lv_goto (tgt := 15) hx hb d_L_negate_11 (by decide) ?_
    refine va_last hx hb hK hP hD hS qo 2 (hYo w1 hY) rfl (i := nI 0) (x := 1) (vp_in_nI (by decide) (by decide)) d_L_negate_15 (fun H locs hP hD hS => ?_)
    refine lv_goto (tgt := 22) hx hb d_L_negate_16 (by decide) ?_
    refine lv_iconst (v := nI 0) hx hb d_L_negate_22 (by decide) ?_
    exact x_iret hx hb hr hlocks hP hD hS d_L_negate_23 rfl ⟨w1, hY, by rw [if_neg c_1]; rfl⟩
set_option maxHeartbeats 800000 in
set_option maxRecDepth 100000 in
theorem c_L_negate_IO {l : Launch} {D : va_G} {cA cR cL : ClassId} {w0 : va_W} {xo qx ou : Nat} {fs : List Value} (hxo : w0[qx]? = some (xo, .inr (1, fs))) {x : Int32} (hC : xTE l y_X1_negate w_X1_negate ({ frames := 7, cells := 1, slots := 6, locals := 104 }) D cls0 (ty3 cA cR cL) [.ref xo, .int x] w0 R_IO 1 6) : xCW l y_L_negate w_L_negate ({ frames := 8, cells := 1, slots := 6, locals := 125 }) D cls0 (ty3 cA cR cL) [.ref xo, .int x, .ref ou] w0 (some (.int (nI 1))) (fun w => w = w0) 1 6 := by
  refine xCW.ofW (cc := b_L_negate) (maxL := 4) (ret := some .int) (hh := [(0, 16, 19, 13)]) (by decide) rfl (Nat.le_of_ble_eq_true rfl) ?_
  intro p e s m below meth c A ls hx hb hr hml hown hts hlocks hA hK hN hT hZ hP hD hS hl htab
  have hts : ∀ w ∈ gw, w.before ([.ref xo, .int x, .ref ou]).toArray s = true := fun w h => hts w (List.mem_cons_of_mem _ h)
  have hown : s.vm.findClass "LimbRowsLaw" = some m.cls := hown
  have hl : lv_has ls 4 [(0, .ref xo), (1, .int x), (2, .ref ou)] := hl
  refine lv_aload_n hx hb d_L_negate_0 rfl (lv_at hl 2 rfl) ?_
  refine lv_iconst (v := nI 0) hx hb d_L_negate_1 (by decide) ?_
  refine lv_aload_n hx hb d_L_negate_2 rfl (lv_at hl 0 rfl) ?_
  refine lv_iload_n hx hb d_L_negate_3 rfl (lv_at hl 1 rfl) ?_
  refine xt_call (xt_runV (As := [.int x]) (rest := [.int (nI 0), .ref ou]) (nL := 4) ⟨hx, hb, hml, hown, hts⟩ (hC _) (cwV 1 hts (gw_V k_357 k_358 k_359 k_50 k_360) rfl rfl rfl (by decide +kernel) ⟨Nat.le_of_ble_eq_true rfl, Nat.le_of_ble_eq_true rfl⟩) hK hN hT hZ hP hD hS (x_sub hD hS hA) qx 1 hxo rfl rfl hl.1 rfl (Nat.le_of_ble_eq_true rfl) d_L_negate_4 ⟨Nat.le_of_ble_eq_true rfl, Nat.le_of_ble_eq_true rfl⟩) hS (x_sub hD hS hA) (fun q9 ce H locs hP hD hS h1 h2 h3 => ?_)
  refine xt_catch1 hown hts hN htab (by decide) h1 h2 h3 ?_
  refine lv_astore_n (lv' := [(3, .ref q9), (0, .ref xo), (1, .int x), (2, .ref ou)]) hx hb d_L_negate_19 rfl hl (by decide) rfl (fun ls hl => ?_)
  refine lv_iconst (v := nI 1) hx hb d_L_negate_20 (by decide) ?_
  exact x_iret hx hb hr hlocks hP hD hS d_L_negate_21 rfl rfl
abbrev w_L_left : List Cond := .codeWith y_L_left b_L_left 5 (some .int) [(0, 10, 13, 13), (0, 10, 17, 15)] :: gw
set_option maxHeartbeats 800000 in
set_option maxRecDepth 100000 in
theorem c_L_left_ok {l : Launch} {D : va_G} {cA cR cL : ClassId} {w0 : va_W} {xo qx ou : Nat} {fs : List Value} (hxo : w0[qx]? = some (xo, .inr (1, fs))) {x : Int32} {y : Int32} {v : Int32} {Y : va_W → Prop} {qo : Nat} {fo : Nat → Int64} (hYo : ∀ w1, Y w1 → w1[qo]? = some (ou, .inl (cL, 1, .inr (.inl fo)))) (hC : xCE l y_X1_left w_X1_left ({ frames := 3, cells := 0, slots := 0, locals := 66 }) D cls0 (ty3 cA cR cL) [.ref xo, .int x, .int y] w0 (some (.int v)) Y 0 0) : xCW l y_L_left w_L_left ({ frames := 4, cells := 0, slots := 0, locals := 89 }) D cls0 (ty3 cA cR cL) [.ref xo, .int x, .int y, .ref ou] w0 (some (.int (nI 0))) (fun w => ∃ w1, Y w1 ∧ w = w1.set qo (ou, .inl (cL, 1, .inr (.inl (vp_updL fo 0 v.toInt64))))) 0 0 := by
  refine xCW.ofW (cc := b_L_left) (maxL := 5) (ret := some .int) (hh := [(0, 10, 13, 13), (0, 10, 17, 15)]) (by decide) rfl (Nat.le_of_ble_eq_true rfl) ?_
  intro p e s m below meth c A ls hx hb hr hml hown hts hlocks hA hK hN hT hZ hP hD hS hl htab
  have hts : ∀ w ∈ gw, w.before ([.ref xo, .int x, .int y, .ref ou]).toArray s = true := fun w h => hts w (List.mem_cons_of_mem _ h)
  have hown : s.vm.findClass "LimbRowsLaw" = some m.cls := hown
  have hl : lv_has ls 5 [(0, .ref xo), (1, .int x), (2, .int y), (3, .ref ou)] := hl
  refine lv_aload_n hx hb d_L_left_0 rfl (lv_at hl 3 rfl) ?_
  refine lv_iconst (v := nI 0) hx hb d_L_left_1 (by decide) ?_
  refine lv_aload_n hx hb d_L_left_2 rfl (lv_at hl 0 rfl) ?_
  refine lv_iload_n hx hb d_L_left_3 rfl (lv_at hl 1 rfl) ?_
  refine lv_iload_n hx hb d_L_left_4 rfl (lv_at hl 2 rfl) ?_
  refine x_call (st1 := [.int v, .int (nI 0), .ref ou]) (xe_runV (As := [.int x, .int y]) (rest := [.int (nI 0), .ref ou]) (nL := 5) ⟨hx, hb, hml, hown, hts⟩ (hC _) (cwV 2 hts (gw_V k_372 k_373 k_374 k_50 k_375) rfl rfl rfl (by decide +kernel) ⟨Nat.le_of_ble_eq_true rfl, Nat.le_of_ble_eq_true rfl⟩) hK hN hT hZ hP hD hS (x_sub hD hS hA) qx 1 hxo rfl rfl hl.1 rfl (Nat.le_of_ble_eq_true rfl) d_L_left_5 ⟨Nat.le_of_ble_eq_true rfl, Nat.le_of_ble_eq_true rfl⟩) hS (x_sub hD hS hA) (x_sub hD hS hA) rfl (fun w1 H locs hY hP hD hS => ?_)
  refine lv_i2l (v := v.toInt64) hx hb d_L_left_8 rfl ?_
  refine va_last hx hb hK hP hD hS qo 2 (hYo w1 hY) rfl (i := nI 0) (x := v.toInt64) (vp_in_nI (by decide) (by decide)) d_L_left_9 (fun H locs hP hD hS => ?_)
  refine lv_goto (tgt := 21) hx hb d_L_left_10 (by decide) ?_
  refine lv_iconst (v := nI 0) hx hb d_L_left_21 (by decide) ?_
  exact x_iret hx hb hr hlocks hP hD hS d_L_left_22 rfl ⟨w1, hY, rfl⟩
set_option maxHeartbeats 800000 in
set_option maxRecDepth 100000 in
theorem c_L_left_IO {l : Launch} {D : va_G} {cA cR cL : ClassId} {w0 : va_W} {xo qx ou : Nat} {fs : List Value} (hxo : w0[qx]? = some (xo, .inr (1, fs))) {x : Int32} {y : Int32} (hC : xTE l y_X1_left w_X1_left ({ frames := 7, cells := 1, slots := 6, locals := 104 }) D cls0 (ty3 cA cR cL) [.ref xo, .int x, .int y] w0 R_IO 1 6) : xCW l y_L_left w_L_left ({ frames := 8, cells := 1, slots := 6, locals := 127 }) D cls0 (ty3 cA cR cL) [.ref xo, .int x, .int y, .ref ou] w0 (some (.int (nI 1))) (fun w => w = w0) 1 6 := by
  refine xCW.ofW (cc := b_L_left) (maxL := 5) (ret := some .int) (hh := [(0, 10, 13, 13), (0, 10, 17, 15)]) (by decide) rfl (Nat.le_of_ble_eq_true rfl) ?_
  intro p e s m below meth c A ls hx hb hr hml hown hts hlocks hA hK hN hT hZ hP hD hS hl htab
  have hts : ∀ w ∈ gw, w.before ([.ref xo, .int x, .int y, .ref ou]).toArray s = true := fun w h => hts w (List.mem_cons_of_mem _ h)
  have hown : s.vm.findClass "LimbRowsLaw" = some m.cls := hown
  have hl : lv_has ls 5 [(0, .ref xo), (1, .int x), (2, .int y), (3, .ref ou)] := hl
  refine lv_aload_n hx hb d_L_left_0 rfl (lv_at hl 3 rfl) ?_
  refine lv_iconst (v := nI 0) hx hb d_L_left_1 (by decide) ?_
  refine lv_aload_n hx hb d_L_left_2 rfl (lv_at hl 0 rfl) ?_
  refine lv_iload_n hx hb d_L_left_3 rfl (lv_at hl 1 rfl) ?_
  refine lv_iload_n hx hb d_L_left_4 rfl (lv_at hl 2 rfl) ?_
  refine xt_call (xt_runV (As := [.int x, .int y]) (rest := [.int (nI 0), .ref ou]) (nL := 5) ⟨hx, hb, hml, hown, hts⟩ (hC _) (cwV 2 hts (gw_V k_372 k_373 k_374 k_50 k_375) rfl rfl rfl (by decide +kernel) ⟨Nat.le_of_ble_eq_true rfl, Nat.le_of_ble_eq_true rfl⟩) hK hN hT hZ hP hD hS (x_sub hD hS hA) qx 1 hxo rfl rfl hl.1 rfl (Nat.le_of_ble_eq_true rfl) d_L_left_5 ⟨Nat.le_of_ble_eq_true rfl, Nat.le_of_ble_eq_true rfl⟩) hS (x_sub hD hS hA) (fun q9 ce H locs hP hD hS h1 h2 h3 => ?_)
  refine xt_catch1 hown hts hN htab (by decide) h1 h2 h3 ?_
  refine lv_astore (lv' := [(4, .ref q9), (0, .ref xo), (1, .int x), (2, .int y), (3, .ref ou)]) hx hb d_L_left_13 hl (by decide) rfl (fun ls hl => ?_)
  refine lv_iconst (v := nI 1) hx hb d_L_left_15 (by decide) ?_
  exact x_iret hx hb hr hlocks hP hD hS d_L_left_16 rfl rfl
set_option maxHeartbeats 800000 in
set_option maxRecDepth 100000 in
theorem c_L_left_IA {l : Launch} {D : va_G} {cA cR cL : ClassId} {w0 : va_W} {xo qx ou : Nat} {fs : List Value} (hxo : w0[qx]? = some (xo, .inr (1, fs))) {x : Int32} {y : Int32} (hC : xTE l y_X1_left w_X1_left ({ frames := 7, cells := 1, slots := 6, locals := 104 }) D cls0 (ty3 cA cR cL) [.ref xo, .int x, .int y] w0 R_IA 1 6) : xCW l y_L_left w_L_left ({ frames := 8, cells := 1, slots := 6, locals := 127 }) D cls0 (ty3 cA cR cL) [.ref xo, .int x, .int y, .ref ou] w0 (some (.int (nI 2))) (fun w => w = w0) 1 6 := by
  refine xCW.ofW (cc := b_L_left) (maxL := 5) (ret := some .int) (hh := [(0, 10, 13, 13), (0, 10, 17, 15)]) (by decide) rfl (Nat.le_of_ble_eq_true rfl) ?_
  intro p e s m below meth c A ls hx hb hr hml hown hts hlocks hA hK hN hT hZ hP hD hS hl htab
  have hts : ∀ w ∈ gw, w.before ([.ref xo, .int x, .int y, .ref ou]).toArray s = true := fun w h => hts w (List.mem_cons_of_mem _ h)
  have hown : s.vm.findClass "LimbRowsLaw" = some m.cls := hown
  have hl : lv_has ls 5 [(0, .ref xo), (1, .int x), (2, .int y), (3, .ref ou)] := hl
  refine lv_aload_n hx hb d_L_left_0 rfl (lv_at hl 3 rfl) ?_
  refine lv_iconst (v := nI 0) hx hb d_L_left_1 (by decide) ?_
  refine lv_aload_n hx hb d_L_left_2 rfl (lv_at hl 0 rfl) ?_
  refine lv_iload_n hx hb d_L_left_3 rfl (lv_at hl 1 rfl) ?_
  refine lv_iload_n hx hb d_L_left_4 rfl (lv_at hl 2 rfl) ?_
  refine xt_call (xt_runV (As := [.int x, .int y]) (rest := [.int (nI 0), .ref ou]) (nL := 5) ⟨hx, hb, hml, hown, hts⟩ (hC _) (cwV 2 hts (gw_V k_372 k_373 k_374 k_50 k_375) rfl rfl rfl (by decide +kernel) ⟨Nat.le_of_ble_eq_true rfl, Nat.le_of_ble_eq_true rfl⟩) hK hN hT hZ hP hD hS (x_sub hD hS hA) qx 1 hxo rfl rfl hl.1 rfl (Nat.le_of_ble_eq_true rfl) d_L_left_5 ⟨Nat.le_of_ble_eq_true rfl, Nat.le_of_ble_eq_true rfl⟩) hS (x_sub hD hS hA) (fun q9 ce H locs hP hD hS h1 h2 h3 => ?_)
  refine xt_catch2 hown hts hN hT htab (by decide) h1 h2 h3 ?_
  refine lv_astore (lv' := [(4, .ref q9), (0, .ref xo), (1, .int x), (2, .int y), (3, .ref ou)]) hx hb d_L_left_17 hl (by decide) rfl (fun ls hl => ?_)
  refine lv_iconst (v := nI 2) hx hb d_L_left_19 (by decide) ?_
  exact x_iret hx hb hr hlocks hP hD hS d_L_left_20 rfl rfl
abbrev w_L_right : List Cond := .codeWith y_L_right b_L_right 5 (some .int) [(0, 10, 13, 13), (0, 10, 17, 15)] :: gw
set_option maxHeartbeats 800000 in
set_option maxRecDepth 100000 in
theorem c_L_right_ok {l : Launch} {D : va_G} {cA cR cL : ClassId} {w0 : va_W} {xo qx ou : Nat} {fs : List Value} (hxo : w0[qx]? = some (xo, .inr (1, fs))) {x : Int32} {y : Int32} {v : Int32} {Y : va_W → Prop} {qo : Nat} {fo : Nat → Int64} (hYo : ∀ w1, Y w1 → w1[qo]? = some (ou, .inl (cL, 1, .inr (.inl fo)))) (hC : xCE l y_X1_right w_X1_right ({ frames := 3, cells := 0, slots := 0, locals := 66 }) D cls0 (ty3 cA cR cL) [.ref xo, .int x, .int y] w0 (some (.int v)) Y 0 0) : xCW l y_L_right w_L_right ({ frames := 4, cells := 0, slots := 0, locals := 89 }) D cls0 (ty3 cA cR cL) [.ref xo, .int x, .int y, .ref ou] w0 (some (.int (nI 0))) (fun w => ∃ w1, Y w1 ∧ w = w1.set qo (ou, .inl (cL, 1, .inr (.inl (vp_updL fo 0 v.toInt64))))) 0 0 := by
  refine xCW.ofW (cc := b_L_right) (maxL := 5) (ret := some .int) (hh := [(0, 10, 13, 13), (0, 10, 17, 15)]) (by decide) rfl (Nat.le_of_ble_eq_true rfl) ?_
  intro p e s m below meth c A ls hx hb hr hml hown hts hlocks hA hK hN hT hZ hP hD hS hl htab
  have hts : ∀ w ∈ gw, w.before ([.ref xo, .int x, .int y, .ref ou]).toArray s = true := fun w h => hts w (List.mem_cons_of_mem _ h)
  have hown : s.vm.findClass "LimbRowsLaw" = some m.cls := hown
  have hl : lv_has ls 5 [(0, .ref xo), (1, .int x), (2, .int y), (3, .ref ou)] := hl
  refine lv_aload_n hx hb d_L_right_0 rfl (lv_at hl 3 rfl) ?_
  refine lv_iconst (v := nI 0) hx hb d_L_right_1 (by decide) ?_
  refine lv_aload_n hx hb d_L_right_2 rfl (lv_at hl 0 rfl) ?_
  refine lv_iload_n hx hb d_L_right_3 rfl (lv_at hl 1 rfl) ?_
  refine lv_iload_n hx hb d_L_right_4 rfl (lv_at hl 2 rfl) ?_
  refine x_call (st1 := [.int v, .int (nI 0), .ref ou]) (xe_runV (As := [.int x, .int y]) (rest := [.int (nI 0), .ref ou]) (nL := 5) ⟨hx, hb, hml, hown, hts⟩ (hC _) (cwV 2 hts (gw_V k_391 k_392 k_393 k_50 k_394) rfl rfl rfl (by decide +kernel) ⟨Nat.le_of_ble_eq_true rfl, Nat.le_of_ble_eq_true rfl⟩) hK hN hT hZ hP hD hS (x_sub hD hS hA) qx 1 hxo rfl rfl hl.1 rfl (Nat.le_of_ble_eq_true rfl) d_L_right_5 ⟨Nat.le_of_ble_eq_true rfl, Nat.le_of_ble_eq_true rfl⟩) hS (x_sub hD hS hA) (x_sub hD hS hA) rfl (fun w1 H locs hY hP hD hS => ?_)
  refine lv_i2l (v := v.toInt64) hx hb d_L_right_8 rfl ?_
  refine va_last hx hb hK hP hD hS qo 2 (hYo w1 hY) rfl (i := nI 0) (x := v.toInt64) (vp_in_nI (by decide) (by decide)) d_L_right_9 (fun H locs hP hD hS => ?_)
  refine lv_goto (tgt := 21) hx hb d_L_right_10 (by decide) ?_
  refine lv_iconst (v := nI 0) hx hb d_L_right_21 (by decide) ?_
  exact x_iret hx hb hr hlocks hP hD hS d_L_right_22 rfl ⟨w1, hY, rfl⟩
set_option maxHeartbeats 800000 in
set_option maxRecDepth 100000 in
theorem c_L_right_IO {l : Launch} {D : va_G} {cA cR cL : ClassId} {w0 : va_W} {xo qx ou : Nat} {fs : List Value} (hxo : w0[qx]? = some (xo, .inr (1, fs))) {x : Int32} {y : Int32} (hC : xTE l y_X1_right w_X1_right ({ frames := 7, cells := 1, slots := 6, locals := 104 }) D cls0 (ty3 cA cR cL) [.ref xo, .int x, .int y] w0 R_IO 1 6) : xCW l y_L_right w_L_right ({ frames := 8, cells := 1, slots := 6, locals := 127 }) D cls0 (ty3 cA cR cL) [.ref xo, .int x, .int y, .ref ou] w0 (some (.int (nI 1))) (fun w => w = w0) 1 6 := by
  refine xCW.ofW (cc := b_L_right) (maxL := 5) (ret := some .int) (hh := [(0, 10, 13, 13), (0, 10, 17, 15)]) (by decide) rfl (Nat.le_of_ble_eq_true rfl) ?_
  intro p e s m below meth c A ls hx hb hr hml hown hts hlocks hA hK hN hT hZ hP hD hS hl htab
  have hts : ∀ w ∈ gw, w.before ([.ref xo, .int x, .int y, .ref ou]).toArray s = true := fun w h => hts w (List.mem_cons_of_mem _ h)
  have hown : s.vm.findClass "LimbRowsLaw" = some m.cls := hown
  have hl : lv_has ls 5 [(0, .ref xo), (1, .int x), (2, .int y), (3, .ref ou)] := hl
  refine lv_aload_n hx hb d_L_right_0 rfl (lv_at hl 3 rfl) ?_
  refine lv_iconst (v := nI 0) hx hb d_L_right_1 (by decide) ?_
  refine lv_aload_n hx hb d_L_right_2 rfl (lv_at hl 0 rfl) ?_
  refine lv_iload_n hx hb d_L_right_3 rfl (lv_at hl 1 rfl) ?_
  refine lv_iload_n hx hb d_L_right_4 rfl (lv_at hl 2 rfl) ?_
  refine xt_call (xt_runV (As := [.int x, .int y]) (rest := [.int (nI 0), .ref ou]) (nL := 5) ⟨hx, hb, hml, hown, hts⟩ (hC _) (cwV 2 hts (gw_V k_391 k_392 k_393 k_50 k_394) rfl rfl rfl (by decide +kernel) ⟨Nat.le_of_ble_eq_true rfl, Nat.le_of_ble_eq_true rfl⟩) hK hN hT hZ hP hD hS (x_sub hD hS hA) qx 1 hxo rfl rfl hl.1 rfl (Nat.le_of_ble_eq_true rfl) d_L_right_5 ⟨Nat.le_of_ble_eq_true rfl, Nat.le_of_ble_eq_true rfl⟩) hS (x_sub hD hS hA) (fun q9 ce H locs hP hD hS h1 h2 h3 => ?_)
  refine xt_catch1 hown hts hN htab (by decide) h1 h2 h3 ?_
  refine lv_astore (lv' := [(4, .ref q9), (0, .ref xo), (1, .int x), (2, .int y), (3, .ref ou)]) hx hb d_L_right_13 hl (by decide) rfl (fun ls hl => ?_)
  refine lv_iconst (v := nI 1) hx hb d_L_right_15 (by decide) ?_
  exact x_iret hx hb hr hlocks hP hD hS d_L_right_16 rfl rfl
set_option maxHeartbeats 800000 in
set_option maxRecDepth 100000 in
theorem c_L_right_IA {l : Launch} {D : va_G} {cA cR cL : ClassId} {w0 : va_W} {xo qx ou : Nat} {fs : List Value} (hxo : w0[qx]? = some (xo, .inr (1, fs))) {x : Int32} {y : Int32} (hC : xTE l y_X1_right w_X1_right ({ frames := 7, cells := 1, slots := 6, locals := 104 }) D cls0 (ty3 cA cR cL) [.ref xo, .int x, .int y] w0 R_IA 1 6) : xCW l y_L_right w_L_right ({ frames := 8, cells := 1, slots := 6, locals := 127 }) D cls0 (ty3 cA cR cL) [.ref xo, .int x, .int y, .ref ou] w0 (some (.int (nI 2))) (fun w => w = w0) 1 6 := by
  refine xCW.ofW (cc := b_L_right) (maxL := 5) (ret := some .int) (hh := [(0, 10, 13, 13), (0, 10, 17, 15)]) (by decide) rfl (Nat.le_of_ble_eq_true rfl) ?_
  intro p e s m below meth c A ls hx hb hr hml hown hts hlocks hA hK hN hT hZ hP hD hS hl htab
  have hts : ∀ w ∈ gw, w.before ([.ref xo, .int x, .int y, .ref ou]).toArray s = true := fun w h => hts w (List.mem_cons_of_mem _ h)
  have hown : s.vm.findClass "LimbRowsLaw" = some m.cls := hown
  have hl : lv_has ls 5 [(0, .ref xo), (1, .int x), (2, .int y), (3, .ref ou)] := hl
  refine lv_aload_n hx hb d_L_right_0 rfl (lv_at hl 3 rfl) ?_
  refine lv_iconst (v := nI 0) hx hb d_L_right_1 (by decide) ?_
  refine lv_aload_n hx hb d_L_right_2 rfl (lv_at hl 0 rfl) ?_
  refine lv_iload_n hx hb d_L_right_3 rfl (lv_at hl 1 rfl) ?_
  refine lv_iload_n hx hb d_L_right_4 rfl (lv_at hl 2 rfl) ?_
  refine xt_call (xt_runV (As := [.int x, .int y]) (rest := [.int (nI 0), .ref ou]) (nL := 5) ⟨hx, hb, hml, hown, hts⟩ (hC _) (cwV 2 hts (gw_V k_391 k_392 k_393 k_50 k_394) rfl rfl rfl (by decide +kernel) ⟨Nat.le_of_ble_eq_true rfl, Nat.le_of_ble_eq_true rfl⟩) hK hN hT hZ hP hD hS (x_sub hD hS hA) qx 1 hxo rfl rfl hl.1 rfl (Nat.le_of_ble_eq_true rfl) d_L_right_5 ⟨Nat.le_of_ble_eq_true rfl, Nat.le_of_ble_eq_true rfl⟩) hS (x_sub hD hS hA) (fun q9 ce H locs hP hD hS h1 h2 h3 => ?_)
  refine xt_catch2 hown hts hN hT htab (by decide) h1 h2 h3 ?_
  refine lv_astore (lv' := [(4, .ref q9), (0, .ref xo), (1, .int x), (2, .int y), (3, .ref ou)]) hx hb d_L_right_17 hl (by decide) rfl (fun ls hl => ?_)
  refine lv_iconst (v := nI 2) hx hb d_L_right_19 (by decide) ?_
  exact x_iret hx hb hr hlocks hP hD hS d_L_right_20 rfl rfl
abbrev w_L_nearest : List Cond := .codeWith y_L_nearest b_L_nearest 5 (some .int) [(0, 10, 13, 13), (0, 10, 17, 15)] :: gw
set_option maxHeartbeats 800000 in
set_option maxRecDepth 100000 in
theorem c_L_nearest_ok {l : Launch} {D : va_G} {cA cR cL : ClassId} {w0 : va_W} {xo qx ou : Nat} {fs : List Value} (hxo : w0[qx]? = some (xo, .inr (1, fs))) {x : Int32} {y : Int32} {v : Int32} {Y : va_W → Prop} {qo : Nat} {fo : Nat → Int64} (hYo : ∀ w1, Y w1 → w1[qo]? = some (ou, .inl (cL, 1, .inr (.inl fo)))) (hC : xCE l y_X1_nearest w_X1_nearest ({ frames := 3, cells := 0, slots := 0, locals := 66 }) D cls0 (ty3 cA cR cL) [.ref xo, .int x, .int y] w0 (some (.int v)) Y 0 0) : xCW l y_L_nearest w_L_nearest ({ frames := 4, cells := 0, slots := 0, locals := 90 }) D cls0 (ty3 cA cR cL) [.ref xo, .int x, .int y, .ref ou] w0 (some (.int (nI 0))) (fun w => ∃ w1, Y w1 ∧ w = w1.set qo (ou, .inl (cL, 1, .inr (.inl (vp_updL fo 0 v.toInt64))))) 0 0 := by
  refine xCW.ofW (cc := b_L_nearest) (maxL := 5) (ret := some .int) (hh := [(0, 10, 13, 13), (0, 10, 17, 15)]) (by decide) rfl (Nat.le_of_ble_eq_true rfl) ?_
  intro p e s m below meth c A ls hx hb hr hml hown hts hlocks hA hK hN hT hZ hP hD hS hl htab
  have hts : ∀ w ∈ gw, w.before ([.ref xo, .int x, .int y, .ref ou]).toArray s = true := fun w h => hts w (List.mem_cons_of_mem _ h)
  have hown : s.vm.findClass "LimbRowsLaw" = some m.cls := hown
  have hl : lv_has ls 5 [(0, .ref xo), (1, .int x), (2, .int y), (3, .ref ou)] := hl
  refine lv_aload_n hx hb d_L_nearest_0 rfl (lv_at hl 3 rfl) ?_
  refine lv_iconst (v := nI 0) hx hb d_L_nearest_1 (by decide) ?_
  refine lv_aload_n hx hb d_L_nearest_2 rfl (lv_at hl 0 rfl) ?_
  refine lv_iload_n hx hb d_L_nearest_3 rfl (lv_at hl 1 rfl) ?_
  refine lv_iload_n hx hb d_L_nearest_4 rfl (lv_at hl 2 rfl) ?_
  refine x_call (st1 := [.int v, .int (nI 0), .ref ou]) (xe_runV (As := [.int x, .int y]) (rest := [.int (nI 0), .ref ou]) (nL := 5) ⟨hx, hb, hml, hown, hts⟩ (hC _) (cwV 2 hts (gw_V k_402 k_403 k_404 k_50 k_405) rfl rfl rfl (by decide +kernel) ⟨Nat.le_of_ble_eq_true rfl, Nat.le_of_ble_eq_true rfl⟩) hK hN hT hZ hP hD hS (x_sub hD hS hA) qx 1 hxo rfl rfl hl.1 rfl (Nat.le_of_ble_eq_true rfl) d_L_nearest_5 ⟨Nat.le_of_ble_eq_true rfl, Nat.le_of_ble_eq_true rfl⟩) hS (x_sub hD hS hA) (x_sub hD hS hA) rfl (fun w1 H locs hY hP hD hS => ?_)
  refine lv_i2l (v := v.toInt64) hx hb d_L_nearest_8 rfl ?_
  refine va_last hx hb hK hP hD hS qo 2 (hYo w1 hY) rfl (i := nI 0) (x := v.toInt64) (vp_in_nI (by decide) (by decide)) d_L_nearest_9 (fun H locs hP hD hS => ?_)
  refine lv_goto (tgt := 21) hx hb d_L_nearest_10 (by decide) ?_
  refine lv_iconst (v := nI 0) hx hb d_L_nearest_21 (by decide) ?_
  exact x_iret hx hb hr hlocks hP hD hS d_L_nearest_22 rfl ⟨w1, hY, rfl⟩
set_option maxHeartbeats 800000 in
set_option maxRecDepth 100000 in
theorem c_L_nearest_IO {l : Launch} {D : va_G} {cA cR cL : ClassId} {w0 : va_W} {xo qx ou : Nat} {fs : List Value} (hxo : w0[qx]? = some (xo, .inr (1, fs))) {x : Int32} {y : Int32} (hC : xTE l y_X1_nearest w_X1_nearest ({ frames := 7, cells := 1, slots := 6, locals := 104 }) D cls0 (ty3 cA cR cL) [.ref xo, .int x, .int y] w0 R_IO 1 6) : xCW l y_L_nearest w_L_nearest ({ frames := 8, cells := 1, slots := 6, locals := 128 }) D cls0 (ty3 cA cR cL) [.ref xo, .int x, .int y, .ref ou] w0 (some (.int (nI 1))) (fun w => w = w0) 1 6 := by
  refine xCW.ofW (cc := b_L_nearest) (maxL := 5) (ret := some .int) (hh := [(0, 10, 13, 13), (0, 10, 17, 15)]) (by decide) rfl (Nat.le_of_ble_eq_true rfl) ?_
  intro p e s m below meth c A ls hx hb hr hml hown hts hlocks hA hK hN hT hZ hP hD hS hl htab
  have hts : ∀ w ∈ gw, w.before ([.ref xo, .int x, .int y, .ref ou]).toArray s = true := fun w h => hts w (List.mem_cons_of_mem _ h)
  have hown : s.vm.findClass "LimbRowsLaw" = some m.cls := hown
  have hl : lv_has ls 5 [(0, .ref xo), (1, .int x), (2, .int y), (3, .ref ou)] := hl
  refine lv_aload_n hx hb d_L_nearest_0 rfl (lv_at hl 3 rfl) ?_
  refine lv_iconst (v := nI 0) hx hb d_L_nearest_1 (by decide) ?_
  refine lv_aload_n hx hb d_L_nearest_2 rfl (lv_at hl 0 rfl) ?_
  refine lv_iload_n hx hb d_L_nearest_3 rfl (lv_at hl 1 rfl) ?_
  refine lv_iload_n hx hb d_L_nearest_4 rfl (lv_at hl 2 rfl) ?_
  refine xt_call (xt_runV (As := [.int x, .int y]) (rest := [.int (nI 0), .ref ou]) (nL := 5) ⟨hx, hb, hml, hown, hts⟩ (hC _) (cwV 2 hts (gw_V k_402 k_403 k_404 k_50 k_405) rfl rfl rfl (by decide +kernel) ⟨Nat.le_of_ble_eq_true rfl, Nat.le_of_ble_eq_true rfl⟩) hK hN hT hZ hP hD hS (x_sub hD hS hA) qx 1 hxo rfl rfl hl.1 rfl (Nat.le_of_ble_eq_true rfl) d_L_nearest_5 ⟨Nat.le_of_ble_eq_true rfl, Nat.le_of_ble_eq_true rfl⟩) hS (x_sub hD hS hA) (fun q9 ce H locs hP hD hS h1 h2 h3 => ?_)
  refine xt_catch1 hown hts hN htab (by decide) h1 h2 h3 ?_
  refine lv_astore (lv' := [(4, .ref q9), (0, .ref xo), (1, .int x), (2, .int y), (3, .ref ou)]) hx hb d_L_nearest_13 hl (by decide) rfl (fun ls hl => ?_)
  refine lv_iconst (v := nI 1) hx hb d_L_nearest_15 (by decide) ?_
  exact x_iret hx hb hr hlocks hP hD hS d_L_nearest_16 rfl rfl
set_option maxHeartbeats 800000 in
set_option maxRecDepth 100000 in
theorem c_L_nearest_IA {l : Launch} {D : va_G} {cA cR cL : ClassId} {w0 : va_W} {xo qx ou : Nat} {fs : List Value} (hxo : w0[qx]? = some (xo, .inr (1, fs))) {x : Int32} {y : Int32} (hC : xTE l y_X1_nearest w_X1_nearest ({ frames := 7, cells := 1, slots := 6, locals := 104 }) D cls0 (ty3 cA cR cL) [.ref xo, .int x, .int y] w0 R_IA 1 6) : xCW l y_L_nearest w_L_nearest ({ frames := 8, cells := 1, slots := 6, locals := 128 }) D cls0 (ty3 cA cR cL) [.ref xo, .int x, .int y, .ref ou] w0 (some (.int (nI 2))) (fun w => w = w0) 1 6 := by
  refine xCW.ofW (cc := b_L_nearest) (maxL := 5) (ret := some .int) (hh := [(0, 10, 13, 13), (0, 10, 17, 15)]) (by decide) rfl (Nat.le_of_ble_eq_true rfl) ?_
  intro p e s m below meth c A ls hx hb hr hml hown hts hlocks hA hK hN hT hZ hP hD hS hl htab
  have hts : ∀ w ∈ gw, w.before ([.ref xo, .int x, .int y, .ref ou]).toArray s = true := fun w h => hts w (List.mem_cons_of_mem _ h)
  have hown : s.vm.findClass "LimbRowsLaw" = some m.cls := hown
  have hl : lv_has ls 5 [(0, .ref xo), (1, .int x), (2, .int y), (3, .ref ou)] := hl
  refine lv_aload_n hx hb d_L_nearest_0 rfl (lv_at hl 3 rfl) ?_
  refine lv_iconst (v := nI 0) hx hb d_L_nearest_1 (by decide) ?_
  refine lv_aload_n hx hb d_L_nearest_2 rfl (lv_at hl 0 rfl) ?_
  refine lv_iload_n hx hb d_L_nearest_3 rfl (lv_at hl 1 rfl) ?_
  refine lv_iload_n hx hb d_L_nearest_4 rfl (lv_at hl 2 rfl) ?_
  refine xt_call (xt_runV (As := [.int x, .int y]) (rest := [.int (nI 0), .ref ou]) (nL := 5) ⟨hx, hb, hml, hown, hts⟩ (hC _) (cwV 2 hts (gw_V k_402 k_403 k_404 k_50 k_405) rfl rfl rfl (by decide +kernel) ⟨Nat.le_of_ble_eq_true rfl, Nat.le_of_ble_eq_true rfl⟩) hK hN hT hZ hP hD hS (x_sub hD hS hA) qx 1 hxo rfl rfl hl.1 rfl (Nat.le_of_ble_eq_true rfl) d_L_nearest_5 ⟨Nat.le_of_ble_eq_true rfl, Nat.le_of_ble_eq_true rfl⟩) hS (x_sub hD hS hA) (fun q9 ce H locs hP hD hS h1 h2 h3 => ?_)
  refine xt_catch2 hown hts hN hT htab (by decide) h1 h2 h3 ?_
  refine lv_astore (lv' := [(4, .ref q9), (0, .ref xo), (1, .int x), (2, .int y), (3, .ref ou)]) hx hb d_L_nearest_17 hl (by decide) rfl (fun ls hl => ?_)
  refine lv_iconst (v := nI 2) hx hb d_L_nearest_19 (by decide) ?_
  exact x_iret hx hb hr hlocks hP hD hS d_L_nearest_20 rfl rfl
abbrev w_L_divide : List Cond := .codeWith y_L_divide b_L_divide 6 (some .int) [(0, 10, 13, 13), (0, 10, 17, 15)] :: gw
set_option maxHeartbeats 800000 in
set_option maxRecDepth 100000 in
theorem c_L_divide_ok {l : Launch} {D : va_G} {cA cR cL : ClassId} {w0 : va_W} {xo qx ou : Nat} {fs : List Value} (hxo : w0[qx]? = some (xo, .inr (1, fs))) {x : Int32} {z : Int64} {v : Int64} {Y : va_W → Prop} {qo : Nat} {fo : Nat → Int64} (hYo : ∀ w1, Y w1 → w1[qo]? = some (ou, .inl (cL, 1, .inr (.inl fo)))) (hC : xCE l y_X1_divide w_X1_divide ({ frames := 3, cells := 0, slots := 0, locals := 78 }) D cls0 (ty3 cA cR cL) [.ref xo, .int x, .long z] w0 (some (.long v)) Y 0 0) : xCW l y_L_divide w_L_divide ({ frames := 4, cells := 0, slots := 0, locals := 102 }) D cls0 (ty3 cA cR cL) [.ref xo, .int x, .long z, .ref ou] w0 (some (.int (nI 0))) (fun w => ∃ w1, Y w1 ∧ w = w1.set qo (ou, .inl (cL, 1, .inr (.inl (vp_updL fo 0 v))))) 0 0 := by
  refine xCW.ofW (cc := b_L_divide) (maxL := 6) (ret := some .int) (hh := [(0, 10, 13, 13), (0, 10, 17, 15)]) (by decide) rfl (Nat.le_of_ble_eq_true rfl) ?_
  intro p e s m below meth c A ls hx hb hr hml hown hts hlocks hA hK hN hT hZ hP hD hS hl htab
  have hts : ∀ w ∈ gw, w.before ([.ref xo, .int x, .long z, .ref ou]).toArray s = true := fun w h => hts w (List.mem_cons_of_mem _ h)
  have hown : s.vm.findClass "LimbRowsLaw" = some m.cls := hown
  have hl : lv_has ls 6 [(0, .ref xo), (1, .int x), (2, .long z), (4, .ref ou)] := hl
  refine lv_aload hx hb d_L_divide_0 (lv_at hl 3 rfl) ?_
  refine lv_iconst (v := nI 0) hx hb d_L_divide_2 (by decide) ?_
  refine lv_aload_n hx hb d_L_divide_3 rfl (lv_at hl 0 rfl) ?_
  refine lv_iload_n hx hb d_L_divide_4 rfl (lv_at hl 1 rfl) ?_
  refine lv_lload_n hx hb d_L_divide_5 rfl (lv_at hl 2 rfl) ?_
  refine x_call (st1 := [.long v, .int (nI 0), .ref ou]) (xe_runV (As := [.int x, .long z]) (rest := [.int (nI 0), .ref ou]) (nL := 6) ⟨hx, hb, hml, hown, hts⟩ (hC _) (cwV 2 hts (gw_V k_425 k_426 k_427 k_50 k_428) rfl rfl rfl (by decide +kernel) ⟨Nat.le_of_ble_eq_true rfl, Nat.le_of_ble_eq_true rfl⟩) hK hN hT hZ hP hD hS (x_sub hD hS hA) qx 1 hxo rfl rfl hl.1 rfl (Nat.le_of_ble_eq_true rfl) d_L_divide_6 ⟨Nat.le_of_ble_eq_true rfl, Nat.le_of_ble_eq_true rfl⟩) hS (x_sub hD hS hA) (x_sub hD hS hA) rfl (fun w1 H locs hY hP hD hS => ?_)
  refine va_last hx hb hK hP hD hS qo 2 (hYo w1 hY) rfl (i := nI 0) (x := v) (vp_in_nI (by decide) (by decide)) d_L_divide_9 (fun H locs hP hD hS => ?_)
  refine lv_goto (tgt := 21) hx hb d_L_divide_10 (by decide) ?_
  refine lv_iconst (v := nI 0) hx hb d_L_divide_21 (by decide) ?_
  exact x_iret hx hb hr hlocks hP hD hS d_L_divide_22 rfl ⟨w1, hY, rfl⟩
set_option maxHeartbeats 800000 in
set_option maxRecDepth 100000 in
theorem c_L_divide_IO {l : Launch} {D : va_G} {cA cR cL : ClassId} {w0 : va_W} {xo qx ou : Nat} {fs : List Value} (hxo : w0[qx]? = some (xo, .inr (1, fs))) {x : Int32} {z : Int64} (hC : xTE l y_X1_divide w_X1_divide ({ frames := 7, cells := 1, slots := 6, locals := 104 }) D cls0 (ty3 cA cR cL) [.ref xo, .int x, .long z] w0 R_IO 1 6) : xCW l y_L_divide w_L_divide ({ frames := 8, cells := 1, slots := 6, locals := 128 }) D cls0 (ty3 cA cR cL) [.ref xo, .int x, .long z, .ref ou] w0 (some (.int (nI 1))) (fun w => w = w0) 1 6 := by
  refine xCW.ofW (cc := b_L_divide) (maxL := 6) (ret := some .int) (hh := [(0, 10, 13, 13), (0, 10, 17, 15)]) (by decide) rfl (Nat.le_of_ble_eq_true rfl) ?_
  intro p e s m below meth c A ls hx hb hr hml hown hts hlocks hA hK hN hT hZ hP hD hS hl htab
  have hts : ∀ w ∈ gw, w.before ([.ref xo, .int x, .long z, .ref ou]).toArray s = true := fun w h => hts w (List.mem_cons_of_mem _ h)
  have hown : s.vm.findClass "LimbRowsLaw" = some m.cls := hown
  have hl : lv_has ls 6 [(0, .ref xo), (1, .int x), (2, .long z), (4, .ref ou)] := hl
  refine lv_aload hx hb d_L_divide_0 (lv_at hl 3 rfl) ?_
  refine lv_iconst (v := nI 0) hx hb d_L_divide_2 (by decide) ?_
  refine lv_aload_n hx hb d_L_divide_3 rfl (lv_at hl 0 rfl) ?_
  refine lv_iload_n hx hb d_L_divide_4 rfl (lv_at hl 1 rfl) ?_
  refine lv_lload_n hx hb d_L_divide_5 rfl (lv_at hl 2 rfl) ?_
  refine xt_call (xt_runV (As := [.int x, .long z]) (rest := [.int (nI 0), .ref ou]) (nL := 6) ⟨hx, hb, hml, hown, hts⟩ (hC _) (cwV 2 hts (gw_V k_425 k_426 k_427 k_50 k_428) rfl rfl rfl (by decide +kernel) ⟨Nat.le_of_ble_eq_true rfl, Nat.le_of_ble_eq_true rfl⟩) hK hN hT hZ hP hD hS (x_sub hD hS hA) qx 1 hxo rfl rfl hl.1 rfl (Nat.le_of_ble_eq_true rfl) d_L_divide_6 ⟨Nat.le_of_ble_eq_true rfl, Nat.le_of_ble_eq_true rfl⟩) hS (x_sub hD hS hA) (fun q9 ce H locs hP hD hS h1 h2 h3 => ?_)
  refine xt_catch1 hown hts hN htab (by decide) h1 h2 h3 ?_
  refine lv_astore (lv' := [(5, .ref q9), (0, .ref xo), (1, .int x), (2, .long z), (4, .ref ou)]) hx hb d_L_divide_13 hl (by decide) rfl (fun ls hl => ?_)
  refine lv_iconst (v := nI 1) hx hb d_L_divide_15 (by decide) ?_
  exact x_iret hx hb hr hlocks hP hD hS d_L_divide_16 rfl rfl
set_option maxHeartbeats 800000 in
set_option maxRecDepth 100000 in
theorem c_L_divide_IA {l : Launch} {D : va_G} {cA cR cL : ClassId} {w0 : va_W} {xo qx ou : Nat} {fs : List Value} (hxo : w0[qx]? = some (xo, .inr (1, fs))) {x : Int32} {z : Int64} (hC : xTE l y_X1_divide w_X1_divide ({ frames := 7, cells := 1, slots := 6, locals := 104 }) D cls0 (ty3 cA cR cL) [.ref xo, .int x, .long z] w0 R_IA 1 6) : xCW l y_L_divide w_L_divide ({ frames := 8, cells := 1, slots := 6, locals := 128 }) D cls0 (ty3 cA cR cL) [.ref xo, .int x, .long z, .ref ou] w0 (some (.int (nI 2))) (fun w => w = w0) 1 6 := by
  refine xCW.ofW (cc := b_L_divide) (maxL := 6) (ret := some .int) (hh := [(0, 10, 13, 13), (0, 10, 17, 15)]) (by decide) rfl (Nat.le_of_ble_eq_true rfl) ?_
  intro p e s m below meth c A ls hx hb hr hml hown hts hlocks hA hK hN hT hZ hP hD hS hl htab
  have hts : ∀ w ∈ gw, w.before ([.ref xo, .int x, .long z, .ref ou]).toArray s = true := fun w h => hts w (List.mem_cons_of_mem _ h)
  have hown : s.vm.findClass "LimbRowsLaw" = some m.cls := hown
  have hl : lv_has ls 6 [(0, .ref xo), (1, .int x), (2, .long z), (4, .ref ou)] := hl
  refine lv_aload hx hb d_L_divide_0 (lv_at hl 3 rfl) ?_
  refine lv_iconst (v := nI 0) hx hb d_L_divide_2 (by decide) ?_
  refine lv_aload_n hx hb d_L_divide_3 rfl (lv_at hl 0 rfl) ?_
  refine lv_iload_n hx hb d_L_divide_4 rfl (lv_at hl 1 rfl) ?_
  refine lv_lload_n hx hb d_L_divide_5 rfl (lv_at hl 2 rfl) ?_
  refine xt_call (xt_runV (As := [.int x, .long z]) (rest := [.int (nI 0), .ref ou]) (nL := 6) ⟨hx, hb, hml, hown, hts⟩ (hC _) (cwV 2 hts (gw_V k_425 k_426 k_427 k_50 k_428) rfl rfl rfl (by decide +kernel) ⟨Nat.le_of_ble_eq_true rfl, Nat.le_of_ble_eq_true rfl⟩) hK hN hT hZ hP hD hS (x_sub hD hS hA) qx 1 hxo rfl rfl hl.1 rfl (Nat.le_of_ble_eq_true rfl) d_L_divide_6 ⟨Nat.le_of_ble_eq_true rfl, Nat.le_of_ble_eq_true rfl⟩) hS (x_sub hD hS hA) (fun q9 ce H locs hP hD hS h1 h2 h3 => ?_)
  refine xt_catch2 hown hts hN hT htab (by decide) h1 h2 h3 ?_
  refine lv_astore (lv' := [(5, .ref q9), (0, .ref xo), (1, .int x), (2, .long z), (4, .ref ou)]) hx hb d_L_divide_17 hl (by decide) rfl (fun ls hl => ?_)
  refine lv_iconst (v := nI 2) hx hb d_L_divide_19 (by decide) ?_
  exact x_iret hx hb hr hlocks hP hD hS d_L_divide_20 rfl rfl
abbrev w_L_zeros : List Cond := .codeWith y_L_zeros b_L_zeros 4 (some .int) [(0, 9, 12, 13)] :: gw
set_option maxHeartbeats 800000 in
set_option maxRecDepth 100000 in
theorem c_L_zeros_ok {l : Launch} {D : va_G} {cA cR cL : ClassId} {w0 : va_W} {xo qx ou : Nat} {fs : List Value} (hxo : w0[qx]? = some (xo, .inr (1, fs))) {x : Int32} {v : Int32} {Y : va_W → Prop} {qo : Nat} {fo : Nat → Int64} (hYo : ∀ w1, Y w1 → w1[qo]? = some (ou, .inl (cL, 1, .inr (.inl fo)))) (hC : xCE l y_X1_zeros w_X1_zeros ({ frames := 2, cells := 0, slots := 0, locals := 42 }) D cls0 (ty3 cA cR cL) [.ref xo, .int x] w0 (some (.int v)) Y 0 0) : xCW l y_L_zeros w_L_zeros ({ frames := 3, cells := 0, slots := 0, locals := 63 }) D cls0 (ty3 cA cR cL) [.ref xo, .int x, .ref ou] w0 (some (.int (nI 0))) (fun w => ∃ w1, Y w1 ∧ w = w1.set qo (ou, .inl (cL, 1, .inr (.inl (vp_updL fo 0 v.toInt64))))) 0 0 := by
  refine xCW.ofW (cc := b_L_zeros) (maxL := 4) (ret := some .int) (hh := [(0, 9, 12, 13)]) (by decide) rfl (Nat.le_of_ble_eq_true rfl) ?_
  intro p e s m below meth c A ls hx hb hr hml hown hts hlocks hA hK hN hT hZ hP hD hS hl htab
  have hts : ∀ w ∈ gw, w.before ([.ref xo, .int x, .ref ou]).toArray s = true := fun w h => hts w (List.mem_cons_of_mem _ h)
  have hown : s.vm.findClass "LimbRowsLaw" = some m.cls := hown
  have hl : lv_has ls 4 [(0, .ref xo), (1, .int x), (2, .ref ou)] := hl
  refine lv_aload_n hx hb d_L_zeros_0 rfl (lv_at hl 2 rfl) ?_
  refine lv_iconst (v := nI 0) hx hb d_L_zeros_1 (by decide) ?_
  refine lv_aload_n hx hb d_L_zeros_2 rfl (lv_at hl 0 rfl) ?_
  refine lv_iload_n hx hb d_L_zeros_3 rfl (lv_at hl 1 rfl) ?_
  refine x_call (st1 := [.int v, .int (nI 0), .ref ou]) (xe_runV (As := [.int x]) (rest := [.int (nI 0), .ref ou]) (nL := 4) ⟨hx, hb, hml, hown, hts⟩ (hC _) (cwV 1 hts (gw_V k_446 k_447 k_448 k_50 k_449) rfl rfl rfl (by decide +kernel) ⟨Nat.le_of_ble_eq_true rfl, Nat.le_of_ble_eq_true rfl⟩) hK hN hT hZ hP hD hS (x_sub hD hS hA) qx 1 hxo rfl rfl hl.1 rfl (Nat.le_of_ble_eq_true rfl) d_L_zeros_4 ⟨Nat.le_of_ble_eq_true rfl, Nat.le_of_ble_eq_true rfl⟩) hS (x_sub hD hS hA) (x_sub hD hS hA) rfl (fun w1 H locs hY hP hD hS => ?_)
  refine lv_i2l (v := v.toInt64) hx hb d_L_zeros_7 rfl ?_
  refine va_last hx hb hK hP hD hS qo 2 (hYo w1 hY) rfl (i := nI 0) (x := v.toInt64) (vp_in_nI (by decide) (by decide)) d_L_zeros_8 (fun H locs hP hD hS => ?_)
  refine lv_goto (tgt := 15) hx hb d_L_zeros_9 (by decide) ?_
  refine lv_iconst (v := nI 0) hx hb d_L_zeros_15 (by decide) ?_
  exact x_iret hx hb hr hlocks hP hD hS d_L_zeros_16 rfl ⟨w1, hY, rfl⟩
set_option maxHeartbeats 800000 in
set_option maxRecDepth 100000 in
theorem c_L_zeros_IO {l : Launch} {D : va_G} {cA cR cL : ClassId} {w0 : va_W} {xo qx ou : Nat} {fs : List Value} (hxo : w0[qx]? = some (xo, .inr (1, fs))) {x : Int32} (hC : xTE l y_X1_zeros w_X1_zeros ({ frames := 7, cells := 1, slots := 6, locals := 104 }) D cls0 (ty3 cA cR cL) [.ref xo, .int x] w0 R_IO 1 6) : xCW l y_L_zeros w_L_zeros ({ frames := 8, cells := 1, slots := 6, locals := 125 }) D cls0 (ty3 cA cR cL) [.ref xo, .int x, .ref ou] w0 (some (.int (nI 1))) (fun w => w = w0) 1 6 := by
  refine xCW.ofW (cc := b_L_zeros) (maxL := 4) (ret := some .int) (hh := [(0, 9, 12, 13)]) (by decide) rfl (Nat.le_of_ble_eq_true rfl) ?_
  intro p e s m below meth c A ls hx hb hr hml hown hts hlocks hA hK hN hT hZ hP hD hS hl htab
  have hts : ∀ w ∈ gw, w.before ([.ref xo, .int x, .ref ou]).toArray s = true := fun w h => hts w (List.mem_cons_of_mem _ h)
  have hown : s.vm.findClass "LimbRowsLaw" = some m.cls := hown
  have hl : lv_has ls 4 [(0, .ref xo), (1, .int x), (2, .ref ou)] := hl
  refine lv_aload_n hx hb d_L_zeros_0 rfl (lv_at hl 2 rfl) ?_
  refine lv_iconst (v := nI 0) hx hb d_L_zeros_1 (by decide) ?_
  refine lv_aload_n hx hb d_L_zeros_2 rfl (lv_at hl 0 rfl) ?_
  refine lv_iload_n hx hb d_L_zeros_3 rfl (lv_at hl 1 rfl) ?_
  refine xt_call (xt_runV (As := [.int x]) (rest := [.int (nI 0), .ref ou]) (nL := 4) ⟨hx, hb, hml, hown, hts⟩ (hC _) (cwV 1 hts (gw_V k_446 k_447 k_448 k_50 k_449) rfl rfl rfl (by decide +kernel) ⟨Nat.le_of_ble_eq_true rfl, Nat.le_of_ble_eq_true rfl⟩) hK hN hT hZ hP hD hS (x_sub hD hS hA) qx 1 hxo rfl rfl hl.1 rfl (Nat.le_of_ble_eq_true rfl) d_L_zeros_4 ⟨Nat.le_of_ble_eq_true rfl, Nat.le_of_ble_eq_true rfl⟩) hS (x_sub hD hS hA) (fun q9 ce H locs hP hD hS h1 h2 h3 => ?_)
  refine xt_catch1 hown hts hN htab (by decide) h1 h2 h3 ?_
  refine lv_astore_n (lv' := [(3, .ref q9), (0, .ref xo), (1, .int x), (2, .ref ou)]) hx hb d_L_zeros_12 rfl hl (by decide) rfl (fun ls hl => ?_)
  refine lv_iconst (v := nI 1) hx hb d_L_zeros_13 (by decide) ?_
  exact x_iret hx hb hr hlocks hP hD hS d_L_zeros_14 rfl rfl
abbrev w_L_length : List Cond := .codeWith y_L_length b_L_length 4 (some .int) [(0, 9, 12, 13)] :: gw
set_option maxHeartbeats 800000 in
set_option maxRecDepth 100000 in
theorem c_L_length_ok {l : Launch} {D : va_G} {cA cR cL : ClassId} {w0 : va_W} {xo qx ou : Nat} {fs : List Value} (hxo : w0[qx]? = some (xo, .inr (1, fs))) {x : Int32} {v : Int32} {Y : va_W → Prop} {qo : Nat} {fo : Nat → Int64} (hYo : ∀ w1, Y w1 → w1[qo]? = some (ou, .inl (cL, 1, .inr (.inl fo)))) (hC : xCE l y_X1_length w_X1_length ({ frames := 2, cells := 0, slots := 0, locals := 43 }) D cls0 (ty3 cA cR cL) [.ref xo, .int x] w0 (some (.int v)) Y 0 0) : xCW l y_L_length w_L_length ({ frames := 3, cells := 0, slots := 0, locals := 64 }) D cls0 (ty3 cA cR cL) [.ref xo, .int x, .ref ou] w0 (some (.int (nI 0))) (fun w => ∃ w1, Y w1 ∧ w = w1.set qo (ou, .inl (cL, 1, .inr (.inl (vp_updL fo 0 v.toInt64))))) 0 0 := by
  refine xCW.ofW (cc := b_L_length) (maxL := 4) (ret := some .int) (hh := [(0, 9, 12, 13)]) (by decide) rfl (Nat.le_of_ble_eq_true rfl) ?_
  intro p e s m below meth c A ls hx hb hr hml hown hts hlocks hA hK hN hT hZ hP hD hS hl htab
  have hts : ∀ w ∈ gw, w.before ([.ref xo, .int x, .ref ou]).toArray s = true := fun w h => hts w (List.mem_cons_of_mem _ h)
  have hown : s.vm.findClass "LimbRowsLaw" = some m.cls := hown
  have hl : lv_has ls 4 [(0, .ref xo), (1, .int x), (2, .ref ou)] := hl
  refine lv_aload_n hx hb d_L_length_0 rfl (lv_at hl 2 rfl) ?_
  refine lv_iconst (v := nI 0) hx hb d_L_length_1 (by decide) ?_
  refine lv_aload_n hx hb d_L_length_2 rfl (lv_at hl 0 rfl) ?_
  refine lv_iload_n hx hb d_L_length_3 rfl (lv_at hl 1 rfl) ?_
  refine x_call (st1 := [.int v, .int (nI 0), .ref ou]) (xe_runV (As := [.int x]) (rest := [.int (nI 0), .ref ou]) (nL := 4) ⟨hx, hb, hml, hown, hts⟩ (hC _) (cwV 1 hts (gw_V k_454 k_455 k_456 k_50 k_457) rfl rfl rfl (by decide +kernel) ⟨Nat.le_of_ble_eq_true rfl, Nat.le_of_ble_eq_true rfl⟩) hK hN hT hZ hP hD hS (x_sub hD hS hA) qx 1 hxo rfl rfl hl.1 rfl (Nat.le_of_ble_eq_true rfl) d_L_length_4 ⟨Nat.le_of_ble_eq_true rfl, Nat.le_of_ble_eq_true rfl⟩) hS (x_sub hD hS hA) (x_sub hD hS hA) rfl (fun w1 H locs hY hP hD hS => ?_)
  refine lv_i2l (v := v.toInt64) hx hb d_L_length_7 rfl ?_
  refine va_last hx hb hK hP hD hS qo 2 (hYo w1 hY) rfl (i := nI 0) (x := v.toInt64) (vp_in_nI (by decide) (by decide)) d_L_length_8 (fun H locs hP hD hS => ?_)
  refine lv_goto (tgt := 15) hx hb d_L_length_9 (by decide) ?_
  refine lv_iconst (v := nI 0) hx hb d_L_length_15 (by decide) ?_
  exact x_iret hx hb hr hlocks hP hD hS d_L_length_16 rfl ⟨w1, hY, rfl⟩
set_option maxHeartbeats 800000 in
set_option maxRecDepth 100000 in
theorem c_L_length_IO {l : Launch} {D : va_G} {cA cR cL : ClassId} {w0 : va_W} {xo qx ou : Nat} {fs : List Value} (hxo : w0[qx]? = some (xo, .inr (1, fs))) {x : Int32} (hC : xTE l y_X1_length w_X1_length ({ frames := 7, cells := 1, slots := 6, locals := 104 }) D cls0 (ty3 cA cR cL) [.ref xo, .int x] w0 R_IO 1 6) : xCW l y_L_length w_L_length ({ frames := 8, cells := 1, slots := 6, locals := 125 }) D cls0 (ty3 cA cR cL) [.ref xo, .int x, .ref ou] w0 (some (.int (nI 1))) (fun w => w = w0) 1 6 := by
  refine xCW.ofW (cc := b_L_length) (maxL := 4) (ret := some .int) (hh := [(0, 9, 12, 13)]) (by decide) rfl (Nat.le_of_ble_eq_true rfl) ?_
  intro p e s m below meth c A ls hx hb hr hml hown hts hlocks hA hK hN hT hZ hP hD hS hl htab
  have hts : ∀ w ∈ gw, w.before ([.ref xo, .int x, .ref ou]).toArray s = true := fun w h => hts w (List.mem_cons_of_mem _ h)
  have hown : s.vm.findClass "LimbRowsLaw" = some m.cls := hown
  have hl : lv_has ls 4 [(0, .ref xo), (1, .int x), (2, .ref ou)] := hl
  refine lv_aload_n hx hb d_L_length_0 rfl (lv_at hl 2 rfl) ?_
  refine lv_iconst (v := nI 0) hx hb d_L_length_1 (by decide) ?_
  refine lv_aload_n hx hb d_L_length_2 rfl (lv_at hl 0 rfl) ?_
  refine lv_iload_n hx hb d_L_length_3 rfl (lv_at hl 1 rfl) ?_
  refine xt_call (xt_runV (As := [.int x]) (rest := [.int (nI 0), .ref ou]) (nL := 4) ⟨hx, hb, hml, hown, hts⟩ (hC _) (cwV 1 hts (gw_V k_454 k_455 k_456 k_50 k_457) rfl rfl rfl (by decide +kernel) ⟨Nat.le_of_ble_eq_true rfl, Nat.le_of_ble_eq_true rfl⟩) hK hN hT hZ hP hD hS (x_sub hD hS hA) qx 1 hxo rfl rfl hl.1 rfl (Nat.le_of_ble_eq_true rfl) d_L_length_4 ⟨Nat.le_of_ble_eq_true rfl, Nat.le_of_ble_eq_true rfl⟩) hS (x_sub hD hS hA) (fun q9 ce H locs hP hD hS h1 h2 h3 => ?_)
  refine xt_catch1 hown hts hN htab (by decide) h1 h2 h3 ?_
  refine lv_astore_n (lv' := [(3, .ref q9), (0, .ref xo), (1, .int x), (2, .ref ou)]) hx hb d_L_length_12 rfl hl (by decide) rfl (fun ls hl => ?_)
  refine lv_iconst (v := nI 1) hx hb d_L_length_13 (by decide) ?_
  exact x_iret hx hb hr hlocks hP hD hS d_L_length_14 rfl rfl
abbrev w_L_sign : List Cond := .codeWith y_L_sign b_L_sign 4 (some .int) [(0, 9, 12, 13)] :: gw
set_option maxHeartbeats 800000 in
set_option maxRecDepth 100000 in
theorem c_L_sign_ok {l : Launch} {D : va_G} {cA cR cL : ClassId} {w0 : va_W} {xo qx ou : Nat} {fs : List Value} (hxo : w0[qx]? = some (xo, .inr (1, fs))) {x : Int32} {v : Int32} {Y : va_W → Prop} {qo : Nat} {fo : Nat → Int64} (hYo : ∀ w1, Y w1 → w1[qo]? = some (ou, .inl (cL, 1, .inr (.inl fo)))) (hC : xCE l y_X1_sign w_X1_sign ({ frames := 2, cells := 0, slots := 0, locals := 41 }) D cls0 (ty3 cA cR cL) [.ref xo, .int x] w0 (some (.int v)) Y 0 0) : xCW l y_L_sign w_L_sign ({ frames := 3, cells := 0, slots := 0, locals := 62 }) D cls0 (ty3 cA cR cL) [.ref xo, .int x, .ref ou] w0 (some (.int (nI 0))) (fun w => ∃ w1, Y w1 ∧ w = w1.set qo (ou, .inl (cL, 1, .inr (.inl (vp_updL fo 0 v.toInt64))))) 0 0 := by
  refine xCW.ofW (cc := b_L_sign) (maxL := 4) (ret := some .int) (hh := [(0, 9, 12, 13)]) (by decide) rfl (Nat.le_of_ble_eq_true rfl) ?_
  intro p e s m below meth c A ls hx hb hr hml hown hts hlocks hA hK hN hT hZ hP hD hS hl htab
  have hts : ∀ w ∈ gw, w.before ([.ref xo, .int x, .ref ou]).toArray s = true := fun w h => hts w (List.mem_cons_of_mem _ h)
  have hown : s.vm.findClass "LimbRowsLaw" = some m.cls := hown
  have hl : lv_has ls 4 [(0, .ref xo), (1, .int x), (2, .ref ou)] := hl
  refine lv_aload_n hx hb d_L_sign_0 rfl (lv_at hl 2 rfl) ?_
  refine lv_iconst (v := nI 0) hx hb d_L_sign_1 (by decide) ?_
  refine lv_aload_n hx hb d_L_sign_2 rfl (lv_at hl 0 rfl) ?_
  refine lv_iload_n hx hb d_L_sign_3 rfl (lv_at hl 1 rfl) ?_
  refine x_call (st1 := [.int v, .int (nI 0), .ref ou]) (xe_runV (As := [.int x]) (rest := [.int (nI 0), .ref ou]) (nL := 4) ⟨hx, hb, hml, hown, hts⟩ (hC _) (cwV 1 hts (gw_V k_462 k_463 k_464 k_50 k_465) rfl rfl rfl (by decide +kernel) ⟨Nat.le_of_ble_eq_true rfl, Nat.le_of_ble_eq_true rfl⟩) hK hN hT hZ hP hD hS (x_sub hD hS hA) qx 1 hxo rfl rfl hl.1 rfl (Nat.le_of_ble_eq_true rfl) d_L_sign_4 ⟨Nat.le_of_ble_eq_true rfl, Nat.le_of_ble_eq_true rfl⟩) hS (x_sub hD hS hA) (x_sub hD hS hA) rfl (fun w1 H locs hY hP hD hS => ?_)
  refine lv_i2l (v := v.toInt64) hx hb d_L_sign_7 rfl ?_
  refine va_last hx hb hK hP hD hS qo 2 (hYo w1 hY) rfl (i := nI 0) (x := v.toInt64) (vp_in_nI (by decide) (by decide)) d_L_sign_8 (fun H locs hP hD hS => ?_)
  refine lv_goto (tgt := 15) hx hb d_L_sign_9 (by decide) ?_
  refine lv_iconst (v := nI 0) hx hb d_L_sign_15 (by decide) ?_
  exact x_iret hx hb hr hlocks hP hD hS d_L_sign_16 rfl ⟨w1, hY, rfl⟩
set_option maxHeartbeats 800000 in
set_option maxRecDepth 100000 in
theorem c_L_sign_IO {l : Launch} {D : va_G} {cA cR cL : ClassId} {w0 : va_W} {xo qx ou : Nat} {fs : List Value} (hxo : w0[qx]? = some (xo, .inr (1, fs))) {x : Int32} (hC : xTE l y_X1_sign w_X1_sign ({ frames := 7, cells := 1, slots := 6, locals := 104 }) D cls0 (ty3 cA cR cL) [.ref xo, .int x] w0 R_IO 1 6) : xCW l y_L_sign w_L_sign ({ frames := 8, cells := 1, slots := 6, locals := 125 }) D cls0 (ty3 cA cR cL) [.ref xo, .int x, .ref ou] w0 (some (.int (nI 1))) (fun w => w = w0) 1 6 := by
  refine xCW.ofW (cc := b_L_sign) (maxL := 4) (ret := some .int) (hh := [(0, 9, 12, 13)]) (by decide) rfl (Nat.le_of_ble_eq_true rfl) ?_
  intro p e s m below meth c A ls hx hb hr hml hown hts hlocks hA hK hN hT hZ hP hD hS hl htab
  have hts : ∀ w ∈ gw, w.before ([.ref xo, .int x, .ref ou]).toArray s = true := fun w h => hts w (List.mem_cons_of_mem _ h)
  have hown : s.vm.findClass "LimbRowsLaw" = some m.cls := hown
  have hl : lv_has ls 4 [(0, .ref xo), (1, .int x), (2, .ref ou)] := hl
  refine lv_aload_n hx hb d_L_sign_0 rfl (lv_at hl 2 rfl) ?_
  refine lv_iconst (v := nI 0) hx hb d_L_sign_1 (by decide) ?_
  refine lv_aload_n hx hb d_L_sign_2 rfl (lv_at hl 0 rfl) ?_
  refine lv_iload_n hx hb d_L_sign_3 rfl (lv_at hl 1 rfl) ?_
  refine xt_call (xt_runV (As := [.int x]) (rest := [.int (nI 0), .ref ou]) (nL := 4) ⟨hx, hb, hml, hown, hts⟩ (hC _) (cwV 1 hts (gw_V k_462 k_463 k_464 k_50 k_465) rfl rfl rfl (by decide +kernel) ⟨Nat.le_of_ble_eq_true rfl, Nat.le_of_ble_eq_true rfl⟩) hK hN hT hZ hP hD hS (x_sub hD hS hA) qx 1 hxo rfl rfl hl.1 rfl (Nat.le_of_ble_eq_true rfl) d_L_sign_4 ⟨Nat.le_of_ble_eq_true rfl, Nat.le_of_ble_eq_true rfl⟩) hS (x_sub hD hS hA) (fun q9 ce H locs hP hD hS h1 h2 h3 => ?_)
  refine xt_catch1 hown hts hN htab (by decide) h1 h2 h3 ?_
  refine lv_astore_n (lv' := [(3, .ref q9), (0, .ref xo), (1, .int x), (2, .ref ou)]) hx hb d_L_sign_12 rfl hl (by decide) rfl (fun ls hl => ?_)
  refine lv_iconst (v := nI 1) hx hb d_L_sign_13 (by decide) ?_
  exact x_iret hx hb hr hlocks hP hD hS d_L_sign_14 rfl rfl
abbrev w_L_compare : List Cond := .codeWith y_L_compare b_L_compare 5 (some .int) [(0, 10, 13, 13)] :: gw
set_option maxHeartbeats 800000 in
set_option maxRecDepth 100000 in
theorem c_L_compare_ok {l : Launch} {D : va_G} {cA cR cL : ClassId} {w0 : va_W} {xo qx ou : Nat} {fs : List Value} (hxo : w0[qx]? = some (xo, .inr (1, fs))) {x : Int32} {y : Int32} {v : Int32} {Y : va_W → Prop} {qo : Nat} {fo : Nat → Int64} (hYo : ∀ w1, Y w1 → w1[qo]? = some (ou, .inl (cL, 1, .inr (.inl fo)))) (hC : xCE l y_X1_compare w_X1_compare ({ frames := 2, cells := 0, slots := 0, locals := 47 }) D cls0 (ty3 cA cR cL) [.ref xo, .int x, .int y] w0 (some (.int v)) Y 0 0) : xCW l y_L_compare w_L_compare ({ frames := 3, cells := 0, slots := 0, locals := 71 }) D cls0 (ty3 cA cR cL) [.ref xo, .int x, .int y, .ref ou] w0 (some (.int (nI 0))) (fun w => ∃ w1, Y w1 ∧ w = w1.set qo (ou, .inl (cL, 1, .inr (.inl (vp_updL fo 0 v.toInt64))))) 0 0 := by
  refine xCW.ofW (cc := b_L_compare) (maxL := 5) (ret := some .int) (hh := [(0, 10, 13, 13)]) (by decide) rfl (Nat.le_of_ble_eq_true rfl) ?_
  intro p e s m below meth c A ls hx hb hr hml hown hts hlocks hA hK hN hT hZ hP hD hS hl htab
  have hts : ∀ w ∈ gw, w.before ([.ref xo, .int x, .int y, .ref ou]).toArray s = true := fun w h => hts w (List.mem_cons_of_mem _ h)
  have hown : s.vm.findClass "LimbRowsLaw" = some m.cls := hown
  have hl : lv_has ls 5 [(0, .ref xo), (1, .int x), (2, .int y), (3, .ref ou)] := hl
  refine lv_aload_n hx hb d_L_compare_0 rfl (lv_at hl 3 rfl) ?_
  refine lv_iconst (v := nI 0) hx hb d_L_compare_1 (by decide) ?_
  refine lv_aload_n hx hb d_L_compare_2 rfl (lv_at hl 0 rfl) ?_
  refine lv_iload_n hx hb d_L_compare_3 rfl (lv_at hl 1 rfl) ?_
  refine lv_iload_n hx hb d_L_compare_4 rfl (lv_at hl 2 rfl) ?_
  refine x_call (st1 := [.int v, .int (nI 0), .ref ou]) (xe_runV (As := [.int x, .int y]) (rest := [.int (nI 0), .ref ou]) (nL := 5) ⟨hx, hb, hml, hown, hts⟩ (hC _) (cwV 2 hts (gw_V k_469 k_470 k_471 k_50 k_472) rfl rfl rfl (by decide +kernel) ⟨Nat.le_of_ble_eq_true rfl, Nat.le_of_ble_eq_true rfl⟩) hK hN hT hZ hP hD hS (x_sub hD hS hA) qx 1 hxo rfl rfl hl.1 rfl (Nat.le_of_ble_eq_true rfl) d_L_compare_5 ⟨Nat.le_of_ble_eq_true rfl, Nat.le_of_ble_eq_true rfl⟩) hS (x_sub hD hS hA) (x_sub hD hS hA) rfl (fun w1 H locs hY hP hD hS => ?_)
  refine lv_i2l (v := v.toInt64) hx hb d_L_compare_8 rfl ?_
  refine va_last hx hb hK hP hD hS qo 2 (hYo w1 hY) rfl (i := nI 0) (x := v.toInt64) (vp_in_nI (by decide) (by decide)) d_L_compare_9 (fun H locs hP hD hS => ?_)
  refine lv_goto (tgt := 17) hx hb d_L_compare_10 (by decide) ?_
  refine lv_iconst (v := nI 0) hx hb d_L_compare_17 (by decide) ?_
  exact x_iret hx hb hr hlocks hP hD hS d_L_compare_18 rfl ⟨w1, hY, rfl⟩
set_option maxHeartbeats 800000 in
set_option maxRecDepth 100000 in
theorem c_L_compare_IO {l : Launch} {D : va_G} {cA cR cL : ClassId} {w0 : va_W} {xo qx ou : Nat} {fs : List Value} (hxo : w0[qx]? = some (xo, .inr (1, fs))) {x : Int32} {y : Int32} (hC : xTE l y_X1_compare w_X1_compare ({ frames := 7, cells := 1, slots := 6, locals := 104 }) D cls0 (ty3 cA cR cL) [.ref xo, .int x, .int y] w0 R_IO 1 6) : xCW l y_L_compare w_L_compare ({ frames := 8, cells := 1, slots := 6, locals := 128 }) D cls0 (ty3 cA cR cL) [.ref xo, .int x, .int y, .ref ou] w0 (some (.int (nI 1))) (fun w => w = w0) 1 6 := by
  refine xCW.ofW (cc := b_L_compare) (maxL := 5) (ret := some .int) (hh := [(0, 10, 13, 13)]) (by decide) rfl (Nat.le_of_ble_eq_true rfl) ?_
  intro p e s m below meth c A ls hx hb hr hml hown hts hlocks hA hK hN hT hZ hP hD hS hl htab
  have hts : ∀ w ∈ gw, w.before ([.ref xo, .int x, .int y, .ref ou]).toArray s = true := fun w h => hts w (List.mem_cons_of_mem _ h)
  have hown : s.vm.findClass "LimbRowsLaw" = some m.cls := hown
  have hl : lv_has ls 5 [(0, .ref xo), (1, .int x), (2, .int y), (3, .ref ou)] := hl
  refine lv_aload_n hx hb d_L_compare_0 rfl (lv_at hl 3 rfl) ?_
  refine lv_iconst (v := nI 0) hx hb d_L_compare_1 (by decide) ?_
  refine lv_aload_n hx hb d_L_compare_2 rfl (lv_at hl 0 rfl) ?_
  refine lv_iload_n hx hb d_L_compare_3 rfl (lv_at hl 1 rfl) ?_
  refine lv_iload_n hx hb d_L_compare_4 rfl (lv_at hl 2 rfl) ?_
  refine xt_call (xt_runV (As := [.int x, .int y]) (rest := [.int (nI 0), .ref ou]) (nL := 5) ⟨hx, hb, hml, hown, hts⟩ (hC _) (cwV 2 hts (gw_V k_469 k_470 k_471 k_50 k_472) rfl rfl rfl (by decide +kernel) ⟨Nat.le_of_ble_eq_true rfl, Nat.le_of_ble_eq_true rfl⟩) hK hN hT hZ hP hD hS (x_sub hD hS hA) qx 1 hxo rfl rfl hl.1 rfl (Nat.le_of_ble_eq_true rfl) d_L_compare_5 ⟨Nat.le_of_ble_eq_true rfl, Nat.le_of_ble_eq_true rfl⟩) hS (x_sub hD hS hA) (fun q9 ce H locs hP hD hS h1 h2 h3 => ?_)
  refine xt_catch1 hown hts hN htab (by decide) h1 h2 h3 ?_
  refine lv_astore (lv' := [(4, .ref q9), (0, .ref xo), (1, .int x), (2, .int y), (3, .ref ou)]) hx hb d_L_compare_13 hl (by decide) rfl (fun ls hl => ?_)
  refine lv_iconst (v := nI 1) hx hb d_L_compare_15 (by decide) ?_
  exact x_iret hx hb hr hlocks hP hD hS d_L_compare_16 rfl rfl
