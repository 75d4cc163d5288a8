abbrev w_X0_unsigned : List Cond := .code y_X0_unsigned b_X0_unsigned 1 (some .long) :: gw
set_option maxHeartbeats 800000 in
set_option maxRecDepth 100000 in
theorem c_X0_unsigned {l : Launch} {D : va_G} {Rs : va_W} {cA cR cL : ClassId} {ro la cap wd : Nat → Nat} {F : Nat → Nat → Int32} (hw : rwOk cap wd) (x : Int32) : xR l y_X0_unsigned w_X0_unsigned ({ frames := 0, cells := 0, slots := 0, locals := 0 }) D cls0 (ty3 cA cR cL) [.int x] (rw Rs cA ro la cap wd F) (some (.long (rUn x))) := by
  refine xR.ofW (cc := b_X0_unsigned) (maxL := 1) (ret := some .long) (by decide) rfl (Nat.le_of_ble_eq_true rfl) ?_
  intro p e s m below meth c A ls _ hin hx hb hr hml hown hts hlocks hA hK hP hD hS hl
  have hts : ∀ w ∈ gw, w.before ([.int x]).toArray s = true := fun w h => hts w (List.mem_cons_of_mem _ h)
  have hown : s.vm.findClass R_Row = some m.cls := hown
  have hl : lv_has ls 1 [(0, .int x)] := hl
  refine lv_iload_n hx hb d_X0_unsigned_0 rfl (lv_at hl 0 rfl) ?_
  refine lv_i2l (v := x.toInt64) hx hb d_X0_unsigned_1 rfl ?_
  refine lv_ldc2 (v := 4294967295) hx hb hown (hts (.constantLong "LimbRows$Row" 19 4294967295) k_278) d_X0_unsigned_2 ?_
  refine lv_land hx hb d_X0_unsigned_5 ?_
  exact xr_lret hx hb hr hlocks d_X0_unsigned_6 rfl
abbrev w_X0_isNegative : List Cond := .code y_X0_isNegative b_X0_isNegative 1 (some .boolean) :: gw
set_option maxHeartbeats 800000 in
set_option maxRecDepth 100000 in
theorem c_X0_isNegative {l : Launch} {D : va_G} {Rs : va_W} {cA cR cL : ClassId} {ro la cap wd : Nat → Nat} {F : Nat → Nat → Int32} (hw : rwOk cap wd) {i : Nat} (hi : i < 64) : xR l y_X0_isNegative w_X0_isNegative ({ frames := 0, cells := 0, slots := 0, locals := 0 }) D cls0 (ty3 cA cR cL) [.ref (ro i)] (rw Rs cA ro la cap wd F) (some (.int (rNeg (wd i) (F i)))) := by
  refine xR.ofW (cc := b_X0_isNegative) (maxL := 1) (ret := some .boolean) (by decide) rfl (Nat.le_of_ble_eq_true rfl) ?_
  intro p e s m below meth c A ls _ hin hx hb hr hml hown hts hlocks hA hK hP hD hS hl
  have hts : ∀ w ∈ gw, w.before ([.ref (ro i)]).toArray s = true := fun w h => hts w (List.mem_cons_of_mem _ h)
  have hown : s.vm.findClass R_Row = some m.cls := hown
  have hl : lv_has ls 1 [(0, .ref (ro i))] := hl
  have hwi := hw i hi
  refine lv_aload_n hx hb d_X0_isNegative_0 rfl (lv_at hl 0 rfl) ?_
  refine c_getL hx hb hts hown hK hP (i := i) hi d_X0_isNegative_1 ?_
  refine lv_aload_n hx hb d_X0_isNegative_4 rfl (lv_at hl 0 rfl) ?_
  refine c_getW hx hb hts hown hK hP (i := i) hi d_X0_isNegative_5 ?_
  refine lv_iconst (v := nI 1) hx hb d_X0_isNegative_8 (by decide) ?_
  refine n_isub hx hb d_X0_isNegative_9 (by omega) ?_
  have hq_10 := hw i hi
  refine c_ald hx hb hK hP (i := i) (k := (wd i) - 1) hi (by omega) (by omega) d_X0_isNegative_10 ?_
  refine lv_if_ge (tgt := 18) hx hb d_X0_isNegative_11 (by decide) (fun c_1 => ?_) (fun c_1 => ?_)
  · refine lv_iconst (v := nI 0) hx hb d_X0_isNegative_18 (by decide) ?_
    exact xr_zret hx hb hr hlocks d_X0_isNegative_19 (by decide) (by unfold rNeg; first | rw [if_neg (Int32.not_lt.mpr (by assumption))] | rw [if_pos (Int32.not_le.mp (by assumption))])
  · refine lv_iconst (v := nI 1) hx hb d_X0_isNegative_14 (by decide) ?_
    refine lv_goto (tgt := 19) hx hb d_X0_isNegative_15 (by decide) ?_
    exact xr_zret hx hb hr hlocks d_X0_isNegative_19 (by decide) (by unfold rNeg; first | rw [if_neg (Int32.not_lt.mpr (by assumption))] | rw [if_pos (Int32.not_le.mp (by assumption))])
abbrev w_X0_limbAt : List Cond := .code y_X0_limbAt b_X0_limbAt 2 (some .int) :: gw
set_option maxHeartbeats 800000 in
set_option maxRecDepth 100000 in
theorem c_X0_limbAt {l : Launch} {D : va_G} {Rs : va_W} {cA cR cL : ClassId} {ro la cap wd : Nat → Nat} {F : Nat → Nat → Int32} (hw : rwOk cap wd) {i : Nat} (hi : i < 64) (x : Int32) : xR l y_X0_limbAt w_X0_limbAt ({ frames := 0, cells := 0, slots := 0, locals := 0 }) D cls0 (ty3 cA cR cL) [.ref (ro i), .int x] (rw Rs cA ro la cap wd F) (some (.int (rAt (wd i) (F i) x))) := by
  refine xR.ofW (cc := b_X0_limbAt) (maxL := 2) (ret := some .int) (by decide) rfl (Nat.le_of_ble_eq_true rfl) ?_
  intro p e s m below meth c A ls _ hin hx hb hr hml hown hts hlocks hA hK hP hD hS hl
  have hts : ∀ w ∈ gw, w.before ([.ref (ro i), .int x]).toArray s = true := fun w h => hts w (List.mem_cons_of_mem _ h)
  have hown : s.vm.findClass R_Row = some m.cls := hown
  have hl : lv_has ls 2 [(0, .ref (ro i)), (1, .int x)] := hl
  have hwi := hw i hi
  refine lv_iload_n hx hb d_X0_limbAt_0 rfl (lv_at hl 1 rfl) ?_
  refine lv_if_ge (tgt := 6) hx hb d_X0_limbAt_1 (by decide) (fun c_1 => ?_) (fun c_1 => ?_)
  · refine lv_iload_n hx hb d_X0_limbAt_6 rfl (lv_at hl 1 rfl) ?_
    refine lv_aload_n hx hb d_X0_limbAt_7 rfl (lv_at hl 0 rfl) ?_
    refine c_getW hx hb hts hown hK hP (i := i) hi d_X0_limbAt_8 ?_
    refine lv_icmp_ge (tgt := 23) hx hb d_X0_limbAt_11 (by decide) (fun c_2 => ?_) (fun c_2 => ?_)
    · refine lv_aload_n hx hb d_X0_limbAt_23 rfl (lv_at hl 0 rfl) ?_
      refine c_getL hx hb hts hown hK hP (i := i) hi d_X0_limbAt_24 ?_
      refine lv_aload_n hx hb d_X0_limbAt_27 rfl (lv_at hl 0 rfl) ?_
      refine c_getW hx hb hts hown hK hP (i := i) hi d_X0_limbAt_28 ?_
      refine lv_iconst (v := nI 1) hx hb d_X0_limbAt_31 (by decide) ?_
      refine n_isub hx hb d_X0_limbAt_32 (by omega) ?_
      have hq_33 := hw i hi
      refine c_ald hx hb hK hP (i := i) (k := (wd i) - 1) hi (by omega) (by omega) d_X0_limbAt_33 ?_
      refine lv_bipush (v := nI 31) hx hb d_X0_limbAt_34 (by decide) ?_
      refine lv_ishr hx hb d_X0_limbAt_36 ?_
      exact xr_iret hx hb hr hlocks d_X0_limbAt_37 (by unfold rAt; rw [if_neg (Int32.not_lt.mpr (by assumption)), if_neg (Int32.not_lt.mpr (by assumption))])
    · obtain ⟨k, hk, rfl⟩ : ∃ k : Nat, k < wd i ∧ x = nI k := by
        rcases pk_ix x (n := wd i) (by omega) with h | h | h
        · exact absurd h (Int32.not_lt.mpr (by assumption))
        · exact absurd h (by assumption)
        · exact h
      refine lv_aload_n hx hb d_X0_limbAt_14 rfl (lv_at hl 0 rfl) ?_
      refine c_getL hx hb hts hown hK hP (i := i) hi d_X0_limbAt_15 ?_
      refine lv_iload_n hx hb d_X0_limbAt_18 rfl (lv_at hl 1 rfl) ?_
      have hq_19 := hw i hi
      refine c_ald hx hb hK hP (i := i) (k := k) hi (by omega) (by omega) d_X0_limbAt_19 ?_
      refine lv_goto (tgt := 37) hx hb d_X0_limbAt_20 (by decide) ?_
      exact xr_iret hx hb hr hlocks d_X0_limbAt_37 (by unfold rAt; rw [if_neg (nI_pos (by omega)), if_pos (nI_lt hk (by omega)), nI_clamp (by omega)])
  · refine lv_iconst (v := nI 0) hx hb d_X0_limbAt_4 (by decide) ?_
    exact xr_iret hx hb hr hlocks d_X0_limbAt_5 (by unfold rAt; rw [if_pos (Int32.not_le.mp (by assumption))])
