set_option maxHeartbeats 800000 in
set_option maxRecDepth 100000 in
theorem c_X2_width_no {l : Launch} {D : va_G} {Rs : va_W} {cA cR cL : ClassId} {h aw ar ag az : Nat} {cd : Int32} {w g : Nat → Nat} {sg : Nat → Int32} {z : Nat → Nat} (hok : mdOk w g z) {x : Int32} (hno_x : mIsRow x = nI 0) : xC l y_X2_width w_X2_width ({ frames := 1, cells := 0, slots := 0, locals := 21 }) D cls0 (ty3 cA cR cL) [.ref h, .int x] (md cA h aw ar ag az cd w g sg z Rs) (some (.int (nI 0))) (fun w1 => w1 = md cA h aw ar ag az (nI 1) w g sg z Rs) 0 0 := by
  refine xC.ofW (cc := b_X2_width) (maxL := 2) (ret := some .int) (by decide) rfl (Nat.le_of_ble_eq_true rfl) ?_
  intro p e s m below meth c A ls _ hin hx hb hr hml hown hts hlocks hA hK hP hD hS hl
  have hts : ∀ w ∈ gw, w.before ([.ref h, .int x]).toArray s = true := fun w h => hts w (List.mem_cons_of_mem _ h)
  have hown : s.vm.findClass R_Md = some m.cls := hown
  have hl : lv_has ls 2 [(0, .ref h), (1, .int x)] := hl
  refine lv_aload_n hx hb d_X2_width_0 rfl (lv_at hl 0 rfl) ?_
  refine lv_iload_n hx hb d_X2_width_1 rfl (lv_at hl 1 rfl) ?_
  refine x_callR (st1 := [.int (mIsRow x), .ref h]) (x_runS (As := [.int x]) (rest := [.ref h]) (nL := 2) ⟨hx, hb, hml, hown, hts⟩ (c_X2_isRow x _) (cwS 1 hts (gw_S k_511 k_512 k_52 k_513) rfl rfl rfl (by decide +kernel) ⟨Nat.le_of_ble_eq_true rfl, Nat.le_of_ble_eq_true rfl⟩) hK hP hD rfl hl.1 rfl (Nat.le_of_ble_eq_true rfl) d_X2_width_2 ⟨Nat.zero_le _, Nat.zero_le _⟩) rfl ?_
  rw [hno_x]
  refine n_if_eq (tgt := 12) hx hb d_X2_width_5 (by decide) (by omega) (fun _ => ?_) (fun c => absurd c (by decide))
  refine lv_iconst (v := nI 1) hx hb d_X2_width_12 (by decide) ?_
  refine x_call (st1 := [.int (mRef (nI 1))]) (x_runV (As := [.int (nI 1)]) (rest := []) (nL := 2) ⟨hx, hb, hml, hown, hts⟩ (c_X2_refuses (nI 1) _) (cwV 1 hts (gw_V k_514 k_516 k_30 k_52 k_517) rfl rfl rfl (by decide +kernel) ⟨Nat.le_of_ble_eq_true rfl, Nat.le_of_ble_eq_true rfl⟩) hK hP hD 0 2 rfl rfl rfl hl.1 rfl (Nat.le_of_ble_eq_true rfl) d_X2_width_13 ⟨Nat.zero_le _, Nat.zero_le _⟩) hS (x_sub hD hS hA) (x_sub hD hS hA) rfl (fun w1 H locs hY hP hD hS => ?_)
  subst hY
  rw [mRef_1]
  refine n_if_eq (tgt := 23) hx hb d_X2_width_16 (by decide) (by omega) (fun c => absurd c (by decide)) (fun _ => ?_)
  refine lv_iconst (v := nI 0) hx hb d_X2_width_19 (by decide) ?_
  refine lv_goto (tgt := 29) hx hb d_X2_width_20 (by decide) ?_
  exact x_iret hx hb hr hlocks hP hD hS d_X2_width_29 rfl rfl
set_option maxHeartbeats 800000 in
set_option maxRecDepth 100000 in
theorem c_X2_set_no {l : Launch} {D : va_G} {Rs : va_W} {cA cR cL : ClassId} {h aw ar ag az : Nat} {cd : Int32} {w g : Nat → Nat} {sg : Nat → Int32} {z : Nat → Nat} (hok : mdOk w g z) {x : Int32} (hno_x : mIsRow x = nI 0) (v : Int64) : xC l y_X2_set w_X2_set ({ frames := 4, cells := 0, slots := 0, locals := 93 }) D cls0 (ty3 cA cR cL) [.ref h, .int x, .long v] (md cA h aw ar ag az cd w g sg z Rs) (some (.int (nI 0))) (fun w1 => w1 = md cA h aw ar ag az (nI 1) w g sg z Rs) 0 0 := by
  refine xC.ofW (cc := b_X2_set) (maxL := 4) (ret := some .boolean) (by decide) rfl (Nat.le_of_ble_eq_true rfl) ?_
  intro p e s m below meth c A ls _ hin hx hb hr hml hown hts hlocks hA hK hP hD hS hl
  have hts : ∀ w ∈ gw, w.before ([.ref h, .int x, .long v]).toArray s = true := fun w h => hts w (List.mem_cons_of_mem _ h)
  have hown : s.vm.findClass R_Md = some m.cls := hown
  have hl : lv_has ls 4 [(0, .ref h), (1, .int x), (2, .long v)] := hl
  refine lv_aload_n hx hb d_X2_set_0 rfl (lv_at hl 0 rfl) ?_
  refine lv_iload_n hx hb d_X2_set_1 rfl (lv_at hl 1 rfl) ?_
  refine x_callR (st1 := [.int (mIsRow x), .ref h]) (x_runS (As := [.int x]) (rest := [.ref h]) (nL := 4) ⟨hx, hb, hml, hown, hts⟩ (c_X2_isRow x _) (cwS 1 hts (gw_S k_511 k_512 k_52 k_513) rfl rfl rfl (by decide +kernel) ⟨Nat.le_of_ble_eq_true rfl, Nat.le_of_ble_eq_true rfl⟩) hK hP hD rfl hl.1 rfl (Nat.le_of_ble_eq_true rfl) d_X2_set_2 ⟨Nat.zero_le _, Nat.zero_le _⟩) rfl ?_
  rw [hno_x]
  refine n_if_eq (tgt := 12) hx hb d_X2_set_5 (by decide) (by omega) (fun _ => ?_) (fun c => absurd c (by decide))
  refine lv_iconst (v := nI 1) hx hb d_X2_set_12 (by decide) ?_
  refine x_call (st1 := [.int (mRef (nI 1))]) (x_runV (As := [.int (nI 1)]) (rest := []) (nL := 4) ⟨hx, hb, hml, hown, hts⟩ (c_X2_refuses (nI 1) _) (cwV 1 hts (gw_V k_514 k_516 k_30 k_52 k_517) rfl rfl rfl (by decide +kernel) ⟨Nat.le_of_ble_eq_true rfl, Nat.le_of_ble_eq_true rfl⟩) hK hP hD 0 2 rfl rfl rfl hl.1 rfl (Nat.le_of_ble_eq_true rfl) d_X2_set_13 ⟨Nat.zero_le _, Nat.zero_le _⟩) hS (x_sub hD hS hA) (x_sub hD hS hA) rfl (fun w1 H locs hY hP hD hS => ?_)
  subst hY
  rw [mRef_1]
  refine n_if_eq (tgt := 21) hx hb d_X2_set_16 (by decide) (by omega) (fun c => absurd c (by decide)) (fun _ => ?_)
  refine lv_iconst (v := nI 0) hx hb d_X2_set_19 (by decide) ?_
  exact x_zret hx hb hr hlocks hP hD hS d_X2_set_20 (by decide) rfl rfl
set_option maxHeartbeats 800000 in
set_option maxRecDepth 100000 in
theorem c_X2_times_no {l : Launch} {D : va_G} {Rs : va_W} {cA cR cL : ClassId} {h aw ar ag az : Nat} {cd : Int32} {w g : Nat → Nat} {sg : Nat → Int32} {z : Nat → Nat} (hok : mdOk w g z) {x : Int32} (hno_x : mIsRow x = nI 0) (v : Int64) : xC l y_X2_times w_X2_times ({ frames := 5, cells := 0, slots := 0, locals := 115 }) D cls0 (ty3 cA cR cL) [.ref h, .int x, .long v] (md cA h aw ar ag az cd w g sg z Rs) (some (.int (nI 0))) (fun w1 => w1 = md cA h aw ar ag az (nI 1) w g sg z Rs) 0 0 := by
  refine xC.ofW (cc := b_X2_times) (maxL := 4) (ret := some .int) (by decide) rfl (Nat.le_of_ble_eq_true rfl) ?_
  intro p e s m below meth c A ls _ hin hx hb hr hml hown hts hlocks hA hK hP hD hS hl
  have hts : ∀ w ∈ gw, w.before ([.ref h, .int x, .long v]).toArray s = true := fun w h => hts w (List.mem_cons_of_mem _ h)
  have hown : s.vm.findClass R_Md = some m.cls := hown
  have hl : lv_has ls 4 [(0, .ref h), (1, .int x), (2, .long v)] := hl
  refine lv_aload_n hx hb d_X2_times_0 rfl (lv_at hl 0 rfl) ?_
  refine lv_iload_n hx hb d_X2_times_1 rfl (lv_at hl 1 rfl) ?_
  refine x_callR (st1 := [.int (mIsRow x), .ref h]) (x_runS (As := [.int x]) (rest := [.ref h]) (nL := 4) ⟨hx, hb, hml, hown, hts⟩ (c_X2_isRow x _) (cwS 1 hts (gw_S k_511 k_512 k_52 k_513) rfl rfl rfl (by decide +kernel) ⟨Nat.le_of_ble_eq_true rfl, Nat.le_of_ble_eq_true rfl⟩) hK hP hD rfl hl.1 rfl (Nat.le_of_ble_eq_true rfl) d_X2_times_2 ⟨Nat.zero_le _, Nat.zero_le _⟩) rfl ?_
  rw [hno_x]
  refine n_if_eq (tgt := 12) hx hb d_X2_times_5 (by decide) (by omega) (fun _ => ?_) (fun c => absurd c (by decide))
  refine lv_iconst (v := nI 1) hx hb d_X2_times_12 (by decide) ?_
  refine x_call (st1 := [.int (mRef (nI 1))]) (x_runV (As := [.int (nI 1)]) (rest := []) (nL := 4) ⟨hx, hb, hml, hown, hts⟩ (c_X2_refuses (nI 1) _) (cwV 1 hts (gw_V k_514 k_516 k_30 k_52 k_517) rfl rfl rfl (by decide +kernel) ⟨Nat.le_of_ble_eq_true rfl, Nat.le_of_ble_eq_true rfl⟩) hK hP hD 0 2 rfl rfl rfl hl.1 rfl (Nat.le_of_ble_eq_true rfl) d_X2_times_13 ⟨Nat.zero_le _, Nat.zero_le _⟩) hS (x_sub hD hS hA) (x_sub hD hS hA) rfl (fun w1 H locs hY hP hD hS => ?_)
  subst hY
  rw [mRef_1]
  refine n_if_eq (tgt := 21) hx hb d_X2_times_16 (by decide) (by omega) (fun c => absurd c (by decide)) (fun _ => ?_)
  refine lv_iconst (v := nI 0) hx hb d_X2_times_19 (by decide) ?_
  exact x_iret hx hb hr hlocks hP hD hS d_X2_times_20 rfl rfl
set_option maxHeartbeats 800000 in
set_option maxRecDepth 100000 in
theorem c_X2_negate_no {l : Launch} {D : va_G} {Rs : va_W} {cA cR cL : ClassId} {h aw ar ag az : Nat} {cd : Int32} {w g : Nat → Nat} {sg : Nat → Int32} {z : Nat → Nat} (hok : mdOk w g z) {x : Int32} (hno_x : mIsRow x = nI 0) : xC l y_X2_negate w_X2_negate ({ frames := 4, cells := 0, slots := 0, locals := 93 }) D cls0 (ty3 cA cR cL) [.ref h, .int x] (md cA h aw ar ag az cd w g sg z Rs) (some (.int (nI 0))) (fun w1 => w1 = md cA h aw ar ag az (nI 1) w g sg z Rs) 0 0 := by
  refine xC.ofW (cc := b_X2_negate) (maxL := 2) (ret := some .boolean) (by decide) rfl (Nat.le_of_ble_eq_true rfl) ?_
  intro p e s m below meth c A ls _ hin hx hb hr hml hown hts hlocks hA hK hP hD hS hl
  have hts : ∀ w ∈ gw, w.before ([.ref h, .int x]).toArray s = true := fun w h => hts w (List.mem_cons_of_mem _ h)
  have hown : s.vm.findClass R_Md = some m.cls := hown
  have hl : lv_has ls 2 [(0, .ref h), (1, .int x)] := hl
  refine lv_aload_n hx hb d_X2_negate_0 rfl (lv_at hl 0 rfl) ?_
  refine lv_iload_n hx hb d_X2_negate_1 rfl (lv_at hl 1 rfl) ?_
  refine x_callR (st1 := [.int (mIsRow x), .ref h]) (x_runS (As := [.int x]) (rest := [.ref h]) (nL := 2) ⟨hx, hb, hml, hown, hts⟩ (c_X2_isRow x _) (cwS 1 hts (gw_S k_511 k_512 k_52 k_513) rfl rfl rfl (by decide +kernel) ⟨Nat.le_of_ble_eq_true rfl, Nat.le_of_ble_eq_true rfl⟩) hK hP hD rfl hl.1 rfl (Nat.le_of_ble_eq_true rfl) d_X2_negate_2 ⟨Nat.zero_le _, Nat.zero_le _⟩) rfl ?_
  rw [hno_x]
  refine n_if_eq (tgt := 12) hx hb d_X2_negate_5 (by decide) (by omega) (fun _ => ?_) (fun c => absurd c (by decide))
  refine lv_iconst (v := nI 1) hx hb d_X2_negate_12 (by decide) ?_
  refine x_call (st1 := [.int (mRef (nI 1))]) (x_runV (As := [.int (nI 1)]) (rest := []) (nL := 2) ⟨hx, hb, hml, hown, hts⟩ (c_X2_refuses (nI 1) _) (cwV 1 hts (gw_V k_514 k_516 k_30 k_52 k_517) rfl rfl rfl (by decide +kernel) ⟨Nat.le_of_ble_eq_true rfl, Nat.le_of_ble_eq_true rfl⟩) hK hP hD 0 2 rfl rfl rfl hl.1 rfl (Nat.le_of_ble_eq_true rfl) d_X2_negate_13 ⟨Nat.zero_le _, Nat.zero_le _⟩) hS (x_sub hD hS hA) (x_sub hD hS hA) rfl (fun w1 H locs hY hP hD hS => ?_)
  subst hY
  rw [mRef_1]
  refine n_if_eq (tgt := 21) hx hb d_X2_negate_16 (by decide) (by omega) (fun c => absurd c (by decide)) (fun _ => ?_)
  refine lv_iconst (v := nI 0) hx hb d_X2_negate_19 (by decide) ?_
  exact x_zret hx hb hr hlocks hP hD hS d_X2_negate_20 (by decide) rfl rfl
set_option maxHeartbeats 800000 in
set_option maxRecDepth 100000 in
theorem c_X2_zeros_no {l : Launch} {D : va_G} {Rs : va_W} {cA cR cL : ClassId} {h aw ar ag az : Nat} {cd : Int32} {w g : Nat → Nat} {sg : Nat → Int32} {z : Nat → Nat} (hok : mdOk w g z) {x : Int32} (hno_x : mIsRow x = nI 0) : xC l y_X2_zeros w_X2_zeros ({ frames := 2, cells := 0, slots := 0, locals := 50 }) D cls0 (ty3 cA cR cL) [.ref h, .int x] (md cA h aw ar ag az cd w g sg z Rs) (some (.int (nI 0))) (fun w1 => w1 = md cA h aw ar ag az (nI 1) w g sg z Rs) 0 0 := by
  refine xC.ofW (cc := b_X2_zeros) (maxL := 2) (ret := some .int) (by decide) rfl (Nat.le_of_ble_eq_true rfl) ?_
  intro p e s m below meth c A ls _ hin hx hb hr hml hown hts hlocks hA hK hP hD hS hl
  have hts : ∀ w ∈ gw, w.before ([.ref h, .int x]).toArray s = true := fun w h => hts w (List.mem_cons_of_mem _ h)
  have hown : s.vm.findClass R_Md = some m.cls := hown
  have hl : lv_has ls 2 [(0, .ref h), (1, .int x)] := hl
  refine lv_aload_n hx hb d_X2_zeros_0 rfl (lv_at hl 0 rfl) ?_
  refine lv_iload_n hx hb d_X2_zeros_1 rfl (lv_at hl 1 rfl) ?_
  refine x_callR (st1 := [.int (mIsRow x), .ref h]) (x_runS (As := [.int x]) (rest := [.ref h]) (nL := 2) ⟨hx, hb, hml, hown, hts⟩ (c_X2_isRow x _) (cwS 1 hts (gw_S k_511 k_512 k_52 k_513) rfl rfl rfl (by decide +kernel) ⟨Nat.le_of_ble_eq_true rfl, Nat.le_of_ble_eq_true rfl⟩) hK hP hD rfl hl.1 rfl (Nat.le_of_ble_eq_true rfl) d_X2_zeros_2 ⟨Nat.zero_le _, Nat.zero_le _⟩) rfl ?_
  rw [hno_x]
  refine n_if_eq (tgt := 12) hx hb d_X2_zeros_5 (by decide) (by omega) (fun _ => ?_) (fun c => absurd c (by decide))
  refine lv_iconst (v := nI 1) hx hb d_X2_zeros_12 (by decide) ?_
  refine x_call (st1 := [.int (mRef (nI 1))]) (x_runV (As := [.int (nI 1)]) (rest := []) (nL := 2) ⟨hx, hb, hml, hown, hts⟩ (c_X2_refuses (nI 1) _) (cwV 1 hts (gw_V k_514 k_516 k_30 k_52 k_517) rfl rfl rfl (by decide +kernel) ⟨Nat.le_of_ble_eq_true rfl, Nat.le_of_ble_eq_true rfl⟩) hK hP hD 0 2 rfl rfl rfl hl.1 rfl (Nat.le_of_ble_eq_true rfl) d_X2_zeros_13 ⟨Nat.zero_le _, Nat.zero_le _⟩) hS (x_sub hD hS hA) (x_sub hD hS hA) rfl (fun w1 H locs hY hP hD hS => ?_)
  subst hY
  rw [mRef_1]
  refine n_if_eq (tgt := 21) hx hb d_X2_zeros_16 (by decide) (by omega) (fun c => absurd c (by decide)) (fun _ => ?_)
  refine lv_iconst (v := nI 0) hx hb d_X2_zeros_19 (by decide) ?_
  exact x_iret hx hb hr hlocks hP hD hS d_X2_zeros_20 rfl rfl
set_option maxHeartbeats 800000 in
set_option maxRecDepth 100000 in
theorem c_X2_length_no {l : Launch} {D : va_G} {Rs : va_W} {cA cR cL : ClassId} {h aw ar ag az : Nat} {cd : Int32} {w g : Nat → Nat} {sg : Nat → Int32} {z : Nat → Nat} (hok : mdOk w g z) {x : Int32} (hno_x : mIsRow x = nI 0) : xC l y_X2_length w_X2_length ({ frames := 3, cells := 0, slots := 0, locals := 66 }) D cls0 (ty3 cA cR cL) [.ref h, .int x] (md cA h aw ar ag az cd w g sg z Rs) (some (.int (nI 0))) (fun w1 => w1 = md cA h aw ar ag az (nI 1) w g sg z Rs) 0 0 := by
  refine xC.ofW (cc := b_X2_length) (maxL := 2) (ret := some .int) (by decide) rfl (Nat.le_of_ble_eq_true rfl) ?_
  intro p e s m below meth c A ls _ hin hx hb hr hml hown hts hlocks hA hK hP hD hS hl
  have hts : ∀ w ∈ gw, w.before ([.ref h, .int x]).toArray s = true := fun w h => hts w (List.mem_cons_of_mem _ h)
  have hown : s.vm.findClass R_Md = some m.cls := hown
  have hl : lv_has ls 2 [(0, .ref h), (1, .int x)] := hl
  refine lv_aload_n hx hb d_X2_length_0 rfl (lv_at hl 0 rfl) ?_
  refine lv_iload_n hx hb d_X2_length_1 rfl (lv_at hl 1 rfl) ?_
  refine x_callR (st1 := [.int (mIsRow x), .ref h]) (x_runS (As := [.int x]) (rest := [.ref h]) (nL := 2) ⟨hx, hb, hml, hown, hts⟩ (c_X2_isRow x _) (cwS 1 hts (gw_S k_511 k_512 k_52 k_513) rfl rfl rfl (by decide +kernel) ⟨Nat.le_of_ble_eq_true rfl, Nat.le_of_ble_eq_true rfl⟩) hK hP hD rfl hl.1 rfl (Nat.le_of_ble_eq_true rfl) d_X2_length_2 ⟨Nat.zero_le _, Nat.zero_le _⟩) rfl ?_
  rw [hno_x]
  refine n_if_eq (tgt := 12) hx hb d_X2_length_5 (by decide) (by omega) (fun _ => ?_) (fun c => absurd c (by decide))
  refine lv_iconst (v := nI 1) hx hb d_X2_length_12 (by decide) ?_
  refine x_call (st1 := [.int (mRef (nI 1))]) (x_runV (As := [.int (nI 1)]) (rest := []) (nL := 2) ⟨hx, hb, hml, hown, hts⟩ (c_X2_refuses (nI 1) _) (cwV 1 hts (gw_V k_514 k_516 k_30 k_52 k_517) rfl rfl rfl (by decide +kernel) ⟨Nat.le_of_ble_eq_true rfl, Nat.le_of_ble_eq_true rfl⟩) hK hP hD 0 2 rfl rfl rfl hl.1 rfl (Nat.le_of_ble_eq_true rfl) d_X2_length_13 ⟨Nat.zero_le _, Nat.zero_le _⟩) hS (x_sub hD hS hA) (x_sub hD hS hA) rfl (fun w1 H locs hY hP hD hS => ?_)
  subst hY
  rw [mRef_1]
  refine n_if_eq (tgt := 21) hx hb d_X2_length_16 (by decide) (by omega) (fun c => absurd c (by decide)) (fun _ => ?_)
  refine lv_iconst (v := nI 0) hx hb d_X2_length_19 (by decide) ?_
  exact x_iret hx hb hr hlocks hP hD hS d_X2_length_20 rfl rfl
set_option maxHeartbeats 800000 in
set_option maxRecDepth 100000 in
theorem c_X2_sign_no {l : Launch} {D : va_G} {Rs : va_W} {cA cR cL : ClassId} {h aw ar ag az : Nat} {cd : Int32} {w g : Nat → Nat} {sg : Nat → Int32} {z : Nat → Nat} (hok : mdOk w g z) {x : Int32} (hno_x : mIsRow x = nI 0) : xC l y_X2_sign w_X2_sign ({ frames := 3, cells := 0, slots := 0, locals := 71 }) D cls0 (ty3 cA cR cL) [.ref h, .int x] (md cA h aw ar ag az cd w g sg z Rs) (some (.int (nI 0))) (fun w1 => w1 = md cA h aw ar ag az (nI 1) w g sg z Rs) 0 0 := by
  refine xC.ofW (cc := b_X2_sign) (maxL := 2) (ret := some .int) (by decide) rfl (Nat.le_of_ble_eq_true rfl) ?_
  intro p e s m below meth c A ls _ hin hx hb hr hml hown hts hlocks hA hK hP hD hS hl
  have hts : ∀ w ∈ gw, w.before ([.ref h, .int x]).toArray s = true := fun w h => hts w (List.mem_cons_of_mem _ h)
  have hown : s.vm.findClass R_Md = some m.cls := hown
  have hl : lv_has ls 2 [(0, .ref h), (1, .int x)] := hl
  refine lv_aload_n hx hb d_X2_sign_0 rfl (lv_at hl 0 rfl) ?_
  refine lv_iload_n hx hb d_X2_sign_1 rfl (lv_at hl 1 rfl) ?_
  refine x_callR (st1 := [.int (mIsRow x), .ref h]) (x_runS (As := [.int x]) (rest := [.ref h]) (nL := 2) ⟨hx, hb, hml, hown, hts⟩ (c_X2_isRow x _) (cwS 1 hts (gw_S k_511 k_512 k_52 k_513) rfl rfl rfl (by decide +kernel) ⟨Nat.le_of_ble_eq_true rfl, Nat.le_of_ble_eq_true rfl⟩) hK hP hD rfl hl.1 rfl (Nat.le_of_ble_eq_true rfl) d_X2_sign_2 ⟨Nat.zero_le _, Nat.zero_le _⟩) rfl ?_
  rw [hno_x]
  refine n_if_eq (tgt := 12) hx hb d_X2_sign_5 (by decide) (by omega) (fun _ => ?_) (fun c => absurd c (by decide))
  refine lv_iconst (v := nI 1) hx hb d_X2_sign_12 (by decide) ?_
  refine x_call (st1 := [.int (mRef (nI 1))]) (x_runV (As := [.int (nI 1)]) (rest := []) (nL := 2) ⟨hx, hb, hml, hown, hts⟩ (c_X2_refuses (nI 1) _) (cwV 1 hts (gw_V k_514 k_516 k_30 k_52 k_517) rfl rfl rfl (by decide +kernel) ⟨Nat.le_of_ble_eq_true rfl, Nat.le_of_ble_eq_true rfl⟩) hK hP hD 0 2 rfl rfl rfl hl.1 rfl (Nat.le_of_ble_eq_true rfl) d_X2_sign_13 ⟨Nat.zero_le _, Nat.zero_le _⟩) hS (x_sub hD hS hA) (x_sub hD hS hA) rfl (fun w1 H locs hY hP hD hS => ?_)
  subst hY
  rw [mRef_1]
  refine n_if_eq (tgt := 23) hx hb d_X2_sign_16 (by decide) (by omega) (fun c => absurd c (by decide)) (fun _ => ?_)
  refine lv_iconst (v := nI 0) hx hb d_X2_sign_19 (by decide) ?_
  refine lv_goto (tgt := 28) hx hb d_X2_sign_20 (by decide) ?_
  exact x_iret hx hb hr hlocks hP hD hS d_X2_sign_28 rfl rfl
set_option maxHeartbeats 800000 in
set_option maxRecDepth 100000 in
theorem c_X2_widen_no {l : Launch} {D : va_G} {Rs : va_W} {cA cR cL : ClassId} {h aw ar ag az : Nat} {cd : Int32} {w g : Nat → Nat} {sg : Nat → Int32} {z : Nat → Nat} (hok : mdOk w g z) {x : Int32} (hno_x : mIsRow x = nI 0) (y : Int32) : xC l y_X2_widen w_X2_widen ({ frames := 4, cells := 0, slots := 0, locals := 93 }) D cls0 (ty3 cA cR cL) [.ref h, .int x, .int y] (md cA h aw ar ag az cd w g sg z Rs) (some (.int (nI 0))) (fun w1 => w1 = md cA h aw ar ag az (nI 1) w g sg z Rs) 0 0 := by
  refine xC.ofW (cc := b_X2_widen) (maxL := 3) (ret := some .boolean) (by decide) rfl (Nat.le_of_ble_eq_true rfl) ?_
  intro p e s m below meth c A ls _ hin hx hb hr hml hown hts hlocks hA hK hP hD hS hl
  have hts : ∀ w ∈ gw, w.before ([.ref h, .int x, .int y]).toArray s = true := fun w h => hts w (List.mem_cons_of_mem _ h)
  have hown : s.vm.findClass R_Md = some m.cls := hown
  have hl : lv_has ls 3 [(0, .ref h), (1, .int x), (2, .int y)] := hl
  refine lv_aload_n hx hb d_X2_widen_0 rfl (lv_at hl 0 rfl) ?_
  refine lv_iload_n hx hb d_X2_widen_1 rfl (lv_at hl 1 rfl) ?_
  refine x_callR (st1 := [.int (mIsRow x), .ref h]) (x_runS (As := [.int x]) (rest := [.ref h]) (nL := 3) ⟨hx, hb, hml, hown, hts⟩ (c_X2_isRow x _) (cwS 1 hts (gw_S k_511 k_512 k_52 k_513) rfl rfl rfl (by decide +kernel) ⟨Nat.le_of_ble_eq_true rfl, Nat.le_of_ble_eq_true rfl⟩) hK hP hD rfl hl.1 rfl (Nat.le_of_ble_eq_true rfl) d_X2_widen_2 ⟨Nat.zero_le _, Nat.zero_le _⟩) rfl ?_
  rw [hno_x]
  refine n_if_ne (tgt := 12) hx hb d_X2_widen_5 (by decide) (by omega) (fun c => absurd c (by decide)) (fun _ => ?_)
  refine lv_iconst (v := nI 1) hx hb d_X2_widen_8 (by decide) ?_
  refine lv_goto (tgt := 29) hx hb d_X2_widen_9 (by decide) ?_
  refine x_call (st1 := [.int (mRef (nI 1))]) (x_runV (As := [.int (nI 1)]) (rest := []) (nL := 3) ⟨hx, hb, hml, hown, hts⟩ (c_X2_refuses (nI 1) _) (cwV 1 hts (gw_V k_514 k_516 k_30 k_52 k_517) rfl rfl rfl (by decide +kernel) ⟨Nat.le_of_ble_eq_true rfl, Nat.le_of_ble_eq_true rfl⟩) hK hP hD 0 2 rfl rfl rfl hl.1 rfl (Nat.le_of_ble_eq_true rfl) d_X2_widen_29 ⟨Nat.zero_le _, Nat.zero_le _⟩) hS (x_sub hD hS hA) (x_sub hD hS hA) rfl (fun w1 H locs hY hP hD hS => ?_)
  subst hY
  rw [mRef_1]
  refine n_if_eq (tgt := 37) hx hb d_X2_widen_32 (by decide) (by omega) (fun c => absurd c (by decide)) (fun _ => ?_)
  refine lv_iconst (v := nI 0) hx hb d_X2_widen_35 (by decide) ?_
  exact x_zret hx hb hr hlocks hP hD hS d_X2_widen_36 (by decide) rfl rfl
set_option maxHeartbeats 800000 in
set_option maxRecDepth 100000 in
theorem c_X2_left_no {l : Launch} {D : va_G} {Rs : va_W} {cA cR cL : ClassId} {h aw ar ag az : Nat} {cd : Int32} {w g : Nat → Nat} {sg : Nat → Int32} {z : Nat → Nat} (hok : mdOk w g z) {x : Int32} (hno_x : mIsRow x = nI 0) (y : Int32) : xC l y_X2_left w_X2_left ({ frames := 5, cells := 0, slots := 0, locals := 115 }) D cls0 (ty3 cA cR cL) [.ref h, .int x, .int y] (md cA h aw ar ag az cd w g sg z Rs) (some (.int (nI 0))) (fun w1 => w1 = md cA h aw ar ag az (nI 1) w g sg z Rs) 0 0 := by
  refine xC.ofW (cc := b_X2_left) (maxL := 5) (ret := some .int) (by decide) rfl (Nat.le_of_ble_eq_true rfl) ?_
  intro p e s m below meth c A ls _ hin hx hb hr hml hown hts hlocks hA hK hP hD hS hl
  have hts : ∀ w ∈ gw, w.before ([.ref h, .int x, .int y]).toArray s = true := fun w h => hts w (List.mem_cons_of_mem _ h)
  have hown : s.vm.findClass R_Md = some m.cls := hown
  have hl : lv_has ls 5 [(0, .ref h), (1, .int x), (2, .int y)] := hl
  refine lv_aload_n hx hb d_X2_left_0 rfl (lv_at hl 0 rfl) ?_
  refine lv_iload_n hx hb d_X2_left_1 rfl (lv_at hl 1 rfl) ?_
  refine x_callR (st1 := [.int (mIsRow x), .ref h]) (x_runS (As := [.int x]) (rest := [.ref h]) (nL := 5) ⟨hx, hb, hml, hown, hts⟩ (c_X2_isRow x _) (cwS 1 hts (gw_S k_511 k_512 k_52 k_513) rfl rfl rfl (by decide +kernel) ⟨Nat.le_of_ble_eq_true rfl, Nat.le_of_ble_eq_true rfl⟩) hK hP hD rfl hl.1 rfl (Nat.le_of_ble_eq_true rfl) d_X2_left_2 ⟨Nat.zero_le _, Nat.zero_le _⟩) rfl ?_
  rw [hno_x]
  refine n_if_ne (tgt := 12) hx hb d_X2_left_5 (by decide) (by omega) (fun c => absurd c (by decide)) (fun _ => ?_)
  refine lv_iconst (v := nI 1) hx hb d_X2_left_8 (by decide) ?_
  refine lv_goto (tgt := 28) hx hb d_X2_left_9 (by decide) ?_
  refine x_call (st1 := [.int (mRef (nI 1))]) (x_runV (As := [.int (nI 1)]) (rest := []) (nL := 5) ⟨hx, hb, hml, hown, hts⟩ (c_X2_refuses (nI 1) _) (cwV 1 hts (gw_V k_514 k_516 k_30 k_52 k_517) rfl rfl rfl (by decide +kernel) ⟨Nat.le_of_ble_eq_true rfl, Nat.le_of_ble_eq_true rfl⟩) hK hP hD 0 2 rfl rfl rfl hl.1 rfl (Nat.le_of_ble_eq_true rfl) d_X2_left_28 ⟨Nat.zero_le _, Nat.zero_le _⟩) hS (x_sub hD hS hA) (x_sub hD hS hA) rfl (fun w1 H locs hY hP hD hS => ?_)
  subst hY
  rw [mRef_1]
  refine n_if_eq (tgt := 36) hx hb d_X2_left_31 (by decide) (by omega) (fun c => absurd c (by decide)) (fun _ => ?_)
  refine lv_iconst (v := nI 0) hx hb d_X2_left_34 (by decide) ?_
  exact x_iret hx hb hr hlocks hP hD hS d_X2_left_35 rfl rfl
set_option maxHeartbeats 800000 in
set_option maxRecDepth 100000 in
theorem c_X2_right_no {l : Launch} {D : va_G} {Rs : va_W} {cA cR cL : ClassId} {h aw ar ag az : Nat} {cd : Int32} {w g : Nat → Nat} {sg : Nat → Int32} {z : Nat → Nat} (hok : mdOk w g z) {x : Int32} (hno_x : mIsRow x = nI 0) (y : Int32) : xC l y_X2_right w_X2_right ({ frames := 5, cells := 0, slots := 0, locals := 115 }) D cls0 (ty3 cA cR cL) [.ref h, .int x, .int y] (md cA h aw ar ag az cd w g sg z Rs) (some (.int (nI 0))) (fun w1 => w1 = md cA h aw ar ag az (nI 1) w g sg z Rs) 0 0 := by
  refine xC.ofW (cc := b_X2_right) (maxL := 3) (ret := some .int) (by decide) rfl (Nat.le_of_ble_eq_true rfl) ?_
  intro p e s m below meth c A ls _ hin hx hb hr hml hown hts hlocks hA hK hP hD hS hl
  have hts : ∀ w ∈ gw, w.before ([.ref h, .int x, .int y]).toArray s = true := fun w h => hts w (List.mem_cons_of_mem _ h)
  have hown : s.vm.findClass R_Md = some m.cls := hown
  have hl : lv_has ls 3 [(0, .ref h), (1, .int x), (2, .int y)] := hl
  refine lv_aload_n hx hb d_X2_right_0 rfl (lv_at hl 0 rfl) ?_
  refine lv_iload_n hx hb d_X2_right_1 rfl (lv_at hl 1 rfl) ?_
  refine x_callR (st1 := [.int (mIsRow x), .ref h]) (x_runS (As := [.int x]) (rest := [.ref h]) (nL := 3) ⟨hx, hb, hml, hown, hts⟩ (c_X2_isRow x _) (cwS 1 hts (gw_S k_511 k_512 k_52 k_513) rfl rfl rfl (by decide +kernel) ⟨Nat.le_of_ble_eq_true rfl, Nat.le_of_ble_eq_true rfl⟩) hK hP hD rfl hl.1 rfl (Nat.le_of_ble_eq_true rfl) d_X2_right_2 ⟨Nat.zero_le _, Nat.zero_le _⟩) rfl ?_
  rw [hno_x]
  refine n_if_ne (tgt := 12) hx hb d_X2_right_5 (by decide) (by omega) (fun c => absurd c (by decide)) (fun _ => ?_)
  refine lv_iconst (v := nI 1) hx hb d_X2_right_8 (by decide) ?_
  refine lv_goto (tgt := 28) hx hb d_X2_right_9 (by decide) ?_
  refine x_call (st1 := [.int (mRef (nI 1))]) (x_runV (As := [.int (nI 1)]) (rest := []) (nL := 3) ⟨hx, hb, hml, hown, hts⟩ (c_X2_refuses (nI 1) _) (cwV 1 hts (gw_V k_514 k_516 k_30 k_52 k_517) rfl rfl rfl (by decide +kernel) ⟨Nat.le_of_ble_eq_true rfl, Nat.le_of_ble_eq_true rfl⟩) hK hP hD 0 2 rfl rfl rfl hl.1 rfl (Nat.le_of_ble_eq_true rfl) d_X2_right_28 ⟨Nat.zero_le _, Nat.zero_le _⟩) hS (x_sub hD hS hA) (x_sub hD hS hA) rfl (fun w1 H locs hY hP hD hS => ?_)
  subst hY
  rw [mRef_1]
  refine n_if_eq (tgt := 36) hx hb d_X2_right_31 (by decide) (by omega) (fun c => absurd c (by decide)) (fun _ => ?_)
  refine lv_iconst (v := nI 0) hx hb d_X2_right_34 (by decide) ?_
  exact x_iret hx hb hr hlocks hP hD hS d_X2_right_35 rfl rfl
set_option maxHeartbeats 800000 in
set_option maxRecDepth 100000 in
theorem c_X2_nearest_no {l : Launch} {D : va_G} {Rs : va_W} {cA cR cL : ClassId} {h aw ar ag az : Nat} {cd : Int32} {w g : Nat → Nat} {sg : Nat → Int32} {z : Nat → Nat} (hok : mdOk w g z) {x : Int32} (hno_x : mIsRow x = nI 0) (y : Int32) : xC l y_X2_nearest w_X2_nearest ({ frames := 5, cells := 0, slots := 0, locals := 115 }) D cls0 (ty3 cA cR cL) [.ref h, .int x, .int y] (md cA h aw ar ag az cd w g sg z Rs) (some (.int (nI 0))) (fun w1 => w1 = md cA h aw ar ag az (nI 1) w g sg z Rs) 0 0 := by
  refine xC.ofW (cc := b_X2_nearest) (maxL := 5) (ret := some .int) (by decide) rfl (Nat.le_of_ble_eq_true rfl) ?_
  intro p e s m below meth c A ls _ hin hx hb hr hml hown hts hlocks hA hK hP hD hS hl
  have hts : ∀ w ∈ gw, w.before ([.ref h, .int x, .int y]).toArray s = true := fun w h => hts w (List.mem_cons_of_mem _ h)
  have hown : s.vm.findClass R_Md = some m.cls := hown
  have hl : lv_has ls 5 [(0, .ref h), (1, .int x), (2, .int y)] := hl
  refine lv_aload_n hx hb d_X2_nearest_0 rfl (lv_at hl 0 rfl) ?_
  refine lv_iload_n hx hb d_X2_nearest_1 rfl (lv_at hl 1 rfl) ?_
  refine x_callR (st1 := [.int (mIsRow x), .ref h]) (x_runS (As := [.int x]) (rest := [.ref h]) (nL := 5) ⟨hx, hb, hml, hown, hts⟩ (c_X2_isRow x _) (cwS 1 hts (gw_S k_511 k_512 k_52 k_513) rfl rfl rfl (by decide +kernel) ⟨Nat.le_of_ble_eq_true rfl, Nat.le_of_ble_eq_true rfl⟩) hK hP hD rfl hl.1 rfl (Nat.le_of_ble_eq_true rfl) d_X2_nearest_2 ⟨Nat.zero_le _, Nat.zero_le _⟩) rfl ?_
  rw [hno_x]
  refine n_if_ne (tgt := 12) hx hb d_X2_nearest_5 (by decide) (by omega) (fun c => absurd c (by decide)) (fun _ => ?_)
  refine lv_iconst (v := nI 1) hx hb d_X2_nearest_8 (by decide) ?_
  refine lv_goto (tgt := 28) hx hb d_X2_nearest_9 (by decide) ?_
  refine x_call (st1 := [.int (mRef (nI 1))]) (x_runV (As := [.int (nI 1)]) (rest := []) (nL := 5) ⟨hx, hb, hml, hown, hts⟩ (c_X2_refuses (nI 1) _) (cwV 1 hts (gw_V k_514 k_516 k_30 k_52 k_517) rfl rfl rfl (by decide +kernel) ⟨Nat.le_of_ble_eq_true rfl, Nat.le_of_ble_eq_true rfl⟩) hK hP hD 0 2 rfl rfl rfl hl.1 rfl (Nat.le_of_ble_eq_true rfl) d_X2_nearest_28 ⟨Nat.zero_le _, Nat.zero_le _⟩) hS (x_sub hD hS hA) (x_sub hD hS hA) rfl (fun w1 H locs hY hP hD hS => ?_)
  subst hY
  rw [mRef_1]
  refine n_if_eq (tgt := 36) hx hb d_X2_nearest_31 (by decide) (by omega) (fun c => absurd c (by decide)) (fun _ => ?_)
  refine lv_iconst (v := nI 0) hx hb d_X2_nearest_34 (by decide) ?_
  exact x_iret hx hb hr hlocks hP hD hS d_X2_nearest_35 rfl rfl
set_option maxHeartbeats 800000 in
set_option maxRecDepth 100000 in
theorem c_X2_divide_no {l : Launch} {D : va_G} {Rs : va_W} {cA cR cL : ClassId} {h aw ar ag az : Nat} {cd : Int32} {w g : Nat → Nat} {sg : Nat → Int32} {z : Nat → Nat} (hok : mdOk w g z) {x : Int32} (hno_x : mIsRow x = nI 0) (v : Int64) : xC l y_X2_divide w_X2_divide ({ frames := 4, cells := 0, slots := 0, locals := 93 }) D cls0 (ty3 cA cR cL) [.ref h, .int x, .long v] (md cA h aw ar ag az cd w g sg z Rs) (some (.long 0)) (fun w1 => w1 = md cA h aw ar ag az (nI 1) w g sg z Rs) 0 0 := by
  refine xC.ofW (cc := b_X2_divide) (maxL := 7) (ret := some .long) (by decide) rfl (Nat.le_of_ble_eq_true rfl) ?_
  intro p e s m below meth c A ls _ hin hx hb hr hml hown hts hlocks hA hK hP hD hS hl
  have hts : ∀ w ∈ gw, w.before ([.ref h, .int x, .long v]).toArray s = true := fun w h => hts w (List.mem_cons_of_mem _ h)
  have hown : s.vm.findClass R_Md = some m.cls := hown
  have hl : lv_has ls 7 [(0, .ref h), (1, .int x), (2, .long v)] := hl
  refine lv_aload_n hx hb d_X2_divide_0 rfl (lv_at hl 0 rfl) ?_
  refine lv_iload_n hx hb d_X2_divide_1 rfl (lv_at hl 1 rfl) ?_
  refine x_callR (st1 := [.int (mIsRow x), .ref h]) (x_runS (As := [.int x]) (rest := [.ref h]) (nL := 7) ⟨hx, hb, hml, hown, hts⟩ (c_X2_isRow x _) (cwS 1 hts (gw_S k_511 k_512 k_52 k_513) rfl rfl rfl (by decide +kernel) ⟨Nat.le_of_ble_eq_true rfl, Nat.le_of_ble_eq_true rfl⟩) hK hP hD rfl hl.1 rfl (Nat.le_of_ble_eq_true rfl) d_X2_divide_2 ⟨Nat.zero_le _, Nat.zero_le _⟩) rfl ?_
  rw [hno_x]
  refine n_if_ne (tgt := 12) hx hb d_X2_divide_5 (by decide) (by omega) (fun c => absurd c (by decide)) (fun _ => ?_)
  refine lv_iconst (v := nI 1) hx hb d_X2_divide_8 (by decide) ?_
  refine lv_goto (tgt := 31) hx hb d_X2_divide_9 (by decide) ?_
  refine x_call (st1 := [.int (mRef (nI 1))]) (x_runV (As := [.int (nI 1)]) (rest := []) (nL := 7) ⟨hx, hb, hml, hown, hts⟩ (c_X2_refuses (nI 1) _) (cwV 1 hts (gw_V k_514 k_516 k_30 k_52 k_517) rfl rfl rfl (by decide +kernel) ⟨Nat.le_of_ble_eq_true rfl, Nat.le_of_ble_eq_true rfl⟩) hK hP hD 0 2 rfl rfl rfl hl.1 rfl (Nat.le_of_ble_eq_true rfl) d_X2_divide_31 ⟨Nat.zero_le _, Nat.zero_le _⟩) hS (x_sub hD hS hA) (x_sub hD hS hA) rfl (fun w1 H locs hY hP hD hS => ?_)
  subst hY
  rw [mRef_1]
  refine n_if_eq (tgt := 39) hx hb d_X2_divide_34 (by decide) (by omega) (fun c => absurd c (by decide)) (fun _ => ?_)
  refine lv_lconst (v := 0) hx hb d_X2_divide_37 (by decide) ?_
  exact x_lret hx hb hr hlocks hP hD hS d_X2_divide_38 rfl rfl
set_option maxHeartbeats 800000 in
set_option maxRecDepth 100000 in
theorem c_X2_put_no {l : Launch} {D : va_G} {Rs : va_W} {cA cR cL : ClassId} {h aw ar ag az : Nat} {cd : Int32} {w g : Nat → Nat} {sg : Nat → Int32} {z : Nat → Nat} (hok : mdOk w g z) {x : Int32} (hno_x : mIsRow x = nI 0) (y u : Int32) : xC l y_X2_put w_X2_put ({ frames := 1, cells := 0, slots := 0, locals := 22 }) D cls0 (ty3 cA cR cL) [.ref h, .int x, .int y, .int u] (md cA h aw ar ag az cd w g sg z Rs) (some (.int (nI 0))) (fun w1 => w1 = md cA h aw ar ag az (nI 1) w g sg z Rs) 0 0 := by
  refine xC.ofW (cc := b_X2_put) (maxL := 5) (ret := some .int) (by decide) rfl (Nat.le_of_ble_eq_true rfl) ?_
  intro p e s m below meth c A ls _ hin hx hb hr hml hown hts hlocks hA hK hP hD hS hl
  have hts : ∀ w ∈ gw, w.before ([.ref h, .int x, .int y, .int u]).toArray s = true := fun w h => hts w (List.mem_cons_of_mem _ h)
  have hown : s.vm.findClass R_Md = some m.cls := hown
  have hl : lv_has ls 5 [(0, .ref h), (1, .int x), (2, .int y), (3, .int u)] := hl
  refine lv_aload_n hx hb d_X2_put_0 rfl (lv_at hl 0 rfl) ?_
  refine lv_iload_n hx hb d_X2_put_1 rfl (lv_at hl 1 rfl) ?_
  refine x_callR (st1 := [.int (mIsRow x), .ref h]) (x_runS (As := [.int x]) (rest := [.ref h]) (nL := 5) ⟨hx, hb, hml, hown, hts⟩ (c_X2_isRow x _) (cwS 1 hts (gw_S k_511 k_512 k_52 k_513) rfl rfl rfl (by decide +kernel) ⟨Nat.le_of_ble_eq_true rfl, Nat.le_of_ble_eq_true rfl⟩) hK hP hD rfl hl.1 rfl (Nat.le_of_ble_eq_true rfl) d_X2_put_2 ⟨Nat.zero_le _, Nat.zero_le _⟩) rfl ?_
  rw [hno_x]
  refine n_if_eq (tgt := 22) hx hb d_X2_put_5 (by decide) (by omega) (fun _ => ?_) (fun c => absurd c (by decide))
  refine lv_iconst (v := nI 1) hx hb d_X2_put_22 (by decide) ?_
  refine lv_goto (tgt := 27) hx hb d_X2_put_23 (by decide) ?_
  refine x_call (st1 := [.int (mRef (nI 1))]) (x_runV (As := [.int (nI 1)]) (rest := []) (nL := 5) ⟨hx, hb, hml, hown, hts⟩ (c_X2_refuses (nI 1) _) (cwV 1 hts (gw_V k_514 k_516 k_30 k_52 k_517) rfl rfl rfl (by decide +kernel) ⟨Nat.le_of_ble_eq_true rfl, Nat.le_of_ble_eq_true rfl⟩) hK hP hD 0 2 rfl rfl rfl hl.1 rfl (Nat.le_of_ble_eq_true rfl) d_X2_put_27 ⟨Nat.zero_le _, Nat.zero_le _⟩) hS (x_sub hD hS hA) (x_sub hD hS hA) rfl (fun w1 H locs hY hP hD hS => ?_)
  subst hY
  rw [mRef_1]
  refine n_if_eq (tgt := 35) hx hb d_X2_put_30 (by decide) (by omega) (fun c => absurd c (by decide)) (fun _ => ?_)
  refine lv_iconst (v := nI 0) hx hb d_X2_put_33 (by decide) ?_
  exact x_iret hx hb hr hlocks hP hD hS d_X2_put_34 rfl rfl
set_option maxHeartbeats 800000 in
set_option maxRecDepth 100000 in
theorem c_X2_limb_no {l : Launch} {D : va_G} {Rs : va_W} {cA cR cL : ClassId} {h aw ar ag az : Nat} {cd : Int32} {w g : Nat → Nat} {sg : Nat → Int32} {z : Nat → Nat} (hok : mdOk w g z) {x : Int32} (hno_x : mIsRow x = nI 0) (y : Int32) : xC l y_X2_limb w_X2_limb ({ frames := 3, cells := 0, slots := 0, locals := 71 }) D cls0 (ty3 cA cR cL) [.ref h, .int x, .int y] (md cA h aw ar ag az cd w g sg z Rs) (some (.int (nI 0))) (fun w1 => w1 = md cA h aw ar ag az (nI 1) w g sg z Rs) 0 0 := by
  refine xC.ofW (cc := b_X2_limb) (maxL := 3) (ret := some .int) (by decide) rfl (Nat.le_of_ble_eq_true rfl) ?_
  intro p e s m below meth c A ls _ hin hx hb hr hml hown hts hlocks hA hK hP hD hS hl
  have hts : ∀ w ∈ gw, w.before ([.ref h, .int x, .int y]).toArray s = true := fun w h => hts w (List.mem_cons_of_mem _ h)
  have hown : s.vm.findClass R_Md = some m.cls := hown
  have hl : lv_has ls 3 [(0, .ref h), (1, .int x), (2, .int y)] := hl
  refine lv_aload_n hx hb d_X2_limb_0 rfl (lv_at hl 0 rfl) ?_
  refine lv_iload_n hx hb d_X2_limb_1 rfl (lv_at hl 1 rfl) ?_
  refine x_callR (st1 := [.int (mIsRow x), .ref h]) (x_runS (As := [.int x]) (rest := [.ref h]) (nL := 3) ⟨hx, hb, hml, hown, hts⟩ (c_X2_isRow x _) (cwS 1 hts (gw_S k_511 k_512 k_52 k_513) rfl rfl rfl (by decide +kernel) ⟨Nat.le_of_ble_eq_true rfl, Nat.le_of_ble_eq_true rfl⟩) hK hP hD rfl hl.1 rfl (Nat.le_of_ble_eq_true rfl) d_X2_limb_2 ⟨Nat.zero_le _, Nat.zero_le _⟩) rfl ?_
  rw [hno_x]
  refine n_if_eq (tgt := 12) hx hb d_X2_limb_5 (by decide) (by omega) (fun _ => ?_) (fun c => absurd c (by decide))
  refine lv_iconst (v := nI 1) hx hb d_X2_limb_12 (by decide) ?_
  refine lv_goto (tgt := 17) hx hb d_X2_limb_13 (by decide) ?_
  refine x_call (st1 := [.int (mRef (nI 1))]) (x_runV (As := [.int (nI 1)]) (rest := []) (nL := 3) ⟨hx, hb, hml, hown, hts⟩ (c_X2_refuses (nI 1) _) (cwV 1 hts (gw_V k_514 k_516 k_30 k_52 k_517) rfl rfl rfl (by decide +kernel) ⟨Nat.le_of_ble_eq_true rfl, Nat.le_of_ble_eq_true rfl⟩) hK hP hD 0 2 rfl rfl rfl hl.1 rfl (Nat.le_of_ble_eq_true rfl) d_X2_limb_17 ⟨Nat.zero_le _, Nat.zero_le _⟩) hS (x_sub hD hS hA) (x_sub hD hS hA) rfl (fun w1 H locs hY hP hD hS => ?_)
  subst hY
  rw [mRef_1]
  refine n_if_eq (tgt := 25) hx hb d_X2_limb_20 (by decide) (by omega) (fun c => absurd c (by decide)) (fun _ => ?_)
  refine lv_iconst (v := nI 0) hx hb d_X2_limb_23 (by decide) ?_
  exact x_iret hx hb hr hlocks hP hD hS d_X2_limb_24 rfl rfl
set_option maxHeartbeats 800000 in
set_option maxRecDepth 100000 in
theorem c_X2_copy_no {l : Launch} {D : va_G} {Rs : va_W} {cA cR cL : ClassId} {h aw ar ag az : Nat} {cd : Int32} {w g : Nat → Nat} {sg : Nat → Int32} {z : Nat → Nat} (hok : mdOk w g z) {x : Int32} (hno_x : mIsRow x = nI 0) (y : Int32) : xC l y_X2_copy w_X2_copy ({ frames := 4, cells := 0, slots := 0, locals := 93 }) D cls0 (ty3 cA cR cL) [.ref h, .int x, .int y] (md cA h aw ar ag az cd w g sg z Rs) (some (.int (nI 0))) (fun w1 => w1 = md cA h aw ar ag az (nI 1) w g sg z Rs) 0 0 := by
  refine xC.ofW (cc := b_X2_copy) (maxL := 3) (ret := some .boolean) (by decide) rfl (Nat.le_of_ble_eq_true rfl) ?_
  intro p e s m below meth c A ls _ hin hx hb hr hml hown hts hlocks hA hK hP hD hS hl
  have hts : ∀ w ∈ gw, w.before ([.ref h, .int x, .int y]).toArray s = true := fun w h => hts w (List.mem_cons_of_mem _ h)
  have hown : s.vm.findClass R_Md = some m.cls := hown
  have hl : lv_has ls 3 [(0, .ref h), (1, .int x), (2, .int y)] := hl
  refine lv_aload_n hx hb d_X2_copy_0 rfl (lv_at hl 0 rfl) ?_
  refine lv_iload_n hx hb d_X2_copy_1 rfl (lv_at hl 1 rfl) ?_
  refine x_callR (st1 := [.int (mIsRow x), .ref h]) (x_runS (As := [.int x]) (rest := [.ref h]) (nL := 3) ⟨hx, hb, hml, hown, hts⟩ (c_X2_isRow x _) (cwS 1 hts (gw_S k_511 k_512 k_52 k_513) rfl rfl rfl (by decide +kernel) ⟨Nat.le_of_ble_eq_true rfl, Nat.le_of_ble_eq_true rfl⟩) hK hP hD rfl hl.1 rfl (Nat.le_of_ble_eq_true rfl) d_X2_copy_2 ⟨Nat.zero_le _, Nat.zero_le _⟩) rfl ?_
  rw [hno_x]
  refine n_if_eq (tgt := 19) hx hb d_X2_copy_5 (by decide) (by omega) (fun _ => ?_) (fun c => absurd c (by decide))
  refine lv_iconst (v := nI 1) hx hb d_X2_copy_19 (by decide) ?_
  refine x_call (st1 := [.int (mRef (nI 1))]) (x_runV (As := [.int (nI 1)]) (rest := []) (nL := 3) ⟨hx, hb, hml, hown, hts⟩ (c_X2_refuses (nI 1) _) (cwV 1 hts (gw_V k_514 k_516 k_30 k_52 k_517) rfl rfl rfl (by decide +kernel) ⟨Nat.le_of_ble_eq_true rfl, Nat.le_of_ble_eq_true rfl⟩) hK hP hD 0 2 rfl rfl rfl hl.1 rfl (Nat.le_of_ble_eq_true rfl) d_X2_copy_20 ⟨Nat.zero_le _, Nat.zero_le _⟩) hS (x_sub hD hS hA) (x_sub hD hS hA) rfl (fun w1 H locs hY hP hD hS => ?_)
  subst hY
  rw [mRef_1]
  refine n_if_eq (tgt := 28) hx hb d_X2_copy_23 (by decide) (by omega) (fun c => absurd c (by decide)) (fun _ => ?_)
  refine lv_iconst (v := nI 0) hx hb d_X2_copy_26 (by decide) ?_
  exact x_zret hx hb hr hlocks hP hD hS d_X2_copy_27 (by decide) rfl rfl
set_option maxHeartbeats 800000 in
set_option maxRecDepth 100000 in
theorem c_X2_together_no {l : Launch} {D : va_G} {Rs : va_W} {cA cR cL : ClassId} {h aw ar ag az : Nat} {cd : Int32} {w g : Nat → Nat} {sg : Nat → Int32} {z : Nat → Nat} (hok : mdOk w g z) {x : Int32} (hno_x : mIsRow x = nI 0) (y : Int32) (f : Nat) : xC l y_X2_together w_X2_together ({ frames := 5, cells := 0, slots := 0, locals := 115 }) D cls0 (ty3 cA cR cL) [.ref h, .int x, .int y, .int (nI f)] (md cA h aw ar ag az cd w g sg z Rs) (some (.int (nI 0))) (fun w1 => w1 = md cA h aw ar ag az (nI 1) w g sg z Rs) 0 0 := by
  refine xC.ofW (cc := b_X2_together) (maxL := 4) (ret := some .int) (by decide) rfl (Nat.le_of_ble_eq_true rfl) ?_
  intro p e s m below meth c A ls _ hin hx hb hr hml hown hts hlocks hA hK hP hD hS hl
  have hts : ∀ w ∈ gw, w.before ([.ref h, .int x, .int y, .int (nI f)]).toArray s = true := fun w h => hts w (List.mem_cons_of_mem _ h)
  have hown : s.vm.findClass R_Md = some m.cls := hown
  have hl : lv_has ls 4 [(0, .ref h), (1, .int x), (2, .int y), (3, .int (nI f))] := hl
  refine lv_aload_n hx hb d_X2_together_0 rfl (lv_at hl 0 rfl) ?_
  refine lv_iload_n hx hb d_X2_together_1 rfl (lv_at hl 1 rfl) ?_
  refine x_callR (st1 := [.int (mIsRow x), .ref h]) (x_runS (As := [.int x]) (rest := [.ref h]) (nL := 4) ⟨hx, hb, hml, hown, hts⟩ (c_X2_isRow x _) (cwS 1 hts (gw_S k_511 k_512 k_52 k_513) rfl rfl rfl (by decide +kernel) ⟨Nat.le_of_ble_eq_true rfl, Nat.le_of_ble_eq_true rfl⟩) hK hP hD rfl hl.1 rfl (Nat.le_of_ble_eq_true rfl) d_X2_together_2 ⟨Nat.zero_le _, Nat.zero_le _⟩) rfl ?_
  rw [hno_x]
  refine n_if_eq (tgt := 19) hx hb d_X2_together_5 (by decide) (by omega) (fun _ => ?_) (fun c => absurd c (by decide))
  refine lv_iconst (v := nI 1) hx hb d_X2_together_19 (by decide) ?_
  refine x_call (st1 := [.int (mRef (nI 1))]) (x_runV (As := [.int (nI 1)]) (rest := []) (nL := 4) ⟨hx, hb, hml, hown, hts⟩ (c_X2_refuses (nI 1) _) (cwV 1 hts (gw_V k_514 k_516 k_30 k_52 k_517) rfl rfl rfl (by decide +kernel) ⟨Nat.le_of_ble_eq_true rfl, Nat.le_of_ble_eq_true rfl⟩) hK hP hD 0 2 rfl rfl rfl hl.1 rfl (Nat.le_of_ble_eq_true rfl) d_X2_together_20 ⟨Nat.zero_le _, Nat.zero_le _⟩) hS (x_sub hD hS hA) (x_sub hD hS hA) rfl (fun w1 H locs hY hP hD hS => ?_)
  subst hY
  rw [mRef_1]
  refine n_if_eq (tgt := 28) hx hb d_X2_together_23 (by decide) (by omega) (fun c => absurd c (by decide)) (fun _ => ?_)
  refine lv_iconst (v := nI 0) hx hb d_X2_together_26 (by decide) ?_
  exact x_iret hx hb hr hlocks hP hD hS d_X2_together_27 rfl rfl
set_option maxHeartbeats 800000 in
set_option maxRecDepth 100000 in
theorem c_X2_compare_no {l : Launch} {D : va_G} {Rs : va_W} {cA cR cL : ClassId} {h aw ar ag az : Nat} {cd : Int32} {w g : Nat → Nat} {sg : Nat → Int32} {z : Nat → Nat} (hok : mdOk w g z) {x : Int32} (hno_x : mIsRow x = nI 0) (y : Int32) : xC l y_X2_compare w_X2_compare ({ frames := 2, cells := 0, slots := 0, locals := 54 }) D cls0 (ty3 cA cR cL) [.ref h, .int x, .int y] (md cA h aw ar ag az cd w g sg z Rs) (some (.int (nI 0))) (fun w1 => w1 = md cA h aw ar ag az (nI 1) w g sg z Rs) 0 0 := by
  refine xC.ofW (cc := b_X2_compare) (maxL := 3) (ret := some .int) (by decide) rfl (Nat.le_of_ble_eq_true rfl) ?_
  intro p e s m below meth c A ls _ hin hx hb hr hml hown hts hlocks hA hK hP hD hS hl
  have hts : ∀ w ∈ gw, w.before ([.ref h, .int x, .int y]).toArray s = true := fun w h => hts w (List.mem_cons_of_mem _ h)
  have hown : s.vm.findClass R_Md = some m.cls := hown
  have hl : lv_has ls 3 [(0, .ref h), (1, .int x), (2, .int y)] := hl
  refine lv_aload_n hx hb d_X2_compare_0 rfl (lv_at hl 0 rfl) ?_
  refine lv_iload_n hx hb d_X2_compare_1 rfl (lv_at hl 1 rfl) ?_
  refine x_callR (st1 := [.int (mIsRow x), .ref h]) (x_runS (As := [.int x]) (rest := [.ref h]) (nL := 3) ⟨hx, hb, hml, hown, hts⟩ (c_X2_isRow x _) (cwS 1 hts (gw_S k_511 k_512 k_52 k_513) rfl rfl rfl (by decide +kernel) ⟨Nat.le_of_ble_eq_true rfl, Nat.le_of_ble_eq_true rfl⟩) hK hP hD rfl hl.1 rfl (Nat.le_of_ble_eq_true rfl) d_X2_compare_2 ⟨Nat.zero_le _, Nat.zero_le _⟩) rfl ?_
  rw [hno_x]
  refine n_if_eq (tgt := 19) hx hb d_X2_compare_5 (by decide) (by omega) (fun _ => ?_) (fun c => absurd c (by decide))
  refine lv_iconst (v := nI 1) hx hb d_X2_compare_19 (by decide) ?_
  refine x_call (st1 := [.int (mRef (nI 1))]) (x_runV (As := [.int (nI 1)]) (rest := []) (nL := 3) ⟨hx, hb, hml, hown, hts⟩ (c_X2_refuses (nI 1) _) (cwV 1 hts (gw_V k_514 k_516 k_30 k_52 k_517) rfl rfl rfl (by decide +kernel) ⟨Nat.le_of_ble_eq_true rfl, Nat.le_of_ble_eq_true rfl⟩) hK hP hD 0 2 rfl rfl rfl hl.1 rfl (Nat.le_of_ble_eq_true rfl) d_X2_compare_20 ⟨Nat.zero_le _, Nat.zero_le _⟩) hS (x_sub hD hS hA) (x_sub hD hS hA) rfl (fun w1 H locs hY hP hD hS => ?_)
  subst hY
  rw [mRef_1]
  refine n_if_eq (tgt := 28) hx hb d_X2_compare_23 (by decide) (by omega) (fun c => absurd c (by decide)) (fun _ => ?_)
  refine lv_iconst (v := nI 0) hx hb d_X2_compare_26 (by decide) ?_
  exact x_iret hx hb hr hlocks hP hD hS d_X2_compare_27 rfl rfl
set_option maxHeartbeats 800000 in
set_option maxRecDepth 100000 in
theorem c_X2_product_no {l : Launch} {D : va_G} {Rs : va_W} {cA cR cL : ClassId} {h aw ar ag az : Nat} {cd : Int32} {w g : Nat → Nat} {sg : Nat → Int32} {z : Nat → Nat} (hok : mdOk w g z) {x : Int32} (hno_x : mIsRow x = nI 0) (y u : Int32) (f : Nat) : xC l y_X2_product w_X2_product ({ frames := 5, cells := 0, slots := 0, locals := 115 }) D cls0 (ty3 cA cR cL) [.ref h, .int x, .int y, .int u, .int (nI f)] (md cA h aw ar ag az cd w g sg z Rs) (some (.int (nI 0))) (fun w1 => w1 = md cA h aw ar ag az (nI 1) w g sg z Rs) 0 0 := by
  refine xC.ofW (cc := b_X2_product) (maxL := 5) (ret := some .int) (by decide) rfl (Nat.le_of_ble_eq_true rfl) ?_
  intro p e s m below meth c A ls _ hin hx hb hr hml hown hts hlocks hA hK hP hD hS hl
  have hts : ∀ w ∈ gw, w.before ([.ref h, .int x, .int y, .int u, .int (nI f)]).toArray s = true := fun w h => hts w (List.mem_cons_of_mem _ h)
  have hown : s.vm.findClass R_Md = some m.cls := hown
  have hl : lv_has ls 5 [(0, .ref h), (1, .int x), (2, .int y), (3, .int u), (4, .int (nI f))] := hl
  refine lv_aload_n hx hb d_X2_product_0 rfl (lv_at hl 0 rfl) ?_
  refine lv_iload_n hx hb d_X2_product_1 rfl (lv_at hl 1 rfl) ?_
  refine x_callR (st1 := [.int (mIsRow x), .ref h]) (x_runS (As := [.int x]) (rest := [.ref h]) (nL := 5) ⟨hx, hb, hml, hown, hts⟩ (c_X2_isRow x _) (cwS 1 hts (gw_S k_511 k_512 k_52 k_513) rfl rfl rfl (by decide +kernel) ⟨Nat.le_of_ble_eq_true rfl, Nat.le_of_ble_eq_true rfl⟩) hK hP hD rfl hl.1 rfl (Nat.le_of_ble_eq_true rfl) d_X2_product_2 ⟨Nat.zero_le _, Nat.zero_le _⟩) rfl ?_
  rw [hno_x]
  refine n_if_eq (tgt := 22) hx hb d_X2_product_5 (by decide) (by omega) (fun _ => ?_) (fun c => absurd c (by decide))
  refine lv_iconst (v := nI 1) hx hb d_X2_product_22 (by decide) ?_
  refine lv_goto (tgt := 41) hx hb d_X2_product_23 (by decide) ?_
  refine x_call (st1 := [.int (mRef (nI 1))]) (x_runV (As := [.int (nI 1)]) (rest := []) (nL := 5) ⟨hx, hb, hml, hown, hts⟩ (c_X2_refuses (nI 1) _) (cwV 1 hts (gw_V k_514 k_516 k_30 k_52 k_517) rfl rfl rfl (by decide +kernel) ⟨Nat.le_of_ble_eq_true rfl, Nat.le_of_ble_eq_true rfl⟩) hK hP hD 0 2 rfl rfl rfl hl.1 rfl (Nat.le_of_ble_eq_true rfl) d_X2_product_41 ⟨Nat.zero_le _, Nat.zero_le _⟩) hS (x_sub hD hS hA) (x_sub hD hS hA) rfl (fun w1 H locs hY hP hD hS => ?_)
  subst hY
  rw [mRef_1]
  refine n_if_eq (tgt := 49) hx hb d_X2_product_44 (by decide) (by omega) (fun c => absurd c (by decide)) (fun _ => ?_)
  refine lv_iconst (v := nI 0) hx hb d_X2_product_47 (by decide) ?_
  exact x_iret hx hb hr hlocks hP hD hS d_X2_product_48 rfl rfl
set_option maxHeartbeats 800000 in
set_option maxRecDepth 100000 in
theorem c_X2_copy_no2 {l : Launch} {D : va_G} {Rs : va_W} {cA cR cL : ClassId} {h aw ar ag az : Nat} {cd : Int32} {w g : Nat → Nat} {sg : Nat → Int32} {z : Nat → Nat} (hok : mdOk w g z) {r : Nat} (hr64 : r < 64) {y : Int32} (hno_y : mIsRow y = nI 0) : xC l y_X2_copy w_X2_copy ({ frames := 4, cells := 0, slots := 0, locals := 93 }) D cls0 (ty3 cA cR cL) [.ref h, .int (nI r), .int y] (md cA h aw ar ag az cd w g sg z Rs) (some (.int (nI 0))) (fun w1 => w1 = md cA h aw ar ag az (nI 1) w g sg z Rs) 0 0 := by
  refine xC.ofW (cc := b_X2_copy) (maxL := 3) (ret := some .boolean) (by decide) rfl (Nat.le_of_ble_eq_true rfl) ?_
  intro p e s m below meth c A ls _ hin hx hb hr hml hown hts hlocks hA hK hP hD hS hl
  have hts : ∀ w ∈ gw, w.before ([.ref h, .int (nI r), .int y]).toArray s = true := fun w h => hts w (List.mem_cons_of_mem _ h)
  have hown : s.vm.findClass R_Md = some m.cls := hown
  have hl : lv_has ls 3 [(0, .ref h), (1, .int (nI r)), (2, .int y)] := hl
  refine lv_aload_n hx hb d_X2_copy_0 rfl (lv_at hl 0 rfl) ?_
  refine lv_iload_n hx hb d_X2_copy_1 rfl (lv_at hl 1 rfl) ?_
  refine x_callR (st1 := [.int (mIsRow (nI r)), .ref h]) (x_runS (As := [.int (nI r)]) (rest := [.ref h]) (nL := 3) ⟨hx, hb, hml, hown, hts⟩ (c_X2_isRow (nI r) _) (cwS 1 hts (gw_S k_511 k_512 k_52 k_513) rfl rfl rfl (by decide +kernel) ⟨Nat.le_of_ble_eq_true rfl, Nat.le_of_ble_eq_true rfl⟩) hK hP hD rfl hl.1 rfl (Nat.le_of_ble_eq_true rfl) d_X2_copy_2 ⟨Nat.zero_le _, Nat.zero_le _⟩) rfl ?_
  rw [mIsRow_1 (show r < 64 by omega)]
  refine n_if_eq (tgt := 19) hx hb d_X2_copy_5 (by decide) (by omega) (fun c => absurd c (by decide)) (fun _ => ?_)
  refine lv_iload_n hx hb d_X2_copy_8 rfl (lv_at hl 2 rfl) ?_
  refine x_callR (st1 := [.int (mIsRow y), .ref h]) (x_runS (As := [.int y]) (rest := [.ref h]) (nL := 3) ⟨hx, hb, hml, hown, hts⟩ (c_X2_isRow y _) (cwS 1 hts (gw_S k_511 k_512 k_52 k_513) rfl rfl rfl (by decide +kernel) ⟨Nat.le_of_ble_eq_true rfl, Nat.le_of_ble_eq_true rfl⟩) hK hP hD rfl hl.1 rfl (Nat.le_of_ble_eq_true rfl) d_X2_copy_9 ⟨Nat.zero_le _, Nat.zero_le _⟩) rfl ?_
  rw [hno_y]
  refine n_if_eq (tgt := 19) hx hb d_X2_copy_12 (by decide) (by omega) (fun _ => ?_) (fun c => absurd c (by decide))
  refine lv_iconst (v := nI 1) hx hb d_X2_copy_19 (by decide) ?_
  refine x_call (st1 := [.int (mRef (nI 1))]) (x_runV (As := [.int (nI 1)]) (rest := []) (nL := 3) ⟨hx, hb, hml, hown, hts⟩ (c_X2_refuses (nI 1) _) (cwV 1 hts (gw_V k_514 k_516 k_30 k_52 k_517) rfl rfl rfl (by decide +kernel) ⟨Nat.le_of_ble_eq_true rfl, Nat.le_of_ble_eq_true rfl⟩) hK hP hD 0 2 rfl rfl rfl hl.1 rfl (Nat.le_of_ble_eq_true rfl) d_X2_copy_20 ⟨Nat.zero_le _, Nat.zero_le _⟩) hS (x_sub hD hS hA) (x_sub hD hS hA) rfl (fun w1 H locs hY hP hD hS => ?_)
  subst hY
  rw [mRef_1]
  refine n_if_eq (tgt := 28) hx hb d_X2_copy_23 (by decide) (by omega) (fun c => absurd c (by decide)) (fun _ => ?_)
  refine lv_iconst (v := nI 0) hx hb d_X2_copy_26 (by decide) ?_
  exact x_zret hx hb hr hlocks hP hD hS d_X2_copy_27 (by decide) rfl rfl
set_option maxHeartbeats 800000 in
set_option maxRecDepth 100000 in
theorem c_X2_together_no2 {l : Launch} {D : va_G} {Rs : va_W} {cA cR cL : ClassId} {h aw ar ag az : Nat} {cd : Int32} {w g : Nat → Nat} {sg : Nat → Int32} {z : Nat → Nat} (hok : mdOk w g z) {r : Nat} (hr64 : r < 64) {y : Int32} (hno_y : mIsRow y = nI 0) (f : Nat) : xC l y_X2_together w_X2_together ({ frames := 5, cells := 0, slots := 0, locals := 115 }) D cls0 (ty3 cA cR cL) [.ref h, .int (nI r), .int y, .int (nI f)] (md cA h aw ar ag az cd w g sg z Rs) (some (.int (nI 0))) (fun w1 => w1 = md cA h aw ar ag az (nI 1) w g sg z Rs) 0 0 := by
  refine xC.ofW (cc := b_X2_together) (maxL := 4) (ret := some .int) (by decide) rfl (Nat.le_of_ble_eq_true rfl) ?_
  intro p e s m below meth c A ls _ hin hx hb hr hml hown hts hlocks hA hK hP hD hS hl
  have hts : ∀ w ∈ gw, w.before ([.ref h, .int (nI r), .int y, .int (nI f)]).toArray s = true := fun w h => hts w (List.mem_cons_of_mem _ h)
  have hown : s.vm.findClass R_Md = some m.cls := hown
  have hl : lv_has ls 4 [(0, .ref h), (1, .int (nI r)), (2, .int y), (3, .int (nI f))] := hl
  refine lv_aload_n hx hb d_X2_together_0 rfl (lv_at hl 0 rfl) ?_
  refine lv_iload_n hx hb d_X2_together_1 rfl (lv_at hl 1 rfl) ?_
  refine x_callR (st1 := [.int (mIsRow (nI r)), .ref h]) (x_runS (As := [.int (nI r)]) (rest := [.ref h]) (nL := 4) ⟨hx, hb, hml, hown, hts⟩ (c_X2_isRow (nI r) _) (cwS 1 hts (gw_S k_511 k_512 k_52 k_513) rfl rfl rfl (by decide +kernel) ⟨Nat.le_of_ble_eq_true rfl, Nat.le_of_ble_eq_true rfl⟩) hK hP hD rfl hl.1 rfl (Nat.le_of_ble_eq_true rfl) d_X2_together_2 ⟨Nat.zero_le _, Nat.zero_le _⟩) rfl ?_
  rw [mIsRow_1 (show r < 64 by omega)]
  refine n_if_eq (tgt := 19) hx hb d_X2_together_5 (by decide) (by omega) (fun c => absurd c (by decide)) (fun _ => ?_)
  refine lv_iload_n hx hb d_X2_together_8 rfl (lv_at hl 2 rfl) ?_
  refine x_callR (st1 := [.int (mIsRow y), .ref h]) (x_runS (As := [.int y]) (rest := [.ref h]) (nL := 4) ⟨hx, hb, hml, hown, hts⟩ (c_X2_isRow y _) (cwS 1 hts (gw_S k_511 k_512 k_52 k_513) rfl rfl rfl (by decide +kernel) ⟨Nat.le_of_ble_eq_true rfl, Nat.le_of_ble_eq_true rfl⟩) hK hP hD rfl hl.1 rfl (Nat.le_of_ble_eq_true rfl) d_X2_together_9 ⟨Nat.zero_le _, Nat.zero_le _⟩) rfl ?_
  rw [hno_y]
  refine n_if_eq (tgt := 19) hx hb d_X2_together_12 (by decide) (by omega) (fun _ => ?_) (fun c => absurd c (by decide))
  refine lv_iconst (v := nI 1) hx hb d_X2_together_19 (by decide) ?_
  refine x_call (st1 := [.int (mRef (nI 1))]) (x_runV (As := [.int (nI 1)]) (rest := []) (nL := 4) ⟨hx, hb, hml, hown, hts⟩ (c_X2_refuses (nI 1) _) (cwV 1 hts (gw_V k_514 k_516 k_30 k_52 k_517) rfl rfl rfl (by decide +kernel) ⟨Nat.le_of_ble_eq_true rfl, Nat.le_of_ble_eq_true rfl⟩) hK hP hD 0 2 rfl rfl rfl hl.1 rfl (Nat.le_of_ble_eq_true rfl) d_X2_together_20 ⟨Nat.zero_le _, Nat.zero_le _⟩) hS (x_sub hD hS hA) (x_sub hD hS hA) rfl (fun w1 H locs hY hP hD hS => ?_)
  subst hY
  rw [mRef_1]
  refine n_if_eq (tgt := 28) hx hb d_X2_together_23 (by decide) (by omega) (fun c => absurd c (by decide)) (fun _ => ?_)
  refine lv_iconst (v := nI 0) hx hb d_X2_together_26 (by decide) ?_
  exact x_iret hx hb hr hlocks hP hD hS d_X2_together_27 rfl rfl
set_option maxHeartbeats 800000 in
set_option maxRecDepth 100000 in
theorem c_X2_compare_no2 {l : Launch} {D : va_G} {Rs : va_W} {cA cR cL : ClassId} {h aw ar ag az : Nat} {cd : Int32} {w g : Nat → Nat} {sg : Nat → Int32} {z : Nat → Nat} (hok : mdOk w g z) {r : Nat} (hr64 : r < 64) {y : Int32} (hno_y : mIsRow y = nI 0) : xC l y_X2_compare w_X2_compare ({ frames := 2, cells := 0, slots := 0, locals := 54 }) D cls0 (ty3 cA cR cL) [.ref h, .int (nI r), .int y] (md cA h aw ar ag az cd w g sg z Rs) (some (.int (nI 0))) (fun w1 => w1 = md cA h aw ar ag az (nI 1) w g sg z Rs) 0 0 := by
  refine xC.ofW (cc := b_X2_compare) (maxL := 3) (ret := some .int) (by decide) rfl (Nat.le_of_ble_eq_true rfl) ?_
  intro p e s m below meth c A ls _ hin hx hb hr hml hown hts hlocks hA hK hP hD hS hl
  have hts : ∀ w ∈ gw, w.before ([.ref h, .int (nI r), .int y]).toArray s = true := fun w h => hts w (List.mem_cons_of_mem _ h)
  have hown : s.vm.findClass R_Md = some m.cls := hown
  have hl : lv_has ls 3 [(0, .ref h), (1, .int (nI r)), (2, .int y)] := hl
  refine lv_aload_n hx hb d_X2_compare_0 rfl (lv_at hl 0 rfl) ?_
  refine lv_iload_n hx hb d_X2_compare_1 rfl (lv_at hl 1 rfl) ?_
  refine x_callR (st1 := [.int (mIsRow (nI r)), .ref h]) (x_runS (As := [.int (nI r)]) (rest := [.ref h]) (nL := 3) ⟨hx, hb, hml, hown, hts⟩ (c_X2_isRow (nI r) _) (cwS 1 hts (gw_S k_511 k_512 k_52 k_513) rfl rfl rfl (by decide +kernel) ⟨Nat.le_of_ble_eq_true rfl, Nat.le_of_ble_eq_true rfl⟩) hK hP hD rfl hl.1 rfl (Nat.le_of_ble_eq_true rfl) d_X2_compare_2 ⟨Nat.zero_le _, Nat.zero_le _⟩) rfl ?_
  rw [mIsRow_1 (show r < 64 by omega)]
  refine n_if_eq (tgt := 19) hx hb d_X2_compare_5 (by decide) (by omega) (fun c => absurd c (by decide)) (fun _ => ?_)
  refine lv_iload_n hx hb d_X2_compare_8 rfl (lv_at hl 2 rfl) ?_
  refine x_callR (st1 := [.int (mIsRow y), .ref h]) (x_runS (As := [.int y]) (rest := [.ref h]) (nL := 3) ⟨hx, hb, hml, hown, hts⟩ (c_X2_isRow y _) (cwS 1 hts (gw_S k_511 k_512 k_52 k_513) rfl rfl rfl (by decide +kernel) ⟨Nat.le_of_ble_eq_true rfl, Nat.le_of_ble_eq_true rfl⟩) hK hP hD rfl hl.1 rfl (Nat.le_of_ble_eq_true rfl) d_X2_compare_9 ⟨Nat.zero_le _, Nat.zero_le _⟩) rfl ?_
  rw [hno_y]
  refine n_if_eq (tgt := 19) hx hb d_X2_compare_12 (by decide) (by omega) (fun _ => ?_) (fun c => absurd c (by decide))
  refine lv_iconst (v := nI 1) hx hb d_X2_compare_19 (by decide) ?_
  refine x_call (st1 := [.int (mRef (nI 1))]) (x_runV (As := [.int (nI 1)]) (rest := []) (nL := 3) ⟨hx, hb, hml, hown, hts⟩ (c_X2_refuses (nI 1) _) (cwV 1 hts (gw_V k_514 k_516 k_30 k_52 k_517) rfl rfl rfl (by decide +kernel) ⟨Nat.le_of_ble_eq_true rfl, Nat.le_of_ble_eq_true rfl⟩) hK hP hD 0 2 rfl rfl rfl hl.1 rfl (Nat.le_of_ble_eq_true rfl) d_X2_compare_20 ⟨Nat.zero_le _, Nat.zero_le _⟩) hS (x_sub hD hS hA) (x_sub hD hS hA) rfl (fun w1 H locs hY hP hD hS => ?_)
  subst hY
  rw [mRef_1]
  refine n_if_eq (tgt := 28) hx hb d_X2_compare_23 (by decide) (by omega) (fun c => absurd c (by decide)) (fun _ => ?_)
  refine lv_iconst (v := nI 0) hx hb d_X2_compare_26 (by decide) ?_
  exact x_iret hx hb hr hlocks hP hD hS d_X2_compare_27 rfl rfl
set_option maxHeartbeats 800000 in
set_option maxRecDepth 100000 in
theorem c_X2_product_no2 {l : Launch} {D : va_G} {Rs : va_W} {cA cR cL : ClassId} {h aw ar ag az : Nat} {cd : Int32} {w g : Nat → Nat} {sg : Nat → Int32} {z : Nat → Nat} (hok : mdOk w g z) {r : Nat} (hr64 : r < 64) {y : Int32} (hno_y : mIsRow y = nI 0) (u : Int32) (f : Nat) : xC l y_X2_product w_X2_product ({ frames := 5, cells := 0, slots := 0, locals := 115 }) D cls0 (ty3 cA cR cL) [.ref h, .int (nI r), .int y, .int u, .int (nI f)] (md cA h aw ar ag az cd w g sg z Rs) (some (.int (nI 0))) (fun w1 => w1 = md cA h aw ar ag az (nI 1) w g sg z Rs) 0 0 := by
  refine xC.ofW (cc := b_X2_product) (maxL := 5) (ret := some .int) (by decide) rfl (Nat.le_of_ble_eq_true rfl) ?_
  intro p e s m below meth c A ls _ hin hx hb hr hml hown hts hlocks hA hK hP hD hS hl
  have hts : ∀ w ∈ gw, w.before ([.ref h, .int (nI r), .int y, .int u, .int (nI f)]).toArray s = true := fun w h => hts w (List.mem_cons_of_mem _ h)
  have hown : s.vm.findClass R_Md = some m.cls := hown
  have hl : lv_has ls 5 [(0, .ref h), (1, .int (nI r)), (2, .int y), (3, .int u), (4, .int (nI f))] := hl
  refine lv_aload_n hx hb d_X2_product_0 rfl (lv_at hl 0 rfl) ?_
  refine lv_iload_n hx hb d_X2_product_1 rfl (lv_at hl 1 rfl) ?_
  refine x_callR (st1 := [.int (mIsRow (nI r)), .ref h]) (x_runS (As := [.int (nI r)]) (rest := [.ref h]) (nL := 5) ⟨hx, hb, hml, hown, hts⟩ (c_X2_isRow (nI r) _) (cwS 1 hts (gw_S k_511 k_512 k_52 k_513) rfl rfl rfl (by decide +kernel) ⟨Nat.le_of_ble_eq_true rfl, Nat.le_of_ble_eq_true rfl⟩) hK hP hD rfl hl.1 rfl (Nat.le_of_ble_eq_true rfl) d_X2_product_2 ⟨Nat.zero_le _, Nat.zero_le _⟩) rfl ?_
  rw [mIsRow_1 (show r < 64 by omega)]
  refine n_if_eq (tgt := 22) hx hb d_X2_product_5 (by decide) (by omega) (fun c => absurd c (by decide)) (fun _ => ?_)
  refine lv_iload_n hx hb d_X2_product_8 rfl (lv_at hl 2 rfl) ?_
  refine x_callR (st1 := [.int (mIsRow y), .ref h]) (x_runS (As := [.int y]) (rest := [.ref h]) (nL := 5) ⟨hx, hb, hml, hown, hts⟩ (c_X2_isRow y _) (cwS 1 hts (gw_S k_511 k_512 k_52 k_513) rfl rfl rfl (by decide +kernel) ⟨Nat.le_of_ble_eq_true rfl, Nat.le_of_ble_eq_true rfl⟩) hK hP hD rfl hl.1 rfl (Nat.le_of_ble_eq_true rfl) d_X2_product_9 ⟨Nat.zero_le _, Nat.zero_le _⟩) rfl ?_
  rw [hno_y]
  refine n_if_eq (tgt := 22) hx hb d_X2_product_12 (by decide) (by omega) (fun _ => ?_) (fun c => absurd c (by decide))
  refine lv_iconst (v := nI 1) hx hb d_X2_product_22 (by decide) ?_
  refine lv_goto (tgt := 41) hx hb d_X2_product_23 (by decide) ?_
  refine x_call (st1 := [.int (mRef (nI 1))]) (x_runV (As := [.int (nI 1)]) (rest := []) (nL := 5) ⟨hx, hb, hml, hown, hts⟩ (c_X2_refuses (nI 1) _) (cwV 1 hts (gw_V k_514 k_516 k_30 k_52 k_517) rfl rfl rfl (by decide +kernel) ⟨Nat.le_of_ble_eq_true rfl, Nat.le_of_ble_eq_true rfl⟩) hK hP hD 0 2 rfl rfl rfl hl.1 rfl (Nat.le_of_ble_eq_true rfl) d_X2_product_41 ⟨Nat.zero_le _, Nat.zero_le _⟩) hS (x_sub hD hS hA) (x_sub hD hS hA) rfl (fun w1 H locs hY hP hD hS => ?_)
  subst hY
  rw [mRef_1]
  refine n_if_eq (tgt := 49) hx hb d_X2_product_44 (by decide) (by omega) (fun c => absurd c (by decide)) (fun _ => ?_)
  refine lv_iconst (v := nI 0) hx hb d_X2_product_47 (by decide) ?_
  exact x_iret hx hb hr hlocks hP hD hS d_X2_product_48 rfl rfl
set_option maxHeartbeats 800000 in
set_option maxRecDepth 100000 in
theorem c_X2_product_no3 {l : Launch} {D : va_G} {Rs : va_W} {cA cR cL : ClassId} {h aw ar ag az : Nat} {cd : Int32} {w g : Nat → Nat} {sg : Nat → Int32} {z : Nat → Nat} (hok : mdOk w g z) {r a : Nat} (hr64 : r < 64) (ha64 : a < 64) {u : Int32} (hno_u : mIsRow u = nI 0) (f : Nat) : xC l y_X2_product w_X2_product ({ frames := 5, cells := 0, slots := 0, locals := 115 }) D cls0 (ty3 cA cR cL) [.ref h, .int (nI r), .int (nI a), .int u, .int (nI f)] (md cA h aw ar ag az cd w g sg z Rs) (some (.int (nI 0))) (fun w1 => w1 = md cA h aw ar ag az (nI 1) w g sg z Rs) 0 0 := by
  refine xC.ofW (cc := b_X2_product) (maxL := 5) (ret := some .int) (by decide) rfl (Nat.le_of_ble_eq_true rfl) ?_
  intro p e s m below meth c A ls _ hin hx hb hr hml hown hts hlocks hA hK hP hD hS hl
  have hts : ∀ w ∈ gw, w.before ([.ref h, .int (nI r), .int (nI a), .int u, .int (nI f)]).toArray s = true := fun w h => hts w (List.mem_cons_of_mem _ h)
  have hown : s.vm.findClass R_Md = some m.cls := hown
  have hl : lv_has ls 5 [(0, .ref h), (1, .int (nI r)), (2, .int (nI a)), (3, .int u), (4, .int (nI f))] := hl
  refine lv_aload_n hx hb d_X2_product_0 rfl (lv_at hl 0 rfl) ?_
  refine lv_iload_n hx hb d_X2_product_1 rfl (lv_at hl 1 rfl) ?_
  refine x_callR (st1 := [.int (mIsRow (nI r)), .ref h]) (x_runS (As := [.int (nI r)]) (rest := [.ref h]) (nL := 5) ⟨hx, hb, hml, hown, hts⟩ (c_X2_isRow (nI r) _) (cwS 1 hts (gw_S k_511 k_512 k_52 k_513) rfl rfl rfl (by decide +kernel) ⟨Nat.le_of_ble_eq_true rfl, Nat.le_of_ble_eq_true rfl⟩) hK hP hD rfl hl.1 rfl (Nat.le_of_ble_eq_true rfl) d_X2_product_2 ⟨Nat.zero_le _, Nat.zero_le _⟩) rfl ?_
  rw [mIsRow_1 (show r < 64 by omega)]
  refine n_if_eq (tgt := 22) hx hb d_X2_product_5 (by decide) (by omega) (fun c => absurd c (by decide)) (fun _ => ?_)
  refine lv_iload_n hx hb d_X2_product_8 rfl (lv_at hl 2 rfl) ?_
  refine x_callR (st1 := [.int (mIsRow (nI a)), .ref h]) (x_runS (As := [.int (nI a)]) (rest := [.ref h]) (nL := 5) ⟨hx, hb, hml, hown, hts⟩ (c_X2_isRow (nI a) _) (cwS 1 hts (gw_S k_511 k_512 k_52 k_513) rfl rfl rfl (by decide +kernel) ⟨Nat.le_of_ble_eq_true rfl, Nat.le_of_ble_eq_true rfl⟩) hK hP hD rfl hl.1 rfl (Nat.le_of_ble_eq_true rfl) d_X2_product_9 ⟨Nat.zero_le _, Nat.zero_le _⟩) rfl ?_
  rw [mIsRow_1 (show a < 64 by omega)]
  refine n_if_eq (tgt := 22) hx hb d_X2_product_12 (by decide) (by omega) (fun c => absurd c (by decide)) (fun _ => ?_)
  refine lv_iload_n hx hb d_X2_product_15 rfl (lv_at hl 3 rfl) ?_
  refine x_callR (st1 := [.int (mIsRow u), .ref h]) (x_runS (As := [.int u]) (rest := [.ref h]) (nL := 5) ⟨hx, hb, hml, hown, hts⟩ (c_X2_isRow u _) (cwS 1 hts (gw_S k_511 k_512 k_52 k_513) rfl rfl rfl (by decide +kernel) ⟨Nat.le_of_ble_eq_true rfl, Nat.le_of_ble_eq_true rfl⟩) hK hP hD rfl hl.1 rfl (Nat.le_of_ble_eq_true rfl) d_X2_product_16 ⟨Nat.zero_le _, Nat.zero_le _⟩) rfl ?_
  rw [hno_u]
  refine n_if_ne (tgt := 26) hx hb d_X2_product_19 (by decide) (by omega) (fun c => absurd c (by decide)) (fun _ => ?_)
  refine lv_iconst (v := nI 1) hx hb d_X2_product_22 (by decide) ?_
  refine lv_goto (tgt := 41) hx hb d_X2_product_23 (by decide) ?_
  refine x_call (st1 := [.int (mRef (nI 1))]) (x_runV (As := [.int (nI 1)]) (rest := []) (nL := 5) ⟨hx, hb, hml, hown, hts⟩ (c_X2_refuses (nI 1) _) (cwV 1 hts (gw_V k_514 k_516 k_30 k_52 k_517) rfl rfl rfl (by decide +kernel) ⟨Nat.le_of_ble_eq_true rfl, Nat.le_of_ble_eq_true rfl⟩) hK hP hD 0 2 rfl rfl rfl hl.1 rfl (Nat.le_of_ble_eq_true rfl) d_X2_product_41 ⟨Nat.zero_le _, Nat.zero_le _⟩) hS (x_sub hD hS hA) (x_sub hD hS hA) rfl (fun w1 H locs hY hP hD hS => ?_)
  subst hY
  rw [mRef_1]
  refine n_if_eq (tgt := 49) hx hb d_X2_product_44 (by decide) (by omega) (fun c => absurd c (by decide)) (fun _ => ?_)
  refine lv_iconst (v := nI 0) hx hb d_X2_product_47 (by decide) ?_
  exact x_iret hx hb hr hlocks hP hD hS d_X2_product_48 rfl rfl
set_option maxHeartbeats 800000 in
set_option maxRecDepth 100000 in
theorem c_X2_product_no4 {l : Launch} {D : va_G} {Rs : va_W} {cA cR cL : ClassId} {h aw ar ag az : Nat} {cd : Int32} {w g : Nat → Nat} {sg : Nat → Int32} {z : Nat → Nat} (hok : mdOk w g z) {r a u : Nat} (hr64 : r < 64) (ha64 : a < 64) (hu64 : u < 64) (hra : r = a) (f : Nat) : xC l y_X2_product w_X2_product ({ frames := 5, cells := 0, slots := 0, locals := 115 }) D cls0 (ty3 cA cR cL) [.ref h, .int (nI r), .int (nI a), .int (nI u), .int (nI f)] (md cA h aw ar ag az cd w g sg z Rs) (some (.int (nI 0))) (fun w1 => w1 = md cA h aw ar ag az (nI 2) w g sg z Rs) 0 0 := by
  refine xC.ofW (cc := b_X2_product) (maxL := 5) (ret := some .int) (by decide) rfl (Nat.le_of_ble_eq_true rfl) ?_
  intro p e s m below meth c A ls _ hin hx hb hr hml hown hts hlocks hA hK hP hD hS hl
  have hts : ∀ w ∈ gw, w.before ([.ref h, .int (nI r), .int (nI a), .int (nI u), .int (nI f)]).toArray s = true := fun w h => hts w (List.mem_cons_of_mem _ h)
  have hown : s.vm.findClass R_Md = some m.cls := hown
  have hl : lv_has ls 5 [(0, .ref h), (1, .int (nI r)), (2, .int (nI a)), (3, .int (nI u)), (4, .int (nI f))] := hl
  refine lv_aload_n hx hb d_X2_product_0 rfl (lv_at hl 0 rfl) ?_
  refine lv_iload_n hx hb d_X2_product_1 rfl (lv_at hl 1 rfl) ?_
  refine x_callR (st1 := [.int (mIsRow (nI r)), .ref h]) (x_runS (As := [.int (nI r)]) (rest := [.ref h]) (nL := 5) ⟨hx, hb, hml, hown, hts⟩ (c_X2_isRow (nI r) _) (cwS 1 hts (gw_S k_511 k_512 k_52 k_513) rfl rfl rfl (by decide +kernel) ⟨Nat.le_of_ble_eq_true rfl, Nat.le_of_ble_eq_true rfl⟩) hK hP hD rfl hl.1 rfl (Nat.le_of_ble_eq_true rfl) d_X2_product_2 ⟨Nat.zero_le _, Nat.zero_le _⟩) rfl ?_
  rw [mIsRow_1 (show r < 64 by omega)]
  refine n_if_eq (tgt := 22) hx hb d_X2_product_5 (by decide) (by omega) (fun c => absurd c (by decide)) (fun _ => ?_)
  refine lv_iload_n hx hb d_X2_product_8 rfl (lv_at hl 2 rfl) ?_
  refine x_callR (st1 := [.int (mIsRow (nI a)), .ref h]) (x_runS (As := [.int (nI a)]) (rest := [.ref h]) (nL := 5) ⟨hx, hb, hml, hown, hts⟩ (c_X2_isRow (nI a) _) (cwS 1 hts (gw_S k_511 k_512 k_52 k_513) rfl rfl rfl (by decide +kernel) ⟨Nat.le_of_ble_eq_true rfl, Nat.le_of_ble_eq_true rfl⟩) hK hP hD rfl hl.1 rfl (Nat.le_of_ble_eq_true rfl) d_X2_product_9 ⟨Nat.zero_le _, Nat.zero_le _⟩) rfl ?_
  rw [mIsRow_1 (show a < 64 by omega)]
  refine n_if_eq (tgt := 22) hx hb d_X2_product_12 (by decide) (by omega) (fun c => absurd c (by decide)) (fun _ => ?_)
  refine lv_iload_n hx hb d_X2_product_15 rfl (lv_at hl 3 rfl) ?_
  refine x_callR (st1 := [.int (mIsRow (nI u)), .ref h]) (x_runS (As := [.int (nI u)]) (rest := [.ref h]) (nL := 5) ⟨hx, hb, hml, hown, hts⟩ (c_X2_isRow (nI u) _) (cwS 1 hts (gw_S k_511 k_512 k_52 k_513) rfl rfl rfl (by decide +kernel) ⟨Nat.le_of_ble_eq_true rfl, Nat.le_of_ble_eq_true rfl⟩) hK hP hD rfl hl.1 rfl (Nat.le_of_ble_eq_true rfl) d_X2_product_16 ⟨Nat.zero_le _, Nat.zero_le _⟩) rfl ?_
  rw [mIsRow_1 (show u < 64 by omega)]
  refine n_if_ne (tgt := 26) hx hb d_X2_product_19 (by decide) (by omega) (fun _ => ?_) (fun c => absurd c (by decide))
  refine lv_iload_n hx hb d_X2_product_26 rfl (lv_at hl 1 rfl) ?_
  refine lv_iload_n hx hb d_X2_product_27 rfl (lv_at hl 2 rfl) ?_
  refine n_icmp_eq (tgt := 36) hx hb d_X2_product_28 (by decide) (by omega) (by omega) (fun _ => ?_) (fun c9 => absurd c9 (by omega))
  refine lv_iconst (v := nI 2) hx hb d_X2_product_36 (by decide) ?_
  refine lv_goto (tgt := 41) hx hb d_X2_product_37 (by decide) ?_
  refine x_call (st1 := [.int (mRef (nI 2))]) (x_runV (As := [.int (nI 2)]) (rest := []) (nL := 5) ⟨hx, hb, hml, hown, hts⟩ (c_X2_refuses (nI 2) _) (cwV 1 hts (gw_V k_514 k_516 k_30 k_52 k_517) rfl rfl rfl (by decide +kernel) ⟨Nat.le_of_ble_eq_true rfl, Nat.le_of_ble_eq_true rfl⟩) hK hP hD 0 2 rfl rfl rfl hl.1 rfl (Nat.le_of_ble_eq_true rfl) d_X2_product_41 ⟨Nat.zero_le _, Nat.zero_le _⟩) hS (x_sub hD hS hA) (x_sub hD hS hA) rfl (fun w1 H locs hY hP hD hS => ?_)
  subst hY
  rw [mRef_2]
  refine n_if_eq (tgt := 49) hx hb d_X2_product_44 (by decide) (by omega) (fun c => absurd c (by decide)) (fun _ => ?_)
  refine lv_iconst (v := nI 0) hx hb d_X2_product_47 (by decide) ?_
  exact x_iret hx hb hr hlocks hP hD hS d_X2_product_48 rfl rfl
set_option maxHeartbeats 800000 in
set_option maxRecDepth 100000 in
theorem c_X2_product_no5 {l : Launch} {D : va_G} {Rs : va_W} {cA cR cL : ClassId} {h aw ar ag az : Nat} {cd : Int32} {w g : Nat → Nat} {sg : Nat → Int32} {z : Nat → Nat} (hok : mdOk w g z) {r a u : Nat} (hr64 : r < 64) (ha64 : a < 64) (hu64 : u < 64) (hra : r ≠ a) (hru : r = u) (f : Nat) : xC l y_X2_product w_X2_product ({ frames := 5, cells := 0, slots := 0, locals := 115 }) D cls0 (ty3 cA cR cL) [.ref h, .int (nI r), .int (nI a), .int (nI u), .int (nI f)] (md cA h aw ar ag az cd w g sg z Rs) (some (.int (nI 0))) (fun w1 => w1 = md cA h aw ar ag az (nI 2) w g sg z Rs) 0 0 := by
  refine xC.ofW (cc := b_X2_product) (maxL := 5) (ret := some .int) (by decide) rfl (Nat.le_of_ble_eq_true rfl) ?_
  intro p e s m below meth c A ls _ hin hx hb hr hml hown hts hlocks hA hK hP hD hS hl
  have hts : ∀ w ∈ gw, w.before ([.ref h, .int (nI r), .int (nI a), .int (nI u), .int (nI f)]).toArray s = true := fun w h => hts w (List.mem_cons_of_mem _ h)
  have hown : s.vm.findClass R_Md = some m.cls := hown
  have hl : lv_has ls 5 [(0, .ref h), (1, .int (nI r)), (2, .int (nI a)), (3, .int (nI u)), (4, .int (nI f))] := hl
  refine lv_aload_n hx hb d_X2_product_0 rfl (lv_at hl 0 rfl) ?_
  refine lv_iload_n hx hb d_X2_product_1 rfl (lv_at hl 1 rfl) ?_
  refine x_callR (st1 := [.int (mIsRow (nI r)), .ref h]) (x_runS (As := [.int (nI r)]) (rest := [.ref h]) (nL := 5) ⟨hx, hb, hml, hown, hts⟩ (c_X2_isRow (nI r) _) (cwS 1 hts (gw_S k_511 k_512 k_52 k_513) rfl rfl rfl (by decide +kernel) ⟨Nat.le_of_ble_eq_true rfl, Nat.le_of_ble_eq_true rfl⟩) hK hP hD rfl hl.1 rfl (Nat.le_of_ble_eq_true rfl) d_X2_product_2 ⟨Nat.zero_le _, Nat.zero_le _⟩) rfl ?_
  rw [mIsRow_1 (show r < 64 by omega)]
  refine n_if_eq (tgt := 22) hx hb d_X2_product_5 (by decide) (by omega) (fun c => absurd c (by decide)) (fun _ => ?_)
  refine lv_iload_n hx hb d_X2_product_8 rfl (lv_at hl 2 rfl) ?_
  refine x_callR (st1 := [.int (mIsRow (nI a)), .ref h]) (x_runS (As := [.int (nI a)]) (rest := [.ref h]) (nL := 5) ⟨hx, hb, hml, hown, hts⟩ (c_X2_isRow (nI a) _) (cwS 1 hts (gw_S k_511 k_512 k_52 k_513) rfl rfl rfl (by decide +kernel) ⟨Nat.le_of_ble_eq_true rfl, Nat.le_of_ble_eq_true rfl⟩) hK hP hD rfl hl.1 rfl (Nat.le_of_ble_eq_true rfl) d_X2_product_9 ⟨Nat.zero_le _, Nat.zero_le _⟩) rfl ?_
  rw [mIsRow_1 (show a < 64 by omega)]
  refine n_if_eq (tgt := 22) hx hb d_X2_product_12 (by decide) (by omega) (fun c => absurd c (by decide)) (fun _ => ?_)
  refine lv_iload_n hx hb d_X2_product_15 rfl (lv_at hl 3 rfl) ?_
  refine x_callR (st1 := [.int (mIsRow (nI u)), .ref h]) (x_runS (As := [.int (nI u)]) (rest := [.ref h]) (nL := 5) ⟨hx, hb, hml, hown, hts⟩ (c_X2_isRow (nI u) _) (cwS 1 hts (gw_S k_511 k_512 k_52 k_513) rfl rfl rfl (by decide +kernel) ⟨Nat.le_of_ble_eq_true rfl, Nat.le_of_ble_eq_true rfl⟩) hK hP hD rfl hl.1 rfl (Nat.le_of_ble_eq_true rfl) d_X2_product_16 ⟨Nat.zero_le _, Nat.zero_le _⟩) rfl ?_
  rw [mIsRow_1 (show u < 64 by omega)]
  refine n_if_ne (tgt := 26) hx hb d_X2_product_19 (by decide) (by omega) (fun _ => ?_) (fun c => absurd c (by decide))
  refine lv_iload_n hx hb d_X2_product_26 rfl (lv_at hl 1 rfl) ?_
  refine lv_iload_n hx hb d_X2_product_27 rfl (lv_at hl 2 rfl) ?_
  refine n_icmp_eq (tgt := 36) hx hb d_X2_product_28 (by decide) (by omega) (by omega) (fun c9 => absurd c9 (by omega)) (fun _ => ?_)
  refine lv_iload_n hx hb d_X2_product_31 rfl (lv_at hl 1 rfl) ?_
  refine lv_iload_n hx hb d_X2_product_32 rfl (lv_at hl 3 rfl) ?_
  refine n_icmp_ne (tgt := 40) hx hb d_X2_product_33 (by decide) (by omega) (by omega) (fun c9 => absurd c9 (by omega)) (fun _ => ?_)
  refine lv_iconst (v := nI 2) hx hb d_X2_product_36 (by decide) ?_
  refine lv_goto (tgt := 41) hx hb d_X2_product_37 (by decide) ?_
  refine x_call (st1 := [.int (mRef (nI 2))]) (x_runV (As := [.int (nI 2)]) (rest := []) (nL := 5) ⟨hx, hb, hml, hown, hts⟩ (c_X2_refuses (nI 2) _) (cwV 1 hts (gw_V k_514 k_516 k_30 k_52 k_517) rfl rfl rfl (by decide +kernel) ⟨Nat.le_of_ble_eq_true rfl, Nat.le_of_ble_eq_true rfl⟩) hK hP hD 0 2 rfl rfl rfl hl.1 rfl (Nat.le_of_ble_eq_true rfl) d_X2_product_41 ⟨Nat.zero_le _, Nat.zero_le _⟩) hS (x_sub hD hS hA) (x_sub hD hS hA) rfl (fun w1 H locs hY hP hD hS => ?_)
  subst hY
  rw [mRef_2]
  refine n_if_eq (tgt := 49) hx hb d_X2_product_44 (by decide) (by omega) (fun c => absurd c (by decide)) (fun _ => ?_)
  refine lv_iconst (v := nI 0) hx hb d_X2_product_47 (by decide) ?_
  exact x_iret hx hb hr hlocks hP hD hS d_X2_product_48 rfl rfl
set_option maxHeartbeats 800000 in
set_option maxRecDepth 100000 in
theorem c_X2_widen_no2 {l : Launch} {D : va_G} {Rs : va_W} {cA cR cL : ClassId} {h aw ar ag az : Nat} {cd : Int32} {w g : Nat → Nat} {sg : Nat → Int32} {z : Nat → Nat} (hok : mdOk w g z) {r : Nat} (hr64 : r < 64) {y : Int32} (hy1 : y < (nI 1)) : xC l y_X2_widen w_X2_widen ({ frames := 4, cells := 0, slots := 0, locals := 93 }) D cls0 (ty3 cA cR cL) [.ref h, .int (nI r), .int y] (md cA h aw ar ag az cd w g sg z Rs) (some (.int (nI 0))) (fun w1 => w1 = md cA h aw ar ag az (nI 2) w g sg z Rs) 0 0 := by
  refine xC.ofW (cc := b_X2_widen) (maxL := 3) (ret := some .boolean) (by decide) rfl (Nat.le_of_ble_eq_true rfl) ?_
  intro p e s m below meth c A ls _ hin hx hb hr hml hown hts hlocks hA hK hP hD hS hl
  have hts : ∀ w ∈ gw, w.before ([.ref h, .int (nI r), .int y]).toArray s = true := fun w h => hts w (List.mem_cons_of_mem _ h)
  have hown : s.vm.findClass R_Md = some m.cls := hown
  have hl : lv_has ls 3 [(0, .ref h), (1, .int (nI r)), (2, .int y)] := hl
  refine lv_aload_n hx hb d_X2_widen_0 rfl (lv_at hl 0 rfl) ?_
  refine lv_iload_n hx hb d_X2_widen_1 rfl (lv_at hl 1 rfl) ?_
  refine x_callR (st1 := [.int (mIsRow (nI r)), .ref h]) (x_runS (As := [.int (nI r)]) (rest := [.ref h]) (nL := 3) ⟨hx, hb, hml, hown, hts⟩ (c_X2_isRow (nI r) _) (cwS 1 hts (gw_S k_511 k_512 k_52 k_513) rfl rfl rfl (by decide +kernel) ⟨Nat.le_of_ble_eq_true rfl, Nat.le_of_ble_eq_true rfl⟩) hK hP hD rfl hl.1 rfl (Nat.le_of_ble_eq_true rfl) d_X2_widen_2 ⟨Nat.zero_le _, Nat.zero_le _⟩) rfl ?_
  rw [mIsRow_1 (show r < 64 by omega)]
  refine n_if_ne (tgt := 12) hx hb d_X2_widen_5 (by decide) (by omega) (fun _ => ?_) (fun c => absurd c (by decide))
  refine lv_iload_n hx hb d_X2_widen_12 rfl (lv_at hl 2 rfl) ?_
  refine lv_iconst (v := nI 1) hx hb d_X2_widen_13 (by decide) ?_
  refine lv_icmp_lt (tgt := 24) hx hb d_X2_widen_14 (by decide) (fun _ => ?_) (fun c9 => absurd hy1 c9)
  refine lv_iconst (v := nI 2) hx hb d_X2_widen_24 (by decide) ?_
  refine lv_goto (tgt := 29) hx hb d_X2_widen_25 (by decide) ?_
  refine x_call (st1 := [.int (mRef (nI 2))]) (x_runV (As := [.int (nI 2)]) (rest := []) (nL := 3) ⟨hx, hb, hml, hown, hts⟩ (c_X2_refuses (nI 2) _) (cwV 1 hts (gw_V k_514 k_516 k_30 k_52 k_517) rfl rfl rfl (by decide +kernel) ⟨Nat.le_of_ble_eq_true rfl, Nat.le_of_ble_eq_true rfl⟩) hK hP hD 0 2 rfl rfl rfl hl.1 rfl (Nat.le_of_ble_eq_true rfl) d_X2_widen_29 ⟨Nat.zero_le _, Nat.zero_le _⟩) hS (x_sub hD hS hA) (x_sub hD hS hA) rfl (fun w1 H locs hY hP hD hS => ?_)
  subst hY
  rw [mRef_2]
  refine n_if_eq (tgt := 37) hx hb d_X2_widen_32 (by decide) (by omega) (fun c => absurd c (by decide)) (fun _ => ?_)
  refine lv_iconst (v := nI 0) hx hb d_X2_widen_35 (by decide) ?_
  exact x_zret hx hb hr hlocks hP hD hS d_X2_widen_36 (by decide) rfl rfl
set_option maxHeartbeats 800000 in
set_option maxRecDepth 100000 in
theorem c_X2_widen_no3 {l : Launch} {D : va_G} {Rs : va_W} {cA cR cL : ClassId} {h aw ar ag az : Nat} {cd : Int32} {w g : Nat → Nat} {sg : Nat → Int32} {z : Nat → Nat} (hok : mdOk w g z) {r : Nat} (hr64 : r < 64) {y : Int32} (hy1 : ¬ y < (nI 1)) (hy2 : ¬ y ≤ (nI 256)) : xC l y_X2_widen w_X2_widen ({ frames := 4, cells := 0, slots := 0, locals := 93 }) D cls0 (ty3 cA cR cL) [.ref h, .int (nI r), .int y] (md cA h aw ar ag az cd w g sg z Rs) (some (.int (nI 0))) (fun w1 => w1 = md cA h aw ar ag az (nI 2) w g sg z Rs) 0 0 := by
  refine xC.ofW (cc := b_X2_widen) (maxL := 3) (ret := some .boolean) (by decide) rfl (Nat.le_of_ble_eq_true rfl) ?_
  intro p e s m below meth c A ls _ hin hx hb hr hml hown hts hlocks hA hK hP hD hS hl
  have hts : ∀ w ∈ gw, w.before ([.ref h, .int (nI r), .int y]).toArray s = true := fun w h => hts w (List.mem_cons_of_mem _ h)
  have hown : s.vm.findClass R_Md = some m.cls := hown
  have hl : lv_has ls 3 [(0, .ref h), (1, .int (nI r)), (2, .int y)] := hl
  refine lv_aload_n hx hb d_X2_widen_0 rfl (lv_at hl 0 rfl) ?_
  refine lv_iload_n hx hb d_X2_widen_1 rfl (lv_at hl 1 rfl) ?_
  refine x_callR (st1 := [.int (mIsRow (nI r)), .ref h]) (x_runS (As := [.int (nI r)]) (rest := [.ref h]) (nL := 3) ⟨hx, hb, hml, hown, hts⟩ (c_X2_isRow (nI r) _) (cwS 1 hts (gw_S k_511 k_512 k_52 k_513) rfl rfl rfl (by decide +kernel) ⟨Nat.le_of_ble_eq_true rfl, Nat.le_of_ble_eq_true rfl⟩) hK hP hD rfl hl.1 rfl (Nat.le_of_ble_eq_true rfl) d_X2_widen_2 ⟨Nat.zero_le _, Nat.zero_le _⟩) rfl ?_
  rw [mIsRow_1 (show r < 64 by omega)]
  refine n_if_ne (tgt := 12) hx hb d_X2_widen_5 (by decide) (by omega) (fun _ => ?_) (fun c => absurd c (by decide))
  refine lv_iload_n hx hb d_X2_widen_12 rfl (lv_at hl 2 rfl) ?_
  refine lv_iconst (v := nI 1) hx hb d_X2_widen_13 (by decide) ?_
  refine lv_icmp_lt (tgt := 24) hx hb d_X2_widen_14 (by decide) (fun c9 => absurd c9 hy1) (fun _ => ?_)
  refine lv_iload_n hx hb d_X2_widen_17 rfl (lv_at hl 2 rfl) ?_
  refine lv_sipush (v := nI 256) hx hb d_X2_widen_18 (by decide) ?_
  refine lv_icmp_le (tgt := 28) hx hb d_X2_widen_21 (by decide) (fun c9 => absurd c9 hy2) (fun _ => ?_)
  refine lv_iconst (v := nI 2) hx hb d_X2_widen_24 (by decide) ?_
  refine lv_goto (tgt := 29) hx hb d_X2_widen_25 (by decide) ?_
  refine x_call (st1 := [.int (mRef (nI 2))]) (x_runV (As := [.int (nI 2)]) (rest := []) (nL := 3) ⟨hx, hb, hml, hown, hts⟩ (c_X2_refuses (nI 2) _) (cwV 1 hts (gw_V k_514 k_516 k_30 k_52 k_517) rfl rfl rfl (by decide +kernel) ⟨Nat.le_of_ble_eq_true rfl, Nat.le_of_ble_eq_true rfl⟩) hK hP hD 0 2 rfl rfl rfl hl.1 rfl (Nat.le_of_ble_eq_true rfl) d_X2_widen_29 ⟨Nat.zero_le _, Nat.zero_le _⟩) hS (x_sub hD hS hA) (x_sub hD hS hA) rfl (fun w1 H locs hY hP hD hS => ?_)
  subst hY
  rw [mRef_2]
  refine n_if_eq (tgt := 37) hx hb d_X2_widen_32 (by decide) (by omega) (fun c => absurd c (by decide)) (fun _ => ?_)
  refine lv_iconst (v := nI 0) hx hb d_X2_widen_35 (by decide) ?_
  exact x_zret hx hb hr hlocks hP hD hS d_X2_widen_36 (by decide) rfl rfl
set_option maxHeartbeats 800000 in
set_option maxRecDepth 100000 in
theorem c_X2_left_no2 {l : Launch} {D : va_G} {Rs : va_W} {cA cR cL : ClassId} {h aw ar ag az : Nat} {cd : Int32} {w g : Nat → Nat} {sg : Nat → Int32} {z : Nat → Nat} (hok : mdOk w g z) {r : Nat} (hr64 : r < 64) {y : Int32} (hy1 : y < 0) : xC l y_X2_left w_X2_left ({ frames := 5, cells := 0, slots := 0, locals := 115 }) D cls0 (ty3 cA cR cL) [.ref h, .int (nI r), .int y] (md cA h aw ar ag az cd w g sg z Rs) (some (.int (nI 0))) (fun w1 => w1 = md cA h aw ar ag az (nI 2) w g sg z Rs) 0 0 := by
  refine xC.ofW (cc := b_X2_left) (maxL := 5) (ret := some .int) (by decide) rfl (Nat.le_of_ble_eq_true rfl) ?_
  intro p e s m below meth c A ls _ hin hx hb hr hml hown hts hlocks hA hK hP hD hS hl
  have hts : ∀ w ∈ gw, w.before ([.ref h, .int (nI r), .int y]).toArray s = true := fun w h => hts w (List.mem_cons_of_mem _ h)
  have hown : s.vm.findClass R_Md = some m.cls := hown
  have hl : lv_has ls 5 [(0, .ref h), (1, .int (nI r)), (2, .int y)] := hl
  refine lv_aload_n hx hb d_X2_left_0 rfl (lv_at hl 0 rfl) ?_
  refine lv_iload_n hx hb d_X2_left_1 rfl (lv_at hl 1 rfl) ?_
  refine x_callR (st1 := [.int (mIsRow (nI r)), .ref h]) (x_runS (As := [.int (nI r)]) (rest := [.ref h]) (nL := 5) ⟨hx, hb, hml, hown, hts⟩ (c_X2_isRow (nI r) _) (cwS 1 hts (gw_S k_511 k_512 k_52 k_513) rfl rfl rfl (by decide +kernel) ⟨Nat.le_of_ble_eq_true rfl, Nat.le_of_ble_eq_true rfl⟩) hK hP hD rfl hl.1 rfl (Nat.le_of_ble_eq_true rfl) d_X2_left_2 ⟨Nat.zero_le _, Nat.zero_le _⟩) rfl ?_
  rw [mIsRow_1 (show r < 64 by omega)]
  refine n_if_ne (tgt := 12) hx hb d_X2_left_5 (by decide) (by omega) (fun _ => ?_) (fun c => absurd c (by decide))
  refine lv_iload_n hx hb d_X2_left_12 rfl (lv_at hl 2 rfl) ?_
  refine lv_if_lt (tgt := 23) hx hb d_X2_left_13 (by decide) (fun _ => ?_) (fun c9 => absurd hy1 c9)
  refine lv_iconst (v := nI 2) hx hb d_X2_left_23 (by decide) ?_
  refine lv_goto (tgt := 28) hx hb d_X2_left_24 (by decide) ?_
  refine x_call (st1 := [.int (mRef (nI 2))]) (x_runV (As := [.int (nI 2)]) (rest := []) (nL := 5) ⟨hx, hb, hml, hown, hts⟩ (c_X2_refuses (nI 2) _) (cwV 1 hts (gw_V k_514 k_516 k_30 k_52 k_517) rfl rfl rfl (by decide +kernel) ⟨Nat.le_of_ble_eq_true rfl, Nat.le_of_ble_eq_true rfl⟩) hK hP hD 0 2 rfl rfl rfl hl.1 rfl (Nat.le_of_ble_eq_true rfl) d_X2_left_28 ⟨Nat.zero_le _, Nat.zero_le _⟩) hS (x_sub hD hS hA) (x_sub hD hS hA) rfl (fun w1 H locs hY hP hD hS => ?_)
  subst hY
  rw [mRef_2]
  refine n_if_eq (tgt := 36) hx hb d_X2_left_31 (by decide) (by omega) (fun c => absurd c (by decide)) (fun _ => ?_)
  refine lv_iconst (v := nI 0) hx hb d_X2_left_34 (by decide) ?_
  exact x_iret hx hb hr hlocks hP hD hS d_X2_left_35 rfl rfl
set_option maxHeartbeats 800000 in
set_option maxRecDepth 100000 in
theorem c_X2_left_no3 {l : Launch} {D : va_G} {Rs : va_W} {cA cR cL : ClassId} {h aw ar ag az : Nat} {cd : Int32} {w g : Nat → Nat} {sg : Nat → Int32} {z : Nat → Nat} (hok : mdOk w g z) {r : Nat} (hr64 : r < 64) {y : Int32} (hy1 : ¬ y < 0) (hy2 : ¬ y ≤ (nI 8192)) : xC l y_X2_left w_X2_left ({ frames := 5, cells := 0, slots := 0, locals := 115 }) D cls0 (ty3 cA cR cL) [.ref h, .int (nI r), .int y] (md cA h aw ar ag az cd w g sg z Rs) (some (.int (nI 0))) (fun w1 => w1 = md cA h aw ar ag az (nI 2) w g sg z Rs) 0 0 := by
  refine xC.ofW (cc := b_X2_left) (maxL := 5) (ret := some .int) (by decide) rfl (Nat.le_of_ble_eq_true rfl) ?_
  intro p e s m below meth c A ls _ hin hx hb hr hml hown hts hlocks hA hK hP hD hS hl
  have hts : ∀ w ∈ gw, w.before ([.ref h, .int (nI r), .int y]).toArray s = true := fun w h => hts w (List.mem_cons_of_mem _ h)
  have hown : s.vm.findClass R_Md = some m.cls := hown
  have hl : lv_has ls 5 [(0, .ref h), (1, .int (nI r)), (2, .int y)] := hl
  refine lv_aload_n hx hb d_X2_left_0 rfl (lv_at hl 0 rfl) ?_
  refine lv_iload_n hx hb d_X2_left_1 rfl (lv_at hl 1 rfl) ?_
  refine x_callR (st1 := [.int (mIsRow (nI r)), .ref h]) (x_runS (As := [.int (nI r)]) (rest := [.ref h]) (nL := 5) ⟨hx, hb, hml, hown, hts⟩ (c_X2_isRow (nI r) _) (cwS 1 hts (gw_S k_511 k_512 k_52 k_513) rfl rfl rfl (by decide +kernel) ⟨Nat.le_of_ble_eq_true rfl, Nat.le_of_ble_eq_true rfl⟩) hK hP hD rfl hl.1 rfl (Nat.le_of_ble_eq_true rfl) d_X2_left_2 ⟨Nat.zero_le _, Nat.zero_le _⟩) rfl ?_
  rw [mIsRow_1 (show r < 64 by omega)]
  refine n_if_ne (tgt := 12) hx hb d_X2_left_5 (by decide) (by omega) (fun _ => ?_) (fun c => absurd c (by decide))
  refine lv_iload_n hx hb d_X2_left_12 rfl (lv_at hl 2 rfl) ?_
  refine lv_if_lt (tgt := 23) hx hb d_X2_left_13 (by decide) (fun c9 => absurd c9 hy1) (fun _ => ?_)
  refine lv_iload_n hx hb d_X2_left_16 rfl (lv_at hl 2 rfl) ?_
  refine lv_sipush (v := nI 8192) hx hb d_X2_left_17 (by decide) ?_
  refine lv_icmp_le (tgt := 27) hx hb d_X2_left_20 (by decide) (fun c9 => absurd c9 hy2) (fun _ => ?_)
  refine lv_iconst (v := nI 2) hx hb d_X2_left_23 (by decide) ?_
  refine lv_goto (tgt := 28) hx hb d_X2_left_24 (by decide) ?_
  refine x_call (st1 := [.int (mRef (nI 2))]) (x_runV (As := [.int (nI 2)]) (rest := []) (nL := 5) ⟨hx, hb, hml, hown, hts⟩ (c_X2_refuses (nI 2) _) (cwV 1 hts (gw_V k_514 k_516 k_30 k_52 k_517) rfl rfl rfl (by decide +kernel) ⟨Nat.le_of_ble_eq_true rfl, Nat.le_of_ble_eq_true rfl⟩) hK hP hD 0 2 rfl rfl rfl hl.1 rfl (Nat.le_of_ble_eq_true rfl) d_X2_left_28 ⟨Nat.zero_le _, Nat.zero_le _⟩) hS (x_sub hD hS hA) (x_sub hD hS hA) rfl (fun w1 H locs hY hP hD hS => ?_)
  subst hY
  rw [mRef_2]
  refine n_if_eq (tgt := 36) hx hb d_X2_left_31 (by decide) (by omega) (fun c => absurd c (by decide)) (fun _ => ?_)
  refine lv_iconst (v := nI 0) hx hb d_X2_left_34 (by decide) ?_
  exact x_iret hx hb hr hlocks hP hD hS d_X2_left_35 rfl rfl
set_option maxHeartbeats 800000 in
set_option maxRecDepth 100000 in
theorem c_X2_right_no2 {l : Launch} {D : va_G} {Rs : va_W} {cA cR cL : ClassId} {h aw ar ag az : Nat} {cd : Int32} {w g : Nat → Nat} {sg : Nat → Int32} {z : Nat → Nat} (hok : mdOk w g z) {r : Nat} (hr64 : r < 64) {y : Int32} (hy1 : y < 0) : xC l y_X2_right w_X2_right ({ frames := 5, cells := 0, slots := 0, locals := 115 }) D cls0 (ty3 cA cR cL) [.ref h, .int (nI r), .int y] (md cA h aw ar ag az cd w g sg z Rs) (some (.int (nI 0))) (fun w1 => w1 = md cA h aw ar ag az (nI 2) w g sg z Rs) 0 0 := by
  refine xC.ofW (cc := b_X2_right) (maxL := 3) (ret := some .int) (by decide) rfl (Nat.le_of_ble_eq_true rfl) ?_
  intro p e s m below meth c A ls _ hin hx hb hr hml hown hts hlocks hA hK hP hD hS hl
  have hts : ∀ w ∈ gw, w.before ([.ref h, .int (nI r), .int y]).toArray s = true := fun w h => hts w (List.mem_cons_of_mem _ h)
  have hown : s.vm.findClass R_Md = some m.cls := hown
  have hl : lv_has ls 3 [(0, .ref h), (1, .int (nI r)), (2, .int y)] := hl
  refine lv_aload_n hx hb d_X2_right_0 rfl (lv_at hl 0 rfl) ?_
  refine lv_iload_n hx hb d_X2_right_1 rfl (lv_at hl 1 rfl) ?_
  refine x_callR (st1 := [.int (mIsRow (nI r)), .ref h]) (x_runS (As := [.int (nI r)]) (rest := [.ref h]) (nL := 3) ⟨hx, hb, hml, hown, hts⟩ (c_X2_isRow (nI r) _) (cwS 1 hts (gw_S k_511 k_512 k_52 k_513) rfl rfl rfl (by decide +kernel) ⟨Nat.le_of_ble_eq_true rfl, Nat.le_of_ble_eq_true rfl⟩) hK hP hD rfl hl.1 rfl (Nat.le_of_ble_eq_true rfl) d_X2_right_2 ⟨Nat.zero_le _, Nat.zero_le _⟩) rfl ?_
  rw [mIsRow_1 (show r < 64 by omega)]
  refine n_if_ne (tgt := 12) hx hb d_X2_right_5 (by decide) (by omega) (fun _ => ?_) (fun c => absurd c (by decide))
  refine lv_iload_n hx hb d_X2_right_12 rfl (lv_at hl 2 rfl) ?_
  refine lv_if_lt (tgt := 23) hx hb d_X2_right_13 (by decide) (fun _ => ?_) (fun c9 => absurd hy1 c9)
  refine lv_iconst (v := nI 2) hx hb d_X2_right_23 (by decide) ?_
  refine lv_goto (tgt := 28) hx hb d_X2_right_24 (by decide) ?_
  refine x_call (st1 := [.int (mRef (nI 2))]) (x_runV (As := [.int (nI 2)]) (rest := []) (nL := 3) ⟨hx, hb, hml, hown, hts⟩ (c_X2_refuses (nI 2) _) (cwV 1 hts (gw_V k_514 k_516 k_30 k_52 k_517) rfl rfl rfl (by decide +kernel) ⟨Nat.le_of_ble_eq_true rfl, Nat.le_of_ble_eq_true rfl⟩) hK hP hD 0 2 rfl rfl rfl hl.1 rfl (Nat.le_of_ble_eq_true rfl) d_X2_right_28 ⟨Nat.zero_le _, Nat.zero_le _⟩) hS (x_sub hD hS hA) (x_sub hD hS hA) rfl (fun w1 H locs hY hP hD hS => ?_)
  subst hY
  rw [mRef_2]
  refine n_if_eq (tgt := 36) hx hb d_X2_right_31 (by decide) (by omega) (fun c => absurd c (by decide)) (fun _ => ?_)
  refine lv_iconst (v := nI 0) hx hb d_X2_right_34 (by decide) ?_
  exact x_iret hx hb hr hlocks hP hD hS d_X2_right_35 rfl rfl
set_option maxHeartbeats 800000 in
set_option maxRecDepth 100000 in
theorem c_X2_right_no3 {l : Launch} {D : va_G} {Rs : va_W} {cA cR cL : ClassId} {h aw ar ag az : Nat} {cd : Int32} {w g : Nat → Nat} {sg : Nat → Int32} {z : Nat → Nat} (hok : mdOk w g z) {r : Nat} (hr64 : r < 64) {y : Int32} (hy1 : ¬ y < 0) (hy2 : ¬ y ≤ (nI 8192)) : xC l y_X2_right w_X2_right ({ frames := 5, cells := 0, slots := 0, locals := 115 }) D cls0 (ty3 cA cR cL) [.ref h, .int (nI r), .int y] (md cA h aw ar ag az cd w g sg z Rs) (some (.int (nI 0))) (fun w1 => w1 = md cA h aw ar ag az (nI 2) w g sg z Rs) 0 0 := by
  refine xC.ofW (cc := b_X2_right) (maxL := 3) (ret := some .int) (by decide) rfl (Nat.le_of_ble_eq_true rfl) ?_
  intro p e s m below meth c A ls _ hin hx hb hr hml hown hts hlocks hA hK hP hD hS hl
  have hts : ∀ w ∈ gw, w.before ([.ref h, .int (nI r), .int y]).toArray s = true := fun w h => hts w (List.mem_cons_of_mem _ h)
  have hown : s.vm.findClass R_Md = some m.cls := hown
  have hl : lv_has ls 3 [(0, .ref h), (1, .int (nI r)), (2, .int y)] := hl
  refine lv_aload_n hx hb d_X2_right_0 rfl (lv_at hl 0 rfl) ?_
  refine lv_iload_n hx hb d_X2_right_1 rfl (lv_at hl 1 rfl) ?_
  refine x_callR (st1 := [.int (mIsRow (nI r)), .ref h]) (x_runS (As := [.int (nI r)]) (rest := [.ref h]) (nL := 3) ⟨hx, hb, hml, hown, hts⟩ (c_X2_isRow (nI r) _) (cwS 1 hts (gw_S k_511 k_512 k_52 k_513) rfl rfl rfl (by decide +kernel) ⟨Nat.le_of_ble_eq_true rfl, Nat.le_of_ble_eq_true rfl⟩) hK hP hD rfl hl.1 rfl (Nat.le_of_ble_eq_true rfl) d_X2_right_2 ⟨Nat.zero_le _, Nat.zero_le _⟩) rfl ?_
  rw [mIsRow_1 (show r < 64 by omega)]
  refine n_if_ne (tgt := 12) hx hb d_X2_right_5 (by decide) (by omega) (fun _ => ?_) (fun c => absurd c (by decide))
  refine lv_iload_n hx hb d_X2_right_12 rfl (lv_at hl 2 rfl) ?_
  refine lv_if_lt (tgt := 23) hx hb d_X2_right_13 (by decide) (fun c9 => absurd c9 hy1) (fun _ => ?_)
  refine lv_iload_n hx hb d_X2_right_16 rfl (lv_at hl 2 rfl) ?_
  refine lv_sipush (v := nI 8192) hx hb d_X2_right_17 (by decide) ?_
  refine lv_icmp_le (tgt := 27) hx hb d_X2_right_20 (by decide) (fun c9 => absurd c9 hy2) (fun _ => ?_)
  refine lv_iconst (v := nI 2) hx hb d_X2_right_23 (by decide) ?_
  refine lv_goto (tgt := 28) hx hb d_X2_right_24 (by decide) ?_
  refine x_call (st1 := [.int (mRef (nI 2))]) (x_runV (As := [.int (nI 2)]) (rest := []) (nL := 3) ⟨hx, hb, hml, hown, hts⟩ (c_X2_refuses (nI 2) _) (cwV 1 hts (gw_V k_514 k_516 k_30 k_52 k_517) rfl rfl rfl (by decide +kernel) ⟨Nat.le_of_ble_eq_true rfl, Nat.le_of_ble_eq_true rfl⟩) hK hP hD 0 2 rfl rfl rfl hl.1 rfl (Nat.le_of_ble_eq_true rfl) d_X2_right_28 ⟨Nat.zero_le _, Nat.zero_le _⟩) hS (x_sub hD hS hA) (x_sub hD hS hA) rfl (fun w1 H locs hY hP hD hS => ?_)
  subst hY
  rw [mRef_2]
  refine n_if_eq (tgt := 36) hx hb d_X2_right_31 (by decide) (by omega) (fun c => absurd c (by decide)) (fun _ => ?_)
  refine lv_iconst (v := nI 0) hx hb d_X2_right_34 (by decide) ?_
  exact x_iret hx hb hr hlocks hP hD hS d_X2_right_35 rfl rfl
set_option maxHeartbeats 800000 in
set_option maxRecDepth 100000 in
theorem c_X2_nearest_no2 {l : Launch} {D : va_G} {Rs : va_W} {cA cR cL : ClassId} {h aw ar ag az : Nat} {cd : Int32} {w g : Nat → Nat} {sg : Nat → Int32} {z : Nat → Nat} (hok : mdOk w g z) {r : Nat} (hr64 : r < 64) {y : Int32} (hy1 : y < 0) : xC l y_X2_nearest w_X2_nearest ({ frames := 5, cells := 0, slots := 0, locals := 115 }) D cls0 (ty3 cA cR cL) [.ref h, .int (nI r), .int y] (md cA h aw ar ag az cd w g sg z Rs) (some (.int (nI 0))) (fun w1 => w1 = md cA h aw ar ag az (nI 2) w g sg z Rs) 0 0 := by
  refine xC.ofW (cc := b_X2_nearest) (maxL := 5) (ret := some .int) (by decide) rfl (Nat.le_of_ble_eq_true rfl) ?_
  intro p e s m below meth c A ls _ hin hx hb hr hml hown hts hlocks hA hK hP hD hS hl
  have hts : ∀ w ∈ gw, w.before ([.ref h, .int (nI r), .int y]).toArray s = true := fun w h => hts w (List.mem_cons_of_mem _ h)
  have hown : s.vm.findClass R_Md = some m.cls := hown
  have hl : lv_has ls 5 [(0, .ref h), (1, .int (nI r)), (2, .int y)] := hl
  refine lv_aload_n hx hb d_X2_nearest_0 rfl (lv_at hl 0 rfl) ?_
  refine lv_iload_n hx hb d_X2_nearest_1 rfl (lv_at hl 1 rfl) ?_
  refine x_callR (st1 := [.int (mIsRow (nI r)), .ref h]) (x_runS (As := [.int (nI r)]) (rest := [.ref h]) (nL := 5) ⟨hx, hb, hml, hown, hts⟩ (c_X2_isRow (nI r) _) (cwS 1 hts (gw_S k_511 k_512 k_52 k_513) rfl rfl rfl (by decide +kernel) ⟨Nat.le_of_ble_eq_true rfl, Nat.le_of_ble_eq_true rfl⟩) hK hP hD rfl hl.1 rfl (Nat.le_of_ble_eq_true rfl) d_X2_nearest_2 ⟨Nat.zero_le _, Nat.zero_le _⟩) rfl ?_
  rw [mIsRow_1 (show r < 64 by omega)]
  refine n_if_ne (tgt := 12) hx hb d_X2_nearest_5 (by decide) (by omega) (fun _ => ?_) (fun c => absurd c (by decide))
  refine lv_iload_n hx hb d_X2_nearest_12 rfl (lv_at hl 2 rfl) ?_
  refine lv_if_lt (tgt := 23) hx hb d_X2_nearest_13 (by decide) (fun _ => ?_) (fun c9 => absurd hy1 c9)
  refine lv_iconst (v := nI 2) hx hb d_X2_nearest_23 (by decide) ?_
  refine lv_goto (tgt := 28) hx hb d_X2_nearest_24 (by decide) ?_
  refine x_call (st1 := [.int (mRef (nI 2))]) (x_runV (As := [.int (nI 2)]) (rest := []) (nL := 5) ⟨hx, hb, hml, hown, hts⟩ (c_X2_refuses (nI 2) _) (cwV 1 hts (gw_V k_514 k_516 k_30 k_52 k_517) rfl rfl rfl (by decide +kernel) ⟨Nat.le_of_ble_eq_true rfl, Nat.le_of_ble_eq_true rfl⟩) hK hP hD 0 2 rfl rfl rfl hl.1 rfl (Nat.le_of_ble_eq_true rfl) d_X2_nearest_28 ⟨Nat.zero_le _, Nat.zero_le _⟩) hS (x_sub hD hS hA) (x_sub hD hS hA) rfl (fun w1 H locs hY hP hD hS => ?_)
  subst hY
  rw [mRef_2]
  refine n_if_eq (tgt := 36) hx hb d_X2_nearest_31 (by decide) (by omega) (fun c => absurd c (by decide)) (fun _ => ?_)
  refine lv_iconst (v := nI 0) hx hb d_X2_nearest_34 (by decide) ?_
  exact x_iret hx hb hr hlocks hP hD hS d_X2_nearest_35 rfl rfl
set_option maxHeartbeats 800000 in
set_option maxRecDepth 100000 in
theorem c_X2_nearest_no3 {l : Launch} {D : va_G} {Rs : va_W} {cA cR cL : ClassId} {h aw ar ag az : Nat} {cd : Int32} {w g : Nat → Nat} {sg : Nat → Int32} {z : Nat → Nat} (hok : mdOk w g z) {r : Nat} (hr64 : r < 64) {y : Int32} (hy1 : ¬ y < 0) (hy2 : ¬ y ≤ (nI 8192)) : xC l y_X2_nearest w_X2_nearest ({ frames := 5, cells := 0, slots := 0, locals := 115 }) D cls0 (ty3 cA cR cL) [.ref h, .int (nI r), .int y] (md cA h aw ar ag az cd w g sg z Rs) (some (.int (nI 0))) (fun w1 => w1 = md cA h aw ar ag az (nI 2) w g sg z Rs) 0 0 := by
  refine xC.ofW (cc := b_X2_nearest) (maxL := 5) (ret := some .int) (by decide) rfl (Nat.le_of_ble_eq_true rfl) ?_
  intro p e s m below meth c A ls _ hin hx hb hr hml hown hts hlocks hA hK hP hD hS hl
  have hts : ∀ w ∈ gw, w.before ([.ref h, .int (nI r), .int y]).toArray s = true := fun w h => hts w (List.mem_cons_of_mem _ h)
  have hown : s.vm.findClass R_Md = some m.cls := hown
  have hl : lv_has ls 5 [(0, .ref h), (1, .int (nI r)), (2, .int y)] := hl
  refine lv_aload_n hx hb d_X2_nearest_0 rfl (lv_at hl 0 rfl) ?_
  refine lv_iload_n hx hb d_X2_nearest_1 rfl (lv_at hl 1 rfl) ?_
  refine x_callR (st1 := [.int (mIsRow (nI r)), .ref h]) (x_runS (As := [.int (nI r)]) (rest := [.ref h]) (nL := 5) ⟨hx, hb, hml, hown, hts⟩ (c_X2_isRow (nI r) _) (cwS 1 hts (gw_S k_511 k_512 k_52 k_513) rfl rfl rfl (by decide +kernel) ⟨Nat.le_of_ble_eq_true rfl, Nat.le_of_ble_eq_true rfl⟩) hK hP hD rfl hl.1 rfl (Nat.le_of_ble_eq_true rfl) d_X2_nearest_2 ⟨Nat.zero_le _, Nat.zero_le _⟩) rfl ?_
  rw [mIsRow_1 (show r < 64 by omega)]
  refine n_if_ne (tgt := 12) hx hb d_X2_nearest_5 (by decide) (by omega) (fun _ => ?_) (fun c => absurd c (by decide))
  refine lv_iload_n hx hb d_X2_nearest_12 rfl (lv_at hl 2 rfl) ?_
  refine lv_if_lt (tgt := 23) hx hb d_X2_nearest_13 (by decide) (fun c9 => absurd c9 hy1) (fun _ => ?_)
  refine lv_iload_n hx hb d_X2_nearest_16 rfl (lv_at hl 2 rfl) ?_
  refine lv_sipush (v := nI 8192) hx hb d_X2_nearest_17 (by decide) ?_
  refine lv_icmp_le (tgt := 27) hx hb d_X2_nearest_20 (by decide) (fun c9 => absurd c9 hy2) (fun _ => ?_)
  refine lv_iconst (v := nI 2) hx hb d_X2_nearest_23 (by decide) ?_
  refine lv_goto (tgt := 28) hx hb d_X2_nearest_24 (by decide) ?_
  refine x_call (st1 := [.int (mRef (nI 2))]) (x_runV (As := [.int (nI 2)]) (rest := []) (nL := 5) ⟨hx, hb, hml, hown, hts⟩ (c_X2_refuses (nI 2) _) (cwV 1 hts (gw_V k_514 k_516 k_30 k_52 k_517) rfl rfl rfl (by decide +kernel) ⟨Nat.le_of_ble_eq_true rfl, Nat.le_of_ble_eq_true rfl⟩) hK hP hD 0 2 rfl rfl rfl hl.1 rfl (Nat.le_of_ble_eq_true rfl) d_X2_nearest_28 ⟨Nat.zero_le _, Nat.zero_le _⟩) hS (x_sub hD hS hA) (x_sub hD hS hA) rfl (fun w1 H locs hY hP hD hS => ?_)
  subst hY
  rw [mRef_2]
  refine n_if_eq (tgt := 36) hx hb d_X2_nearest_31 (by decide) (by omega) (fun c => absurd c (by decide)) (fun _ => ?_)
  refine lv_iconst (v := nI 0) hx hb d_X2_nearest_34 (by decide) ?_
  exact x_iret hx hb hr hlocks hP hD hS d_X2_nearest_35 rfl rfl
set_option maxHeartbeats 800000 in
set_option maxRecDepth 100000 in
theorem c_X2_divide_no2 {l : Launch} {D : va_G} {Rs : va_W} {cA cR cL : ClassId} {h aw ar ag az : Nat} {cd : Int32} {w g : Nat → Nat} {sg : Nat → Int32} {z : Nat → Nat} (hok : mdOk w g z) {r : Nat} (hr64 : r < 64) {v : Int64} (hy1 : (lg_cmp v 1) < 0) : xC l y_X2_divide w_X2_divide ({ frames := 4, cells := 0, slots := 0, locals := 93 }) D cls0 (ty3 cA cR cL) [.ref h, .int (nI r), .long v] (md cA h aw ar ag az cd w g sg z Rs) (some (.long 0)) (fun w1 => w1 = md cA h aw ar ag az (nI 2) w g sg z Rs) 0 0 := by
  refine xC.ofW (cc := b_X2_divide) (maxL := 7) (ret := some .long) (by decide) rfl (Nat.le_of_ble_eq_true rfl) ?_
  intro p e s m below meth c A ls _ hin hx hb hr hml hown hts hlocks hA hK hP hD hS hl
  have hts : ∀ w ∈ gw, w.before ([.ref h, .int (nI r), .long v]).toArray s = true := fun w h => hts w (List.mem_cons_of_mem _ h)
  have hown : s.vm.findClass R_Md = some m.cls := hown
  have hl : lv_has ls 7 [(0, .ref h), (1, .int (nI r)), (2, .long v)] := hl
  refine lv_aload_n hx hb d_X2_divide_0 rfl (lv_at hl 0 rfl) ?_
  refine lv_iload_n hx hb d_X2_divide_1 rfl (lv_at hl 1 rfl) ?_
  refine x_callR (st1 := [.int (mIsRow (nI r)), .ref h]) (x_runS (As := [.int (nI r)]) (rest := [.ref h]) (nL := 7) ⟨hx, hb, hml, hown, hts⟩ (c_X2_isRow (nI r) _) (cwS 1 hts (gw_S k_511 k_512 k_52 k_513) rfl rfl rfl (by decide +kernel) ⟨Nat.le_of_ble_eq_true rfl, Nat.le_of_ble_eq_true rfl⟩) hK hP hD rfl hl.1 rfl (Nat.le_of_ble_eq_true rfl) d_X2_divide_2 ⟨Nat.zero_le _, Nat.zero_le _⟩) rfl ?_
  rw [mIsRow_1 (show r < 64 by omega)]
  refine n_if_ne (tgt := 12) hx hb d_X2_divide_5 (by decide) (by omega) (fun _ => ?_) (fun c => absurd c (by decide))
  refine lv_lload_n hx hb d_X2_divide_12 rfl (lv_at hl 2 rfl) ?_
  refine lv_lconst (v := 1) hx hb d_X2_divide_13 (by decide) ?_
  refine W.lcmp hx hb d_X2_divide_14 ?_
  refine lv_if_lt (tgt := 26) hx hb d_X2_divide_15 (by decide) (fun _ => ?_) (fun c9 => absurd hy1 c9)
  refine lv_iconst (v := nI 2) hx hb d_X2_divide_26 (by decide) ?_
  refine lv_goto (tgt := 31) hx hb d_X2_divide_27 (by decide) ?_
  refine x_call (st1 := [.int (mRef (nI 2))]) (x_runV (As := [.int (nI 2)]) (rest := []) (nL := 7) ⟨hx, hb, hml, hown, hts⟩ (c_X2_refuses (nI 2) _) (cwV 1 hts (gw_V k_514 k_516 k_30 k_52 k_517) rfl rfl rfl (by decide +kernel) ⟨Nat.le_of_ble_eq_true rfl, Nat.le_of_ble_eq_true rfl⟩) hK hP hD 0 2 rfl rfl rfl hl.1 rfl (Nat.le_of_ble_eq_true rfl) d_X2_divide_31 ⟨Nat.zero_le _, Nat.zero_le _⟩) hS (x_sub hD hS hA) (x_sub hD hS hA) rfl (fun w1 H locs hY hP hD hS => ?_)
  subst hY
  rw [mRef_2]
  refine n_if_eq (tgt := 39) hx hb d_X2_divide_34 (by decide) (by omega) (fun c => absurd c (by decide)) (fun _ => ?_)
  refine lv_lconst (v := 0) hx hb d_X2_divide_37 (by decide) ?_
  exact x_lret hx hb hr hlocks hP hD hS d_X2_divide_38 rfl rfl
set_option maxHeartbeats 800000 in
set_option maxRecDepth 100000 in
theorem c_X2_divide_no3 {l : Launch} {D : va_G} {Rs : va_W} {cA cR cL : ClassId} {h aw ar ag az : Nat} {cd : Int32} {w g : Nat → Nat} {sg : Nat → Int32} {z : Nat → Nat} (hok : mdOk w g z) {r : Nat} (hr64 : r < 64) {v : Int64} (hy1 : ¬ (lg_cmp v 1) < 0) (hy2 : ¬ (lg_cmp v 4611686018427387903) ≤ 0) : xC l y_X2_divide w_X2_divide ({ frames := 4, cells := 0, slots := 0, locals := 93 }) D cls0 (ty3 cA cR cL) [.ref h, .int (nI r), .long v] (md cA h aw ar ag az cd w g sg z Rs) (some (.long 0)) (fun w1 => w1 = md cA h aw ar ag az (nI 2) w g sg z Rs) 0 0 := by
  refine xC.ofW (cc := b_X2_divide) (maxL := 7) (ret := some .long) (by decide) rfl (Nat.le_of_ble_eq_true rfl) ?_
  intro p e s m below meth c A ls _ hin hx hb hr hml hown hts hlocks hA hK hP hD hS hl
  have hts : ∀ w ∈ gw, w.before ([.ref h, .int (nI r), .long v]).toArray s = true := fun w h => hts w (List.mem_cons_of_mem _ h)
  have hown : s.vm.findClass R_Md = some m.cls := hown
  have hl : lv_has ls 7 [(0, .ref h), (1, .int (nI r)), (2, .long v)] := hl
  refine lv_aload_n hx hb d_X2_divide_0 rfl (lv_at hl 0 rfl) ?_
  refine lv_iload_n hx hb d_X2_divide_1 rfl (lv_at hl 1 rfl) ?_
  refine x_callR (st1 := [.int (mIsRow (nI r)), .ref h]) (x_runS (As := [.int (nI r)]) (rest := [.ref h]) (nL := 7) ⟨hx, hb, hml, hown, hts⟩ (c_X2_isRow (nI r) _) (cwS 1 hts (gw_S k_511 k_512 k_52 k_513) rfl rfl rfl (by decide +kernel) ⟨Nat.le_of_ble_eq_true rfl, Nat.le_of_ble_eq_true rfl⟩) hK hP hD rfl hl.1 rfl (Nat.le_of_ble_eq_true rfl) d_X2_divide_2 ⟨Nat.zero_le _, Nat.zero_le _⟩) rfl ?_
  rw [mIsRow_1 (show r < 64 by omega)]
  refine n_if_ne (tgt := 12) hx hb d_X2_divide_5 (by decide) (by omega) (fun _ => ?_) (fun c => absurd c (by decide))
  refine lv_lload_n hx hb d_X2_divide_12 rfl (lv_at hl 2 rfl) ?_
  refine lv_lconst (v := 1) hx hb d_X2_divide_13 (by decide) ?_
  refine W.lcmp hx hb d_X2_divide_14 ?_
  refine lv_if_lt (tgt := 26) hx hb d_X2_divide_15 (by decide) (fun c9 => absurd c9 hy1) (fun _ => ?_)
  refine lv_lload_n hx hb d_X2_divide_18 rfl (lv_at hl 2 rfl) ?_
  refine lv_ldc2 (v := 4611686018427387903) hx hb hown (hts (.constantLong "LimbRowsModel" 104 4611686018427387903) k_654) d_X2_divide_19 ?_
  refine W.lcmp hx hb d_X2_divide_22 ?_
  refine lv_if_le (tgt := 30) hx hb d_X2_divide_23 (by decide) (fun c9 => absurd c9 hy2) (fun _ => ?_)
  refine lv_iconst (v := nI 2) hx hb d_X2_divide_26 (by decide) ?_
  refine lv_goto (tgt := 31) hx hb d_X2_divide_27 (by decide) ?_
  refine x_call (st1 := [.int (mRef (nI 2))]) (x_runV (As := [.int (nI 2)]) (rest := []) (nL := 7) ⟨hx, hb, hml, hown, hts⟩ (c_X2_refuses (nI 2) _) (cwV 1 hts (gw_V k_514 k_516 k_30 k_52 k_517) rfl rfl rfl (by decide +kernel) ⟨Nat.le_of_ble_eq_true rfl, Nat.le_of_ble_eq_true rfl⟩) hK hP hD 0 2 rfl rfl rfl hl.1 rfl (Nat.le_of_ble_eq_true rfl) d_X2_divide_31 ⟨Nat.zero_le _, Nat.zero_le _⟩) hS (x_sub hD hS hA) (x_sub hD hS hA) rfl (fun w1 H locs hY hP hD hS => ?_)
  subst hY
  rw [mRef_2]
  refine n_if_eq (tgt := 39) hx hb d_X2_divide_34 (by decide) (by omega) (fun c => absurd c (by decide)) (fun _ => ?_)
  refine lv_lconst (v := 0) hx hb d_X2_divide_37 (by decide) ?_
  exact x_lret hx hb hr hlocks hP hD hS d_X2_divide_38 rfl rfl
set_option maxHeartbeats 800000 in
set_option maxRecDepth 100000 in
theorem c_X2_put_no2 {l : Launch} {D : va_G} {Rs : va_W} {cA cR cL : ClassId} {h aw ar ag az : Nat} {cd : Int32} {w g : Nat → Nat} {sg : Nat → Int32} {z : Nat → Nat} (hok : mdOk w g z) {r : Nat} (hr64 : r < 64) {y u : Int32} (hy1 : y < 0) : xC l y_X2_put w_X2_put ({ frames := 1, cells := 0, slots := 0, locals := 22 }) D cls0 (ty3 cA cR cL) [.ref h, .int (nI r), .int y, .int u] (md cA h aw ar ag az cd w g sg z Rs) (some (.int (nI 0))) (fun w1 => w1 = md cA h aw ar ag az (nI 1) w g sg z Rs) 0 0 := by
  refine xC.ofW (cc := b_X2_put) (maxL := 5) (ret := some .int) (by decide) rfl (Nat.le_of_ble_eq_true rfl) ?_
  intro p e s m below meth c A ls _ hin hx hb hr hml hown hts hlocks hA hK hP hD hS hl
  have hts : ∀ w ∈ gw, w.before ([.ref h, .int (nI r), .int y, .int u]).toArray s = true := fun w h => hts w (List.mem_cons_of_mem _ h)
  have hown : s.vm.findClass R_Md = some m.cls := hown
  have hl : lv_has ls 5 [(0, .ref h), (1, .int (nI r)), (2, .int y), (3, .int u)] := hl
  refine lv_aload_n hx hb d_X2_put_0 rfl (lv_at hl 0 rfl) ?_
  refine lv_iload_n hx hb d_X2_put_1 rfl (lv_at hl 1 rfl) ?_
  refine x_callR (st1 := [.int (mIsRow (nI r)), .ref h]) (x_runS (As := [.int (nI r)]) (rest := [.ref h]) (nL := 5) ⟨hx, hb, hml, hown, hts⟩ (c_X2_isRow (nI r) _) (cwS 1 hts (gw_S k_511 k_512 k_52 k_513) rfl rfl rfl (by decide +kernel) ⟨Nat.le_of_ble_eq_true rfl, Nat.le_of_ble_eq_true rfl⟩) hK hP hD rfl hl.1 rfl (Nat.le_of_ble_eq_true rfl) d_X2_put_2 ⟨Nat.zero_le _, Nat.zero_le _⟩) rfl ?_
  rw [mIsRow_1 (show r < 64 by omega)]
  refine n_if_eq (tgt := 22) hx hb d_X2_put_5 (by decide) (by omega) (fun c => absurd c (by decide)) (fun _ => ?_)
  refine lv_iload_n hx hb d_X2_put_8 rfl (lv_at hl 2 rfl) ?_
  refine lv_if_lt (tgt := 22) hx hb d_X2_put_9 (by decide) (fun _ => ?_) (fun c9 => absurd hy1 c9)
  refine lv_iconst (v := nI 1) hx hb d_X2_put_22 (by decide) ?_
  refine lv_goto (tgt := 27) hx hb d_X2_put_23 (by decide) ?_
  refine x_call (st1 := [.int (mRef (nI 1))]) (x_runV (As := [.int (nI 1)]) (rest := []) (nL := 5) ⟨hx, hb, hml, hown, hts⟩ (c_X2_refuses (nI 1) _) (cwV 1 hts (gw_V k_514 k_516 k_30 k_52 k_517) rfl rfl rfl (by decide +kernel) ⟨Nat.le_of_ble_eq_true rfl, Nat.le_of_ble_eq_true rfl⟩) hK hP hD 0 2 rfl rfl rfl hl.1 rfl (Nat.le_of_ble_eq_true rfl) d_X2_put_27 ⟨Nat.zero_le _, Nat.zero_le _⟩) hS (x_sub hD hS hA) (x_sub hD hS hA) rfl (fun w1 H locs hY hP hD hS => ?_)
  subst hY
  rw [mRef_1]
  refine n_if_eq (tgt := 35) hx hb d_X2_put_30 (by decide) (by omega) (fun c => absurd c (by decide)) (fun _ => ?_)
  refine lv_iconst (v := nI 0) hx hb d_X2_put_33 (by decide) ?_
  exact x_iret hx hb hr hlocks hP hD hS d_X2_put_34 rfl rfl
set_option maxHeartbeats 800000 in
set_option maxRecDepth 100000 in
theorem c_X2_put_no3 {l : Launch} {D : va_G} {Rs : va_W} {cA cR cL : ClassId} {h aw ar ag az : Nat} {cd : Int32} {w g : Nat → Nat} {sg : Nat → Int32} {z : Nat → Nat} (hok : mdOk w g z) {r : Nat} (hr64 : r < 64) {k : Nat} (hk31 : k < 2 ^ 31) (hkw : w r ≤ k) {u : Int32} : xC l y_X2_put w_X2_put ({ frames := 1, cells := 0, slots := 0, locals := 22 }) D cls0 (ty3 cA cR cL) [.ref h, .int (nI r), .int (nI k), .int u] (md cA h aw ar ag az cd w g sg z Rs) (some (.int (nI 0))) (fun w1 => w1 = md cA h aw ar ag az (nI 1) w g sg z Rs) 0 0 := by
  refine xC.ofW (cc := b_X2_put) (maxL := 5) (ret := some .int) (by decide) rfl (Nat.le_of_ble_eq_true rfl) ?_
  intro p e s m below meth c A ls _ hin hx hb hr hml hown hts hlocks hA hK hP hD hS hl
  have hts : ∀ w ∈ gw, w.before ([.ref h, .int (nI r), .int (nI k), .int u]).toArray s = true := fun w h => hts w (List.mem_cons_of_mem _ h)
  have hown : s.vm.findClass R_Md = some m.cls := hown
  have hl : lv_has ls 5 [(0, .ref h), (1, .int (nI r)), (2, .int (nI k)), (3, .int u)] := hl
  refine lv_aload_n hx hb d_X2_put_0 rfl (lv_at hl 0 rfl) ?_
  refine lv_iload_n hx hb d_X2_put_1 rfl (lv_at hl 1 rfl) ?_
  refine x_callR (st1 := [.int (mIsRow (nI r)), .ref h]) (x_runS (As := [.int (nI r)]) (rest := [.ref h]) (nL := 5) ⟨hx, hb, hml, hown, hts⟩ (c_X2_isRow (nI r) _) (cwS 1 hts (gw_S k_511 k_512 k_52 k_513) rfl rfl rfl (by decide +kernel) ⟨Nat.le_of_ble_eq_true rfl, Nat.le_of_ble_eq_true rfl⟩) hK hP hD rfl hl.1 rfl (Nat.le_of_ble_eq_true rfl) d_X2_put_2 ⟨Nat.zero_le _, Nat.zero_le _⟩) rfl ?_
  rw [mIsRow_1 (show r < 64 by omega)]
  refine n_if_eq (tgt := 22) hx hb d_X2_put_5 (by decide) (by omega) (fun c => absurd c (by decide)) (fun _ => ?_)
  refine lv_iload_n hx hb d_X2_put_8 rfl (lv_at hl 2 rfl) ?_
  refine n_if_lt (tgt := 22) hx hb d_X2_put_9 (by decide) (by omega) ?_
  refine lv_iload_n hx hb d_X2_put_12 rfl (lv_at hl 2 rfl) ?_
  refine lv_aload_n hx hb d_X2_put_13 rfl (lv_at hl 0 rfl) ?_
  refine m_getW hx hb hts hown hK hP d_X2_put_14 ?_
  refine lv_iload_n hx hb d_X2_put_17 rfl (lv_at hl 1 rfl) ?_
  have hq_18 := hok.1 r (by omega)
  refine m_aldW hx hb hK hP (j := r) (by omega) d_X2_put_18 ?_
  refine n_icmp_lt (tgt := 26) hx hb d_X2_put_19 (by decide) (by omega) (by omega) (fun c9 => absurd c9 (by omega)) (fun _ => ?_)
  refine lv_iconst (v := nI 1) hx hb d_X2_put_22 (by decide) ?_
  refine lv_goto (tgt := 27) hx hb d_X2_put_23 (by decide) ?_
  refine x_call (st1 := [.int (mRef (nI 1))]) (x_runV (As := [.int (nI 1)]) (rest := []) (nL := 5) ⟨hx, hb, hml, hown, hts⟩ (c_X2_refuses (nI 1) _) (cwV 1 hts (gw_V k_514 k_516 k_30 k_52 k_517) rfl rfl rfl (by decide +kernel) ⟨Nat.le_of_ble_eq_true rfl, Nat.le_of_ble_eq_true rfl⟩) hK hP hD 0 2 rfl rfl rfl hl.1 rfl (Nat.le_of_ble_eq_true rfl) d_X2_put_27 ⟨Nat.zero_le _, Nat.zero_le _⟩) hS (x_sub hD hS hA) (x_sub hD hS hA) rfl (fun w1 H locs hY hP hD hS => ?_)
  subst hY
  rw [mRef_1]
  refine n_if_eq (tgt := 35) hx hb d_X2_put_30 (by decide) (by omega) (fun c => absurd c (by decide)) (fun _ => ?_)
  refine lv_iconst (v := nI 0) hx hb d_X2_put_33 (by decide) ?_
  exact x_iret hx hb hr hlocks hP hD hS d_X2_put_34 rfl rfl
set_option maxHeartbeats 800000 in
set_option maxRecDepth 100000 in
theorem c_X2_limb_no2 {l : Launch} {D : va_G} {Rs : va_W} {cA cR cL : ClassId} {h aw ar ag az : Nat} {cd : Int32} {w g : Nat → Nat} {sg : Nat → Int32} {z : Nat → Nat} (hok : mdOk w g z) {r : Nat} (hr64 : r < 64) {y : Int32} (hy1 : ¬ 0 ≤ y) : xC l y_X2_limb w_X2_limb ({ frames := 3, cells := 0, slots := 0, locals := 71 }) D cls0 (ty3 cA cR cL) [.ref h, .int (nI r), .int y] (md cA h aw ar ag az cd w g sg z Rs) (some (.int (nI 0))) (fun w1 => w1 = md cA h aw ar ag az (nI 1) w g sg z Rs) 0 0 := by
  refine xC.ofW (cc := b_X2_limb) (maxL := 3) (ret := some .int) (by decide) rfl (Nat.le_of_ble_eq_true rfl) ?_
  intro p e s m below meth c A ls _ hin hx hb hr hml hown hts hlocks hA hK hP hD hS hl
  have hts : ∀ w ∈ gw, w.before ([.ref h, .int (nI r), .int y]).toArray s = true := fun w h => hts w (List.mem_cons_of_mem _ h)
  have hown : s.vm.findClass R_Md = some m.cls := hown
  have hl : lv_has ls 3 [(0, .ref h), (1, .int (nI r)), (2, .int y)] := hl
  refine lv_aload_n hx hb d_X2_limb_0 rfl (lv_at hl 0 rfl) ?_
  refine lv_iload_n hx hb d_X2_limb_1 rfl (lv_at hl 1 rfl) ?_
  refine x_callR (st1 := [.int (mIsRow (nI r)), .ref h]) (x_runS (As := [.int (nI r)]) (rest := [.ref h]) (nL := 3) ⟨hx, hb, hml, hown, hts⟩ (c_X2_isRow (nI r) _) (cwS 1 hts (gw_S k_511 k_512 k_52 k_513) rfl rfl rfl (by decide +kernel) ⟨Nat.le_of_ble_eq_true rfl, Nat.le_of_ble_eq_true rfl⟩) hK hP hD rfl hl.1 rfl (Nat.le_of_ble_eq_true rfl) d_X2_limb_2 ⟨Nat.zero_le _, Nat.zero_le _⟩) rfl ?_
  rw [mIsRow_1 (show r < 64 by omega)]
  refine n_if_eq (tgt := 12) hx hb d_X2_limb_5 (by decide) (by omega) (fun c => absurd c (by decide)) (fun _ => ?_)
  refine lv_iload_n hx hb d_X2_limb_8 rfl (lv_at hl 2 rfl) ?_
  refine lv_if_ge (tgt := 16) hx hb d_X2_limb_9 (by decide) (fun c9 => absurd c9 hy1) (fun _ => ?_)
  refine lv_iconst (v := nI 1) hx hb d_X2_limb_12 (by decide) ?_
  refine lv_goto (tgt := 17) hx hb d_X2_limb_13 (by decide) ?_
  refine x_call (st1 := [.int (mRef (nI 1))]) (x_runV (As := [.int (nI 1)]) (rest := []) (nL := 3) ⟨hx, hb, hml, hown, hts⟩ (c_X2_refuses (nI 1) _) (cwV 1 hts (gw_V k_514 k_516 k_30 k_52 k_517) rfl rfl rfl (by decide +kernel) ⟨Nat.le_of_ble_eq_true rfl, Nat.le_of_ble_eq_true rfl⟩) hK hP hD 0 2 rfl rfl rfl hl.1 rfl (Nat.le_of_ble_eq_true rfl) d_X2_limb_17 ⟨Nat.zero_le _, Nat.zero_le _⟩) hS (x_sub hD hS hA) (x_sub hD hS hA) rfl (fun w1 H locs hY hP hD hS => ?_)
  subst hY
  rw [mRef_1]
  refine n_if_eq (tgt := 25) hx hb d_X2_limb_20 (by decide) (by omega) (fun c => absurd c (by decide)) (fun _ => ?_)
  refine lv_iconst (v := nI 0) hx hb d_X2_limb_23 (by decide) ?_
  exact x_iret hx hb hr hlocks hP hD hS d_X2_limb_24 rfl rfl
set_option maxHeartbeats 800000 in
set_option maxRecDepth 100000 in
theorem c_X2_add_no {l : Launch} {D : va_G} {Rs : va_W} {cA cR cL : ClassId} {h aw ar ag az : Nat} {cd : Int32} {w g : Nat → Nat} {sg : Nat → Int32} {z : Nat → Nat} (hok : mdOk w g z) {x : Int32} (hno_x : mIsRow x = nI 0) (y : Int32) : xC l y_X2_add w_X2_add ({ frames := 6, cells := 0, slots := 0, locals := 138 }) D cls0 (ty3 cA cR cL) [.ref h, .int x, .int y] (md cA h aw ar ag az cd w g sg z Rs) (some (.int (nI 0))) (fun w1 => w1 = md cA h aw ar ag az (nI 1) w g sg z Rs) 0 0 := by
  refine xC.ofW (cc := b_X2_add) (maxL := 3) (ret := some .int) (by decide) rfl (Nat.le_of_ble_eq_true rfl) ?_
  intro p e s m below meth c A ls _ hin hx hb hr hml hown hts hlocks hA hK hP hD hS hl
  have hts : ∀ w ∈ gw, w.before ([.ref h, .int x, .int y]).toArray s = true := fun w h => hts w (List.mem_cons_of_mem _ h)
  have hown : s.vm.findClass R_Md = some m.cls := hown
  have hl : lv_has ls 3 [(0, .ref h), (1, .int x), (2, .int y)] := hl
  refine lv_aload_n hx hb d_X2_add_0 rfl (lv_at hl 0 rfl) ?_
  refine lv_iload_n hx hb d_X2_add_1 rfl (lv_at hl 1 rfl) ?_
  refine lv_iload_n hx hb d_X2_add_2 rfl (lv_at hl 2 rfl) ?_
  refine lv_iconst (v := nI 0) hx hb d_X2_add_3 (by decide) ?_
  refine x_call (st1 := [.int (nI 0)]) (x_runV (As := [.int x, .int y, .int (nI 0)]) (rest := []) (nL := 3) ⟨hx, hb, hml, hown, hts⟩ (c_X2_together_no hok hno_x y 0 _) (cwV 3 hts (gw_V k_589 k_591 k_42 k_52 k_592) rfl rfl rfl (by decide +kernel) ⟨Nat.le_of_ble_eq_true rfl, Nat.le_of_ble_eq_true rfl⟩) hK hP hD 0 2 rfl rfl rfl hl.1 rfl (Nat.le_of_ble_eq_true rfl) d_X2_add_4 ⟨Nat.zero_le _, Nat.zero_le _⟩) hS (x_sub hD hS hA) (x_sub hD hS hA) rfl (fun w1 H locs hY hP hD hS => ?_)
  subst hY
  exact x_iret hx hb hr hlocks hP hD hS d_X2_add_7 rfl rfl
set_option maxHeartbeats 800000 in
set_option maxRecDepth 100000 in
theorem c_X2_add_no2 {l : Launch} {D : va_G} {Rs : va_W} {cA cR cL : ClassId} {h aw ar ag az : Nat} {cd : Int32} {w g : Nat → Nat} {sg : Nat → Int32} {z : Nat → Nat} (hok : mdOk w g z) {r : Nat} (hr64 : r < 64) {y : Int32} (hno_y : mIsRow y = nI 0) : xC l y_X2_add w_X2_add ({ frames := 6, cells := 0, slots := 0, locals := 138 }) D cls0 (ty3 cA cR cL) [.ref h, .int (nI r), .int y] (md cA h aw ar ag az cd w g sg z Rs) (some (.int (nI 0))) (fun w1 => w1 = md cA h aw ar ag az (nI 1) w g sg z Rs) 0 0 := by
  refine xC.ofW (cc := b_X2_add) (maxL := 3) (ret := some .int) (by decide) rfl (Nat.le_of_ble_eq_true rfl) ?_
  intro p e s m below meth c A ls _ hin hx hb hr hml hown hts hlocks hA hK hP hD hS hl
  have hts : ∀ w ∈ gw, w.before ([.ref h, .int (nI r), .int y]).toArray s = true := fun w h => hts w (List.mem_cons_of_mem _ h)
  have hown : s.vm.findClass R_Md = some m.cls := hown
  have hl : lv_has ls 3 [(0, .ref h), (1, .int (nI r)), (2, .int y)] := hl
  refine lv_aload_n hx hb d_X2_add_0 rfl (lv_at hl 0 rfl) ?_
  refine lv_iload_n hx hb d_X2_add_1 rfl (lv_at hl 1 rfl) ?_
  refine lv_iload_n hx hb d_X2_add_2 rfl (lv_at hl 2 rfl) ?_
  refine lv_iconst (v := nI 0) hx hb d_X2_add_3 (by decide) ?_
  refine x_call (st1 := [.int (nI 0)]) (x_runV (As := [.int (nI r), .int y, .int (nI 0)]) (rest := []) (nL := 3) ⟨hx, hb, hml, hown, hts⟩ (c_X2_together_no2 hok hr64 hno_y 0 _) (cwV 3 hts (gw_V k_589 k_591 k_42 k_52 k_592) rfl rfl rfl (by decide +kernel) ⟨Nat.le_of_ble_eq_true rfl, Nat.le_of_ble_eq_true rfl⟩) hK hP hD 0 2 rfl rfl rfl hl.1 rfl (Nat.le_of_ble_eq_true rfl) d_X2_add_4 ⟨Nat.zero_le _, Nat.zero_le _⟩) hS (x_sub hD hS hA) (x_sub hD hS hA) rfl (fun w1 H locs hY hP hD hS => ?_)
  subst hY
  exact x_iret hx hb hr hlocks hP hD hS d_X2_add_7 rfl rfl
set_option maxHeartbeats 800000 in
set_option maxRecDepth 100000 in
theorem c_X2_subtract_no {l : Launch} {D : va_G} {Rs : va_W} {cA cR cL : ClassId} {h aw ar ag az : Nat} {cd : Int32} {w g : Nat → Nat} {sg : Nat → Int32} {z : Nat → Nat} (hok : mdOk w g z) {x : Int32} (hno_x : mIsRow x = nI 0) (y : Int32) : xC l y_X2_subtract w_X2_subtract ({ frames := 6, cells := 0, slots := 0, locals := 138 }) D cls0 (ty3 cA cR cL) [.ref h, .int x, .int y] (md cA h aw ar ag az cd w g sg z Rs) (some (.int (nI 0))) (fun w1 => w1 = md cA h aw ar ag az (nI 1) w g sg z Rs) 0 0 := by
  refine xC.ofW (cc := b_X2_subtract) (maxL := 3) (ret := some .int) (by decide) rfl (Nat.le_of_ble_eq_true rfl) ?_
  intro p e s m below meth c A ls _ hin hx hb hr hml hown hts hlocks hA hK hP hD hS hl
  have hts : ∀ w ∈ gw, w.before ([.ref h, .int x, .int y]).toArray s = true := fun w h => hts w (List.mem_cons_of_mem _ h)
  have hown : s.vm.findClass R_Md = some m.cls := hown
  have hl : lv_has ls 3 [(0, .ref h), (1, .int x), (2, .int y)] := hl
  refine lv_aload_n hx hb d_X2_subtract_0 rfl (lv_at hl 0 rfl) ?_
  refine lv_iload_n hx hb d_X2_subtract_1 rfl (lv_at hl 1 rfl) ?_
  refine lv_iload_n hx hb d_X2_subtract_2 rfl (lv_at hl 2 rfl) ?_
  refine lv_iconst (v := nI 1) hx hb d_X2_subtract_3 (by decide) ?_
  refine x_call (st1 := [.int (nI 0)]) (x_runV (As := [.int x, .int y, .int (nI 1)]) (rest := []) (nL := 3) ⟨hx, hb, hml, hown, hts⟩ (c_X2_together_no hok hno_x y 1 _) (cwV 3 hts (gw_V k_589 k_591 k_42 k_52 k_592) rfl rfl rfl (by decide +kernel) ⟨Nat.le_of_ble_eq_true rfl, Nat.le_of_ble_eq_true rfl⟩) hK hP hD 0 2 rfl rfl rfl hl.1 rfl (Nat.le_of_ble_eq_true rfl) d_X2_subtract_4 ⟨Nat.zero_le _, Nat.zero_le _⟩) hS (x_sub hD hS hA) (x_sub hD hS hA) rfl (fun w1 H locs hY hP hD hS => ?_)
  subst hY
  exact x_iret hx hb hr hlocks hP hD hS d_X2_subtract_7 rfl rfl
set_option maxHeartbeats 800000 in
set_option maxRecDepth 100000 in
theorem c_X2_subtract_no2 {l : Launch} {D : va_G} {Rs : va_W} {cA cR cL : ClassId} {h aw ar ag az : Nat} {cd : Int32} {w g : Nat → Nat} {sg : Nat → Int32} {z : Nat → Nat} (hok : mdOk w g z) {r : Nat} (hr64 : r < 64) {y : Int32} (hno_y : mIsRow y = nI 0) : xC l y_X2_subtract w_X2_subtract ({ frames := 6, cells := 0, slots := 0, locals := 138 }) D cls0 (ty3 cA cR cL) [.ref h, .int (nI r), .int y] (md cA h aw ar ag az cd w g sg z Rs) (some (.int (nI 0))) (fun w1 => w1 = md cA h aw ar ag az (nI 1) w g sg z Rs) 0 0 := by
  refine xC.ofW (cc := b_X2_subtract) (maxL := 3) (ret := some .int) (by decide) rfl (Nat.le_of_ble_eq_true rfl) ?_
  intro p e s m below meth c A ls _ hin hx hb hr hml hown hts hlocks hA hK hP hD hS hl
  have hts : ∀ w ∈ gw, w.before ([.ref h, .int (nI r), .int y]).toArray s = true := fun w h => hts w (List.mem_cons_of_mem _ h)
  have hown : s.vm.findClass R_Md = some m.cls := hown
  have hl : lv_has ls 3 [(0, .ref h), (1, .int (nI r)), (2, .int y)] := hl
  refine lv_aload_n hx hb d_X2_subtract_0 rfl (lv_at hl 0 rfl) ?_
  refine lv_iload_n hx hb d_X2_subtract_1 rfl (lv_at hl 1 rfl) ?_
  refine lv_iload_n hx hb d_X2_subtract_2 rfl (lv_at hl 2 rfl) ?_
  refine lv_iconst (v := nI 1) hx hb d_X2_subtract_3 (by decide) ?_
  refine x_call (st1 := [.int (nI 0)]) (x_runV (As := [.int (nI r), .int y, .int (nI 1)]) (rest := []) (nL := 3) ⟨hx, hb, hml, hown, hts⟩ (c_X2_together_no2 hok hr64 hno_y 1 _) (cwV 3 hts (gw_V k_589 k_591 k_42 k_52 k_592) rfl rfl rfl (by decide +kernel) ⟨Nat.le_of_ble_eq_true rfl, Nat.le_of_ble_eq_true rfl⟩) hK hP hD 0 2 rfl rfl rfl hl.1 rfl (Nat.le_of_ble_eq_true rfl) d_X2_subtract_4 ⟨Nat.zero_le _, Nat.zero_le _⟩) hS (x_sub hD hS hA) (x_sub hD hS hA) rfl (fun w1 H locs hY hP hD hS => ?_)
  subst hY
  exact x_iret hx hb hr hlocks hP hD hS d_X2_subtract_7 rfl rfl
set_option maxHeartbeats 800000 in
set_option maxRecDepth 100000 in
theorem c_X2_addProduct_no {l : Launch} {D : va_G} {Rs : va_W} {cA cR cL : ClassId} {h aw ar ag az : Nat} {cd : Int32} {w g : Nat → Nat} {sg : Nat → Int32} {z : Nat → Nat} (hok : mdOk w g z) {x : Int32} (hno_x : mIsRow x = nI 0) (y u : Int32) : xC l y_X2_addProduct w_X2_addProduct ({ frames := 6, cells := 0, slots := 0, locals := 139 }) D cls0 (ty3 cA cR cL) [.ref h, .int x, .int y, .int u] (md cA h aw ar ag az cd w g sg z Rs) (some (.int (nI 0))) (fun w1 => w1 = md cA h aw ar ag az (nI 1) w g sg z Rs) 0 0 := by
  refine xC.ofW (cc := b_X2_addProduct) (maxL := 4) (ret := some .int) (by decide) rfl (Nat.le_of_ble_eq_true rfl) ?_
  intro p e s m below meth c A ls _ hin hx hb hr hml hown hts hlocks hA hK hP hD hS hl
  have hts : ∀ w ∈ gw, w.before ([.ref h, .int x, .int y, .int u]).toArray s = true := fun w h => hts w (List.mem_cons_of_mem _ h)
  have hown : s.vm.findClass R_Md = some m.cls := hown
  have hl : lv_has ls 4 [(0, .ref h), (1, .int x), (2, .int y), (3, .int u)] := hl
  refine lv_aload_n hx hb d_X2_addProduct_0 rfl (lv_at hl 0 rfl) ?_
  refine lv_iload_n hx hb d_X2_addProduct_1 rfl (lv_at hl 1 rfl) ?_
  refine lv_iload_n hx hb d_X2_addProduct_2 rfl (lv_at hl 2 rfl) ?_
  refine lv_iload_n hx hb d_X2_addProduct_3 rfl (lv_at hl 3 rfl) ?_
  refine lv_iconst (v := nI 0) hx hb d_X2_addProduct_4 (by decide) ?_
  refine x_call (st1 := [.int (nI 0)]) (x_runV (As := [.int x, .int y, .int u, .int (nI 0)]) (rest := []) (nL := 4) ⟨hx, hb, hml, hown, hts⟩ (c_X2_product_no hok hno_x y u 0 _) (cwV 4 hts (gw_V k_613 k_615 k_46 k_52 k_616) rfl rfl rfl (by decide +kernel) ⟨Nat.le_of_ble_eq_true rfl, Nat.le_of_ble_eq_true rfl⟩) hK hP hD 0 2 rfl rfl rfl hl.1 rfl (Nat.le_of_ble_eq_true rfl) d_X2_addProduct_5 ⟨Nat.zero_le _, Nat.zero_le _⟩) hS (x_sub hD hS hA) (x_sub hD hS hA) rfl (fun w1 H locs hY hP hD hS => ?_)
  subst hY
  exact x_iret hx hb hr hlocks hP hD hS d_X2_addProduct_8 rfl rfl
set_option maxHeartbeats 800000 in
set_option maxRecDepth 100000 in
theorem c_X2_addProduct_no2 {l : Launch} {D : va_G} {Rs : va_W} {cA cR cL : ClassId} {h aw ar ag az : Nat} {cd : Int32} {w g : Nat → Nat} {sg : Nat → Int32} {z : Nat → Nat} (hok : mdOk w g z) {r : Nat} (hr64 : r < 64) {y : Int32} (hno_y : mIsRow y = nI 0) (u : Int32) : xC l y_X2_addProduct w_X2_addProduct ({ frames := 6, cells := 0, slots := 0, locals := 139 }) D cls0 (ty3 cA cR cL) [.ref h, .int (nI r), .int y, .int u] (md cA h aw ar ag az cd w g sg z Rs) (some (.int (nI 0))) (fun w1 => w1 = md cA h aw ar ag az (nI 1) w g sg z Rs) 0 0 := by
  refine xC.ofW (cc := b_X2_addProduct) (maxL := 4) (ret := some .int) (by decide) rfl (Nat.le_of_ble_eq_true rfl) ?_
  intro p e s m below meth c A ls _ hin hx hb hr hml hown hts hlocks hA hK hP hD hS hl
  have hts : ∀ w ∈ gw, w.before ([.ref h, .int (nI r), .int y, .int u]).toArray s = true := fun w h => hts w (List.mem_cons_of_mem _ h)
  have hown : s.vm.findClass R_Md = some m.cls := hown
  have hl : lv_has ls 4 [(0, .ref h), (1, .int (nI r)), (2, .int y), (3, .int u)] := hl
  refine lv_aload_n hx hb d_X2_addProduct_0 rfl (lv_at hl 0 rfl) ?_
  refine lv_iload_n hx hb d_X2_addProduct_1 rfl (lv_at hl 1 rfl) ?_
  refine lv_iload_n hx hb d_X2_addProduct_2 rfl (lv_at hl 2 rfl) ?_
  refine lv_iload_n hx hb d_X2_addProduct_3 rfl (lv_at hl 3 rfl) ?_
  refine lv_iconst (v := nI 0) hx hb d_X2_addProduct_4 (by decide) ?_
  refine x_call (st1 := [.int (nI 0)]) (x_runV (As := [.int (nI r), .int y, .int u, .int (nI 0)]) (rest := []) (nL := 4) ⟨hx, hb, hml, hown, hts⟩ (c_X2_product_no2 hok hr64 hno_y u 0 _) (cwV 4 hts (gw_V k_613 k_615 k_46 k_52 k_616) rfl rfl rfl (by decide +kernel) ⟨Nat.le_of_ble_eq_true rfl, Nat.le_of_ble_eq_true rfl⟩) hK hP hD 0 2 rfl rfl rfl hl.1 rfl (Nat.le_of_ble_eq_true rfl) d_X2_addProduct_5 ⟨Nat.zero_le _, Nat.zero_le _⟩) hS (x_sub hD hS hA) (x_sub hD hS hA) rfl (fun w1 H locs hY hP hD hS => ?_)
  subst hY
  exact x_iret hx hb hr hlocks hP hD hS d_X2_addProduct_8 rfl rfl
set_option maxHeartbeats 800000 in
set_option maxRecDepth 100000 in
theorem c_X2_addProduct_no3 {l : Launch} {D : va_G} {Rs : va_W} {cA cR cL : ClassId} {h aw ar ag az : Nat} {cd : Int32} {w g : Nat → Nat} {sg : Nat → Int32} {z : Nat → Nat} (hok : mdOk w g z) {r a : Nat} (hr64 : r < 64) (ha64 : a < 64) {u : Int32} (hno_u : mIsRow u = nI 0) : xC l y_X2_addProduct w_X2_addProduct ({ frames := 6, cells := 0, slots := 0, locals := 139 }) D cls0 (ty3 cA cR cL) [.ref h, .int (nI r), .int (nI a), .int u] (md cA h aw ar ag az cd w g sg z Rs) (some (.int (nI 0))) (fun w1 => w1 = md cA h aw ar ag az (nI 1) w g sg z Rs) 0 0 := by
  refine xC.ofW (cc := b_X2_addProduct) (maxL := 4) (ret := some .int) (by decide) rfl (Nat.le_of_ble_eq_true rfl) ?_
  intro p e s m below meth c A ls _ hin hx hb hr hml hown hts hlocks hA hK hP hD hS hl
  have hts : ∀ w ∈ gw, w.before ([.ref h, .int (nI r), .int (nI a), .int u]).toArray s = true := fun w h => hts w (List.mem_cons_of_mem _ h)
  have hown : s.vm.findClass R_Md = some m.cls := hown
  have hl : lv_has ls 4 [(0, .ref h), (1, .int (nI r)), (2, .int (nI a)), (3, .int u)] := hl
  refine lv_aload_n hx hb d_X2_addProduct_0 rfl (lv_at hl 0 rfl) ?_
  refine lv_iload_n hx hb d_X2_addProduct_1 rfl (lv_at hl 1 rfl) ?_
  refine lv_iload_n hx hb d_X2_addProduct_2 rfl (lv_at hl 2 rfl) ?_
  refine lv_iload_n hx hb d_X2_addProduct_3 rfl (lv_at hl 3 rfl) ?_
  refine lv_iconst (v := nI 0) hx hb d_X2_addProduct_4 (by decide) ?_
  refine x_call (st1 := [.int (nI 0)]) (x_runV (As := [.int (nI r), .int (nI a), .int u, .int (nI 0)]) (rest := []) (nL := 4) ⟨hx, hb, hml, hown, hts⟩ (c_X2_product_no3 hok hr64 ha64 hno_u 0 _) (cwV 4 hts (gw_V k_613 k_615 k_46 k_52 k_616) rfl rfl rfl (by decide +kernel) ⟨Nat.le_of_ble_eq_true rfl, Nat.le_of_ble_eq_true rfl⟩) hK hP hD 0 2 rfl rfl rfl hl.1 rfl (Nat.le_of_ble_eq_true rfl) d_X2_addProduct_5 ⟨Nat.zero_le _, Nat.zero_le _⟩) hS (x_sub hD hS hA) (x_sub hD hS hA) rfl (fun w1 H locs hY hP hD hS => ?_)
  subst hY
  exact x_iret hx hb hr hlocks hP hD hS d_X2_addProduct_8 rfl rfl
set_option maxHeartbeats 800000 in
set_option maxRecDepth 100000 in
theorem c_X2_addProduct_no4 {l : Launch} {D : va_G} {Rs : va_W} {cA cR cL : ClassId} {h aw ar ag az : Nat} {cd : Int32} {w g : Nat → Nat} {sg : Nat → Int32} {z : Nat → Nat} (hok : mdOk w g z) {r a u : Nat} (hr64 : r < 64) (ha64 : a < 64) (hu64 : u < 64) (hra : r = a) : xC l y_X2_addProduct w_X2_addProduct ({ frames := 6, cells := 0, slots := 0, locals := 139 }) D cls0 (ty3 cA cR cL) [.ref h, .int (nI r), .int (nI a), .int (nI u)] (md cA h aw ar ag az cd w g sg z Rs) (some (.int (nI 0))) (fun w1 => w1 = md cA h aw ar ag az (nI 2) w g sg z Rs) 0 0 := by
  refine xC.ofW (cc := b_X2_addProduct) (maxL := 4) (ret := some .int) (by decide) rfl (Nat.le_of_ble_eq_true rfl) ?_
  intro p e s m below meth c A ls _ hin hx hb hr hml hown hts hlocks hA hK hP hD hS hl
  have hts : ∀ w ∈ gw, w.before ([.ref h, .int (nI r), .int (nI a), .int (nI u)]).toArray s = true := fun w h => hts w (List.mem_cons_of_mem _ h)
  have hown : s.vm.findClass R_Md = some m.cls := hown
  have hl : lv_has ls 4 [(0, .ref h), (1, .int (nI r)), (2, .int (nI a)), (3, .int (nI u))] := hl
  refine lv_aload_n hx hb d_X2_addProduct_0 rfl (lv_at hl 0 rfl) ?_
  refine lv_iload_n hx hb d_X2_addProduct_1 rfl (lv_at hl 1 rfl) ?_
  refine lv_iload_n hx hb d_X2_addProduct_2 rfl (lv_at hl 2 rfl) ?_
  refine lv_iload_n hx hb d_X2_addProduct_3 rfl (lv_at hl 3 rfl) ?_
  refine lv_iconst (v := nI 0) hx hb d_X2_addProduct_4 (by decide) ?_
  refine x_call (st1 := [.int (nI 0)]) (x_runV (As := [.int (nI r), .int (nI a), .int (nI u), .int (nI 0)]) (rest := []) (nL := 4) ⟨hx, hb, hml, hown, hts⟩ (c_X2_product_no4 hok hr64 ha64 hu64 hra 0 _) (cwV 4 hts (gw_V k_613 k_615 k_46 k_52 k_616) rfl rfl rfl (by decide +kernel) ⟨Nat.le_of_ble_eq_true rfl, Nat.le_of_ble_eq_true rfl⟩) hK hP hD 0 2 rfl rfl rfl hl.1 rfl (Nat.le_of_ble_eq_true rfl) d_X2_addProduct_5 ⟨Nat.zero_le _, Nat.zero_le _⟩) hS (x_sub hD hS hA) (x_sub hD hS hA) rfl (fun w1 H locs hY hP hD hS => ?_)
  subst hY
  exact x_iret hx hb hr hlocks hP hD hS d_X2_addProduct_8 rfl rfl
set_option maxHeartbeats 800000 in
set_option maxRecDepth 100000 in
theorem c_X2_addProduct_no5 {l : Launch} {D : va_G} {Rs : va_W} {cA cR cL : ClassId} {h aw ar ag az : Nat} {cd : Int32} {w g : Nat → Nat} {sg : Nat → Int32} {z : Nat → Nat} (hok : mdOk w g z) {r a u : Nat} (hr64 : r < 64) (ha64 : a < 64) (hu64 : u < 64) (hra : r ≠ a) (hru : r = u) : xC l y_X2_addProduct w_X2_addProduct ({ frames := 6, cells := 0, slots := 0, locals := 139 }) D cls0 (ty3 cA cR cL) [.ref h, .int (nI r), .int (nI a), .int (nI u)] (md cA h aw ar ag az cd w g sg z Rs) (some (.int (nI 0))) (fun w1 => w1 = md cA h aw ar ag az (nI 2) w g sg z Rs) 0 0 := by
  refine xC.ofW (cc := b_X2_addProduct) (maxL := 4) (ret := some .int) (by decide) rfl (Nat.le_of_ble_eq_true rfl) ?_
  intro p e s m below meth c A ls _ hin hx hb hr hml hown hts hlocks hA hK hP hD hS hl
  have hts : ∀ w ∈ gw, w.before ([.ref h, .int (nI r), .int (nI a), .int (nI u)]).toArray s = true := fun w h => hts w (List.mem_cons_of_mem _ h)
  have hown : s.vm.findClass R_Md = some m.cls := hown
  have hl : lv_has ls 4 [(0, .ref h), (1, .int (nI r)), (2, .int (nI a)), (3, .int (nI u))] := hl
  refine lv_aload_n hx hb d_X2_addProduct_0 rfl (lv_at hl 0 rfl) ?_
  refine lv_iload_n hx hb d_X2_addProduct_1 rfl (lv_at hl 1 rfl) ?_
  refine lv_iload_n hx hb d_X2_addProduct_2 rfl (lv_at hl 2 rfl) ?_
  refine lv_iload_n hx hb d_X2_addProduct_3 rfl (lv_at hl 3 rfl) ?_
  refine lv_iconst (v := nI 0) hx hb d_X2_addProduct_4 (by decide) ?_
  refine x_call (st1 := [.int (nI 0)]) (x_runV (As := [.int (nI r), .int (nI a), .int (nI u), .int (nI 0)]) (rest := []) (nL := 4) ⟨hx, hb, hml, hown, hts⟩ (c_X2_product_no5 hok hr64 ha64 hu64 hra hru 0 _) (cwV 4 hts (gw_V k_613 k_615 k_46 k_52 k_616) rfl rfl rfl (by decide +kernel) ⟨Nat.le_of_ble_eq_true rfl, Nat.le_of_ble_eq_true rfl⟩) hK hP hD 0 2 rfl rfl rfl hl.1 rfl (Nat.le_of_ble_eq_true rfl) d_X2_addProduct_5 ⟨Nat.zero_le _, Nat.zero_le _⟩) hS (x_sub hD hS hA) (x_sub hD hS hA) rfl (fun w1 H locs hY hP hD hS => ?_)
  subst hY
  exact x_iret hx hb hr hlocks hP hD hS d_X2_addProduct_8 rfl rfl
set_option maxHeartbeats 800000 in
set_option maxRecDepth 100000 in
theorem c_X2_subtractProduct_no {l : Launch} {D : va_G} {Rs : va_W} {cA cR cL : ClassId} {h aw ar ag az : Nat} {cd : Int32} {w g : Nat → Nat} {sg : Nat → Int32} {z : Nat → Nat} (hok : mdOk w g z) {x : Int32} (hno_x : mIsRow x = nI 0) (y u : Int32) : xC l y_X2_subtractProduct w_X2_subtractProduct ({ frames := 6, cells := 0, slots := 0, locals := 139 }) D cls0 (ty3 cA cR cL) [.ref h, .int x, .int y, .int u] (md cA h aw ar ag az cd w g sg z Rs) (some (.int (nI 0))) (fun w1 => w1 = md cA h aw ar ag az (nI 1) w g sg z Rs) 0 0 := by
  refine xC.ofW (cc := b_X2_subtractProduct) (maxL := 4) (ret := some .int) (by decide) rfl (Nat.le_of_ble_eq_true rfl) ?_
  intro p e s m below meth c A ls _ hin hx hb hr hml hown hts hlocks hA hK hP hD hS hl
  have hts : ∀ w ∈ gw, w.before ([.ref h, .int x, .int y, .int u]).toArray s = true := fun w h => hts w (List.mem_cons_of_mem _ h)
  have hown : s.vm.findClass R_Md = some m.cls := hown
  have hl : lv_has ls 4 [(0, .ref h), (1, .int x), (2, .int y), (3, .int u)] := hl
  refine lv_aload_n hx hb d_X2_subtractProduct_0 rfl (lv_at hl 0 rfl) ?_
  refine lv_iload_n hx hb d_X2_subtractProduct_1 rfl (lv_at hl 1 rfl) ?_
  refine lv_iload_n hx hb d_X2_subtractProduct_2 rfl (lv_at hl 2 rfl) ?_
  refine lv_iload_n hx hb d_X2_subtractProduct_3 rfl (lv_at hl 3 rfl) ?_
  refine lv_iconst (v := nI 1) hx hb d_X2_subtractProduct_4 (by decide) ?_
  refine x_call (st1 := [.int (nI 0)]) (x_runV (As := [.int x, .int y, .int u, .int (nI 1)]) (rest := []) (nL := 4) ⟨hx, hb, hml, hown, hts⟩ (c_X2_product_no hok hno_x y u 1 _) (cwV 4 hts (gw_V k_613 k_615 k_46 k_52 k_616) rfl rfl rfl (by decide +kernel) ⟨Nat.le_of_ble_eq_true rfl, Nat.le_of_ble_eq_true rfl⟩) hK hP hD 0 2 rfl rfl rfl hl.1 rfl (Nat.le_of_ble_eq_true rfl) d_X2_subtractProduct_5 ⟨Nat.zero_le _, Nat.zero_le _⟩) hS (x_sub hD hS hA) (x_sub hD hS hA) rfl (fun w1 H locs hY hP hD hS => ?_)
  subst hY
  exact x_iret hx hb hr hlocks hP hD hS d_X2_subtractProduct_8 rfl rfl
set_option maxHeartbeats 800000 in
set_option maxRecDepth 100000 in
theorem c_X2_subtractProduct_no2 {l : Launch} {D : va_G} {Rs : va_W} {cA cR cL : ClassId} {h aw ar ag az : Nat} {cd : Int32} {w g : Nat → Nat} {sg : Nat → Int32} {z : Nat → Nat} (hok : mdOk w g z) {r : Nat} (hr64 : r < 64) {y : Int32} (hno_y : mIsRow y = nI 0) (u : Int32) : xC l y_X2_subtractProduct w_X2_subtractProduct ({ frames := 6, cells := 0, slots := 0, locals := 139 }) D cls0 (ty3 cA cR cL) [.ref h, .int (nI r), .int y, .int u] (md cA h aw ar ag az cd w g sg z Rs) (some (.int (nI 0))) (fun w1 => w1 = md cA h aw ar ag az (nI 1) w g sg z Rs) 0 0 := by
  refine xC.ofW (cc := b_X2_subtractProduct) (maxL := 4) (ret := some .int) (by decide) rfl (Nat.le_of_ble_eq_true rfl) ?_
  intro p e s m below meth c A ls _ hin hx hb hr hml hown hts hlocks hA hK hP hD hS hl
  have hts : ∀ w ∈ gw, w.before ([.ref h, .int (nI r), .int y, .int u]).toArray s = true := fun w h => hts w (List.mem_cons_of_mem _ h)
  have hown : s.vm.findClass R_Md = some m.cls := hown
  have hl : lv_has ls 4 [(0, .ref h), (1, .int (nI r)), (2, .int y), (3, .int u)] := hl
  refine lv_aload_n hx hb d_X2_subtractProduct_0 rfl (lv_at hl 0 rfl) ?_
  refine lv_iload_n hx hb d_X2_subtractProduct_1 rfl (lv_at hl 1 rfl) ?_
  refine lv_iload_n hx hb d_X2_subtractProduct_2 rfl (lv_at hl 2 rfl) ?_
  refine lv_iload_n hx hb d_X2_subtractProduct_3 rfl (lv_at hl 3 rfl) ?_
  refine lv_iconst (v := nI 1) hx hb d_X2_subtractProduct_4 (by decide) ?_
  refine x_call (st1 := [.int (nI 0)]) (x_runV (As := [.int (nI r), .int y, .int u, .int (nI 1)]) (rest := []) (nL := 4) ⟨hx, hb, hml, hown, hts⟩ (c_X2_product_no2 hok hr64 hno_y u 1 _) (cwV 4 hts (gw_V k_613 k_615 k_46 k_52 k_616) rfl rfl rfl (by decide +kernel) ⟨Nat.le_of_ble_eq_true rfl, Nat.le_of_ble_eq_true rfl⟩) hK hP hD 0 2 rfl rfl rfl hl.1 rfl (Nat.le_of_ble_eq_true rfl) d_X2_subtractProduct_5 ⟨Nat.zero_le _, Nat.zero_le _⟩) hS (x_sub hD hS hA) (x_sub hD hS hA) rfl (fun w1 H locs hY hP hD hS => ?_)
  subst hY
  exact x_iret hx hb hr hlocks hP hD hS d_X2_subtractProduct_8 rfl rfl
set_option maxHeartbeats 800000 in
set_option maxRecDepth 100000 in
theorem c_X2_subtractProduct_no3 {l : Launch} {D : va_G} {Rs : va_W} {cA cR cL : ClassId} {h aw ar ag az : Nat} {cd : Int32} {w g : Nat → Nat} {sg : Nat → Int32} {z : Nat → Nat} (hok : mdOk w g z) {r a : Nat} (hr64 : r < 64) (ha64 : a < 64) {u : Int32} (hno_u : mIsRow u = nI 0) : xC l y_X2_subtractProduct w_X2_subtractProduct ({ frames := 6, cells := 0, slots := 0, locals := 139 }) D cls0 (ty3 cA cR cL) [.ref h, .int (nI r), .int (nI a), .int u] (md cA h aw ar ag az cd w g sg z Rs) (some (.int (nI 0))) (fun w1 => w1 = md cA h aw ar ag az (nI 1) w g sg z Rs) 0 0 := by
  refine xC.ofW (cc := b_X2_subtractProduct) (maxL := 4) (ret := some .int) (by decide) rfl (Nat.le_of_ble_eq_true rfl) ?_
  intro p e s m below meth c A ls _ hin hx hb hr hml hown hts hlocks hA hK hP hD hS hl
  have hts : ∀ w ∈ gw, w.before ([.ref h, .int (nI r), .int (nI a), .int u]).toArray s = true := fun w h => hts w (List.mem_cons_of_mem _ h)
  have hown : s.vm.findClass R_Md = some m.cls := hown
  have hl : lv_has ls 4 [(0, .ref h), (1, .int (nI r)), (2, .int (nI a)), (3, .int u)] := hl
  refine lv_aload_n hx hb d_X2_subtractProduct_0 rfl (lv_at hl 0 rfl) ?_
  refine lv_iload_n hx hb d_X2_subtractProduct_1 rfl (lv_at hl 1 rfl) ?_
  refine lv_iload_n hx hb d_X2_subtractProduct_2 rfl (lv_at hl 2 rfl) ?_
  refine lv_iload_n hx hb d_X2_subtractProduct_3 rfl (lv_at hl 3 rfl) ?_
  refine lv_iconst (v := nI 1) hx hb d_X2_subtractProduct_4 (by decide) ?_
  refine x_call (st1 := [.int (nI 0)]) (x_runV (As := [.int (nI r), .int (nI a), .int u, .int (nI 1)]) (rest := []) (nL := 4) ⟨hx, hb, hml, hown, hts⟩ (c_X2_product_no3 hok hr64 ha64 hno_u 1 _) (cwV 4 hts (gw_V k_613 k_615 k_46 k_52 k_616) rfl rfl rfl (by decide +kernel) ⟨Nat.le_of_ble_eq_true rfl, Nat.le_of_ble_eq_true rfl⟩) hK hP hD 0 2 rfl rfl rfl hl.1 rfl (Nat.le_of_ble_eq_true rfl) d_X2_subtractProduct_5 ⟨Nat.zero_le _, Nat.zero_le _⟩) hS (x_sub hD hS hA) (x_sub hD hS hA) rfl (fun w1 H locs hY hP hD hS => ?_)
  subst hY
  exact x_iret hx hb hr hlocks hP hD hS d_X2_subtractProduct_8 rfl rfl
set_option maxHeartbeats 800000 in
set_option maxRecDepth 100000 in
theorem c_X2_subtractProduct_no4 {l : Launch} {D : va_G} {Rs : va_W} {cA cR cL : ClassId} {h aw ar ag az : Nat} {cd : Int32} {w g : Nat → Nat} {sg : Nat → Int32} {z : Nat → Nat} (hok : mdOk w g z) {r a u : Nat} (hr64 : r < 64) (ha64 : a < 64) (hu64 : u < 64) (hra : r = a) : xC l y_X2_subtractProduct w_X2_subtractProduct ({ frames := 6, cells := 0, slots := 0, locals := 139 }) D cls0 (ty3 cA cR cL) [.ref h, .int (nI r), .int (nI a), .int (nI u)] (md cA h aw ar ag az cd w g sg z Rs) (some (.int (nI 0))) (fun w1 => w1 = md cA h aw ar ag az (nI 2) w g sg z Rs) 0 0 := by
  refine xC.ofW (cc := b_X2_subtractProduct) (maxL := 4) (ret := some .int) (by decide) rfl (Nat.le_of_ble_eq_true rfl) ?_
  intro p e s m below meth c A ls _ hin hx hb hr hml hown hts hlocks hA hK hP hD hS hl
  have hts : ∀ w ∈ gw, w.before ([.ref h, .int (nI r), .int (nI a), .int (nI u)]).toArray s = true := fun w h => hts w (List.mem_cons_of_mem _ h)
  have hown : s.vm.findClass R_Md = some m.cls := hown
  have hl : lv_has ls 4 [(0, .ref h), (1, .int (nI r)), (2, .int (nI a)), (3, .int (nI u))] := hl
  refine lv_aload_n hx hb d_X2_subtractProduct_0 rfl (lv_at hl 0 rfl) ?_
  refine lv_iload_n hx hb d_X2_subtractProduct_1 rfl (lv_at hl 1 rfl) ?_
  refine lv_iload_n hx hb d_X2_subtractProduct_2 rfl (lv_at hl 2 rfl) ?_
  refine lv_iload_n hx hb d_X2_subtractProduct_3 rfl (lv_at hl 3 rfl) ?_
  refine lv_iconst (v := nI 1) hx hb d_X2_subtractProduct_4 (by decide) ?_
  refine x_call (st1 := [.int (nI 0)]) (x_runV (As := [.int (nI r), .int (nI a), .int (nI u), .int (nI 1)]) (rest := []) (nL := 4) ⟨hx, hb, hml, hown, hts⟩ (c_X2_product_no4 hok hr64 ha64 hu64 hra 1 _) (cwV 4 hts (gw_V k_613 k_615 k_46 k_52 k_616) rfl rfl rfl (by decide +kernel) ⟨Nat.le_of_ble_eq_true rfl, Nat.le_of_ble_eq_true rfl⟩) hK hP hD 0 2 rfl rfl rfl hl.1 rfl (Nat.le_of_ble_eq_true rfl) d_X2_subtractProduct_5 ⟨Nat.zero_le _, Nat.zero_le _⟩) hS (x_sub hD hS hA) (x_sub hD hS hA) rfl (fun w1 H locs hY hP hD hS => ?_)
  subst hY
  exact x_iret hx hb hr hlocks hP hD hS d_X2_subtractProduct_8 rfl rfl
set_option maxHeartbeats 800000 in
set_option maxRecDepth 100000 in
theorem c_X2_subtractProduct_no5 {l : Launch} {D : va_G} {Rs : va_W} {cA cR cL : ClassId} {h aw ar ag az : Nat} {cd : Int32} {w g : Nat → Nat} {sg : Nat → Int32} {z : Nat → Nat} (hok : mdOk w g z) {r a u : Nat} (hr64 : r < 64) (ha64 : a < 64) (hu64 : u < 64) (hra : r ≠ a) (hru : r = u) : xC l y_X2_subtractProduct w_X2_subtractProduct ({ frames := 6, cells := 0, slots := 0, locals := 139 }) D cls0 (ty3 cA cR cL) [.ref h, .int (nI r), .int (nI a), .int (nI u)] (md cA h aw ar ag az cd w g sg z Rs) (some (.int (nI 0))) (fun w1 => w1 = md cA h aw ar ag az (nI 2) w g sg z Rs) 0 0 := by
  refine xC.ofW (cc := b_X2_subtractProduct) (maxL := 4) (ret := some .int) (by decide) rfl (Nat.le_of_ble_eq_true rfl) ?_
  intro p e s m below meth c A ls _ hin hx hb hr hml hown hts hlocks hA hK hP hD hS hl
  have hts : ∀ w ∈ gw, w.before ([.ref h, .int (nI r), .int (nI a), .int (nI u)]).toArray s = true := fun w h => hts w (List.mem_cons_of_mem _ h)
  have hown : s.vm.findClass R_Md = some m.cls := hown
  have hl : lv_has ls 4 [(0, .ref h), (1, .int (nI r)), (2, .int (nI a)), (3, .int (nI u))] := hl
  refine lv_aload_n hx hb d_X2_subtractProduct_0 rfl (lv_at hl 0 rfl) ?_
  refine lv_iload_n hx hb d_X2_subtractProduct_1 rfl (lv_at hl 1 rfl) ?_
  refine lv_iload_n hx hb d_X2_subtractProduct_2 rfl (lv_at hl 2 rfl) ?_
  refine lv_iload_n hx hb d_X2_subtractProduct_3 rfl (lv_at hl 3 rfl) ?_
  refine lv_iconst (v := nI 1) hx hb d_X2_subtractProduct_4 (by decide) ?_
  refine x_call (st1 := [.int (nI 0)]) (x_runV (As := [.int (nI r), .int (nI a), .int (nI u), .int (nI 1)]) (rest := []) (nL := 4) ⟨hx, hb, hml, hown, hts⟩ (c_X2_product_no5 hok hr64 ha64 hu64 hra hru 1 _) (cwV 4 hts (gw_V k_613 k_615 k_46 k_52 k_616) rfl rfl rfl (by decide +kernel) ⟨Nat.le_of_ble_eq_true rfl, Nat.le_of_ble_eq_true rfl⟩) hK hP hD 0 2 rfl rfl rfl hl.1 rfl (Nat.le_of_ble_eq_true rfl) d_X2_subtractProduct_5 ⟨Nat.zero_le _, Nat.zero_le _⟩) hS (x_sub hD hS hA) (x_sub hD hS hA) rfl (fun w1 H locs hY hP hD hS => ?_)
  subst hY
  exact x_iret hx hb hr hlocks hP hD hS d_X2_subtractProduct_8 rfl rfl
