abbrev w_X2_set : List Cond := .code y_X2_set b_X2_set 4 (some .boolean) :: gw
set_option maxHeartbeats 800000 in
set_option maxRecDepth 100000 in
theorem c_X2_set {l : Launch} {D : va_G} {Rs : va_W} {cA cR cL : ClassId} {h aw ar ag az : Nat} {cd : Int32} {w g : Nat → Nat} {sg : Nat → Int32} {z : Nat → Nat} (hok : mdOk w g z) {r : Nat} (hr64 : r < 64) (v : Int64) {t : Nat} (hlow : ¬ 0 ≤ (mLongG v 0 sg) 0 → mLow (mLongZ v 0 z) 0 t) : xC l y_X2_set w_X2_set ({ frames := 4, cells := 0, slots := 0, locals := 93 }) D cls0 (ty3 cA cR cL) [.ref h, .int (nI r), .long v] (md cA h aw ar ag az cd w g sg z Rs) (some (.int (nI (mFits (mLongG v 0 sg) w (mLongZ v 0 z) r 0 t)))) (fun w1 => w1 = md cA h aw ar ag az (nI 0) w (mStore (mLongG v 0 sg) w (mLongZ v 0 z) r 0 g) (mLongG v 0 sg) (mLongZ v 0 z) Rs) 0 0 := by
  refine xC.ofW (cc := b_X2_set) (maxL := 4) (ret := some .boolean) (by decide) rfl (Nat.le_of_ble_eq_true rfl) ?_
  intro p e s m below meth c A ls _ hin hx hb hr hml hown hts hlocks hA hK hP hD hS hl
  have hts : ∀ w ∈ gw, w.before ([.ref h, .int (nI r), .long v]).toArray s = true := fun w h => hts w (List.mem_cons_of_mem _ h)
  have hown : s.vm.findClass R_Md = some m.cls := hown
  have hl : lv_has ls 4 [(0, .ref h), (1, .int (nI r)), (2, .long v)] := hl
  refine lv_aload_n hx hb d_X2_set_0 rfl (lv_at hl 0 rfl) ?_
  refine lv_iload_n hx hb d_X2_set_1 rfl (lv_at hl 1 rfl) ?_
  refine x_callR (st1 := [.int (mIsRow (nI r)), .ref h]) (x_runS (As := [.int (nI r)]) (rest := [.ref h]) (nL := 4) ⟨hx, hb, hml, hown, hts⟩ (c_X2_isRow (nI r) _) (cwS 1 hts (gw_S k_511 k_512 k_52 k_513) rfl rfl rfl (by decide +kernel) ⟨Nat.le_of_ble_eq_true rfl, Nat.le_of_ble_eq_true rfl⟩) hK hP hD rfl hl.1 rfl (Nat.le_of_ble_eq_true rfl) d_X2_set_2 ⟨Nat.zero_le _, Nat.zero_le _⟩) rfl ?_
  rw [mIsRow_1 (show r < 64 by omega)]
  refine n_if_eq (tgt := 12) hx hb d_X2_set_5 (by decide) (by omega) (fun c => absurd c (by decide)) (fun _ => ?_)
  refine lv_iconst (v := nI 0) hx hb d_X2_set_8 (by decide) ?_
  refine lv_goto (tgt := 13) hx hb d_X2_set_9 (by decide) ?_
  refine x_call (st1 := [.int (mRef (nI 0))]) (x_runV (As := [.int (nI 0)]) (rest := []) (nL := 4) ⟨hx, hb, hml, hown, hts⟩ (c_X2_refuses (nI 0) _) (cwV 1 hts (gw_V k_514 k_516 k_30 k_52 k_517) rfl rfl rfl (by decide +kernel) ⟨Nat.le_of_ble_eq_true rfl, Nat.le_of_ble_eq_true rfl⟩) hK hP hD 0 2 rfl rfl rfl hl.1 rfl (Nat.le_of_ble_eq_true rfl) d_X2_set_13 ⟨Nat.zero_le _, Nat.zero_le _⟩) hS (x_sub hD hS hA) (x_sub hD hS hA) rfl (fun w1 H locs hY hP hD hS => ?_)
  subst hY
  rw [mRef_0]
  refine n_if_eq (tgt := 21) hx hb d_X2_set_16 (by decide) (by omega) (fun _ => ?_) (fun c => absurd c (by decide))
  refine lv_aload_n hx hb d_X2_set_21 rfl (lv_at hl 0 rfl) ?_
  refine lv_iconst (v := nI 0) hx hb d_X2_set_22 (by decide) ?_
  refine lv_lload_n hx hb d_X2_set_23 rfl (lv_at hl 2 rfl) ?_
  refine x_call (st1 := []) (x_runV (As := [.int (nI 0), .long v]) (rest := []) (nL := 4) ⟨hx, hb, hml, hown, hts⟩ (c_X2_loadLong hok (b := 0) (by omega) v _) (cwV 2 hts (gw_V k_560 k_562 k_39 k_52 k_563) rfl rfl rfl (by decide +kernel) ⟨Nat.le_of_ble_eq_true rfl, Nat.le_of_ble_eq_true rfl⟩) hK hP hD 0 2 rfl rfl rfl hl.1 rfl (Nat.le_of_ble_eq_true rfl) d_X2_set_24 ⟨Nat.zero_le _, Nat.zero_le _⟩) hS (x_sub hD hS hA) (x_sub hD hS hA) rfl (fun w1 H locs hY hP hD hS => ?_)
  subst hY
  have hok := mLongZ_ok (v := v) (b := 0) hok
  refine lv_aload_n hx hb d_X2_set_27 rfl (lv_at hl 0 rfl) ?_
  refine lv_iload_n hx hb d_X2_set_28 rfl (lv_at hl 1 rfl) ?_
  refine lv_iconst (v := nI 0) hx hb d_X2_set_29 (by decide) ?_
  refine x_call (st1 := [.int (nI (mFits (mLongG v 0 sg) w (mLongZ v 0 z) r 0 t))]) (x_runV (As := [.int (nI r), .int (nI 0)]) (rest := []) (nL := 4) ⟨hx, hb, hml, hown, hts⟩ (c_X2_store hok (b := 0) (r := r) (t := t) (by omega) (by omega) hlow _) (cwV 2 hts (gw_V k_532 k_534 k_34 k_52 k_535) rfl rfl rfl (by decide +kernel) ⟨Nat.le_of_ble_eq_true rfl, Nat.le_of_ble_eq_true rfl⟩) hK hP hD 0 2 rfl rfl rfl hl.1 rfl (Nat.le_of_ble_eq_true rfl) d_X2_set_30 ⟨Nat.zero_le _, Nat.zero_le _⟩) hS (x_sub hD hS hA) (x_sub hD hS hA) rfl (fun w1 H locs hY hP hD hS => ?_)
  subst hY
  exact x_zret hx hb hr hlocks hP hD hS d_X2_set_33 (n_bool (by unfold mFits; split <;> omega)) rfl rfl
abbrev w_X2_copy : List Cond := .code y_X2_copy b_X2_copy 3 (some .boolean) :: gw
set_option maxHeartbeats 800000 in
set_option maxRecDepth 100000 in
theorem c_X2_copy {l : Launch} {D : va_G} {Rs : va_W} {cA cR cL : ClassId} {h aw ar ag az : Nat} {cd : Int32} {w g : Nat → Nat} {sg : Nat → Int32} {z : Nat → Nat} (hok : mdOk w g z) {r a : Nat} (hr64 : r < 64) (ha64 : a < 64) {t : Nat} (hlow : ¬ 0 ≤ (mLoadG w g a 0 z sg) 0 → mLow (mLoadZ w g a 0 z) 0 t) : xC l y_X2_copy w_X2_copy ({ frames := 4, cells := 0, slots := 0, locals := 93 }) D cls0 (ty3 cA cR cL) [.ref h, .int (nI r), .int (nI a)] (md cA h aw ar ag az cd w g sg z Rs) (some (.int (nI (mFits (mLoadG w g a 0 z sg) w (mLoadZ w g a 0 z) r 0 t)))) (fun w1 => w1 = md cA h aw ar ag az (nI 0) w (mStore (mLoadG w g a 0 z sg) w (mLoadZ w g a 0 z) r 0 g) (mLoadG w g a 0 z sg) (mLoadZ w g a 0 z) Rs) 0 0 := by
  refine xC.ofW (cc := b_X2_copy) (maxL := 3) (ret := some .boolean) (by decide) rfl (Nat.le_of_ble_eq_true rfl) ?_
  intro p e s m below meth c A ls _ hin hx hb hr hml hown hts hlocks hA hK hP hD hS hl
  have hts : ∀ w ∈ gw, w.before ([.ref h, .int (nI r), .int (nI a)]).toArray s = true := fun w h => hts w (List.mem_cons_of_mem _ h)
  have hown : s.vm.findClass R_Md = some m.cls := hown
  have hl : lv_has ls 3 [(0, .ref h), (1, .int (nI r)), (2, .int (nI a))] := hl
  refine lv_aload_n hx hb d_X2_copy_0 rfl (lv_at hl 0 rfl) ?_
  refine lv_iload_n hx hb d_X2_copy_1 rfl (lv_at hl 1 rfl) ?_
  refine x_callR (st1 := [.int (mIsRow (nI r)), .ref h]) (x_runS (As := [.int (nI r)]) (rest := [.ref h]) (nL := 3) ⟨hx, hb, hml, hown, hts⟩ (c_X2_isRow (nI r) _) (cwS 1 hts (gw_S k_511 k_512 k_52 k_513) rfl rfl rfl (by decide +kernel) ⟨Nat.le_of_ble_eq_true rfl, Nat.le_of_ble_eq_true rfl⟩) hK hP hD rfl hl.1 rfl (Nat.le_of_ble_eq_true rfl) d_X2_copy_2 ⟨Nat.zero_le _, Nat.zero_le _⟩) rfl ?_
  rw [mIsRow_1 (show r < 64 by omega)]
  refine n_if_eq (tgt := 19) hx hb d_X2_copy_5 (by decide) (by omega) (fun c => absurd c (by decide)) (fun _ => ?_)
  refine lv_iload_n hx hb d_X2_copy_8 rfl (lv_at hl 2 rfl) ?_
  refine x_callR (st1 := [.int (mIsRow (nI a)), .ref h]) (x_runS (As := [.int (nI a)]) (rest := [.ref h]) (nL := 3) ⟨hx, hb, hml, hown, hts⟩ (c_X2_isRow (nI a) _) (cwS 1 hts (gw_S k_511 k_512 k_52 k_513) rfl rfl rfl (by decide +kernel) ⟨Nat.le_of_ble_eq_true rfl, Nat.le_of_ble_eq_true rfl⟩) hK hP hD rfl hl.1 rfl (Nat.le_of_ble_eq_true rfl) d_X2_copy_9 ⟨Nat.zero_le _, Nat.zero_le _⟩) rfl ?_
  rw [mIsRow_1 (show a < 64 by omega)]
  refine n_if_eq (tgt := 19) hx hb d_X2_copy_12 (by decide) (by omega) (fun c => absurd c (by decide)) (fun _ => ?_)
  refine lv_iconst (v := nI 0) hx hb d_X2_copy_15 (by decide) ?_
  refine lv_goto (tgt := 20) hx hb d_X2_copy_16 (by decide) ?_
  refine x_call (st1 := [.int (mRef (nI 0))]) (x_runV (As := [.int (nI 0)]) (rest := []) (nL := 3) ⟨hx, hb, hml, hown, hts⟩ (c_X2_refuses (nI 0) _) (cwV 1 hts (gw_V k_514 k_516 k_30 k_52 k_517) rfl rfl rfl (by decide +kernel) ⟨Nat.le_of_ble_eq_true rfl, Nat.le_of_ble_eq_true rfl⟩) hK hP hD 0 2 rfl rfl rfl hl.1 rfl (Nat.le_of_ble_eq_true rfl) d_X2_copy_20 ⟨Nat.zero_le _, Nat.zero_le _⟩) hS (x_sub hD hS hA) (x_sub hD hS hA) rfl (fun w1 H locs hY hP hD hS => ?_)
  subst hY
  rw [mRef_0]
  refine n_if_eq (tgt := 28) hx hb d_X2_copy_23 (by decide) (by omega) (fun _ => ?_) (fun c => absurd c (by decide))
  refine lv_aload_n hx hb d_X2_copy_28 rfl (lv_at hl 0 rfl) ?_
  refine lv_iconst (v := nI 0) hx hb d_X2_copy_29 (by decide) ?_
  refine lv_iload_n hx hb d_X2_copy_30 rfl (lv_at hl 2 rfl) ?_
  refine x_call (st1 := []) (x_runV (As := [.int (nI 0), .int (nI a)]) (rest := []) (nL := 3) ⟨hx, hb, hml, hown, hts⟩ (c_X2_load hok (b := 0) (r := a) (by omega) (by omega) _) (cwV 2 hts (gw_V k_518 k_520 k_31 k_52 k_521) rfl rfl rfl (by decide +kernel) ⟨Nat.le_of_ble_eq_true rfl, Nat.le_of_ble_eq_true rfl⟩) hK hP hD 0 2 rfl rfl rfl hl.1 rfl (Nat.le_of_ble_eq_true rfl) d_X2_copy_31 ⟨Nat.zero_le _, Nat.zero_le _⟩) hS (x_sub hD hS hA) (x_sub hD hS hA) rfl (fun w1 H locs hY hP hD hS => ?_)
  subst hY
  have hok := mLoadZ_ok (r := a) (b := 0) hok
  refine lv_aload_n hx hb d_X2_copy_34 rfl (lv_at hl 0 rfl) ?_
  refine lv_iload_n hx hb d_X2_copy_35 rfl (lv_at hl 1 rfl) ?_
  refine lv_iconst (v := nI 0) hx hb d_X2_copy_36 (by decide) ?_
  refine x_call (st1 := [.int (nI (mFits (mLoadG w g a 0 z sg) w (mLoadZ w g a 0 z) r 0 t))]) (x_runV (As := [.int (nI r), .int (nI 0)]) (rest := []) (nL := 3) ⟨hx, hb, hml, hown, hts⟩ (c_X2_store hok (b := 0) (r := r) (t := t) (by omega) (by omega) hlow _) (cwV 2 hts (gw_V k_532 k_534 k_34 k_52 k_535) rfl rfl rfl (by decide +kernel) ⟨Nat.le_of_ble_eq_true rfl, Nat.le_of_ble_eq_true rfl⟩) hK hP hD 0 2 rfl rfl rfl hl.1 rfl (Nat.le_of_ble_eq_true rfl) d_X2_copy_37 ⟨Nat.zero_le _, Nat.zero_le _⟩) hS (x_sub hD hS hA) (x_sub hD hS hA) rfl (fun w1 H locs hY hP hD hS => ?_)
  subst hY
  exact x_zret hx hb hr hlocks hP hD hS d_X2_copy_40 (n_bool (by unfold mFits; split <;> omega)) rfl rfl
abbrev w_X2_widen : List Cond := .code y_X2_widen b_X2_widen 3 (some .boolean) :: gw
set_option maxHeartbeats 800000 in
set_option maxRecDepth 100000 in
theorem c_X2_widen {l : Launch} {D : va_G} {Rs : va_W} {cA cR cL : ClassId} {h aw ar ag az : Nat} {cd : Int32} {w g : Nat → Nat} {sg : Nat → Int32} {z : Nat → Nat} (hok : mdOk w g z) {r : Nat} (hr64 : r < 64) {n : Nat} (hn : 1 ≤ n ∧ n ≤ 256) {t : Nat} (hlow : ¬ 0 ≤ (mLoadG w g r 0 z sg) 0 → mLow (mLoadZ w g r 0 z) 0 t) : xC l y_X2_widen w_X2_widen ({ frames := 4, cells := 0, slots := 0, locals := 93 }) D cls0 (ty3 cA cR cL) [.ref h, .int (nI r), .int (nI n)] (md cA h aw ar ag az cd w g sg z Rs) (some (.int (nI (mFits (mLoadG w g r 0 z sg) (va_up w r n) (mLoadZ w g r 0 z) r 0 t)))) (fun w1 => w1 = md cA h aw ar ag az (nI 0) (va_up w r n) (mStore (mLoadG w g r 0 z sg) (va_up w r n) (mLoadZ w g r 0 z) r 0 g) (mLoadG w g r 0 z sg) (mLoadZ w g r 0 z) Rs) 0 0 := by
  refine xC.ofW (cc := b_X2_widen) (maxL := 3) (ret := some .boolean) (by decide) rfl (Nat.le_of_ble_eq_true rfl) ?_
  intro p e s m below meth c A ls _ hin hx hb hr hml hown hts hlocks hA hK hP hD hS hl
  have hts : ∀ w ∈ gw, w.before ([.ref h, .int (nI r), .int (nI n)]).toArray s = true := fun w h => hts w (List.mem_cons_of_mem _ h)
  have hown : s.vm.findClass R_Md = some m.cls := hown
  have hl : lv_has ls 3 [(0, .ref h), (1, .int (nI r)), (2, .int (nI n))] := hl
  refine lv_aload_n hx hb d_X2_widen_0 rfl (lv_at hl 0 rfl) ?_
  refine lv_iload_n hx hb d_X2_widen_1 rfl (lv_at hl 1 rfl) ?_
  refine x_callR (st1 := [.int (mIsRow (nI r)), .ref h]) (x_runS (As := [.int (nI r)]) (rest := [.ref h]) (nL := 3) ⟨hx, hb, hml, hown, hts⟩ (c_X2_isRow (nI r) _) (cwS 1 hts (gw_S k_511 k_512 k_52 k_513) rfl rfl rfl (by decide +kernel) ⟨Nat.le_of_ble_eq_true rfl, Nat.le_of_ble_eq_true rfl⟩) hK hP hD rfl hl.1 rfl (Nat.le_of_ble_eq_true rfl) d_X2_widen_2 ⟨Nat.zero_le _, Nat.zero_le _⟩) rfl ?_
  rw [mIsRow_1 (show r < 64 by omega)]
  refine n_if_ne (tgt := 12) hx hb d_X2_widen_5 (by decide) (by omega) (fun _ => ?_) (fun c => absurd c (by decide))
  refine lv_iload_n hx hb d_X2_widen_12 rfl (lv_at hl 2 rfl) ?_
  refine lv_iconst (v := nI 1) hx hb d_X2_widen_13 (by decide) ?_
  refine n_icmp_lt (tgt := 24) hx hb d_X2_widen_14 (by decide) (by omega) (by omega) (fun c9 => absurd c9 (by omega)) (fun _ => ?_)
  refine lv_iload_n hx hb d_X2_widen_17 rfl (lv_at hl 2 rfl) ?_
  refine lv_sipush (v := nI 256) hx hb d_X2_widen_18 (by decide) ?_
  refine n_icmp_le (tgt := 28) hx hb d_X2_widen_21 (by decide) (by omega) (by omega) (fun _ => ?_) (fun c9 => absurd c9 (by omega))
  refine lv_iconst (v := nI 0) hx hb d_X2_widen_28 (by decide) ?_
  refine x_call (st1 := [.int (mRef (nI 0))]) (x_runV (As := [.int (nI 0)]) (rest := []) (nL := 3) ⟨hx, hb, hml, hown, hts⟩ (c_X2_refuses (nI 0) _) (cwV 1 hts (gw_V k_514 k_516 k_30 k_52 k_517) rfl rfl rfl (by decide +kernel) ⟨Nat.le_of_ble_eq_true rfl, Nat.le_of_ble_eq_true rfl⟩) hK hP hD 0 2 rfl rfl rfl hl.1 rfl (Nat.le_of_ble_eq_true rfl) d_X2_widen_29 ⟨Nat.zero_le _, Nat.zero_le _⟩) hS (x_sub hD hS hA) (x_sub hD hS hA) rfl (fun w1 H locs hY hP hD hS => ?_)
  subst hY
  rw [mRef_0]
  refine n_if_eq (tgt := 37) hx hb d_X2_widen_32 (by decide) (by omega) (fun _ => ?_) (fun c => absurd c (by decide))
  refine lv_aload_n hx hb d_X2_widen_37 rfl (lv_at hl 0 rfl) ?_
  refine lv_iconst (v := nI 0) hx hb d_X2_widen_38 (by decide) ?_
  refine lv_iload_n hx hb d_X2_widen_39 rfl (lv_at hl 1 rfl) ?_
  refine x_call (st1 := []) (x_runV (As := [.int (nI 0), .int (nI r)]) (rest := []) (nL := 3) ⟨hx, hb, hml, hown, hts⟩ (c_X2_load hok (b := 0) (r := r) (by omega) (by omega) _) (cwV 2 hts (gw_V k_518 k_520 k_31 k_52 k_521) rfl rfl rfl (by decide +kernel) ⟨Nat.le_of_ble_eq_true rfl, Nat.le_of_ble_eq_true rfl⟩) hK hP hD 0 2 rfl rfl rfl hl.1 rfl (Nat.le_of_ble_eq_true rfl) d_X2_widen_40 ⟨Nat.zero_le _, Nat.zero_le _⟩) hS (x_sub hD hS hA) (x_sub hD hS hA) rfl (fun w1 H locs hY hP hD hS => ?_)
  subst hY
  have hok := mLoadZ_ok (r := r) (b := 0) hok
  refine lv_aload_n hx hb d_X2_widen_43 rfl (lv_at hl 0 rfl) ?_
  refine m_getW hx hb hts hown hK hP d_X2_widen_44 ?_
  refine lv_iload_n hx hb d_X2_widen_47 rfl (lv_at hl 1 rfl) ?_
  refine lv_iload_n hx hb d_X2_widen_48 rfl (lv_at hl 2 rfl) ?_
  refine m_astW hx hb hK hP hD hS (j := r) (v := n) (by omega) d_X2_widen_49 (fun H locs hP hD hS => ?_)
  have hok := hok.w (j := r) (v := n) (by omega)
  refine lv_aload_n hx hb d_X2_widen_50 rfl (lv_at hl 0 rfl) ?_
  refine lv_iload_n hx hb d_X2_widen_51 rfl (lv_at hl 1 rfl) ?_
  refine lv_iconst (v := nI 0) hx hb d_X2_widen_52 (by decide) ?_
  refine x_call (st1 := [.int (nI (mFits (mLoadG w g r 0 z sg) (va_up w r n) (mLoadZ w g r 0 z) r 0 t))]) (x_runV (As := [.int (nI r), .int (nI 0)]) (rest := []) (nL := 3) ⟨hx, hb, hml, hown, hts⟩ (c_X2_store hok (b := 0) (r := r) (t := t) (by omega) (by omega) hlow _) (cwV 2 hts (gw_V k_532 k_534 k_34 k_52 k_535) rfl rfl rfl (by decide +kernel) ⟨Nat.le_of_ble_eq_true rfl, Nat.le_of_ble_eq_true rfl⟩) hK hP hD 0 2 rfl rfl rfl hl.1 rfl (Nat.le_of_ble_eq_true rfl) d_X2_widen_53 ⟨Nat.zero_le _, Nat.zero_le _⟩) hS (x_sub hD hS hA) (x_sub hD hS hA) rfl (fun w1 H locs hY hP hD hS => ?_)
  subst hY
  exact x_zret hx hb hr hlocks hP hD hS d_X2_widen_56 (n_bool (by unfold mFits; split <;> omega)) rfl rfl
abbrev w_X2_together : List Cond := .code y_X2_together b_X2_together 4 (some .int) :: gw
set_option maxHeartbeats 800000 in
set_option maxRecDepth 100000 in
theorem c_X2_together {l : Launch} {D : va_G} {Rs : va_W} {cA cR cL : ClassId} {h aw ar ag az : Nat} {cd : Int32} {w g : Nat → Nat} {sg : Nat → Int32} {z : Nat → Nat} (hok : mdOk w g z) {r a : Nat} (hr64 : r < 64) (ha64 : a < 64) {f : Nat} (hf : f < 2) {t : Nat} (hlow : ¬ 0 ≤ (upd (mLoadG w g a 1 (mLoadZ w g r 0 z) (mLoadG w g r 0 z sg)) 0 (mCombS (mLoadG w g a 1 (mLoadZ w g r 0 z) (mLoadG w g r 0 z sg)) 0 1 (mOth (mLoadG w g a 1 (mLoadZ w g r 0 z) (mLoadG w g r 0 z sg)) 1 f) (mLoadZ w g a 1 (mLoadZ w g r 0 z)))) 0 → mLow (mCombZ (mLoadG w g a 1 (mLoadZ w g r 0 z) (mLoadG w g r 0 z sg)) 0 1 (mOth (mLoadG w g a 1 (mLoadZ w g r 0 z) (mLoadG w g r 0 z sg)) 1 f) (mLoadZ w g a 1 (mLoadZ w g r 0 z))) 0 t) : xC l y_X2_together w_X2_together ({ frames := 5, cells := 0, slots := 0, locals := 115 }) D cls0 (ty3 cA cR cL) [.ref h, .int (nI r), .int (nI a), .int (nI f)] (md cA h aw ar ag az cd w g sg z Rs) (some (.int (mKSg (upd (mLoadG w g a 1 (mLoadZ w g r 0 z) (mLoadG w g r 0 z sg)) 0 (mCombS (mLoadG w g a 1 (mLoadZ w g r 0 z) (mLoadG w g r 0 z sg)) 0 1 (mOth (mLoadG w g a 1 (mLoadZ w g r 0 z) (mLoadG w g r 0 z sg)) 1 f) (mLoadZ w g a 1 (mLoadZ w g r 0 z)))) w (mCombZ (mLoadG w g a 1 (mLoadZ w g r 0 z) (mLoadG w g r 0 z sg)) 0 1 (mOth (mLoadG w g a 1 (mLoadZ w g r 0 z) (mLoadG w g r 0 z sg)) 1 f) (mLoadZ w g a 1 (mLoadZ w g r 0 z))) r 0 g 2))) (fun w1 => w1 = md cA h aw ar ag az (nI 0) w (mStore (upd (mLoadG w g a 1 (mLoadZ w g r 0 z) (mLoadG w g r 0 z sg)) 0 (mCombS (mLoadG w g a 1 (mLoadZ w g r 0 z) (mLoadG w g r 0 z sg)) 0 1 (mOth (mLoadG w g a 1 (mLoadZ w g r 0 z) (mLoadG w g r 0 z sg)) 1 f) (mLoadZ w g a 1 (mLoadZ w g r 0 z)))) w (mCombZ (mLoadG w g a 1 (mLoadZ w g r 0 z) (mLoadG w g r 0 z sg)) 0 1 (mOth (mLoadG w g a 1 (mLoadZ w g r 0 z) (mLoadG w g r 0 z sg)) 1 f) (mLoadZ w g a 1 (mLoadZ w g r 0 z))) r 0 g) (mKSg (upd (mLoadG w g a 1 (mLoadZ w g r 0 z) (mLoadG w g r 0 z sg)) 0 (mCombS (mLoadG w g a 1 (mLoadZ w g r 0 z) (mLoadG w g r 0 z sg)) 0 1 (mOth (mLoadG w g a 1 (mLoadZ w g r 0 z) (mLoadG w g r 0 z sg)) 1 f) (mLoadZ w g a 1 (mLoadZ w g r 0 z)))) w (mCombZ (mLoadG w g a 1 (mLoadZ w g r 0 z) (mLoadG w g r 0 z sg)) 0 1 (mOth (mLoadG w g a 1 (mLoadZ w g r 0 z) (mLoadG w g r 0 z sg)) 1 f) (mLoadZ w g a 1 (mLoadZ w g r 0 z))) r 0 g) (mKZ (upd (mLoadG w g a 1 (mLoadZ w g r 0 z) (mLoadG w g r 0 z sg)) 0 (mCombS (mLoadG w g a 1 (mLoadZ w g r 0 z) (mLoadG w g r 0 z sg)) 0 1 (mOth (mLoadG w g a 1 (mLoadZ w g r 0 z) (mLoadG w g r 0 z sg)) 1 f) (mLoadZ w g a 1 (mLoadZ w g r 0 z)))) w (mCombZ (mLoadG w g a 1 (mLoadZ w g r 0 z) (mLoadG w g r 0 z sg)) 0 1 (mOth (mLoadG w g a 1 (mLoadZ w g r 0 z) (mLoadG w g r 0 z sg)) 1 f) (mLoadZ w g a 1 (mLoadZ w g r 0 z))) r 0 g) Rs) 0 0 := by
  refine xC.ofW (cc := b_X2_together) (maxL := 4) (ret := some .int) (by decide) rfl (Nat.le_of_ble_eq_true rfl) ?_
  intro p e s m below meth c A ls _ hin hx hb hr hml hown hts hlocks hA hK hP hD hS hl
  have hts : ∀ w ∈ gw, w.before ([.ref h, .int (nI r), .int (nI a), .int (nI f)]).toArray s = true := fun w h => hts w (List.mem_cons_of_mem _ h)
  have hown : s.vm.findClass R_Md = some m.cls := hown
  have hl : lv_has ls 4 [(0, .ref h), (1, .int (nI r)), (2, .int (nI a)), (3, .int (nI f))] := hl
  refine lv_aload_n hx hb d_X2_together_0 rfl (lv_at hl 0 rfl) ?_
  refine lv_iload_n hx hb d_X2_together_1 rfl (lv_at hl 1 rfl) ?_
  refine x_callR (st1 := [.int (mIsRow (nI r)), .ref h]) (x_runS (As := [.int (nI r)]) (rest := [.ref h]) (nL := 4) ⟨hx, hb, hml, hown, hts⟩ (c_X2_isRow (nI r) _) (cwS 1 hts (gw_S k_511 k_512 k_52 k_513) rfl rfl rfl (by decide +kernel) ⟨Nat.le_of_ble_eq_true rfl, Nat.le_of_ble_eq_true rfl⟩) hK hP hD rfl hl.1 rfl (Nat.le_of_ble_eq_true rfl) d_X2_together_2 ⟨Nat.zero_le _, Nat.zero_le _⟩) rfl ?_
  rw [mIsRow_1 (show r < 64 by omega)]
  refine n_if_eq (tgt := 19) hx hb d_X2_together_5 (by decide) (by omega) (fun c => absurd c (by decide)) (fun _ => ?_)
  refine lv_iload_n hx hb d_X2_together_8 rfl (lv_at hl 2 rfl) ?_
  refine x_callR (st1 := [.int (mIsRow (nI a)), .ref h]) (x_runS (As := [.int (nI a)]) (rest := [.ref h]) (nL := 4) ⟨hx, hb, hml, hown, hts⟩ (c_X2_isRow (nI a) _) (cwS 1 hts (gw_S k_511 k_512 k_52 k_513) rfl rfl rfl (by decide +kernel) ⟨Nat.le_of_ble_eq_true rfl, Nat.le_of_ble_eq_true rfl⟩) hK hP hD rfl hl.1 rfl (Nat.le_of_ble_eq_true rfl) d_X2_together_9 ⟨Nat.zero_le _, Nat.zero_le _⟩) rfl ?_
  rw [mIsRow_1 (show a < 64 by omega)]
  refine n_if_eq (tgt := 19) hx hb d_X2_together_12 (by decide) (by omega) (fun c => absurd c (by decide)) (fun _ => ?_)
  refine lv_iconst (v := nI 0) hx hb d_X2_together_15 (by decide) ?_
  refine lv_goto (tgt := 20) hx hb d_X2_together_16 (by decide) ?_
  refine x_call (st1 := [.int (mRef (nI 0))]) (x_runV (As := [.int (nI 0)]) (rest := []) (nL := 4) ⟨hx, hb, hml, hown, hts⟩ (c_X2_refuses (nI 0) _) (cwV 1 hts (gw_V k_514 k_516 k_30 k_52 k_517) rfl rfl rfl (by decide +kernel) ⟨Nat.le_of_ble_eq_true rfl, Nat.le_of_ble_eq_true rfl⟩) hK hP hD 0 2 rfl rfl rfl hl.1 rfl (Nat.le_of_ble_eq_true rfl) d_X2_together_20 ⟨Nat.zero_le _, Nat.zero_le _⟩) hS (x_sub hD hS hA) (x_sub hD hS hA) rfl (fun w1 H locs hY hP hD hS => ?_)
  subst hY
  rw [mRef_0]
  refine n_if_eq (tgt := 28) hx hb d_X2_together_23 (by decide) (by omega) (fun _ => ?_) (fun c => absurd c (by decide))
  refine lv_aload_n hx hb d_X2_together_28 rfl (lv_at hl 0 rfl) ?_
  refine lv_iconst (v := nI 0) hx hb d_X2_together_29 (by decide) ?_
  refine lv_iload_n hx hb d_X2_together_30 rfl (lv_at hl 1 rfl) ?_
  refine x_call (st1 := []) (x_runV (As := [.int (nI 0), .int (nI r)]) (rest := []) (nL := 4) ⟨hx, hb, hml, hown, hts⟩ (c_X2_load hok (b := 0) (r := r) (by omega) (by omega) _) (cwV 2 hts (gw_V k_518 k_520 k_31 k_52 k_521) rfl rfl rfl (by decide +kernel) ⟨Nat.le_of_ble_eq_true rfl, Nat.le_of_ble_eq_true rfl⟩) hK hP hD 0 2 rfl rfl rfl hl.1 rfl (Nat.le_of_ble_eq_true rfl) d_X2_together_31 ⟨Nat.zero_le _, Nat.zero_le _⟩) hS (x_sub hD hS hA) (x_sub hD hS hA) rfl (fun w1 H locs hY hP hD hS => ?_)
  subst hY
  have hok := mLoadZ_ok (r := r) (b := 0) hok
  refine lv_aload_n hx hb d_X2_together_34 rfl (lv_at hl 0 rfl) ?_
  refine lv_iconst (v := nI 1) hx hb d_X2_together_35 (by decide) ?_
  refine lv_iload_n hx hb d_X2_together_36 rfl (lv_at hl 2 rfl) ?_
  refine x_call (st1 := []) (x_runV (As := [.int (nI 1), .int (nI a)]) (rest := []) (nL := 4) ⟨hx, hb, hml, hown, hts⟩ (c_X2_load hok (b := 1) (r := a) (by omega) (by omega) _) (cwV 2 hts (gw_V k_518 k_520 k_31 k_52 k_521) rfl rfl rfl (by decide +kernel) ⟨Nat.le_of_ble_eq_true rfl, Nat.le_of_ble_eq_true rfl⟩) hK hP hD 0 2 rfl rfl rfl hl.1 rfl (Nat.le_of_ble_eq_true rfl) d_X2_together_37 ⟨Nat.zero_le _, Nat.zero_le _⟩) hS (x_sub hD hS hA) (x_sub hD hS hA) rfl (fun w1 H locs hY hP hD hS => ?_)
  subst hY
  have hok := mLoadZ_ok (r := a) (b := 1) hok
  refine lv_aload_n hx hb d_X2_together_40 rfl (lv_at hl 0 rfl) ?_
  refine lv_iconst (v := nI 0) hx hb d_X2_together_41 (by decide) ?_
  refine lv_iconst (v := nI 1) hx hb d_X2_together_42 (by decide) ?_
  refine lv_iload_n hx hb d_X2_together_43 rfl (lv_at hl 3 rfl) ?_
  refine x_call (st1 := []) (x_runV (As := [.int (nI 0), .int (nI 1), .int (nI f)]) (rest := []) (nL := 4) ⟨hx, hb, hml, hown, hts⟩ (c_X2_combine hok (b := 0) (q := 1) (f := f) (by omega) (by omega) (by omega) _) (cwV 3 hts (gw_V k_593 k_595 k_43 k_52 k_596) rfl rfl rfl (by decide +kernel) ⟨Nat.le_of_ble_eq_true rfl, Nat.le_of_ble_eq_true rfl⟩) hK hP hD 0 2 rfl rfl rfl hl.1 rfl (Nat.le_of_ble_eq_true rfl) d_X2_together_44 ⟨Nat.zero_le _, Nat.zero_le _⟩) hS (x_sub hD hS hA) (x_sub hD hS hA) rfl (fun w1 H locs hY hP hD hS => ?_)
  subst hY
  have hok := mCombZ_ok (sg := mLoadG w g a 1 (mLoadZ w g r 0 z) (mLoadG w g r 0 z sg)) (b := 0) (q := 1) (x := mOth (mLoadG w g a 1 (mLoadZ w g r 0 z) (mLoadG w g r 0 z sg)) 1 f) hok
  refine lv_aload_n hx hb d_X2_together_47 rfl (lv_at hl 0 rfl) ?_
  refine lv_iload_n hx hb d_X2_together_48 rfl (lv_at hl 1 rfl) ?_
  refine lv_iconst (v := nI 0) hx hb d_X2_together_49 (by decide) ?_
  refine x_call (st1 := [.int (mKSg (upd (mLoadG w g a 1 (mLoadZ w g r 0 z) (mLoadG w g r 0 z sg)) 0 (mCombS (mLoadG w g a 1 (mLoadZ w g r 0 z) (mLoadG w g r 0 z sg)) 0 1 (mOth (mLoadG w g a 1 (mLoadZ w g r 0 z) (mLoadG w g r 0 z sg)) 1 f) (mLoadZ w g a 1 (mLoadZ w g r 0 z)))) w (mCombZ (mLoadG w g a 1 (mLoadZ w g r 0 z) (mLoadG w g r 0 z sg)) 0 1 (mOth (mLoadG w g a 1 (mLoadZ w g r 0 z) (mLoadG w g r 0 z sg)) 1 f) (mLoadZ w g a 1 (mLoadZ w g r 0 z))) r 0 g 2)]) (x_runV (As := [.int (nI r), .int (nI 0)]) (rest := []) (nL := 4) ⟨hx, hb, hml, hown, hts⟩ (c_X2_kept hok (b := 0) (r := r) (t := t) (by omega) (by omega) hlow _) (cwV 2 hts (gw_V k_601 k_603 k_45 k_52 k_604) rfl rfl rfl (by decide +kernel) ⟨Nat.le_of_ble_eq_true rfl, Nat.le_of_ble_eq_true rfl⟩) hK hP hD 0 2 rfl rfl rfl hl.1 rfl (Nat.le_of_ble_eq_true rfl) d_X2_together_50 ⟨Nat.zero_le _, Nat.zero_le _⟩) hS (x_sub hD hS hA) (x_sub hD hS hA) rfl (fun w1 H locs hY hP hD hS => ?_)
  subst hY
  exact x_iret hx hb hr hlocks hP hD hS d_X2_together_53 rfl rfl
abbrev w_X2_add : List Cond := .code y_X2_add b_X2_add 3 (some .int) :: gw
set_option maxHeartbeats 800000 in
set_option maxRecDepth 100000 in
theorem c_X2_add {l : Launch} {D : va_G} {Rs : va_W} {cA cR cL : ClassId} {h aw ar ag az : Nat} {cd : Int32} {w g : Nat → Nat} {sg : Nat → Int32} {z : Nat → Nat} (hok : mdOk w g z) {r a : Nat} (hr64 : r < 64) (ha64 : a < 64) {t : Nat} (hlow : ¬ 0 ≤ (upd (mLoadG w g a 1 (mLoadZ w g r 0 z) (mLoadG w g r 0 z sg)) 0 (mCombS (mLoadG w g a 1 (mLoadZ w g r 0 z) (mLoadG w g r 0 z sg)) 0 1 (mOth (mLoadG w g a 1 (mLoadZ w g r 0 z) (mLoadG w g r 0 z sg)) 1 0) (mLoadZ w g a 1 (mLoadZ w g r 0 z)))) 0 → mLow (mCombZ (mLoadG w g a 1 (mLoadZ w g r 0 z) (mLoadG w g r 0 z sg)) 0 1 (mOth (mLoadG w g a 1 (mLoadZ w g r 0 z) (mLoadG w g r 0 z sg)) 1 0) (mLoadZ w g a 1 (mLoadZ w g r 0 z))) 0 t) : xC l y_X2_add w_X2_add ({ frames := 6, cells := 0, slots := 0, locals := 138 }) D cls0 (ty3 cA cR cL) [.ref h, .int (nI r), .int (nI a)] (md cA h aw ar ag az cd w g sg z Rs) (some (.int (mKSg (upd (mLoadG w g a 1 (mLoadZ w g r 0 z) (mLoadG w g r 0 z sg)) 0 (mCombS (mLoadG w g a 1 (mLoadZ w g r 0 z) (mLoadG w g r 0 z sg)) 0 1 (mOth (mLoadG w g a 1 (mLoadZ w g r 0 z) (mLoadG w g r 0 z sg)) 1 0) (mLoadZ w g a 1 (mLoadZ w g r 0 z)))) w (mCombZ (mLoadG w g a 1 (mLoadZ w g r 0 z) (mLoadG w g r 0 z sg)) 0 1 (mOth (mLoadG w g a 1 (mLoadZ w g r 0 z) (mLoadG w g r 0 z sg)) 1 0) (mLoadZ w g a 1 (mLoadZ w g r 0 z))) r 0 g 2))) (fun w1 => w1 = md cA h aw ar ag az (nI 0) w (mStore (upd (mLoadG w g a 1 (mLoadZ w g r 0 z) (mLoadG w g r 0 z sg)) 0 (mCombS (mLoadG w g a 1 (mLoadZ w g r 0 z) (mLoadG w g r 0 z sg)) 0 1 (mOth (mLoadG w g a 1 (mLoadZ w g r 0 z) (mLoadG w g r 0 z sg)) 1 0) (mLoadZ w g a 1 (mLoadZ w g r 0 z)))) w (mCombZ (mLoadG w g a 1 (mLoadZ w g r 0 z) (mLoadG w g r 0 z sg)) 0 1 (mOth (mLoadG w g a 1 (mLoadZ w g r 0 z) (mLoadG w g r 0 z sg)) 1 0) (mLoadZ w g a 1 (mLoadZ w g r 0 z))) r 0 g) (mKSg (upd (mLoadG w g a 1 (mLoadZ w g r 0 z) (mLoadG w g r 0 z sg)) 0 (mCombS (mLoadG w g a 1 (mLoadZ w g r 0 z) (mLoadG w g r 0 z sg)) 0 1 (mOth (mLoadG w g a 1 (mLoadZ w g r 0 z) (mLoadG w g r 0 z sg)) 1 0) (mLoadZ w g a 1 (mLoadZ w g r 0 z)))) w (mCombZ (mLoadG w g a 1 (mLoadZ w g r 0 z) (mLoadG w g r 0 z sg)) 0 1 (mOth (mLoadG w g a 1 (mLoadZ w g r 0 z) (mLoadG w g r 0 z sg)) 1 0) (mLoadZ w g a 1 (mLoadZ w g r 0 z))) r 0 g) (mKZ (upd (mLoadG w g a 1 (mLoadZ w g r 0 z) (mLoadG w g r 0 z sg)) 0 (mCombS (mLoadG w g a 1 (mLoadZ w g r 0 z) (mLoadG w g r 0 z sg)) 0 1 (mOth (mLoadG w g a 1 (mLoadZ w g r 0 z) (mLoadG w g r 0 z sg)) 1 0) (mLoadZ w g a 1 (mLoadZ w g r 0 z)))) w (mCombZ (mLoadG w g a 1 (mLoadZ w g r 0 z) (mLoadG w g r 0 z sg)) 0 1 (mOth (mLoadG w g a 1 (mLoadZ w g r 0 z) (mLoadG w g r 0 z sg)) 1 0) (mLoadZ w g a 1 (mLoadZ w g r 0 z))) r 0 g) Rs) 0 0 := by
  refine xC.ofW (cc := b_X2_add) (maxL := 3) (ret := some .int) (by decide) rfl (Nat.le_of_ble_eq_true rfl) ?_
  intro p e s m below meth c A ls _ hin hx hb hr hml hown hts hlocks hA hK hP hD hS hl
  have hts : ∀ w ∈ gw, w.before ([.ref h, .int (nI r), .int (nI a)]).toArray s = true := fun w h => hts w (List.mem_cons_of_mem _ h)
  have hown : s.vm.findClass R_Md = some m.cls := hown
  have hl : lv_has ls 3 [(0, .ref h), (1, .int (nI r)), (2, .int (nI a))] := hl
  refine lv_aload_n hx hb d_X2_add_0 rfl (lv_at hl 0 rfl) ?_
  refine lv_iload_n hx hb d_X2_add_1 rfl (lv_at hl 1 rfl) ?_
  refine lv_iload_n hx hb d_X2_add_2 rfl (lv_at hl 2 rfl) ?_
  refine lv_iconst (v := nI 0) hx hb d_X2_add_3 (by decide) ?_
  refine x_call (st1 := [.int (mKSg (upd (mLoadG w g a 1 (mLoadZ w g r 0 z) (mLoadG w g r 0 z sg)) 0 (mCombS (mLoadG w g a 1 (mLoadZ w g r 0 z) (mLoadG w g r 0 z sg)) 0 1 (mOth (mLoadG w g a 1 (mLoadZ w g r 0 z) (mLoadG w g r 0 z sg)) 1 0) (mLoadZ w g a 1 (mLoadZ w g r 0 z)))) w (mCombZ (mLoadG w g a 1 (mLoadZ w g r 0 z) (mLoadG w g r 0 z sg)) 0 1 (mOth (mLoadG w g a 1 (mLoadZ w g r 0 z) (mLoadG w g r 0 z sg)) 1 0) (mLoadZ w g a 1 (mLoadZ w g r 0 z))) r 0 g 2)]) (x_runV (As := [.int (nI r), .int (nI a), .int (nI 0)]) (rest := []) (nL := 3) ⟨hx, hb, hml, hown, hts⟩ (c_X2_together hok hr64 ha64 (f := 0) (by omega) hlow _) (cwV 3 hts (gw_V k_589 k_591 k_42 k_52 k_592) rfl rfl rfl (by decide +kernel) ⟨Nat.le_of_ble_eq_true rfl, Nat.le_of_ble_eq_true rfl⟩) hK hP hD 0 2 rfl rfl rfl hl.1 rfl (Nat.le_of_ble_eq_true rfl) d_X2_add_4 ⟨Nat.zero_le _, Nat.zero_le _⟩) hS (x_sub hD hS hA) (x_sub hD hS hA) rfl (fun w1 H locs hY hP hD hS => ?_)
  subst hY
  exact x_iret hx hb hr hlocks hP hD hS d_X2_add_7 rfl rfl
abbrev w_X2_subtract : List Cond := .code y_X2_subtract b_X2_subtract 3 (some .int) :: gw
set_option maxHeartbeats 800000 in
set_option maxRecDepth 100000 in
theorem c_X2_subtract {l : Launch} {D : va_G} {Rs : va_W} {cA cR cL : ClassId} {h aw ar ag az : Nat} {cd : Int32} {w g : Nat → Nat} {sg : Nat → Int32} {z : Nat → Nat} (hok : mdOk w g z) {r a : Nat} (hr64 : r < 64) (ha64 : a < 64) {t : Nat} (hlow : ¬ 0 ≤ (upd (mLoadG w g a 1 (mLoadZ w g r 0 z) (mLoadG w g r 0 z sg)) 0 (mCombS (mLoadG w g a 1 (mLoadZ w g r 0 z) (mLoadG w g r 0 z sg)) 0 1 (mOth (mLoadG w g a 1 (mLoadZ w g r 0 z) (mLoadG w g r 0 z sg)) 1 1) (mLoadZ w g a 1 (mLoadZ w g r 0 z)))) 0 → mLow (mCombZ (mLoadG w g a 1 (mLoadZ w g r 0 z) (mLoadG w g r 0 z sg)) 0 1 (mOth (mLoadG w g a 1 (mLoadZ w g r 0 z) (mLoadG w g r 0 z sg)) 1 1) (mLoadZ w g a 1 (mLoadZ w g r 0 z))) 0 t) : xC l y_X2_subtract w_X2_subtract ({ frames := 6, cells := 0, slots := 0, locals := 138 }) D cls0 (ty3 cA cR cL) [.ref h, .int (nI r), .int (nI a)] (md cA h aw ar ag az cd w g sg z Rs) (some (.int (mKSg (upd (mLoadG w g a 1 (mLoadZ w g r 0 z) (mLoadG w g r 0 z sg)) 0 (mCombS (mLoadG w g a 1 (mLoadZ w g r 0 z) (mLoadG w g r 0 z sg)) 0 1 (mOth (mLoadG w g a 1 (mLoadZ w g r 0 z) (mLoadG w g r 0 z sg)) 1 1) (mLoadZ w g a 1 (mLoadZ w g r 0 z)))) w (mCombZ (mLoadG w g a 1 (mLoadZ w g r 0 z) (mLoadG w g r 0 z sg)) 0 1 (mOth (mLoadG w g a 1 (mLoadZ w g r 0 z) (mLoadG w g r 0 z sg)) 1 1) (mLoadZ w g a 1 (mLoadZ w g r 0 z))) r 0 g 2))) (fun w1 => w1 = md cA h aw ar ag az (nI 0) w (mStore (upd (mLoadG w g a 1 (mLoadZ w g r 0 z) (mLoadG w g r 0 z sg)) 0 (mCombS (mLoadG w g a 1 (mLoadZ w g r 0 z) (mLoadG w g r 0 z sg)) 0 1 (mOth (mLoadG w g a 1 (mLoadZ w g r 0 z) (mLoadG w g r 0 z sg)) 1 1) (mLoadZ w g a 1 (mLoadZ w g r 0 z)))) w (mCombZ (mLoadG w g a 1 (mLoadZ w g r 0 z) (mLoadG w g r 0 z sg)) 0 1 (mOth (mLoadG w g a 1 (mLoadZ w g r 0 z) (mLoadG w g r 0 z sg)) 1 1) (mLoadZ w g a 1 (mLoadZ w g r 0 z))) r 0 g) (mKSg (upd (mLoadG w g a 1 (mLoadZ w g r 0 z) (mLoadG w g r 0 z sg)) 0 (mCombS (mLoadG w g a 1 (mLoadZ w g r 0 z) (mLoadG w g r 0 z sg)) 0 1 (mOth (mLoadG w g a 1 (mLoadZ w g r 0 z) (mLoadG w g r 0 z sg)) 1 1) (mLoadZ w g a 1 (mLoadZ w g r 0 z)))) w (mCombZ (mLoadG w g a 1 (mLoadZ w g r 0 z) (mLoadG w g r 0 z sg)) 0 1 (mOth (mLoadG w g a 1 (mLoadZ w g r 0 z) (mLoadG w g r 0 z sg)) 1 1) (mLoadZ w g a 1 (mLoadZ w g r 0 z))) r 0 g) (mKZ (upd (mLoadG w g a 1 (mLoadZ w g r 0 z) (mLoadG w g r 0 z sg)) 0 (mCombS (mLoadG w g a 1 (mLoadZ w g r 0 z) (mLoadG w g r 0 z sg)) 0 1 (mOth (mLoadG w g a 1 (mLoadZ w g r 0 z) (mLoadG w g r 0 z sg)) 1 1) (mLoadZ w g a 1 (mLoadZ w g r 0 z)))) w (mCombZ (mLoadG w g a 1 (mLoadZ w g r 0 z) (mLoadG w g r 0 z sg)) 0 1 (mOth (mLoadG w g a 1 (mLoadZ w g r 0 z) (mLoadG w g r 0 z sg)) 1 1) (mLoadZ w g a 1 (mLoadZ w g r 0 z))) r 0 g) Rs) 0 0 := by
  refine xC.ofW (cc := b_X2_subtract) (maxL := 3) (ret := some .int) (by decide) rfl (Nat.le_of_ble_eq_true rfl) ?_
  intro p e s m below meth c A ls _ hin hx hb hr hml hown hts hlocks hA hK hP hD hS hl
  have hts : ∀ w ∈ gw, w.before ([.ref h, .int (nI r), .int (nI a)]).toArray s = true := fun w h => hts w (List.mem_cons_of_mem _ h)
  have hown : s.vm.findClass R_Md = some m.cls := hown
  have hl : lv_has ls 3 [(0, .ref h), (1, .int (nI r)), (2, .int (nI a))] := hl
  refine lv_aload_n hx hb d_X2_subtract_0 rfl (lv_at hl 0 rfl) ?_
  refine lv_iload_n hx hb d_X2_subtract_1 rfl (lv_at hl 1 rfl) ?_
  refine lv_iload_n hx hb d_X2_subtract_2 rfl (lv_at hl 2 rfl) ?_
  refine lv_iconst (v := nI 1) hx hb d_X2_subtract_3 (by decide) ?_
  refine x_call (st1 := [.int (mKSg (upd (mLoadG w g a 1 (mLoadZ w g r 0 z) (mLoadG w g r 0 z sg)) 0 (mCombS (mLoadG w g a 1 (mLoadZ w g r 0 z) (mLoadG w g r 0 z sg)) 0 1 (mOth (mLoadG w g a 1 (mLoadZ w g r 0 z) (mLoadG w g r 0 z sg)) 1 1) (mLoadZ w g a 1 (mLoadZ w g r 0 z)))) w (mCombZ (mLoadG w g a 1 (mLoadZ w g r 0 z) (mLoadG w g r 0 z sg)) 0 1 (mOth (mLoadG w g a 1 (mLoadZ w g r 0 z) (mLoadG w g r 0 z sg)) 1 1) (mLoadZ w g a 1 (mLoadZ w g r 0 z))) r 0 g 2)]) (x_runV (As := [.int (nI r), .int (nI a), .int (nI 1)]) (rest := []) (nL := 3) ⟨hx, hb, hml, hown, hts⟩ (c_X2_together hok hr64 ha64 (f := 1) (by omega) hlow _) (cwV 3 hts (gw_V k_589 k_591 k_42 k_52 k_592) rfl rfl rfl (by decide +kernel) ⟨Nat.le_of_ble_eq_true rfl, Nat.le_of_ble_eq_true rfl⟩) hK hP hD 0 2 rfl rfl rfl hl.1 rfl (Nat.le_of_ble_eq_true rfl) d_X2_subtract_4 ⟨Nat.zero_le _, Nat.zero_le _⟩) hS (x_sub hD hS hA) (x_sub hD hS hA) rfl (fun w1 H locs hY hP hD hS => ?_)
  subst hY
  exact x_iret hx hb hr hlocks hP hD hS d_X2_subtract_7 rfl rfl
abbrev w_X2_product : List Cond := .code y_X2_product b_X2_product 5 (some .int) :: gw
set_option maxHeartbeats 800000 in
set_option maxRecDepth 100000 in
theorem c_X2_product {l : Launch} {D : va_G} {Rs : va_W} {cA cR cL : ClassId} {h aw ar ag az : Nat} {cd : Int32} {w g : Nat → Nat} {sg : Nat → Int32} {z : Nat → Nat} (hok : mdOk w g z) {r a u : Nat} (hr64 : r < 64) (ha64 : a < 64) (hu64 : u < 64) (hra : r ≠ a) (hru : r ≠ u) {f : Nat} (hf : f < 2) (hfit : mMulN (mClr 2 cZ 0 (mLoadZ w g u 1 (mLoadZ w g a 0 z))) 0 + mMulN (mClr 2 cZ 0 (mLoadZ w g u 1 (mLoadZ w g a 0 z))) 1 ≤ 1100) {t : Nat} (hlow : ¬ 0 ≤ (upd (mLoadG w g r 0 (mMulZ (mLoadZ w g u 1 (mLoadZ w g a 0 z))) (mMulG (mLoadG w g u 1 (mLoadZ w g a 0 z) (mLoadG w g a 0 z sg)))) 0 (mCombS (mLoadG w g r 0 (mMulZ (mLoadZ w g u 1 (mLoadZ w g a 0 z))) (mMulG (mLoadG w g u 1 (mLoadZ w g a 0 z) (mLoadG w g a 0 z sg)))) 0 2 (mOth (mLoadG w g r 0 (mMulZ (mLoadZ w g u 1 (mLoadZ w g a 0 z))) (mMulG (mLoadG w g u 1 (mLoadZ w g a 0 z) (mLoadG w g a 0 z sg)))) 2 f) (mLoadZ w g r 0 (mMulZ (mLoadZ w g u 1 (mLoadZ w g a 0 z)))))) 0 → mLow (mCombZ (mLoadG w g r 0 (mMulZ (mLoadZ w g u 1 (mLoadZ w g a 0 z))) (mMulG (mLoadG w g u 1 (mLoadZ w g a 0 z) (mLoadG w g a 0 z sg)))) 0 2 (mOth (mLoadG w g r 0 (mMulZ (mLoadZ w g u 1 (mLoadZ w g a 0 z))) (mMulG (mLoadG w g u 1 (mLoadZ w g a 0 z) (mLoadG w g a 0 z sg)))) 2 f) (mLoadZ w g r 0 (mMulZ (mLoadZ w g u 1 (mLoadZ w g a 0 z))))) 0 t) : xC l y_X2_product w_X2_product ({ frames := 5, cells := 0, slots := 0, locals := 115 }) D cls0 (ty3 cA cR cL) [.ref h, .int (nI r), .int (nI a), .int (nI u), .int (nI f)] (md cA h aw ar ag az cd w g sg z Rs) (some (.int (mKSg (upd (mLoadG w g r 0 (mMulZ (mLoadZ w g u 1 (mLoadZ w g a 0 z))) (mMulG (mLoadG w g u 1 (mLoadZ w g a 0 z) (mLoadG w g a 0 z sg)))) 0 (mCombS (mLoadG w g r 0 (mMulZ (mLoadZ w g u 1 (mLoadZ w g a 0 z))) (mMulG (mLoadG w g u 1 (mLoadZ w g a 0 z) (mLoadG w g a 0 z sg)))) 0 2 (mOth (mLoadG w g r 0 (mMulZ (mLoadZ w g u 1 (mLoadZ w g a 0 z))) (mMulG (mLoadG w g u 1 (mLoadZ w g a 0 z) (mLoadG w g a 0 z sg)))) 2 f) (mLoadZ w g r 0 (mMulZ (mLoadZ w g u 1 (mLoadZ w g a 0 z)))))) w (mCombZ (mLoadG w g r 0 (mMulZ (mLoadZ w g u 1 (mLoadZ w g a 0 z))) (mMulG (mLoadG w g u 1 (mLoadZ w g a 0 z) (mLoadG w g a 0 z sg)))) 0 2 (mOth (mLoadG w g r 0 (mMulZ (mLoadZ w g u 1 (mLoadZ w g a 0 z))) (mMulG (mLoadG w g u 1 (mLoadZ w g a 0 z) (mLoadG w g a 0 z sg)))) 2 f) (mLoadZ w g r 0 (mMulZ (mLoadZ w g u 1 (mLoadZ w g a 0 z))))) r 0 g 2))) (fun w1 => w1 = md cA h aw ar ag az (nI 0) w (mStore (upd (mLoadG w g r 0 (mMulZ (mLoadZ w g u 1 (mLoadZ w g a 0 z))) (mMulG (mLoadG w g u 1 (mLoadZ w g a 0 z) (mLoadG w g a 0 z sg)))) 0 (mCombS (mLoadG w g r 0 (mMulZ (mLoadZ w g u 1 (mLoadZ w g a 0 z))) (mMulG (mLoadG w g u 1 (mLoadZ w g a 0 z) (mLoadG w g a 0 z sg)))) 0 2 (mOth (mLoadG w g r 0 (mMulZ (mLoadZ w g u 1 (mLoadZ w g a 0 z))) (mMulG (mLoadG w g u 1 (mLoadZ w g a 0 z) (mLoadG w g a 0 z sg)))) 2 f) (mLoadZ w g r 0 (mMulZ (mLoadZ w g u 1 (mLoadZ w g a 0 z)))))) w (mCombZ (mLoadG w g r 0 (mMulZ (mLoadZ w g u 1 (mLoadZ w g a 0 z))) (mMulG (mLoadG w g u 1 (mLoadZ w g a 0 z) (mLoadG w g a 0 z sg)))) 0 2 (mOth (mLoadG w g r 0 (mMulZ (mLoadZ w g u 1 (mLoadZ w g a 0 z))) (mMulG (mLoadG w g u 1 (mLoadZ w g a 0 z) (mLoadG w g a 0 z sg)))) 2 f) (mLoadZ w g r 0 (mMulZ (mLoadZ w g u 1 (mLoadZ w g a 0 z))))) r 0 g) (mKSg (upd (mLoadG w g r 0 (mMulZ (mLoadZ w g u 1 (mLoadZ w g a 0 z))) (mMulG (mLoadG w g u 1 (mLoadZ w g a 0 z) (mLoadG w g a 0 z sg)))) 0 (mCombS (mLoadG w g r 0 (mMulZ (mLoadZ w g u 1 (mLoadZ w g a 0 z))) (mMulG (mLoadG w g u 1 (mLoadZ w g a 0 z) (mLoadG w g a 0 z sg)))) 0 2 (mOth (mLoadG w g r 0 (mMulZ (mLoadZ w g u 1 (mLoadZ w g a 0 z))) (mMulG (mLoadG w g u 1 (mLoadZ w g a 0 z) (mLoadG w g a 0 z sg)))) 2 f) (mLoadZ w g r 0 (mMulZ (mLoadZ w g u 1 (mLoadZ w g a 0 z)))))) w (mCombZ (mLoadG w g r 0 (mMulZ (mLoadZ w g u 1 (mLoadZ w g a 0 z))) (mMulG (mLoadG w g u 1 (mLoadZ w g a 0 z) (mLoadG w g a 0 z sg)))) 0 2 (mOth (mLoadG w g r 0 (mMulZ (mLoadZ w g u 1 (mLoadZ w g a 0 z))) (mMulG (mLoadG w g u 1 (mLoadZ w g a 0 z) (mLoadG w g a 0 z sg)))) 2 f) (mLoadZ w g r 0 (mMulZ (mLoadZ w g u 1 (mLoadZ w g a 0 z))))) r 0 g) (mKZ (upd (mLoadG w g r 0 (mMulZ (mLoadZ w g u 1 (mLoadZ w g a 0 z))) (mMulG (mLoadG w g u 1 (mLoadZ w g a 0 z) (mLoadG w g a 0 z sg)))) 0 (mCombS (mLoadG w g r 0 (mMulZ (mLoadZ w g u 1 (mLoadZ w g a 0 z))) (mMulG (mLoadG w g u 1 (mLoadZ w g a 0 z) (mLoadG w g a 0 z sg)))) 0 2 (mOth (mLoadG w g r 0 (mMulZ (mLoadZ w g u 1 (mLoadZ w g a 0 z))) (mMulG (mLoadG w g u 1 (mLoadZ w g a 0 z) (mLoadG w g a 0 z sg)))) 2 f) (mLoadZ w g r 0 (mMulZ (mLoadZ w g u 1 (mLoadZ w g a 0 z)))))) w (mCombZ (mLoadG w g r 0 (mMulZ (mLoadZ w g u 1 (mLoadZ w g a 0 z))) (mMulG (mLoadG w g u 1 (mLoadZ w g a 0 z) (mLoadG w g a 0 z sg)))) 0 2 (mOth (mLoadG w g r 0 (mMulZ (mLoadZ w g u 1 (mLoadZ w g a 0 z))) (mMulG (mLoadG w g u 1 (mLoadZ w g a 0 z) (mLoadG w g a 0 z sg)))) 2 f) (mLoadZ w g r 0 (mMulZ (mLoadZ w g u 1 (mLoadZ w g a 0 z))))) r 0 g) Rs) 0 0 := by
  refine xC.ofW (cc := b_X2_product) (maxL := 5) (ret := some .int) (by decide) rfl (Nat.le_of_ble_eq_true rfl) ?_
  intro p e s m below meth c A ls _ hin hx hb hr hml hown hts hlocks hA hK hP hD hS hl
  have hts : ∀ w ∈ gw, w.before ([.ref h, .int (nI r), .int (nI a), .int (nI u), .int (nI f)]).toArray s = true := fun w h => hts w (List.mem_cons_of_mem _ h)
  have hown : s.vm.findClass R_Md = some m.cls := hown
  have hl : lv_has ls 5 [(0, .ref h), (1, .int (nI r)), (2, .int (nI a)), (3, .int (nI u)), (4, .int (nI f))] := hl
  refine lv_aload_n hx hb d_X2_product_0 rfl (lv_at hl 0 rfl) ?_
  refine lv_iload_n hx hb d_X2_product_1 rfl (lv_at hl 1 rfl) ?_
  refine x_callR (st1 := [.int (mIsRow (nI r)), .ref h]) (x_runS (As := [.int (nI r)]) (rest := [.ref h]) (nL := 5) ⟨hx, hb, hml, hown, hts⟩ (c_X2_isRow (nI r) _) (cwS 1 hts (gw_S k_511 k_512 k_52 k_513) rfl rfl rfl (by decide +kernel) ⟨Nat.le_of_ble_eq_true rfl, Nat.le_of_ble_eq_true rfl⟩) hK hP hD rfl hl.1 rfl (Nat.le_of_ble_eq_true rfl) d_X2_product_2 ⟨Nat.zero_le _, Nat.zero_le _⟩) rfl ?_
  rw [mIsRow_1 (show r < 64 by omega)]
  refine n_if_eq (tgt := 22) hx hb d_X2_product_5 (by decide) (by omega) (fun c => absurd c (by decide)) (fun _ => ?_)
  refine lv_iload_n hx hb d_X2_product_8 rfl (lv_at hl 2 rfl) ?_
  refine x_callR (st1 := [.int (mIsRow (nI a)), .ref h]) (x_runS (As := [.int (nI a)]) (rest := [.ref h]) (nL := 5) ⟨hx, hb, hml, hown, hts⟩ (c_X2_isRow (nI a) _) (cwS 1 hts (gw_S k_511 k_512 k_52 k_513) rfl rfl rfl (by decide +kernel) ⟨Nat.le_of_ble_eq_true rfl, Nat.le_of_ble_eq_true rfl⟩) hK hP hD rfl hl.1 rfl (Nat.le_of_ble_eq_true rfl) d_X2_product_9 ⟨Nat.zero_le _, Nat.zero_le _⟩) rfl ?_
  rw [mIsRow_1 (show a < 64 by omega)]
  refine n_if_eq (tgt := 22) hx hb d_X2_product_12 (by decide) (by omega) (fun c => absurd c (by decide)) (fun _ => ?_)
  refine lv_iload_n hx hb d_X2_product_15 rfl (lv_at hl 3 rfl) ?_
  refine x_callR (st1 := [.int (mIsRow (nI u)), .ref h]) (x_runS (As := [.int (nI u)]) (rest := [.ref h]) (nL := 5) ⟨hx, hb, hml, hown, hts⟩ (c_X2_isRow (nI u) _) (cwS 1 hts (gw_S k_511 k_512 k_52 k_513) rfl rfl rfl (by decide +kernel) ⟨Nat.le_of_ble_eq_true rfl, Nat.le_of_ble_eq_true rfl⟩) hK hP hD rfl hl.1 rfl (Nat.le_of_ble_eq_true rfl) d_X2_product_16 ⟨Nat.zero_le _, Nat.zero_le _⟩) rfl ?_
  rw [mIsRow_1 (show u < 64 by omega)]
  refine n_if_ne (tgt := 26) hx hb d_X2_product_19 (by decide) (by omega) (fun _ => ?_) (fun c => absurd c (by decide))
  refine lv_iload_n hx hb d_X2_product_26 rfl (lv_at hl 1 rfl) ?_
  refine lv_iload_n hx hb d_X2_product_27 rfl (lv_at hl 2 rfl) ?_
  refine n_icmp_eq (tgt := 36) hx hb d_X2_product_28 (by decide) (by omega) (by omega) (fun c9 => absurd c9 (by omega)) (fun _ => ?_)
  refine lv_iload_n hx hb d_X2_product_31 rfl (lv_at hl 1 rfl) ?_
  refine lv_iload_n hx hb d_X2_product_32 rfl (lv_at hl 3 rfl) ?_
  refine n_icmp_ne (tgt := 40) hx hb d_X2_product_33 (by decide) (by omega) (by omega) (fun _ => ?_) (fun c9 => absurd c9 (by omega))
  refine lv_iconst (v := nI 0) hx hb d_X2_product_40 (by decide) ?_
  refine x_call (st1 := [.int (mRef (nI 0))]) (x_runV (As := [.int (nI 0)]) (rest := []) (nL := 5) ⟨hx, hb, hml, hown, hts⟩ (c_X2_refuses (nI 0) _) (cwV 1 hts (gw_V k_514 k_516 k_30 k_52 k_517) rfl rfl rfl (by decide +kernel) ⟨Nat.le_of_ble_eq_true rfl, Nat.le_of_ble_eq_true rfl⟩) hK hP hD 0 2 rfl rfl rfl hl.1 rfl (Nat.le_of_ble_eq_true rfl) d_X2_product_41 ⟨Nat.zero_le _, Nat.zero_le _⟩) hS (x_sub hD hS hA) (x_sub hD hS hA) rfl (fun w1 H locs hY hP hD hS => ?_)
  subst hY
  rw [mRef_0]
  refine n_if_eq (tgt := 49) hx hb d_X2_product_44 (by decide) (by omega) (fun _ => ?_) (fun c => absurd c (by decide))
  refine lv_aload_n hx hb d_X2_product_49 rfl (lv_at hl 0 rfl) ?_
  refine lv_iconst (v := nI 0) hx hb d_X2_product_50 (by decide) ?_
  refine lv_iload_n hx hb d_X2_product_51 rfl (lv_at hl 2 rfl) ?_
  refine x_call (st1 := []) (x_runV (As := [.int (nI 0), .int (nI a)]) (rest := []) (nL := 5) ⟨hx, hb, hml, hown, hts⟩ (c_X2_load hok (b := 0) (r := a) (by omega) (by omega) _) (cwV 2 hts (gw_V k_518 k_520 k_31 k_52 k_521) rfl rfl rfl (by decide +kernel) ⟨Nat.le_of_ble_eq_true rfl, Nat.le_of_ble_eq_true rfl⟩) hK hP hD 0 2 rfl rfl rfl hl.1 rfl (Nat.le_of_ble_eq_true rfl) d_X2_product_52 ⟨Nat.zero_le _, Nat.zero_le _⟩) hS (x_sub hD hS hA) (x_sub hD hS hA) rfl (fun w1 H locs hY hP hD hS => ?_)
  subst hY
  have hok := mLoadZ_ok (r := a) (b := 0) hok
  refine lv_aload_n hx hb d_X2_product_55 rfl (lv_at hl 0 rfl) ?_
  refine lv_iconst (v := nI 1) hx hb d_X2_product_56 (by decide) ?_
  refine lv_iload_n hx hb d_X2_product_57 rfl (lv_at hl 3 rfl) ?_
  refine x_call (st1 := []) (x_runV (As := [.int (nI 1), .int (nI u)]) (rest := []) (nL := 5) ⟨hx, hb, hml, hown, hts⟩ (c_X2_load hok (b := 1) (r := u) (by omega) (by omega) _) (cwV 2 hts (gw_V k_518 k_520 k_31 k_52 k_521) rfl rfl rfl (by decide +kernel) ⟨Nat.le_of_ble_eq_true rfl, Nat.le_of_ble_eq_true rfl⟩) hK hP hD 0 2 rfl rfl rfl hl.1 rfl (Nat.le_of_ble_eq_true rfl) d_X2_product_58 ⟨Nat.zero_le _, Nat.zero_le _⟩) hS (x_sub hD hS hA) (x_sub hD hS hA) rfl (fun w1 H locs hY hP hD hS => ?_)
  subst hY
  have hok := mLoadZ_ok (r := u) (b := 1) hok
  refine lv_aload_n hx hb d_X2_product_61 rfl (lv_at hl 0 rfl) ?_
  refine x_call (st1 := []) (x_runV (As := []) (rest := []) (nL := 5) ⟨hx, hb, hml, hown, hts⟩ (c_X2_multiply hok hfit _) (cwV 0 hts (gw_V k_617 k_619 k_47 k_52 k_620) rfl rfl rfl (by decide +kernel) ⟨Nat.le_of_ble_eq_true rfl, Nat.le_of_ble_eq_true rfl⟩) hK hP hD 0 2 rfl rfl rfl hl.1 rfl (Nat.le_of_ble_eq_true rfl) d_X2_product_62 ⟨Nat.zero_le _, Nat.zero_le _⟩) hS (x_sub hD hS hA) (x_sub hD hS hA) rfl (fun w1 H locs hY hP hD hS => ?_)
  subst hY
  have hok := mMulZ_ok hok
  refine lv_aload_n hx hb d_X2_product_65 rfl (lv_at hl 0 rfl) ?_
  refine lv_iconst (v := nI 0) hx hb d_X2_product_66 (by decide) ?_
  refine lv_iload_n hx hb d_X2_product_67 rfl (lv_at hl 1 rfl) ?_
  refine x_call (st1 := []) (x_runV (As := [.int (nI 0), .int (nI r)]) (rest := []) (nL := 5) ⟨hx, hb, hml, hown, hts⟩ (c_X2_load hok (b := 0) (r := r) (by omega) (by omega) _) (cwV 2 hts (gw_V k_518 k_520 k_31 k_52 k_521) rfl rfl rfl (by decide +kernel) ⟨Nat.le_of_ble_eq_true rfl, Nat.le_of_ble_eq_true rfl⟩) hK hP hD 0 2 rfl rfl rfl hl.1 rfl (Nat.le_of_ble_eq_true rfl) d_X2_product_68 ⟨Nat.zero_le _, Nat.zero_le _⟩) hS (x_sub hD hS hA) (x_sub hD hS hA) rfl (fun w1 H locs hY hP hD hS => ?_)
  subst hY
  have hok := mLoadZ_ok (r := r) (b := 0) hok
  refine lv_aload_n hx hb d_X2_product_71 rfl (lv_at hl 0 rfl) ?_
  refine lv_iconst (v := nI 0) hx hb d_X2_product_72 (by decide) ?_
  refine lv_iconst (v := nI 2) hx hb d_X2_product_73 (by decide) ?_
  refine lv_iload hx hb d_X2_product_74 (lv_at hl 4 rfl) ?_
  refine x_call (st1 := []) (x_runV (As := [.int (nI 0), .int (nI 2), .int (nI f)]) (rest := []) (nL := 5) ⟨hx, hb, hml, hown, hts⟩ (c_X2_combine hok (b := 0) (q := 2) (f := f) (by omega) (by omega) (by omega) _) (cwV 3 hts (gw_V k_593 k_595 k_43 k_52 k_596) rfl rfl rfl (by decide +kernel) ⟨Nat.le_of_ble_eq_true rfl, Nat.le_of_ble_eq_true rfl⟩) hK hP hD 0 2 rfl rfl rfl hl.1 rfl (Nat.le_of_ble_eq_true rfl) d_X2_product_76 ⟨Nat.zero_le _, Nat.zero_le _⟩) hS (x_sub hD hS hA) (x_sub hD hS hA) rfl (fun w1 H locs hY hP hD hS => ?_)
  subst hY
  have hok := mCombZ_ok (sg := mLoadG w g r 0 (mMulZ (mLoadZ w g u 1 (mLoadZ w g a 0 z))) (mMulG (mLoadG w g u 1 (mLoadZ w g a 0 z) (mLoadG w g a 0 z sg)))) (b := 0) (q := 2) (x := mOth (mLoadG w g r 0 (mMulZ (mLoadZ w g u 1 (mLoadZ w g a 0 z))) (mMulG (mLoadG w g u 1 (mLoadZ w g a 0 z) (mLoadG w g a 0 z sg)))) 2 f) hok
  refine lv_aload_n hx hb d_X2_product_79 rfl (lv_at hl 0 rfl) ?_
  refine lv_iload_n hx hb d_X2_product_80 rfl (lv_at hl 1 rfl) ?_
  refine lv_iconst (v := nI 0) hx hb d_X2_product_81 (by decide) ?_
  refine x_call (st1 := [.int (mKSg (upd (mLoadG w g r 0 (mMulZ (mLoadZ w g u 1 (mLoadZ w g a 0 z))) (mMulG (mLoadG w g u 1 (mLoadZ w g a 0 z) (mLoadG w g a 0 z sg)))) 0 (mCombS (mLoadG w g r 0 (mMulZ (mLoadZ w g u 1 (mLoadZ w g a 0 z))) (mMulG (mLoadG w g u 1 (mLoadZ w g a 0 z) (mLoadG w g a 0 z sg)))) 0 2 (mOth (mLoadG w g r 0 (mMulZ (mLoadZ w g u 1 (mLoadZ w g a 0 z))) (mMulG (mLoadG w g u 1 (mLoadZ w g a 0 z) (mLoadG w g a 0 z sg)))) 2 f) (mLoadZ w g r 0 (mMulZ (mLoadZ w g u 1 (mLoadZ w g a 0 z)))))) w (mCombZ (mLoadG w g r 0 (mMulZ (mLoadZ w g u 1 (mLoadZ w g a 0 z))) (mMulG (mLoadG w g u 1 (mLoadZ w g a 0 z) (mLoadG w g a 0 z sg)))) 0 2 (mOth (mLoadG w g r 0 (mMulZ (mLoadZ w g u 1 (mLoadZ w g a 0 z))) (mMulG (mLoadG w g u 1 (mLoadZ w g a 0 z) (mLoadG w g a 0 z sg)))) 2 f) (mLoadZ w g r 0 (mMulZ (mLoadZ w g u 1 (mLoadZ w g a 0 z))))) r 0 g 2)]) (x_runV (As := [.int (nI r), .int (nI 0)]) (rest := []) (nL := 5) ⟨hx, hb, hml, hown, hts⟩ (c_X2_kept hok (b := 0) (r := r) (t := t) (by omega) (by omega) hlow _) (cwV 2 hts (gw_V k_601 k_603 k_45 k_52 k_604) rfl rfl rfl (by decide +kernel) ⟨Nat.le_of_ble_eq_true rfl, Nat.le_of_ble_eq_true rfl⟩) hK hP hD 0 2 rfl rfl rfl hl.1 rfl (Nat.le_of_ble_eq_true rfl) d_X2_product_82 ⟨Nat.zero_le _, Nat.zero_le _⟩) hS (x_sub hD hS hA) (x_sub hD hS hA) rfl (fun w1 H locs hY hP hD hS => ?_)
  subst hY
  exact x_iret hx hb hr hlocks hP hD hS d_X2_product_85 rfl rfl
abbrev w_X2_addProduct : List Cond := .code y_X2_addProduct b_X2_addProduct 4 (some .int) :: gw
set_option maxHeartbeats 800000 in
set_option maxRecDepth 100000 in
theorem c_X2_addProduct {l : Launch} {D : va_G} {Rs : va_W} {cA cR cL : ClassId} {h aw ar ag az : Nat} {cd : Int32} {w g : Nat → Nat} {sg : Nat → Int32} {z : Nat → Nat} (hok : mdOk w g z) {r a u : Nat} (hr64 : r < 64) (ha64 : a < 64) (hu64 : u < 64) (hra : r ≠ a) (hru : r ≠ u) (hfit : mMulN (mClr 2 cZ 0 (mLoadZ w g u 1 (mLoadZ w g a 0 z))) 0 + mMulN (mClr 2 cZ 0 (mLoadZ w g u 1 (mLoadZ w g a 0 z))) 1 ≤ 1100) {t : Nat} (hlow : ¬ 0 ≤ (upd (mLoadG w g r 0 (mMulZ (mLoadZ w g u 1 (mLoadZ w g a 0 z))) (mMulG (mLoadG w g u 1 (mLoadZ w g a 0 z) (mLoadG w g a 0 z sg)))) 0 (mCombS (mLoadG w g r 0 (mMulZ (mLoadZ w g u 1 (mLoadZ w g a 0 z))) (mMulG (mLoadG w g u 1 (mLoadZ w g a 0 z) (mLoadG w g a 0 z sg)))) 0 2 (mOth (mLoadG w g r 0 (mMulZ (mLoadZ w g u 1 (mLoadZ w g a 0 z))) (mMulG (mLoadG w g u 1 (mLoadZ w g a 0 z) (mLoadG w g a 0 z sg)))) 2 0) (mLoadZ w g r 0 (mMulZ (mLoadZ w g u 1 (mLoadZ w g a 0 z)))))) 0 → mLow (mCombZ (mLoadG w g r 0 (mMulZ (mLoadZ w g u 1 (mLoadZ w g a 0 z))) (mMulG (mLoadG w g u 1 (mLoadZ w g a 0 z) (mLoadG w g a 0 z sg)))) 0 2 (mOth (mLoadG w g r 0 (mMulZ (mLoadZ w g u 1 (mLoadZ w g a 0 z))) (mMulG (mLoadG w g u 1 (mLoadZ w g a 0 z) (mLoadG w g a 0 z sg)))) 2 0) (mLoadZ w g r 0 (mMulZ (mLoadZ w g u 1 (mLoadZ w g a 0 z))))) 0 t) : xC l y_X2_addProduct w_X2_addProduct ({ frames := 6, cells := 0, slots := 0, locals := 139 }) D cls0 (ty3 cA cR cL) [.ref h, .int (nI r), .int (nI a), .int (nI u)] (md cA h aw ar ag az cd w g sg z Rs) (some (.int (mKSg (upd (mLoadG w g r 0 (mMulZ (mLoadZ w g u 1 (mLoadZ w g a 0 z))) (mMulG (mLoadG w g u 1 (mLoadZ w g a 0 z) (mLoadG w g a 0 z sg)))) 0 (mCombS (mLoadG w g r 0 (mMulZ (mLoadZ w g u 1 (mLoadZ w g a 0 z))) (mMulG (mLoadG w g u 1 (mLoadZ w g a 0 z) (mLoadG w g a 0 z sg)))) 0 2 (mOth (mLoadG w g r 0 (mMulZ (mLoadZ w g u 1 (mLoadZ w g a 0 z))) (mMulG (mLoadG w g u 1 (mLoadZ w g a 0 z) (mLoadG w g a 0 z sg)))) 2 0) (mLoadZ w g r 0 (mMulZ (mLoadZ w g u 1 (mLoadZ w g a 0 z)))))) w (mCombZ (mLoadG w g r 0 (mMulZ (mLoadZ w g u 1 (mLoadZ w g a 0 z))) (mMulG (mLoadG w g u 1 (mLoadZ w g a 0 z) (mLoadG w g a 0 z sg)))) 0 2 (mOth (mLoadG w g r 0 (mMulZ (mLoadZ w g u 1 (mLoadZ w g a 0 z))) (mMulG (mLoadG w g u 1 (mLoadZ w g a 0 z) (mLoadG w g a 0 z sg)))) 2 0) (mLoadZ w g r 0 (mMulZ (mLoadZ w g u 1 (mLoadZ w g a 0 z))))) r 0 g 2))) (fun w1 => w1 = md cA h aw ar ag az (nI 0) w (mStore (upd (mLoadG w g r 0 (mMulZ (mLoadZ w g u 1 (mLoadZ w g a 0 z))) (mMulG (mLoadG w g u 1 (mLoadZ w g a 0 z) (mLoadG w g a 0 z sg)))) 0 (mCombS (mLoadG w g r 0 (mMulZ (mLoadZ w g u 1 (mLoadZ w g a 0 z))) (mMulG (mLoadG w g u 1 (mLoadZ w g a 0 z) (mLoadG w g a 0 z sg)))) 0 2 (mOth (mLoadG w g r 0 (mMulZ (mLoadZ w g u 1 (mLoadZ w g a 0 z))) (mMulG (mLoadG w g u 1 (mLoadZ w g a 0 z) (mLoadG w g a 0 z sg)))) 2 0) (mLoadZ w g r 0 (mMulZ (mLoadZ w g u 1 (mLoadZ w g a 0 z)))))) w (mCombZ (mLoadG w g r 0 (mMulZ (mLoadZ w g u 1 (mLoadZ w g a 0 z))) (mMulG (mLoadG w g u 1 (mLoadZ w g a 0 z) (mLoadG w g a 0 z sg)))) 0 2 (mOth (mLoadG w g r 0 (mMulZ (mLoadZ w g u 1 (mLoadZ w g a 0 z))) (mMulG (mLoadG w g u 1 (mLoadZ w g a 0 z) (mLoadG w g a 0 z sg)))) 2 0) (mLoadZ w g r 0 (mMulZ (mLoadZ w g u 1 (mLoadZ w g a 0 z))))) r 0 g) (mKSg (upd (mLoadG w g r 0 (mMulZ (mLoadZ w g u 1 (mLoadZ w g a 0 z))) (mMulG (mLoadG w g u 1 (mLoadZ w g a 0 z) (mLoadG w g a 0 z sg)))) 0 (mCombS (mLoadG w g r 0 (mMulZ (mLoadZ w g u 1 (mLoadZ w g a 0 z))) (mMulG (mLoadG w g u 1 (mLoadZ w g a 0 z) (mLoadG w g a 0 z sg)))) 0 2 (mOth (mLoadG w g r 0 (mMulZ (mLoadZ w g u 1 (mLoadZ w g a 0 z))) (mMulG (mLoadG w g u 1 (mLoadZ w g a 0 z) (mLoadG w g a 0 z sg)))) 2 0) (mLoadZ w g r 0 (mMulZ (mLoadZ w g u 1 (mLoadZ w g a 0 z)))))) w (mCombZ (mLoadG w g r 0 (mMulZ (mLoadZ w g u 1 (mLoadZ w g a 0 z))) (mMulG (mLoadG w g u 1 (mLoadZ w g a 0 z) (mLoadG w g a 0 z sg)))) 0 2 (mOth (mLoadG w g r 0 (mMulZ (mLoadZ w g u 1 (mLoadZ w g a 0 z))) (mMulG (mLoadG w g u 1 (mLoadZ w g a 0 z) (mLoadG w g a 0 z sg)))) 2 0) (mLoadZ w g r 0 (mMulZ (mLoadZ w g u 1 (mLoadZ w g a 0 z))))) r 0 g) (mKZ (upd (mLoadG w g r 0 (mMulZ (mLoadZ w g u 1 (mLoadZ w g a 0 z))) (mMulG (mLoadG w g u 1 (mLoadZ w g a 0 z) (mLoadG w g a 0 z sg)))) 0 (mCombS (mLoadG w g r 0 (mMulZ (mLoadZ w g u 1 (mLoadZ w g a 0 z))) (mMulG (mLoadG w g u 1 (mLoadZ w g a 0 z) (mLoadG w g a 0 z sg)))) 0 2 (mOth (mLoadG w g r 0 (mMulZ (mLoadZ w g u 1 (mLoadZ w g a 0 z))) (mMulG (mLoadG w g u 1 (mLoadZ w g a 0 z) (mLoadG w g a 0 z sg)))) 2 0) (mLoadZ w g r 0 (mMulZ (mLoadZ w g u 1 (mLoadZ w g a 0 z)))))) w (mCombZ (mLoadG w g r 0 (mMulZ (mLoadZ w g u 1 (mLoadZ w g a 0 z))) (mMulG (mLoadG w g u 1 (mLoadZ w g a 0 z) (mLoadG w g a 0 z sg)))) 0 2 (mOth (mLoadG w g r 0 (mMulZ (mLoadZ w g u 1 (mLoadZ w g a 0 z))) (mMulG (mLoadG w g u 1 (mLoadZ w g a 0 z) (mLoadG w g a 0 z sg)))) 2 0) (mLoadZ w g r 0 (mMulZ (mLoadZ w g u 1 (mLoadZ w g a 0 z))))) r 0 g) Rs) 0 0 := by
  refine xC.ofW (cc := b_X2_addProduct) (maxL := 4) (ret := some .int) (by decide) rfl (Nat.le_of_ble_eq_true rfl) ?_
  intro p e s m below meth c A ls _ hin hx hb hr hml hown hts hlocks hA hK hP hD hS hl
  have hts : ∀ w ∈ gw, w.before ([.ref h, .int (nI r), .int (nI a), .int (nI u)]).toArray s = true := fun w h => hts w (List.mem_cons_of_mem _ h)
  have hown : s.vm.findClass R_Md = some m.cls := hown
  have hl : lv_has ls 4 [(0, .ref h), (1, .int (nI r)), (2, .int (nI a)), (3, .int (nI u))] := hl
  refine lv_aload_n hx hb d_X2_addProduct_0 rfl (lv_at hl 0 rfl) ?_
  refine lv_iload_n hx hb d_X2_addProduct_1 rfl (lv_at hl 1 rfl) ?_
  refine lv_iload_n hx hb d_X2_addProduct_2 rfl (lv_at hl 2 rfl) ?_
  refine lv_iload_n hx hb d_X2_addProduct_3 rfl (lv_at hl 3 rfl) ?_
  refine lv_iconst (v := nI 0) hx hb d_X2_addProduct_4 (by decide) ?_
  refine x_call (st1 := [.int (mKSg (upd (mLoadG w g r 0 (mMulZ (mLoadZ w g u 1 (mLoadZ w g a 0 z))) (mMulG (mLoadG w g u 1 (mLoadZ w g a 0 z) (mLoadG w g a 0 z sg)))) 0 (mCombS (mLoadG w g r 0 (mMulZ (mLoadZ w g u 1 (mLoadZ w g a 0 z))) (mMulG (mLoadG w g u 1 (mLoadZ w g a 0 z) (mLoadG w g a 0 z sg)))) 0 2 (mOth (mLoadG w g r 0 (mMulZ (mLoadZ w g u 1 (mLoadZ w g a 0 z))) (mMulG (mLoadG w g u 1 (mLoadZ w g a 0 z) (mLoadG w g a 0 z sg)))) 2 0) (mLoadZ w g r 0 (mMulZ (mLoadZ w g u 1 (mLoadZ w g a 0 z)))))) w (mCombZ (mLoadG w g r 0 (mMulZ (mLoadZ w g u 1 (mLoadZ w g a 0 z))) (mMulG (mLoadG w g u 1 (mLoadZ w g a 0 z) (mLoadG w g a 0 z sg)))) 0 2 (mOth (mLoadG w g r 0 (mMulZ (mLoadZ w g u 1 (mLoadZ w g a 0 z))) (mMulG (mLoadG w g u 1 (mLoadZ w g a 0 z) (mLoadG w g a 0 z sg)))) 2 0) (mLoadZ w g r 0 (mMulZ (mLoadZ w g u 1 (mLoadZ w g a 0 z))))) r 0 g 2)]) (x_runV (As := [.int (nI r), .int (nI a), .int (nI u), .int (nI 0)]) (rest := []) (nL := 4) ⟨hx, hb, hml, hown, hts⟩ (c_X2_product hok hr64 ha64 hu64 hra hru (f := 0) (by omega) hfit hlow _) (cwV 4 hts (gw_V k_613 k_615 k_46 k_52 k_616) rfl rfl rfl (by decide +kernel) ⟨Nat.le_of_ble_eq_true rfl, Nat.le_of_ble_eq_true rfl⟩) hK hP hD 0 2 rfl rfl rfl hl.1 rfl (Nat.le_of_ble_eq_true rfl) d_X2_addProduct_5 ⟨Nat.zero_le _, Nat.zero_le _⟩) hS (x_sub hD hS hA) (x_sub hD hS hA) rfl (fun w1 H locs hY hP hD hS => ?_)
  subst hY
  exact x_iret hx hb hr hlocks hP hD hS d_X2_addProduct_8 rfl rfl
abbrev w_X2_subtractProduct : List Cond := .code y_X2_subtractProduct b_X2_subtractProduct 4 (some .int) :: gw
set_option maxHeartbeats 800000 in
set_option maxRecDepth 100000 in
theorem c_X2_subtractProduct {l : Launch} {D : va_G} {Rs : va_W} {cA cR cL : ClassId} {h aw ar ag az : Nat} {cd : Int32} {w g : Nat → Nat} {sg : Nat → Int32} {z : Nat → Nat} (hok : mdOk w g z) {r a u : Nat} (hr64 : r < 64) (ha64 : a < 64) (hu64 : u < 64) (hra : r ≠ a) (hru : r ≠ u) (hfit : mMulN (mClr 2 cZ 0 (mLoadZ w g u 1 (mLoadZ w g a 0 z))) 0 + mMulN (mClr 2 cZ 0 (mLoadZ w g u 1 (mLoadZ w g a 0 z))) 1 ≤ 1100) {t : Nat} (hlow : ¬ 0 ≤ (upd (mLoadG w g r 0 (mMulZ (mLoadZ w g u 1 (mLoadZ w g a 0 z))) (mMulG (mLoadG w g u 1 (mLoadZ w g a 0 z) (mLoadG w g a 0 z sg)))) 0 (mCombS (mLoadG w g r 0 (mMulZ (mLoadZ w g u 1 (mLoadZ w g a 0 z))) (mMulG (mLoadG w g u 1 (mLoadZ w g a 0 z) (mLoadG w g a 0 z sg)))) 0 2 (mOth (mLoadG w g r 0 (mMulZ (mLoadZ w g u 1 (mLoadZ w g a 0 z))) (mMulG (mLoadG w g u 1 (mLoadZ w g a 0 z) (mLoadG w g a 0 z sg)))) 2 1) (mLoadZ w g r 0 (mMulZ (mLoadZ w g u 1 (mLoadZ w g a 0 z)))))) 0 → mLow (mCombZ (mLoadG w g r 0 (mMulZ (mLoadZ w g u 1 (mLoadZ w g a 0 z))) (mMulG (mLoadG w g u 1 (mLoadZ w g a 0 z) (mLoadG w g a 0 z sg)))) 0 2 (mOth (mLoadG w g r 0 (mMulZ (mLoadZ w g u 1 (mLoadZ w g a 0 z))) (mMulG (mLoadG w g u 1 (mLoadZ w g a 0 z) (mLoadG w g a 0 z sg)))) 2 1) (mLoadZ w g r 0 (mMulZ (mLoadZ w g u 1 (mLoadZ w g a 0 z))))) 0 t) : xC l y_X2_subtractProduct w_X2_subtractProduct ({ frames := 6, cells := 0, slots := 0, locals := 139 }) D cls0 (ty3 cA cR cL) [.ref h, .int (nI r), .int (nI a), .int (nI u)] (md cA h aw ar ag az cd w g sg z Rs) (some (.int (mKSg (upd (mLoadG w g r 0 (mMulZ (mLoadZ w g u 1 (mLoadZ w g a 0 z))) (mMulG (mLoadG w g u 1 (mLoadZ w g a 0 z) (mLoadG w g a 0 z sg)))) 0 (mCombS (mLoadG w g r 0 (mMulZ (mLoadZ w g u 1 (mLoadZ w g a 0 z))) (mMulG (mLoadG w g u 1 (mLoadZ w g a 0 z) (mLoadG w g a 0 z sg)))) 0 2 (mOth (mLoadG w g r 0 (mMulZ (mLoadZ w g u 1 (mLoadZ w g a 0 z))) (mMulG (mLoadG w g u 1 (mLoadZ w g a 0 z) (mLoadG w g a 0 z sg)))) 2 1) (mLoadZ w g r 0 (mMulZ (mLoadZ w g u 1 (mLoadZ w g a 0 z)))))) w (mCombZ (mLoadG w g r 0 (mMulZ (mLoadZ w g u 1 (mLoadZ w g a 0 z))) (mMulG (mLoadG w g u 1 (mLoadZ w g a 0 z) (mLoadG w g a 0 z sg)))) 0 2 (mOth (mLoadG w g r 0 (mMulZ (mLoadZ w g u 1 (mLoadZ w g a 0 z))) (mMulG (mLoadG w g u 1 (mLoadZ w g a 0 z) (mLoadG w g a 0 z sg)))) 2 1) (mLoadZ w g r 0 (mMulZ (mLoadZ w g u 1 (mLoadZ w g a 0 z))))) r 0 g 2))) (fun w1 => w1 = md cA h aw ar ag az (nI 0) w (mStore (upd (mLoadG w g r 0 (mMulZ (mLoadZ w g u 1 (mLoadZ w g a 0 z))) (mMulG (mLoadG w g u 1 (mLoadZ w g a 0 z) (mLoadG w g a 0 z sg)))) 0 (mCombS (mLoadG w g r 0 (mMulZ (mLoadZ w g u 1 (mLoadZ w g a 0 z))) (mMulG (mLoadG w g u 1 (mLoadZ w g a 0 z) (mLoadG w g a 0 z sg)))) 0 2 (mOth (mLoadG w g r 0 (mMulZ (mLoadZ w g u 1 (mLoadZ w g a 0 z))) (mMulG (mLoadG w g u 1 (mLoadZ w g a 0 z) (mLoadG w g a 0 z sg)))) 2 1) (mLoadZ w g r 0 (mMulZ (mLoadZ w g u 1 (mLoadZ w g a 0 z)))))) w (mCombZ (mLoadG w g r 0 (mMulZ (mLoadZ w g u 1 (mLoadZ w g a 0 z))) (mMulG (mLoadG w g u 1 (mLoadZ w g a 0 z) (mLoadG w g a 0 z sg)))) 0 2 (mOth (mLoadG w g r 0 (mMulZ (mLoadZ w g u 1 (mLoadZ w g a 0 z))) (mMulG (mLoadG w g u 1 (mLoadZ w g a 0 z) (mLoadG w g a 0 z sg)))) 2 1) (mLoadZ w g r 0 (mMulZ (mLoadZ w g u 1 (mLoadZ w g a 0 z))))) r 0 g) (mKSg (upd (mLoadG w g r 0 (mMulZ (mLoadZ w g u 1 (mLoadZ w g a 0 z))) (mMulG (mLoadG w g u 1 (mLoadZ w g a 0 z) (mLoadG w g a 0 z sg)))) 0 (mCombS (mLoadG w g r 0 (mMulZ (mLoadZ w g u 1 (mLoadZ w g a 0 z))) (mMulG (mLoadG w g u 1 (mLoadZ w g a 0 z) (mLoadG w g a 0 z sg)))) 0 2 (mOth (mLoadG w g r 0 (mMulZ (mLoadZ w g u 1 (mLoadZ w g a 0 z))) (mMulG (mLoadG w g u 1 (mLoadZ w g a 0 z) (mLoadG w g a 0 z sg)))) 2 1) (mLoadZ w g r 0 (mMulZ (mLoadZ w g u 1 (mLoadZ w g a 0 z)))))) w (mCombZ (mLoadG w g r 0 (mMulZ (mLoadZ w g u 1 (mLoadZ w g a 0 z))) (mMulG (mLoadG w g u 1 (mLoadZ w g a 0 z) (mLoadG w g a 0 z sg)))) 0 2 (mOth (mLoadG w g r 0 (mMulZ (mLoadZ w g u 1 (mLoadZ w g a 0 z))) (mMulG (mLoadG w g u 1 (mLoadZ w g a 0 z) (mLoadG w g a 0 z sg)))) 2 1) (mLoadZ w g r 0 (mMulZ (mLoadZ w g u 1 (mLoadZ w g a 0 z))))) r 0 g) (mKZ (upd (mLoadG w g r 0 (mMulZ (mLoadZ w g u 1 (mLoadZ w g a 0 z))) (mMulG (mLoadG w g u 1 (mLoadZ w g a 0 z) (mLoadG w g a 0 z sg)))) 0 (mCombS (mLoadG w g r 0 (mMulZ (mLoadZ w g u 1 (mLoadZ w g a 0 z))) (mMulG (mLoadG w g u 1 (mLoadZ w g a 0 z) (mLoadG w g a 0 z sg)))) 0 2 (mOth (mLoadG w g r 0 (mMulZ (mLoadZ w g u 1 (mLoadZ w g a 0 z))) (mMulG (mLoadG w g u 1 (mLoadZ w g a 0 z) (mLoadG w g a 0 z sg)))) 2 1) (mLoadZ w g r 0 (mMulZ (mLoadZ w g u 1 (mLoadZ w g a 0 z)))))) w (mCombZ (mLoadG w g r 0 (mMulZ (mLoadZ w g u 1 (mLoadZ w g a 0 z))) (mMulG (mLoadG w g u 1 (mLoadZ w g a 0 z) (mLoadG w g a 0 z sg)))) 0 2 (mOth (mLoadG w g r 0 (mMulZ (mLoadZ w g u 1 (mLoadZ w g a 0 z))) (mMulG (mLoadG w g u 1 (mLoadZ w g a 0 z) (mLoadG w g a 0 z sg)))) 2 1) (mLoadZ w g r 0 (mMulZ (mLoadZ w g u 1 (mLoadZ w g a 0 z))))) r 0 g) Rs) 0 0 := by
  refine xC.ofW (cc := b_X2_subtractProduct) (maxL := 4) (ret := some .int) (by decide) rfl (Nat.le_of_ble_eq_true rfl) ?_
  intro p e s m below meth c A ls _ hin hx hb hr hml hown hts hlocks hA hK hP hD hS hl
  have hts : ∀ w ∈ gw, w.before ([.ref h, .int (nI r), .int (nI a), .int (nI u)]).toArray s = true := fun w h => hts w (List.mem_cons_of_mem _ h)
  have hown : s.vm.findClass R_Md = some m.cls := hown
  have hl : lv_has ls 4 [(0, .ref h), (1, .int (nI r)), (2, .int (nI a)), (3, .int (nI u))] := hl
  refine lv_aload_n hx hb d_X2_subtractProduct_0 rfl (lv_at hl 0 rfl) ?_
  refine lv_iload_n hx hb d_X2_subtractProduct_1 rfl (lv_at hl 1 rfl) ?_
  refine lv_iload_n hx hb d_X2_subtractProduct_2 rfl (lv_at hl 2 rfl) ?_
  refine lv_iload_n hx hb d_X2_subtractProduct_3 rfl (lv_at hl 3 rfl) ?_
  refine lv_iconst (v := nI 1) hx hb d_X2_subtractProduct_4 (by decide) ?_
  refine x_call (st1 := [.int (mKSg (upd (mLoadG w g r 0 (mMulZ (mLoadZ w g u 1 (mLoadZ w g a 0 z))) (mMulG (mLoadG w g u 1 (mLoadZ w g a 0 z) (mLoadG w g a 0 z sg)))) 0 (mCombS (mLoadG w g r 0 (mMulZ (mLoadZ w g u 1 (mLoadZ w g a 0 z))) (mMulG (mLoadG w g u 1 (mLoadZ w g a 0 z) (mLoadG w g a 0 z sg)))) 0 2 (mOth (mLoadG w g r 0 (mMulZ (mLoadZ w g u 1 (mLoadZ w g a 0 z))) (mMulG (mLoadG w g u 1 (mLoadZ w g a 0 z) (mLoadG w g a 0 z sg)))) 2 1) (mLoadZ w g r 0 (mMulZ (mLoadZ w g u 1 (mLoadZ w g a 0 z)))))) w (mCombZ (mLoadG w g r 0 (mMulZ (mLoadZ w g u 1 (mLoadZ w g a 0 z))) (mMulG (mLoadG w g u 1 (mLoadZ w g a 0 z) (mLoadG w g a 0 z sg)))) 0 2 (mOth (mLoadG w g r 0 (mMulZ (mLoadZ w g u 1 (mLoadZ w g a 0 z))) (mMulG (mLoadG w g u 1 (mLoadZ w g a 0 z) (mLoadG w g a 0 z sg)))) 2 1) (mLoadZ w g r 0 (mMulZ (mLoadZ w g u 1 (mLoadZ w g a 0 z))))) r 0 g 2)]) (x_runV (As := [.int (nI r), .int (nI a), .int (nI u), .int (nI 1)]) (rest := []) (nL := 4) ⟨hx, hb, hml, hown, hts⟩ (c_X2_product hok hr64 ha64 hu64 hra hru (f := 1) (by omega) hfit hlow _) (cwV 4 hts (gw_V k_613 k_615 k_46 k_52 k_616) rfl rfl rfl (by decide +kernel) ⟨Nat.le_of_ble_eq_true rfl, Nat.le_of_ble_eq_true rfl⟩) hK hP hD 0 2 rfl rfl rfl hl.1 rfl (Nat.le_of_ble_eq_true rfl) d_X2_subtractProduct_5 ⟨Nat.zero_le _, Nat.zero_le _⟩) hS (x_sub hD hS hA) (x_sub hD hS hA) rfl (fun w1 H locs hY hP hD hS => ?_)
  subst hY
  exact x_iret hx hb hr hlocks hP hD hS d_X2_subtractProduct_8 rfl rfl
abbrev w_X2_times : List Cond := .code y_X2_times b_X2_times 4 (some .int) :: gw
set_option maxHeartbeats 800000 in
set_option maxRecDepth 100000 in
theorem c_X2_times {l : Launch} {D : va_G} {Rs : va_W} {cA cR cL : ClassId} {h aw ar ag az : Nat} {cd : Int32} {w g : Nat → Nat} {sg : Nat → Int32} {z : Nat → Nat} (hok : mdOk w g z) {r : Nat} (hr64 : r < 64) (v : Int64) (hfit : mMulN (mClr 2 cZ 0 (mLongZ v 1 (mLoadZ w g r 0 z))) 0 + mMulN (mClr 2 cZ 0 (mLongZ v 1 (mLoadZ w g r 0 z))) 1 ≤ 1100) {t : Nat} (hlow : ¬ 0 ≤ (mMulG (mLongG v 1 (mLoadG w g r 0 z sg))) 2 → mLow (mMulZ (mLongZ v 1 (mLoadZ w g r 0 z))) 2 t) : xC l y_X2_times w_X2_times ({ frames := 5, cells := 0, slots := 0, locals := 115 }) D cls0 (ty3 cA cR cL) [.ref h, .int (nI r), .long v] (md cA h aw ar ag az cd w g sg z Rs) (some (.int (mKSg (mMulG (mLongG v 1 (mLoadG w g r 0 z sg))) w (mMulZ (mLongZ v 1 (mLoadZ w g r 0 z))) r 2 g 2))) (fun w1 => w1 = md cA h aw ar ag az (nI 0) w (mStore (mMulG (mLongG v 1 (mLoadG w g r 0 z sg))) w (mMulZ (mLongZ v 1 (mLoadZ w g r 0 z))) r 2 g) (mKSg (mMulG (mLongG v 1 (mLoadG w g r 0 z sg))) w (mMulZ (mLongZ v 1 (mLoadZ w g r 0 z))) r 2 g) (mKZ (mMulG (mLongG v 1 (mLoadG w g r 0 z sg))) w (mMulZ (mLongZ v 1 (mLoadZ w g r 0 z))) r 2 g) Rs) 0 0 := by
  refine xC.ofW (cc := b_X2_times) (maxL := 4) (ret := some .int) (by decide) rfl (Nat.le_of_ble_eq_true rfl) ?_
  intro p e s m below meth c A ls _ hin hx hb hr hml hown hts hlocks hA hK hP hD hS hl
  have hts : ∀ w ∈ gw, w.before ([.ref h, .int (nI r), .long v]).toArray s = true := fun w h => hts w (List.mem_cons_of_mem _ h)
  have hown : s.vm.findClass R_Md = some m.cls := hown
  have hl : lv_has ls 4 [(0, .ref h), (1, .int (nI r)), (2, .long v)] := hl
  refine lv_aload_n hx hb d_X2_times_0 rfl (lv_at hl 0 rfl) ?_
  refine lv_iload_n hx hb d_X2_times_1 rfl (lv_at hl 1 rfl) ?_
  refine x_callR (st1 := [.int (mIsRow (nI r)), .ref h]) (x_runS (As := [.int (nI r)]) (rest := [.ref h]) (nL := 4) ⟨hx, hb, hml, hown, hts⟩ (c_X2_isRow (nI r) _) (cwS 1 hts (gw_S k_511 k_512 k_52 k_513) rfl rfl rfl (by decide +kernel) ⟨Nat.le_of_ble_eq_true rfl, Nat.le_of_ble_eq_true rfl⟩) hK hP hD rfl hl.1 rfl (Nat.le_of_ble_eq_true rfl) d_X2_times_2 ⟨Nat.zero_le _, Nat.zero_le _⟩) rfl ?_
  rw [mIsRow_1 (show r < 64 by omega)]
  refine n_if_eq (tgt := 12) hx hb d_X2_times_5 (by decide) (by omega) (fun c => absurd c (by decide)) (fun _ => ?_)
  refine lv_iconst (v := nI 0) hx hb d_X2_times_8 (by decide) ?_
  refine lv_goto (tgt := 13) hx hb d_X2_times_9 (by decide) ?_
  refine x_call (st1 := [.int (mRef (nI 0))]) (x_runV (As := [.int (nI 0)]) (rest := []) (nL := 4) ⟨hx, hb, hml, hown, hts⟩ (c_X2_refuses (nI 0) _) (cwV 1 hts (gw_V k_514 k_516 k_30 k_52 k_517) rfl rfl rfl (by decide +kernel) ⟨Nat.le_of_ble_eq_true rfl, Nat.le_of_ble_eq_true rfl⟩) hK hP hD 0 2 rfl rfl rfl hl.1 rfl (Nat.le_of_ble_eq_true rfl) d_X2_times_13 ⟨Nat.zero_le _, Nat.zero_le _⟩) hS (x_sub hD hS hA) (x_sub hD hS hA) rfl (fun w1 H locs hY hP hD hS => ?_)
  subst hY
  rw [mRef_0]
  refine n_if_eq (tgt := 21) hx hb d_X2_times_16 (by decide) (by omega) (fun _ => ?_) (fun c => absurd c (by decide))
  refine lv_aload_n hx hb d_X2_times_21 rfl (lv_at hl 0 rfl) ?_
  refine lv_iconst (v := nI 0) hx hb d_X2_times_22 (by decide) ?_
  refine lv_iload_n hx hb d_X2_times_23 rfl (lv_at hl 1 rfl) ?_
  refine x_call (st1 := []) (x_runV (As := [.int (nI 0), .int (nI r)]) (rest := []) (nL := 4) ⟨hx, hb, hml, hown, hts⟩ (c_X2_load hok (b := 0) (r := r) (by omega) (by omega) _) (cwV 2 hts (gw_V k_518 k_520 k_31 k_52 k_521) rfl rfl rfl (by decide +kernel) ⟨Nat.le_of_ble_eq_true rfl, Nat.le_of_ble_eq_true rfl⟩) hK hP hD 0 2 rfl rfl rfl hl.1 rfl (Nat.le_of_ble_eq_true rfl) d_X2_times_24 ⟨Nat.zero_le _, Nat.zero_le _⟩) hS (x_sub hD hS hA) (x_sub hD hS hA) rfl (fun w1 H locs hY hP hD hS => ?_)
  subst hY
  have hok := mLoadZ_ok (r := r) (b := 0) hok
  refine lv_aload_n hx hb d_X2_times_27 rfl (lv_at hl 0 rfl) ?_
  refine lv_iconst (v := nI 1) hx hb d_X2_times_28 (by decide) ?_
  refine lv_lload_n hx hb d_X2_times_29 rfl (lv_at hl 2 rfl) ?_
  refine x_call (st1 := []) (x_runV (As := [.int (nI 1), .long v]) (rest := []) (nL := 4) ⟨hx, hb, hml, hown, hts⟩ (c_X2_loadLong hok (b := 1) (by omega) v _) (cwV 2 hts (gw_V k_560 k_562 k_39 k_52 k_563) rfl rfl rfl (by decide +kernel) ⟨Nat.le_of_ble_eq_true rfl, Nat.le_of_ble_eq_true rfl⟩) hK hP hD 0 2 rfl rfl rfl hl.1 rfl (Nat.le_of_ble_eq_true rfl) d_X2_times_30 ⟨Nat.zero_le _, Nat.zero_le _⟩) hS (x_sub hD hS hA) (x_sub hD hS hA) rfl (fun w1 H locs hY hP hD hS => ?_)
  subst hY
  have hok := mLongZ_ok (v := v) (b := 1) hok
  refine lv_aload_n hx hb d_X2_times_33 rfl (lv_at hl 0 rfl) ?_
  refine x_call (st1 := []) (x_runV (As := []) (rest := []) (nL := 4) ⟨hx, hb, hml, hown, hts⟩ (c_X2_multiply hok hfit _) (cwV 0 hts (gw_V k_617 k_619 k_47 k_52 k_620) rfl rfl rfl (by decide +kernel) ⟨Nat.le_of_ble_eq_true rfl, Nat.le_of_ble_eq_true rfl⟩) hK hP hD 0 2 rfl rfl rfl hl.1 rfl (Nat.le_of_ble_eq_true rfl) d_X2_times_34 ⟨Nat.zero_le _, Nat.zero_le _⟩) hS (x_sub hD hS hA) (x_sub hD hS hA) rfl (fun w1 H locs hY hP hD hS => ?_)
  subst hY
  have hok := mMulZ_ok hok
  refine lv_aload_n hx hb d_X2_times_37 rfl (lv_at hl 0 rfl) ?_
  refine lv_iload_n hx hb d_X2_times_38 rfl (lv_at hl 1 rfl) ?_
  refine lv_iconst (v := nI 2) hx hb d_X2_times_39 (by decide) ?_
  refine x_call (st1 := [.int (mKSg (mMulG (mLongG v 1 (mLoadG w g r 0 z sg))) w (mMulZ (mLongZ v 1 (mLoadZ w g r 0 z))) r 2 g 2)]) (x_runV (As := [.int (nI r), .int (nI 2)]) (rest := []) (nL := 4) ⟨hx, hb, hml, hown, hts⟩ (c_X2_kept hok (b := 2) (r := r) (t := t) (by omega) (by omega) hlow _) (cwV 2 hts (gw_V k_601 k_603 k_45 k_52 k_604) rfl rfl rfl (by decide +kernel) ⟨Nat.le_of_ble_eq_true rfl, Nat.le_of_ble_eq_true rfl⟩) hK hP hD 0 2 rfl rfl rfl hl.1 rfl (Nat.le_of_ble_eq_true rfl) d_X2_times_40 ⟨Nat.zero_le _, Nat.zero_le _⟩) hS (x_sub hD hS hA) (x_sub hD hS hA) rfl (fun w1 H locs hY hP hD hS => ?_)
  subst hY
  exact x_iret hx hb hr hlocks hP hD hS d_X2_times_43 rfl rfl
abbrev w_X2_negate : List Cond := .code y_X2_negate b_X2_negate 2 (some .boolean) :: gw
set_option maxHeartbeats 800000 in
set_option maxRecDepth 100000 in
theorem c_X2_negate {l : Launch} {D : va_G} {Rs : va_W} {cA cR cL : ClassId} {h aw ar ag az : Nat} {cd : Int32} {w g : Nat → Nat} {sg : Nat → Int32} {z : Nat → Nat} (hok : mdOk w g z) {r : Nat} (hr64 : r < 64) {t : Nat} (hlow : ¬ 0 ≤ (upd (mLoadG w g r 0 z sg) 0 (-((mLoadG w g r 0 z sg) 0))) 0 → mLow (mLoadZ w g r 0 z) 0 t) : xC l y_X2_negate w_X2_negate ({ frames := 4, cells := 0, slots := 0, locals := 93 }) D cls0 (ty3 cA cR cL) [.ref h, .int (nI r)] (md cA h aw ar ag az cd w g sg z Rs) (some (.int (nI (mFits (upd (mLoadG w g r 0 z sg) 0 (-((mLoadG w g r 0 z sg) 0))) w (mLoadZ w g r 0 z) r 0 t)))) (fun w1 => w1 = md cA h aw ar ag az (nI 0) w (mStore (upd (mLoadG w g r 0 z sg) 0 (-((mLoadG w g r 0 z sg) 0))) w (mLoadZ w g r 0 z) r 0 g) (upd (mLoadG w g r 0 z sg) 0 (-((mLoadG w g r 0 z sg) 0))) (mLoadZ w g r 0 z) Rs) 0 0 := by
  refine xC.ofW (cc := b_X2_negate) (maxL := 2) (ret := some .boolean) (by decide) rfl (Nat.le_of_ble_eq_true rfl) ?_
  intro p e s m below meth c A ls _ hin hx hb hr hml hown hts hlocks hA hK hP hD hS hl
  have hts : ∀ w ∈ gw, w.before ([.ref h, .int (nI r)]).toArray s = true := fun w h => hts w (List.mem_cons_of_mem _ h)
  have hown : s.vm.findClass R_Md = some m.cls := hown
  have hl : lv_has ls 2 [(0, .ref h), (1, .int (nI r))] := hl
  refine lv_aload_n hx hb d_X2_negate_0 rfl (lv_at hl 0 rfl) ?_
  refine lv_iload_n hx hb d_X2_negate_1 rfl (lv_at hl 1 rfl) ?_
  refine x_callR (st1 := [.int (mIsRow (nI r)), .ref h]) (x_runS (As := [.int (nI r)]) (rest := [.ref h]) (nL := 2) ⟨hx, hb, hml, hown, hts⟩ (c_X2_isRow (nI r) _) (cwS 1 hts (gw_S k_511 k_512 k_52 k_513) rfl rfl rfl (by decide +kernel) ⟨Nat.le_of_ble_eq_true rfl, Nat.le_of_ble_eq_true rfl⟩) hK hP hD rfl hl.1 rfl (Nat.le_of_ble_eq_true rfl) d_X2_negate_2 ⟨Nat.zero_le _, Nat.zero_le _⟩) rfl ?_
  rw [mIsRow_1 (show r < 64 by omega)]
  refine n_if_eq (tgt := 12) hx hb d_X2_negate_5 (by decide) (by omega) (fun c => absurd c (by decide)) (fun _ => ?_)
  refine lv_iconst (v := nI 0) hx hb d_X2_negate_8 (by decide) ?_
  refine lv_goto (tgt := 13) hx hb d_X2_negate_9 (by decide) ?_
  refine x_call (st1 := [.int (mRef (nI 0))]) (x_runV (As := [.int (nI 0)]) (rest := []) (nL := 2) ⟨hx, hb, hml, hown, hts⟩ (c_X2_refuses (nI 0) _) (cwV 1 hts (gw_V k_514 k_516 k_30 k_52 k_517) rfl rfl rfl (by decide +kernel) ⟨Nat.le_of_ble_eq_true rfl, Nat.le_of_ble_eq_true rfl⟩) hK hP hD 0 2 rfl rfl rfl hl.1 rfl (Nat.le_of_ble_eq_true rfl) d_X2_negate_13 ⟨Nat.zero_le _, Nat.zero_le _⟩) hS (x_sub hD hS hA) (x_sub hD hS hA) rfl (fun w1 H locs hY hP hD hS => ?_)
  subst hY
  rw [mRef_0]
  refine n_if_eq (tgt := 21) hx hb d_X2_negate_16 (by decide) (by omega) (fun _ => ?_) (fun c => absurd c (by decide))
  refine lv_aload_n hx hb d_X2_negate_21 rfl (lv_at hl 0 rfl) ?_
  refine lv_iconst (v := nI 0) hx hb d_X2_negate_22 (by decide) ?_
  refine lv_iload_n hx hb d_X2_negate_23 rfl (lv_at hl 1 rfl) ?_
  refine x_call (st1 := []) (x_runV (As := [.int (nI 0), .int (nI r)]) (rest := []) (nL := 2) ⟨hx, hb, hml, hown, hts⟩ (c_X2_load hok (b := 0) (r := r) (by omega) (by omega) _) (cwV 2 hts (gw_V k_518 k_520 k_31 k_52 k_521) rfl rfl rfl (by decide +kernel) ⟨Nat.le_of_ble_eq_true rfl, Nat.le_of_ble_eq_true rfl⟩) hK hP hD 0 2 rfl rfl rfl hl.1 rfl (Nat.le_of_ble_eq_true rfl) d_X2_negate_24 ⟨Nat.zero_le _, Nat.zero_le _⟩) hS (x_sub hD hS hA) (x_sub hD hS hA) rfl (fun w1 H locs hY hP hD hS => ?_)
  subst hY
  have hok := mLoadZ_ok (r := r) (b := 0) hok
  refine lv_aload_n hx hb d_X2_negate_27 rfl (lv_at hl 0 rfl) ?_
  refine m_getG hx hb hts hown hK hP d_X2_negate_28 ?_
  refine lv_iconst (v := nI 0) hx hb d_X2_negate_31 (by decide) ?_
  refine lv_aload_n hx hb d_X2_negate_32 rfl (lv_at hl 0 rfl) ?_
  refine m_getG hx hb hts hown hK hP d_X2_negate_33 ?_
  refine lv_iconst (v := nI 0) hx hb d_X2_negate_36 (by decide) ?_
  refine m_aldG hx hb hK hP (j := 0) (by omega) d_X2_negate_37 ?_
  refine lv_ineg hx hb d_X2_negate_38 ?_
  refine m_astG hx hb hK hP hD hS (j := 0) (x := -((mLoadG w g r 0 z sg) 0)) (by omega) d_X2_negate_39 (fun H locs hP hD hS => ?_)
  refine lv_aload_n hx hb d_X2_negate_40 rfl (lv_at hl 0 rfl) ?_
  refine lv_iload_n hx hb d_X2_negate_41 rfl (lv_at hl 1 rfl) ?_
  refine lv_iconst (v := nI 0) hx hb d_X2_negate_42 (by decide) ?_
  refine x_call (st1 := [.int (nI (mFits (upd (mLoadG w g r 0 z sg) 0 (-((mLoadG w g r 0 z sg) 0))) w (mLoadZ w g r 0 z) r 0 t))]) (x_runV (As := [.int (nI r), .int (nI 0)]) (rest := []) (nL := 2) ⟨hx, hb, hml, hown, hts⟩ (c_X2_store hok (b := 0) (r := r) (t := t) (by omega) (by omega) hlow _) (cwV 2 hts (gw_V k_532 k_534 k_34 k_52 k_535) rfl rfl rfl (by decide +kernel) ⟨Nat.le_of_ble_eq_true rfl, Nat.le_of_ble_eq_true rfl⟩) hK hP hD 0 2 rfl rfl rfl hl.1 rfl (Nat.le_of_ble_eq_true rfl) d_X2_negate_43 ⟨Nat.zero_le _, Nat.zero_le _⟩) hS (x_sub hD hS hA) (x_sub hD hS hA) rfl (fun w1 H locs hY hP hD hS => ?_)
  subst hY
  exact x_zret hx hb hr hlocks hP hD hS d_X2_negate_46 (n_bool (by unfold mFits; split <;> omega)) rfl rfl
abbrev w_X2_zeros : List Cond := .code y_X2_zeros b_X2_zeros 2 (some .int) :: gw
set_option maxHeartbeats 800000 in
set_option maxRecDepth 100000 in
theorem c_X2_zeros_0 {l : Launch} {D : va_G} {Rs : va_W} {cA cR cL : ClassId} {h aw ar ag az : Nat} {cd : Int32} {w g : Nat → Nat} {sg : Nat → Int32} {z : Nat → Nat} (hok : mdOk w g z) {r : Nat} (hr64 : r < 64) (hsg : ((mLoadG w g r 0 z sg) 0) = 0) : xC l y_X2_zeros w_X2_zeros ({ frames := 2, cells := 0, slots := 0, locals := 50 }) D cls0 (ty3 cA cR cL) [.ref h, .int (nI r)] (md cA h aw ar ag az cd w g sg z Rs) (some (.int (nI (32 * (w r))))) (fun w1 => w1 = md cA h aw ar ag az (nI 0) w g (mLoadG w g r 0 z sg) (mLoadZ w g r 0 z) Rs) 0 0 := by
  refine xC.ofW (cc := b_X2_zeros) (maxL := 2) (ret := some .int) (by decide) rfl (Nat.le_of_ble_eq_true rfl) ?_
  intro p e s m below meth c A ls _ hin hx hb hr hml hown hts hlocks hA hK hP hD hS hl
  have hts : ∀ w ∈ gw, w.before ([.ref h, .int (nI r)]).toArray s = true := fun w h => hts w (List.mem_cons_of_mem _ h)
  have hown : s.vm.findClass R_Md = some m.cls := hown
  have hl : lv_has ls 2 [(0, .ref h), (1, .int (nI r))] := hl
  refine lv_aload_n hx hb d_X2_zeros_0 rfl (lv_at hl 0 rfl) ?_
  refine lv_iload_n hx hb d_X2_zeros_1 rfl (lv_at hl 1 rfl) ?_
  refine x_callR (st1 := [.int (mIsRow (nI r)), .ref h]) (x_runS (As := [.int (nI r)]) (rest := [.ref h]) (nL := 2) ⟨hx, hb, hml, hown, hts⟩ (c_X2_isRow (nI r) _) (cwS 1 hts (gw_S k_511 k_512 k_52 k_513) rfl rfl rfl (by decide +kernel) ⟨Nat.le_of_ble_eq_true rfl, Nat.le_of_ble_eq_true rfl⟩) hK hP hD rfl hl.1 rfl (Nat.le_of_ble_eq_true rfl) d_X2_zeros_2 ⟨Nat.zero_le _, Nat.zero_le _⟩) rfl ?_
  rw [mIsRow_1 (show r < 64 by omega)]
  refine n_if_eq (tgt := 12) hx hb d_X2_zeros_5 (by decide) (by omega) (fun c => absurd c (by decide)) (fun _ => ?_)
  refine lv_iconst (v := nI 0) hx hb d_X2_zeros_8 (by decide) ?_
  refine lv_goto (tgt := 13) hx hb d_X2_zeros_9 (by decide) ?_
  refine x_call (st1 := [.int (mRef (nI 0))]) (x_runV (As := [.int (nI 0)]) (rest := []) (nL := 2) ⟨hx, hb, hml, hown, hts⟩ (c_X2_refuses (nI 0) _) (cwV 1 hts (gw_V k_514 k_516 k_30 k_52 k_517) rfl rfl rfl (by decide +kernel) ⟨Nat.le_of_ble_eq_true rfl, Nat.le_of_ble_eq_true rfl⟩) hK hP hD 0 2 rfl rfl rfl hl.1 rfl (Nat.le_of_ble_eq_true rfl) d_X2_zeros_13 ⟨Nat.zero_le _, Nat.zero_le _⟩) hS (x_sub hD hS hA) (x_sub hD hS hA) rfl (fun w1 H locs hY hP hD hS => ?_)
  subst hY
  rw [mRef_0]
  refine n_if_eq (tgt := 21) hx hb d_X2_zeros_16 (by decide) (by omega) (fun _ => ?_) (fun c => absurd c (by decide))
  refine lv_aload_n hx hb d_X2_zeros_21 rfl (lv_at hl 0 rfl) ?_
  refine lv_iconst (v := nI 0) hx hb d_X2_zeros_22 (by decide) ?_
  refine lv_iload_n hx hb d_X2_zeros_23 rfl (lv_at hl 1 rfl) ?_
  refine x_call (st1 := []) (x_runV (As := [.int (nI 0), .int (nI r)]) (rest := []) (nL := 2) ⟨hx, hb, hml, hown, hts⟩ (c_X2_load hok (b := 0) (r := r) (by omega) (by omega) _) (cwV 2 hts (gw_V k_518 k_520 k_31 k_52 k_521) rfl rfl rfl (by decide +kernel) ⟨Nat.le_of_ble_eq_true rfl, Nat.le_of_ble_eq_true rfl⟩) hK hP hD 0 2 rfl rfl rfl hl.1 rfl (Nat.le_of_ble_eq_true rfl) d_X2_zeros_24 ⟨Nat.zero_le _, Nat.zero_le _⟩) hS (x_sub hD hS hA) (x_sub hD hS hA) rfl (fun w1 H locs hY hP hD hS => ?_)
  subst hY
  have hok := mLoadZ_ok (r := r) (b := 0) hok
  refine lv_aload_n hx hb d_X2_zeros_27 rfl (lv_at hl 0 rfl) ?_
  refine m_getG hx hb hts hown hK hP d_X2_zeros_28 ?_
  refine lv_iconst (v := nI 0) hx hb d_X2_zeros_31 (by decide) ?_
  refine m_aldG hx hb hK hP (j := 0) (by omega) d_X2_zeros_32 ?_
  refine lv_if_ne (tgt := 48) hx hb d_X2_zeros_33 (by decide) (fun c9 => absurd hsg c9) (fun _ => ?_)
  refine lv_bipush (v := nI 32) hx hb d_X2_zeros_36 (by decide) ?_
  refine lv_aload_n hx hb d_X2_zeros_38 rfl (lv_at hl 0 rfl) ?_
  refine m_getW hx hb hts hown hK hP d_X2_zeros_39 ?_
  refine lv_iload_n hx hb d_X2_zeros_42 rfl (lv_at hl 1 rfl) ?_
  have hq_43 := hok.1 r (by omega)
  refine m_aldW hx hb hK hP (j := r) (by omega) d_X2_zeros_43 ?_
  refine n_imul hx hb d_X2_zeros_44 ?_
  refine lv_goto (tgt := 53) hx hb d_X2_zeros_45 (by decide) ?_
  exact x_iret hx hb hr hlocks hP hD hS d_X2_zeros_53 rfl rfl
set_option maxHeartbeats 800000 in
set_option maxRecDepth 100000 in
theorem c_X2_zeros_1 {l : Launch} {D : va_G} {Rs : va_W} {cA cR cL : ClassId} {h aw ar ag az : Nat} {cd : Int32} {w g : Nat → Nat} {sg : Nat → Int32} {z : Nat → Nat} (hok : mdOk w g z) {r : Nat} (hr64 : r < 64) (hsg : ¬ ((mLoadG w g r 0 z sg) 0) = 0) {t : Nat} (ht : t < 17600) (ht1 : mBit (mLoadZ w g r 0 z) 0 t = 1) (ht0 : ∀ k, k < t → mBit (mLoadZ w g r 0 z) 0 k = 0) : xC l y_X2_zeros w_X2_zeros ({ frames := 2, cells := 0, slots := 0, locals := 50 }) D cls0 (ty3 cA cR cL) [.ref h, .int (nI r)] (md cA h aw ar ag az cd w g sg z Rs) (some (.int (nI t))) (fun w1 => w1 = md cA h aw ar ag az (nI 0) w g (mLoadG w g r 0 z sg) (mLoadZ w g r 0 z) Rs) 0 0 := by
  refine xC.ofW (cc := b_X2_zeros) (maxL := 2) (ret := some .int) (by decide) rfl (Nat.le_of_ble_eq_true rfl) ?_
  intro p e s m below meth c A ls _ hin hx hb hr hml hown hts hlocks hA hK hP hD hS hl
  have hts : ∀ w ∈ gw, w.before ([.ref h, .int (nI r)]).toArray s = true := fun w h => hts w (List.mem_cons_of_mem _ h)
  have hown : s.vm.findClass R_Md = some m.cls := hown
  have hl : lv_has ls 2 [(0, .ref h), (1, .int (nI r))] := hl
  refine lv_aload_n hx hb d_X2_zeros_0 rfl (lv_at hl 0 rfl) ?_
  refine lv_iload_n hx hb d_X2_zeros_1 rfl (lv_at hl 1 rfl) ?_
  refine x_callR (st1 := [.int (mIsRow (nI r)), .ref h]) (x_runS (As := [.int (nI r)]) (rest := [.ref h]) (nL := 2) ⟨hx, hb, hml, hown, hts⟩ (c_X2_isRow (nI r) _) (cwS 1 hts (gw_S k_511 k_512 k_52 k_513) rfl rfl rfl (by decide +kernel) ⟨Nat.le_of_ble_eq_true rfl, Nat.le_of_ble_eq_true rfl⟩) hK hP hD rfl hl.1 rfl (Nat.le_of_ble_eq_true rfl) d_X2_zeros_2 ⟨Nat.zero_le _, Nat.zero_le _⟩) rfl ?_
  rw [mIsRow_1 (show r < 64 by omega)]
  refine n_if_eq (tgt := 12) hx hb d_X2_zeros_5 (by decide) (by omega) (fun c => absurd c (by decide)) (fun _ => ?_)
  refine lv_iconst (v := nI 0) hx hb d_X2_zeros_8 (by decide) ?_
  refine lv_goto (tgt := 13) hx hb d_X2_zeros_9 (by decide) ?_
  refine x_call (st1 := [.int (mRef (nI 0))]) (x_runV (As := [.int (nI 0)]) (rest := []) (nL := 2) ⟨hx, hb, hml, hown, hts⟩ (c_X2_refuses (nI 0) _) (cwV 1 hts (gw_V k_514 k_516 k_30 k_52 k_517) rfl rfl rfl (by decide +kernel) ⟨Nat.le_of_ble_eq_true rfl, Nat.le_of_ble_eq_true rfl⟩) hK hP hD 0 2 rfl rfl rfl hl.1 rfl (Nat.le_of_ble_eq_true rfl) d_X2_zeros_13 ⟨Nat.zero_le _, Nat.zero_le _⟩) hS (x_sub hD hS hA) (x_sub hD hS hA) rfl (fun w1 H locs hY hP hD hS => ?_)
  subst hY
  rw [mRef_0]
  refine n_if_eq (tgt := 21) hx hb d_X2_zeros_16 (by decide) (by omega) (fun _ => ?_) (fun c => absurd c (by decide))
  refine lv_aload_n hx hb d_X2_zeros_21 rfl (lv_at hl 0 rfl) ?_
  refine lv_iconst (v := nI 0) hx hb d_X2_zeros_22 (by decide) ?_
  refine lv_iload_n hx hb d_X2_zeros_23 rfl (lv_at hl 1 rfl) ?_
  refine x_call (st1 := []) (x_runV (As := [.int (nI 0), .int (nI r)]) (rest := []) (nL := 2) ⟨hx, hb, hml, hown, hts⟩ (c_X2_load hok (b := 0) (r := r) (by omega) (by omega) _) (cwV 2 hts (gw_V k_518 k_520 k_31 k_52 k_521) rfl rfl rfl (by decide +kernel) ⟨Nat.le_of_ble_eq_true rfl, Nat.le_of_ble_eq_true rfl⟩) hK hP hD 0 2 rfl rfl rfl hl.1 rfl (Nat.le_of_ble_eq_true rfl) d_X2_zeros_24 ⟨Nat.zero_le _, Nat.zero_le _⟩) hS (x_sub hD hS hA) (x_sub hD hS hA) rfl (fun w1 H locs hY hP hD hS => ?_)
  subst hY
  have hok := mLoadZ_ok (r := r) (b := 0) hok
  refine lv_aload_n hx hb d_X2_zeros_27 rfl (lv_at hl 0 rfl) ?_
  refine m_getG hx hb hts hown hK hP d_X2_zeros_28 ?_
  refine lv_iconst (v := nI 0) hx hb d_X2_zeros_31 (by decide) ?_
  refine m_aldG hx hb hK hP (j := 0) (by omega) d_X2_zeros_32 ?_
  refine lv_if_ne (tgt := 48) hx hb d_X2_zeros_33 (by decide) (fun _ => ?_) (fun c9 => absurd c9 hsg)
  refine lv_aload_n hx hb d_X2_zeros_48 rfl (lv_at hl 0 rfl) ?_
  refine lv_iconst (v := nI 0) hx hb d_X2_zeros_49 (by decide) ?_
  refine x_callR (st1 := [.int (nI t)]) (x_runV (As := [.int (nI 0)]) (rest := []) (nL := 2) ⟨hx, hb, hml, hown, hts⟩ (c_X2_zerosOf hok (by omega) ht ht1 ht0 _) (cwV 1 hts (gw_V k_544 k_546 k_37 k_52 k_547) rfl rfl rfl (by decide +kernel) ⟨Nat.le_of_ble_eq_true rfl, Nat.le_of_ble_eq_true rfl⟩) hK hP hD 0 2 rfl rfl rfl hl.1 rfl (Nat.le_of_ble_eq_true rfl) d_X2_zeros_50 ⟨Nat.zero_le _, Nat.zero_le _⟩) rfl ?_
  exact x_iret hx hb hr hlocks hP hD hS d_X2_zeros_53 rfl rfl
abbrev w_X2_length : List Cond := .code y_X2_length b_X2_length 2 (some .int) :: gw
set_option maxHeartbeats 800000 in
set_option maxRecDepth 100000 in
theorem c_X2_length {l : Launch} {D : va_G} {Rs : va_W} {cA cR cL : ClassId} {h aw ar ag az : Nat} {cd : Int32} {w g : Nat → Nat} {sg : Nat → Int32} {z : Nat → Nat} (hok : mdOk w g z) {r : Nat} (hr64 : r < 64) {t : Nat} (hlow : ¬ 0 ≤ (mLoadG w g r 0 z sg) 0 → mLow (mLoadZ w g r 0 z) 0 t) : xC l y_X2_length w_X2_length ({ frames := 3, cells := 0, slots := 0, locals := 66 }) D cls0 (ty3 cA cR cL) [.ref h, .int (nI r)] (md cA h aw ar ag az cd w g sg z Rs) (some (.int (nI (mLenO (mLoadG w g r 0 z sg) (mLoadZ w g r 0 z) 0 t)))) (fun w1 => w1 = md cA h aw ar ag az (nI 0) w g (mLoadG w g r 0 z sg) (mLoadZ w g r 0 z) Rs) 0 0 := by
  refine xC.ofW (cc := b_X2_length) (maxL := 2) (ret := some .int) (by decide) rfl (Nat.le_of_ble_eq_true rfl) ?_
  intro p e s m below meth c A ls _ hin hx hb hr hml hown hts hlocks hA hK hP hD hS hl
  have hts : ∀ w ∈ gw, w.before ([.ref h, .int (nI r)]).toArray s = true := fun w h => hts w (List.mem_cons_of_mem _ h)
  have hown : s.vm.findClass R_Md = some m.cls := hown
  have hl : lv_has ls 2 [(0, .ref h), (1, .int (nI r))] := hl
  refine lv_aload_n hx hb d_X2_length_0 rfl (lv_at hl 0 rfl) ?_
  refine lv_iload_n hx hb d_X2_length_1 rfl (lv_at hl 1 rfl) ?_
  refine x_callR (st1 := [.int (mIsRow (nI r)), .ref h]) (x_runS (As := [.int (nI r)]) (rest := [.ref h]) (nL := 2) ⟨hx, hb, hml, hown, hts⟩ (c_X2_isRow (nI r) _) (cwS 1 hts (gw_S k_511 k_512 k_52 k_513) rfl rfl rfl (by decide +kernel) ⟨Nat.le_of_ble_eq_true rfl, Nat.le_of_ble_eq_true rfl⟩) hK hP hD rfl hl.1 rfl (Nat.le_of_ble_eq_true rfl) d_X2_length_2 ⟨Nat.zero_le _, Nat.zero_le _⟩) rfl ?_
  rw [mIsRow_1 (show r < 64 by omega)]
  refine n_if_eq (tgt := 12) hx hb d_X2_length_5 (by decide) (by omega) (fun c => absurd c (by decide)) (fun _ => ?_)
  refine lv_iconst (v := nI 0) hx hb d_X2_length_8 (by decide) ?_
  refine lv_goto (tgt := 13) hx hb d_X2_length_9 (by decide) ?_
  refine x_call (st1 := [.int (mRef (nI 0))]) (x_runV (As := [.int (nI 0)]) (rest := []) (nL := 2) ⟨hx, hb, hml, hown, hts⟩ (c_X2_refuses (nI 0) _) (cwV 1 hts (gw_V k_514 k_516 k_30 k_52 k_517) rfl rfl rfl (by decide +kernel) ⟨Nat.le_of_ble_eq_true rfl, Nat.le_of_ble_eq_true rfl⟩) hK hP hD 0 2 rfl rfl rfl hl.1 rfl (Nat.le_of_ble_eq_true rfl) d_X2_length_13 ⟨Nat.zero_le _, Nat.zero_le _⟩) hS (x_sub hD hS hA) (x_sub hD hS hA) rfl (fun w1 H locs hY hP hD hS => ?_)
  subst hY
  rw [mRef_0]
  refine n_if_eq (tgt := 21) hx hb d_X2_length_16 (by decide) (by omega) (fun _ => ?_) (fun c => absurd c (by decide))
  refine lv_aload_n hx hb d_X2_length_21 rfl (lv_at hl 0 rfl) ?_
  refine lv_iconst (v := nI 0) hx hb d_X2_length_22 (by decide) ?_
  refine lv_iload_n hx hb d_X2_length_23 rfl (lv_at hl 1 rfl) ?_
  refine x_call (st1 := []) (x_runV (As := [.int (nI 0), .int (nI r)]) (rest := []) (nL := 2) ⟨hx, hb, hml, hown, hts⟩ (c_X2_load hok (b := 0) (r := r) (by omega) (by omega) _) (cwV 2 hts (gw_V k_518 k_520 k_31 k_52 k_521) rfl rfl rfl (by decide +kernel) ⟨Nat.le_of_ble_eq_true rfl, Nat.le_of_ble_eq_true rfl⟩) hK hP hD 0 2 rfl rfl rfl hl.1 rfl (Nat.le_of_ble_eq_true rfl) d_X2_length_24 ⟨Nat.zero_le _, Nat.zero_le _⟩) hS (x_sub hD hS hA) (x_sub hD hS hA) rfl (fun w1 H locs hY hP hD hS => ?_)
  subst hY
  have hok := mLoadZ_ok (r := r) (b := 0) hok
  refine lv_aload_n hx hb d_X2_length_27 rfl (lv_at hl 0 rfl) ?_
  refine lv_iconst (v := nI 0) hx hb d_X2_length_28 (by decide) ?_
  refine x_callR (st1 := [.int (nI (mLenO (mLoadG w g r 0 z sg) (mLoadZ w g r 0 z) 0 t))]) (x_runV (As := [.int (nI 0)]) (rest := []) (nL := 2) ⟨hx, hb, hml, hown, hts⟩ (c_X2_lengthOf hok (by omega) hlow _) (cwV 1 hts (gw_V k_536 k_538 k_35 k_52 k_539) rfl rfl rfl (by decide +kernel) ⟨Nat.le_of_ble_eq_true rfl, Nat.le_of_ble_eq_true rfl⟩) hK hP hD 0 2 rfl rfl rfl hl.1 rfl (Nat.le_of_ble_eq_true rfl) d_X2_length_29 ⟨Nat.zero_le _, Nat.zero_le _⟩) rfl ?_
  exact x_iret hx hb hr hlocks hP hD hS d_X2_length_32 rfl rfl
abbrev w_X2_sign : List Cond := .code y_X2_sign b_X2_sign 2 (some .int) :: gw
set_option maxHeartbeats 800000 in
set_option maxRecDepth 100000 in
theorem c_X2_sign {l : Launch} {D : va_G} {Rs : va_W} {cA cR cL : ClassId} {h aw ar ag az : Nat} {cd : Int32} {w g : Nat → Nat} {sg : Nat → Int32} {z : Nat → Nat} (hok : mdOk w g z) {r : Nat} (hr64 : r < 64) : xC l y_X2_sign w_X2_sign ({ frames := 3, cells := 0, slots := 0, locals := 71 }) D cls0 (ty3 cA cR cL) [.ref h, .int (nI r)] (md cA h aw ar ag az cd w g sg z Rs) (some (.int (mLoadG w g r 2 z sg 2))) (fun w1 => w1 = md cA h aw ar ag az (nI 0) w g (mLoadG w g r 2 z sg) (mLoadZ w g r 2 z) Rs) 0 0 := by
  refine xC.ofW (cc := b_X2_sign) (maxL := 2) (ret := some .int) (by decide) rfl (Nat.le_of_ble_eq_true rfl) ?_
  intro p e s m below meth c A ls _ hin hx hb hr hml hown hts hlocks hA hK hP hD hS hl
  have hts : ∀ w ∈ gw, w.before ([.ref h, .int (nI r)]).toArray s = true := fun w h => hts w (List.mem_cons_of_mem _ h)
  have hown : s.vm.findClass R_Md = some m.cls := hown
  have hl : lv_has ls 2 [(0, .ref h), (1, .int (nI r))] := hl
  refine lv_aload_n hx hb d_X2_sign_0 rfl (lv_at hl 0 rfl) ?_
  refine lv_iload_n hx hb d_X2_sign_1 rfl (lv_at hl 1 rfl) ?_
  refine x_callR (st1 := [.int (mIsRow (nI r)), .ref h]) (x_runS (As := [.int (nI r)]) (rest := [.ref h]) (nL := 2) ⟨hx, hb, hml, hown, hts⟩ (c_X2_isRow (nI r) _) (cwS 1 hts (gw_S k_511 k_512 k_52 k_513) rfl rfl rfl (by decide +kernel) ⟨Nat.le_of_ble_eq_true rfl, Nat.le_of_ble_eq_true rfl⟩) hK hP hD rfl hl.1 rfl (Nat.le_of_ble_eq_true rfl) d_X2_sign_2 ⟨Nat.zero_le _, Nat.zero_le _⟩) rfl ?_
  rw [mIsRow_1 (show r < 64 by omega)]
  refine n_if_eq (tgt := 12) hx hb d_X2_sign_5 (by decide) (by omega) (fun c => absurd c (by decide)) (fun _ => ?_)
  refine lv_iconst (v := nI 0) hx hb d_X2_sign_8 (by decide) ?_
  refine lv_goto (tgt := 13) hx hb d_X2_sign_9 (by decide) ?_
  refine x_call (st1 := [.int (mRef (nI 0))]) (x_runV (As := [.int (nI 0)]) (rest := []) (nL := 2) ⟨hx, hb, hml, hown, hts⟩ (c_X2_refuses (nI 0) _) (cwV 1 hts (gw_V k_514 k_516 k_30 k_52 k_517) rfl rfl rfl (by decide +kernel) ⟨Nat.le_of_ble_eq_true rfl, Nat.le_of_ble_eq_true rfl⟩) hK hP hD 0 2 rfl rfl rfl hl.1 rfl (Nat.le_of_ble_eq_true rfl) d_X2_sign_13 ⟨Nat.zero_le _, Nat.zero_le _⟩) hS (x_sub hD hS hA) (x_sub hD hS hA) rfl (fun w1 H locs hY hP hD hS => ?_)
  subst hY
  rw [mRef_0]
  refine n_if_eq (tgt := 23) hx hb d_X2_sign_16 (by decide) (by omega) (fun _ => ?_) (fun c => absurd c (by decide))
  refine lv_aload_n hx hb d_X2_sign_23 rfl (lv_at hl 0 rfl) ?_
  refine lv_iload_n hx hb d_X2_sign_24 rfl (lv_at hl 1 rfl) ?_
  refine x_call (st1 := [.int (mLoadG w g r 2 z sg 2)]) (x_runV (As := [.int (nI r)]) (rest := []) (nL := 2) ⟨hx, hb, hml, hown, hts⟩ (c_X2_signOf hok (r := r) (by omega) _) (cwV 1 hts (gw_V k_577 k_579 k_41 k_52 k_580) rfl rfl rfl (by decide +kernel) ⟨Nat.le_of_ble_eq_true rfl, Nat.le_of_ble_eq_true rfl⟩) hK hP hD 0 2 rfl rfl rfl hl.1 rfl (Nat.le_of_ble_eq_true rfl) d_X2_sign_25 ⟨Nat.zero_le _, Nat.zero_le _⟩) hS (x_sub hD hS hA) (x_sub hD hS hA) rfl (fun w1 H locs hY hP hD hS => ?_)
  subst hY
  exact x_iret hx hb hr hlocks hP hD hS d_X2_sign_28 rfl rfl
abbrev w_X2_compare : List Cond := .code y_X2_compare b_X2_compare 3 (some .int) :: gw
set_option maxHeartbeats 800000 in
set_option maxRecDepth 100000 in
theorem c_X2_compare {l : Launch} {D : va_G} {Rs : va_W} {cA cR cL : ClassId} {h aw ar ag az : Nat} {cd : Int32} {w g : Nat → Nat} {sg : Nat → Int32} {z : Nat → Nat} (hok : mdOk w g z) {r a : Nat} (hr64 : r < 64) (ha64 : a < 64) : xC l y_X2_compare w_X2_compare ({ frames := 2, cells := 0, slots := 0, locals := 54 }) D cls0 (ty3 cA cR cL) [.ref h, .int (nI r), .int (nI a)] (md cA h aw ar ag az cd w g sg z Rs) (some (.int ((upd (mLoadG w g a 1 (mLoadZ w g r 0 z) (mLoadG w g r 0 z sg)) 0 (mCombS (mLoadG w g a 1 (mLoadZ w g r 0 z) (mLoadG w g r 0 z sg)) 0 1 (mOth (mLoadG w g a 1 (mLoadZ w g r 0 z) (mLoadG w g r 0 z sg)) 1 1) (mLoadZ w g a 1 (mLoadZ w g r 0 z)))) 0))) (fun w1 => w1 = md cA h aw ar ag az (nI 0) w g (upd (mLoadG w g a 1 (mLoadZ w g r 0 z) (mLoadG w g r 0 z sg)) 0 (mCombS (mLoadG w g a 1 (mLoadZ w g r 0 z) (mLoadG w g r 0 z sg)) 0 1 (mOth (mLoadG w g a 1 (mLoadZ w g r 0 z) (mLoadG w g r 0 z sg)) 1 1) (mLoadZ w g a 1 (mLoadZ w g r 0 z)))) (mCombZ (mLoadG w g a 1 (mLoadZ w g r 0 z) (mLoadG w g r 0 z sg)) 0 1 (mOth (mLoadG w g a 1 (mLoadZ w g r 0 z) (mLoadG w g r 0 z sg)) 1 1) (mLoadZ w g a 1 (mLoadZ w g r 0 z))) Rs) 0 0 := by
  refine xC.ofW (cc := b_X2_compare) (maxL := 3) (ret := some .int) (by decide) rfl (Nat.le_of_ble_eq_true rfl) ?_
  intro p e s m below meth c A ls _ hin hx hb hr hml hown hts hlocks hA hK hP hD hS hl
  have hts : ∀ w ∈ gw, w.before ([.ref h, .int (nI r), .int (nI a)]).toArray s = true := fun w h => hts w (List.mem_cons_of_mem _ h)
  have hown : s.vm.findClass R_Md = some m.cls := hown
  have hl : lv_has ls 3 [(0, .ref h), (1, .int (nI r)), (2, .int (nI a))] := hl
  refine lv_aload_n hx hb d_X2_compare_0 rfl (lv_at hl 0 rfl) ?_
  refine lv_iload_n hx hb d_X2_compare_1 rfl (lv_at hl 1 rfl) ?_
  refine x_callR (st1 := [.int (mIsRow (nI r)), .ref h]) (x_runS (As := [.int (nI r)]) (rest := [.ref h]) (nL := 3) ⟨hx, hb, hml, hown, hts⟩ (c_X2_isRow (nI r) _) (cwS 1 hts (gw_S k_511 k_512 k_52 k_513) rfl rfl rfl (by decide +kernel) ⟨Nat.le_of_ble_eq_true rfl, Nat.le_of_ble_eq_true rfl⟩) hK hP hD rfl hl.1 rfl (Nat.le_of_ble_eq_true rfl) d_X2_compare_2 ⟨Nat.zero_le _, Nat.zero_le _⟩) rfl ?_
  rw [mIsRow_1 (show r < 64 by omega)]
  refine n_if_eq (tgt := 19) hx hb d_X2_compare_5 (by decide) (by omega) (fun c => absurd c (by decide)) (fun _ => ?_)
  refine lv_iload_n hx hb d_X2_compare_8 rfl (lv_at hl 2 rfl) ?_
  refine x_callR (st1 := [.int (mIsRow (nI a)), .ref h]) (x_runS (As := [.int (nI a)]) (rest := [.ref h]) (nL := 3) ⟨hx, hb, hml, hown, hts⟩ (c_X2_isRow (nI a) _) (cwS 1 hts (gw_S k_511 k_512 k_52 k_513) rfl rfl rfl (by decide +kernel) ⟨Nat.le_of_ble_eq_true rfl, Nat.le_of_ble_eq_true rfl⟩) hK hP hD rfl hl.1 rfl (Nat.le_of_ble_eq_true rfl) d_X2_compare_9 ⟨Nat.zero_le _, Nat.zero_le _⟩) rfl ?_
  rw [mIsRow_1 (show a < 64 by omega)]
  refine n_if_eq (tgt := 19) hx hb d_X2_compare_12 (by decide) (by omega) (fun c => absurd c (by decide)) (fun _ => ?_)
  refine lv_iconst (v := nI 0) hx hb d_X2_compare_15 (by decide) ?_
  refine lv_goto (tgt := 20) hx hb d_X2_compare_16 (by decide) ?_
  refine x_call (st1 := [.int (mRef (nI 0))]) (x_runV (As := [.int (nI 0)]) (rest := []) (nL := 3) ⟨hx, hb, hml, hown, hts⟩ (c_X2_refuses (nI 0) _) (cwV 1 hts (gw_V k_514 k_516 k_30 k_52 k_517) rfl rfl rfl (by decide +kernel) ⟨Nat.le_of_ble_eq_true rfl, Nat.le_of_ble_eq_true rfl⟩) hK hP hD 0 2 rfl rfl rfl hl.1 rfl (Nat.le_of_ble_eq_true rfl) d_X2_compare_20 ⟨Nat.zero_le _, Nat.zero_le _⟩) hS (x_sub hD hS hA) (x_sub hD hS hA) rfl (fun w1 H locs hY hP hD hS => ?_)
  subst hY
  rw [mRef_0]
  refine n_if_eq (tgt := 28) hx hb d_X2_compare_23 (by decide) (by omega) (fun _ => ?_) (fun c => absurd c (by decide))
  refine lv_aload_n hx hb d_X2_compare_28 rfl (lv_at hl 0 rfl) ?_
  refine lv_iconst (v := nI 0) hx hb d_X2_compare_29 (by decide) ?_
  refine lv_iload_n hx hb d_X2_compare_30 rfl (lv_at hl 1 rfl) ?_
  refine x_call (st1 := []) (x_runV (As := [.int (nI 0), .int (nI r)]) (rest := []) (nL := 3) ⟨hx, hb, hml, hown, hts⟩ (c_X2_load hok (b := 0) (r := r) (by omega) (by omega) _) (cwV 2 hts (gw_V k_518 k_520 k_31 k_52 k_521) rfl rfl rfl (by decide +kernel) ⟨Nat.le_of_ble_eq_true rfl, Nat.le_of_ble_eq_true rfl⟩) hK hP hD 0 2 rfl rfl rfl hl.1 rfl (Nat.le_of_ble_eq_true rfl) d_X2_compare_31 ⟨Nat.zero_le _, Nat.zero_le _⟩) hS (x_sub hD hS hA) (x_sub hD hS hA) rfl (fun w1 H locs hY hP hD hS => ?_)
  subst hY
  have hok := mLoadZ_ok (r := r) (b := 0) hok
  refine lv_aload_n hx hb d_X2_compare_34 rfl (lv_at hl 0 rfl) ?_
  refine lv_iconst (v := nI 1) hx hb d_X2_compare_35 (by decide) ?_
  refine lv_iload_n hx hb d_X2_compare_36 rfl (lv_at hl 2 rfl) ?_
  refine x_call (st1 := []) (x_runV (As := [.int (nI 1), .int (nI a)]) (rest := []) (nL := 3) ⟨hx, hb, hml, hown, hts⟩ (c_X2_load hok (b := 1) (r := a) (by omega) (by omega) _) (cwV 2 hts (gw_V k_518 k_520 k_31 k_52 k_521) rfl rfl rfl (by decide +kernel) ⟨Nat.le_of_ble_eq_true rfl, Nat.le_of_ble_eq_true rfl⟩) hK hP hD 0 2 rfl rfl rfl hl.1 rfl (Nat.le_of_ble_eq_true rfl) d_X2_compare_37 ⟨Nat.zero_le _, Nat.zero_le _⟩) hS (x_sub hD hS hA) (x_sub hD hS hA) rfl (fun w1 H locs hY hP hD hS => ?_)
  subst hY
  have hok := mLoadZ_ok (r := a) (b := 1) hok
  refine lv_aload_n hx hb d_X2_compare_40 rfl (lv_at hl 0 rfl) ?_
  refine lv_iconst (v := nI 0) hx hb d_X2_compare_41 (by decide) ?_
  refine lv_iconst (v := nI 1) hx hb d_X2_compare_42 (by decide) ?_
  refine lv_iconst (v := nI 1) hx hb d_X2_compare_43 (by decide) ?_
  refine x_call (st1 := []) (x_runV (As := [.int (nI 0), .int (nI 1), .int (nI 1)]) (rest := []) (nL := 3) ⟨hx, hb, hml, hown, hts⟩ (c_X2_combine hok (b := 0) (q := 1) (f := 1) (by omega) (by omega) (by omega) _) (cwV 3 hts (gw_V k_593 k_595 k_43 k_52 k_596) rfl rfl rfl (by decide +kernel) ⟨Nat.le_of_ble_eq_true rfl, Nat.le_of_ble_eq_true rfl⟩) hK hP hD 0 2 rfl rfl rfl hl.1 rfl (Nat.le_of_ble_eq_true rfl) d_X2_compare_44 ⟨Nat.zero_le _, Nat.zero_le _⟩) hS (x_sub hD hS hA) (x_sub hD hS hA) rfl (fun w1 H locs hY hP hD hS => ?_)
  subst hY
  have hok := mCombZ_ok (sg := mLoadG w g a 1 (mLoadZ w g r 0 z) (mLoadG w g r 0 z sg)) (b := 0) (q := 1) (x := mOth (mLoadG w g a 1 (mLoadZ w g r 0 z) (mLoadG w g r 0 z sg)) 1 1) hok
  refine lv_aload_n hx hb d_X2_compare_47 rfl (lv_at hl 0 rfl) ?_
  refine m_getG hx hb hts hown hK hP d_X2_compare_48 ?_
  refine lv_iconst (v := nI 0) hx hb d_X2_compare_51 (by decide) ?_
  refine m_aldG hx hb hK hP (j := 0) (by omega) d_X2_compare_52 ?_
  exact x_iret hx hb hr hlocks hP hD hS d_X2_compare_53 rfl rfl
