def lo16 (v : Int32) : Nat := v.toBitVec.toNat % 65536
def hi16 (v : Int32) : Nat := (v >>> (nI 16 &&& 31)).toBitVec.toNat % 65536
theorem lo16_lt (v : Int32) : lo16 v < 65536 := Nat.mod_lt _ (by decide)
theorem hi16_lt (v : Int32) : hi16 v < 65536 := Nat.mod_lt _ (by decide)
theorem lo16_eq (v : Int32) : v &&& nI 65535 = nI (lo16 v) := pk_and v 16 (by decide)
theorem hi16_eq (v : Int32) : v >>> (nI 16 &&& 31) &&& nI 65535 = nI (hi16 v) := pk_and _ 16 (by decide)
abbrev w_X2_put : List Cond := .code y_X2_put b_X2_put 5 (some .int) :: gw
set_option maxHeartbeats 800000 in
set_option maxRecDepth 100000 in
theorem c_X2_put {l : Launch} {D : va_G} {Rs : va_W} {cA cR cL : ClassId} {h aw ar ag az : Nat} {cd : Int32} {w g : Nat → Nat} {sg : Nat → Int32} {z : Nat → Nat} (hok : mdOk w g z) {r : Nat} (hr64 : r < 64) {k : Nat} (hk : k < w r) (v : Int32) : xC l y_X2_put w_X2_put ({ frames := 1, cells := 0, slots := 0, locals := 22 }) D cls0 (ty3 cA cR cL) [.ref h, .int (nI r), .int (nI k), .int v] (md cA h aw ar ag az cd w g sg z Rs) (some (.int (mLimb g r k))) (fun w1 => w1 = md cA h aw ar ag az (nI 0) w (va_up (va_up g ((512 * r) + (2 * k)) (lo16 v)) (((512 * r) + (2 * k)) + 1) (hi16 v)) sg z Rs) 0 0 := by
  refine xC.ofW (cc := b_X2_put) (maxL := 5) (ret := some .int) (by decide) rfl (Nat.le_of_ble_eq_true rfl) ?_
  intro p e s m below meth c A ls _ hin hx hb hr hml hown hts hlocks hA hK hP hD hS hl
  have hts : ∀ w ∈ gw, w.before ([.ref h, .int (nI r), .int (nI k), .int v]).toArray s = true := fun w h => hts w (List.mem_cons_of_mem _ h)
  have hown : s.vm.findClass R_Md = some m.cls := hown
  have hl : lv_has ls 5 [(0, .ref h), (1, .int (nI r)), (2, .int (nI k)), (3, .int v)] := hl
  have hwr := hok.1 r hr64
  refine lv_aload_n hx hb d_X2_put_0 rfl (lv_at hl 0 rfl) ?_
  refine lv_iload_n hx hb d_X2_put_1 rfl (lv_at hl 1 rfl) ?_
  refine x_callR (st1 := [.int (mIsRow (nI r)), .ref h]) (x_runS (As := [.int (nI r)]) (rest := [.ref h]) (nL := 5) ⟨hx, hb, hml, hown, hts⟩ (c_X2_isRow (nI r) _) (cwS 1 hts (gw_S k_511 k_512 k_52 k_513) rfl rfl rfl (by decide +kernel) ⟨Nat.le_of_ble_eq_true rfl, Nat.le_of_ble_eq_true rfl⟩) hK hP hD rfl hl.1 rfl (Nat.le_of_ble_eq_true rfl) d_X2_put_2 ⟨Nat.zero_le _, Nat.zero_le _⟩) rfl ?_
  rw [mIsRow_1 (show r < 64 by omega)]
  refine n_if_eq (tgt := 22) hx hb d_X2_put_5 (by decide) (by omega) (fun c => absurd c (by decide)) (fun _ => ?_)
  refine lv_iload_n hx hb d_X2_put_8 rfl (lv_at hl 2 rfl) ?_
  refine n_if_lt (tgt := 22) hx hb d_X2_put_9 (by decide) (by omega) ?_
  refine lv_iload_n hx hb d_X2_put_12 rfl (lv_at hl 2 rfl) ?_
  refine lv_aload_n hx hb d_X2_put_13 rfl (lv_at hl 0 rfl) ?_
  refine m_getW hx hb hts hown hK hP d_X2_put_14 ?_
  refine lv_iload_n hx hb d_X2_put_17 rfl (lv_at hl 1 rfl) ?_
  have hq_18 := hok.1 r (by omega)
  refine m_aldW hx hb hK hP (j := r) (by omega) d_X2_put_18 ?_
  refine n_icmp_lt (tgt := 26) hx hb d_X2_put_19 (by decide) (by omega) (by omega) (fun _ => ?_) (fun c9 => absurd c9 (by omega))
  refine lv_iconst (v := nI 0) hx hb d_X2_put_26 (by decide) ?_
  refine x_call (st1 := [.int (mRef (nI 0))]) (x_runV (As := [.int (nI 0)]) (rest := []) (nL := 5) ⟨hx, hb, hml, hown, hts⟩ (c_X2_refuses (nI 0) _) (cwV 1 hts (gw_V k_514 k_516 k_30 k_52 k_517) rfl rfl rfl (by decide +kernel) ⟨Nat.le_of_ble_eq_true rfl, Nat.le_of_ble_eq_true rfl⟩) hK hP hD 0 2 rfl rfl rfl hl.1 rfl (Nat.le_of_ble_eq_true rfl) d_X2_put_27 ⟨Nat.zero_le _, Nat.zero_le _⟩) hS (x_sub hD hS hA) (x_sub hD hS hA) rfl (fun w1 H locs hY hP hD hS => ?_)
  subst hY
  rw [mRef_0]
  refine n_if_eq (tgt := 35) hx hb d_X2_put_30 (by decide) (by omega) (fun _ => ?_) (fun c => absurd c (by decide))
  refine lv_aload_n hx hb d_X2_put_35 rfl (lv_at hl 0 rfl) ?_
  refine lv_iload_n hx hb d_X2_put_36 rfl (lv_at hl 1 rfl) ?_
  refine lv_iload_n hx hb d_X2_put_37 rfl (lv_at hl 2 rfl) ?_
  refine x_callR (st1 := [.int (mLimb g r k)]) (x_runV (As := [.int (nI r), .int (nI k)]) (rest := []) (nL := 5) ⟨hx, hb, hml, hown, hts⟩ (c_X2_limbOf hok (r := r) (k := k) (by omega) (by omega) _) (cwV 2 hts (gw_V k_569 k_571 k_40 k_52 k_572) rfl rfl rfl (by decide +kernel) ⟨Nat.le_of_ble_eq_true rfl, Nat.le_of_ble_eq_true rfl⟩) hK hP hD 0 2 rfl rfl rfl hl.1 rfl (Nat.le_of_ble_eq_true rfl) d_X2_put_38 ⟨Nat.zero_le _, Nat.zero_le _⟩) rfl ?_
  refine lv_istore (lv' := [(4, .int (mLimb g r k)), (0, .ref h), (1, .int (nI r)), (2, .int (nI k)), (3, .int v)]) hx hb d_X2_put_41 hl (by decide) rfl (fun ls hl => ?_)
  refine lv_aload_n hx hb d_X2_put_43 rfl (lv_at hl 1 rfl) ?_
  refine m_getR hx hb hts hown hK hP d_X2_put_44 ?_
  refine lv_sipush (v := nI 512) hx hb d_X2_put_47 (by decide) ?_
  refine lv_iload_n hx hb d_X2_put_50 rfl (lv_at hl 2 rfl) ?_
  refine n_imul hx hb d_X2_put_51 ?_
  refine lv_iconst (v := nI 2) hx hb d_X2_put_52 (by decide) ?_
  refine lv_iload_n hx hb d_X2_put_53 rfl (lv_at hl 3 rfl) ?_
  refine n_imul hx hb d_X2_put_54 ?_
  refine n_iadd hx hb d_X2_put_55 ?_
  refine lv_iload_n hx hb d_X2_put_56 rfl (lv_at hl 4 rfl) ?_
  refine lv_ldc (v := nI 65535) hx hb hown (hts (.constant "LimbRowsModel" 31 (nI 65535)) (show Cond.constant "LimbRowsModel" 31 65535 ∈ gw from k_526)) d_X2_put_57 ?_
  refine lv_iand hx hb d_X2_put_59 ?_
  rw [lo16_eq]
  have hlo16 := lo16_lt v
  refine m_astR hx hb hK hP hD hS (j := (512 * r) + (2 * k)) (v := lo16 v) (by omega) d_X2_put_60 (fun H locs hP hD hS => ?_)
  have hok := hok.g (j := (512 * r) + (2 * k)) (v := lo16 v) (by omega)
  refine lv_aload_n hx hb d_X2_put_61 rfl (lv_at hl 1 rfl) ?_
  refine m_getR hx hb hts hown hK hP d_X2_put_62 ?_
  refine lv_sipush (v := nI 512) hx hb d_X2_put_65 (by decide) ?_
  refine lv_iload_n hx hb d_X2_put_68 rfl (lv_at hl 2 rfl) ?_
  refine n_imul hx hb d_X2_put_69 ?_
  refine lv_iconst (v := nI 2) hx hb d_X2_put_70 (by decide) ?_
  refine lv_iload_n hx hb d_X2_put_71 rfl (lv_at hl 3 rfl) ?_
  refine n_imul hx hb d_X2_put_72 ?_
  refine n_iadd hx hb d_X2_put_73 ?_
  refine lv_iconst (v := nI 1) hx hb d_X2_put_74 (by decide) ?_
  refine n_iadd hx hb d_X2_put_75 ?_
  refine lv_iload_n hx hb d_X2_put_76 rfl (lv_at hl 4 rfl) ?_
  refine lv_bipush (v := nI 16) hx hb d_X2_put_77 (by decide) ?_
  refine lv_ishr hx hb d_X2_put_79 ?_
  refine lv_ldc (v := nI 65535) hx hb hown (hts (.constant "LimbRowsModel" 31 (nI 65535)) (show Cond.constant "LimbRowsModel" 31 65535 ∈ gw from k_526)) d_X2_put_80 ?_
  refine lv_iand hx hb d_X2_put_82 ?_
  rw [hi16_eq]
  have hhi16 := hi16_lt v
  refine m_astR hx hb hK hP hD hS (j := ((512 * r) + (2 * k)) + 1) (v := hi16 v) (by omega) d_X2_put_83 (fun H locs hP hD hS => ?_)
  have hok := hok.g (j := ((512 * r) + (2 * k)) + 1) (v := hi16 v) (by omega)
  refine lv_iload hx hb d_X2_put_84 (lv_at hl 0 rfl) ?_
  exact x_iret hx hb hr hlocks hP hD hS d_X2_put_86 rfl rfl
abbrev w_X2_limb : List Cond := .code y_X2_limb b_X2_limb 3 (some .int) :: gw
set_option maxHeartbeats 800000 in
set_option maxRecDepth 100000 in
theorem c_X2_limb_0 {l : Launch} {D : va_G} {Rs : va_W} {cA cR cL : ClassId} {h aw ar ag az : Nat} {cd : Int32} {w g : Nat → Nat} {sg : Nat → Int32} {z : Nat → Nat} (hok : mdOk w g z) {r : Nat} (hr64 : r < 64) {k : Nat} (hk31 : k < 2 ^ 31) (hkw : k < (w r)) : xC l y_X2_limb w_X2_limb ({ frames := 3, cells := 0, slots := 0, locals := 71 }) D cls0 (ty3 cA cR cL) [.ref h, .int (nI r), .int (nI k)] (md cA h aw ar ag az cd w g sg z Rs) (some (.int (mLimb g r k))) (fun w1 => w1 = md cA h aw ar ag az (nI 0) w g sg z Rs) 0 0 := by
  refine xC.ofW (cc := b_X2_limb) (maxL := 3) (ret := some .int) (by decide) rfl (Nat.le_of_ble_eq_true rfl) ?_
  intro p e s m below meth c A ls _ hin hx hb hr hml hown hts hlocks hA hK hP hD hS hl
  have hts : ∀ w ∈ gw, w.before ([.ref h, .int (nI r), .int (nI k)]).toArray s = true := fun w h => hts w (List.mem_cons_of_mem _ h)
  have hown : s.vm.findClass R_Md = some m.cls := hown
  have hl : lv_has ls 3 [(0, .ref h), (1, .int (nI r)), (2, .int (nI k))] := hl
  have hwr := hok.1 r hr64
  refine lv_aload_n hx hb d_X2_limb_0 rfl (lv_at hl 0 rfl) ?_
  refine lv_iload_n hx hb d_X2_limb_1 rfl (lv_at hl 1 rfl) ?_
  refine x_callR (st1 := [.int (mIsRow (nI r)), .ref h]) (x_runS (As := [.int (nI r)]) (rest := [.ref h]) (nL := 3) ⟨hx, hb, hml, hown, hts⟩ (c_X2_isRow (nI r) _) (cwS 1 hts (gw_S k_511 k_512 k_52 k_513) rfl rfl rfl (by decide +kernel) ⟨Nat.le_of_ble_eq_true rfl, Nat.le_of_ble_eq_true rfl⟩) hK hP hD rfl hl.1 rfl (Nat.le_of_ble_eq_true rfl) d_X2_limb_2 ⟨Nat.zero_le _, Nat.zero_le _⟩) rfl ?_
  rw [mIsRow_1 (show r < 64 by omega)]
  refine n_if_eq (tgt := 12) hx hb d_X2_limb_5 (by decide) (by omega) (fun c => absurd c (by decide)) (fun _ => ?_)
  refine lv_iload_n hx hb d_X2_limb_8 rfl (lv_at hl 2 rfl) ?_
  refine n_if_ge (tgt := 16) hx hb d_X2_limb_9 (by decide) (by omega) ?_
  refine lv_iconst (v := nI 0) hx hb d_X2_limb_16 (by decide) ?_
  refine x_call (st1 := [.int (mRef (nI 0))]) (x_runV (As := [.int (nI 0)]) (rest := []) (nL := 3) ⟨hx, hb, hml, hown, hts⟩ (c_X2_refuses (nI 0) _) (cwV 1 hts (gw_V k_514 k_516 k_30 k_52 k_517) rfl rfl rfl (by decide +kernel) ⟨Nat.le_of_ble_eq_true rfl, Nat.le_of_ble_eq_true rfl⟩) hK hP hD 0 2 rfl rfl rfl hl.1 rfl (Nat.le_of_ble_eq_true rfl) d_X2_limb_17 ⟨Nat.zero_le _, Nat.zero_le _⟩) hS (x_sub hD hS hA) (x_sub hD hS hA) rfl (fun w1 H locs hY hP hD hS => ?_)
  subst hY
  rw [mRef_0]
  refine n_if_eq (tgt := 25) hx hb d_X2_limb_20 (by decide) (by omega) (fun _ => ?_) (fun c => absurd c (by decide))
  refine lv_iload_n hx hb d_X2_limb_25 rfl (lv_at hl 2 rfl) ?_
  refine lv_aload_n hx hb d_X2_limb_26 rfl (lv_at hl 0 rfl) ?_
  refine m_getW hx hb hts hown hK hP d_X2_limb_27 ?_
  refine lv_iload_n hx hb d_X2_limb_30 rfl (lv_at hl 1 rfl) ?_
  have hq_31 := hok.1 r (by omega)
  refine m_aldW hx hb hK hP (j := r) (by omega) d_X2_limb_31 ?_
  refine n_icmp_ge (tgt := 42) hx hb d_X2_limb_32 (by decide) (by omega) (by omega) (fun c9 => absurd c9 (by omega)) (fun _ => ?_)
  refine lv_aload_n hx hb d_X2_limb_35 rfl (lv_at hl 0 rfl) ?_
  refine lv_iload_n hx hb d_X2_limb_36 rfl (lv_at hl 1 rfl) ?_
  refine lv_iload_n hx hb d_X2_limb_37 rfl (lv_at hl 2 rfl) ?_
  refine x_callR (st1 := [.int (mLimb g r k)]) (x_runV (As := [.int (nI r), .int (nI k)]) (rest := []) (nL := 3) ⟨hx, hb, hml, hown, hts⟩ (c_X2_limbOf hok (r := r) (k := k) (by omega) (by omega) _) (cwV 2 hts (gw_V k_569 k_571 k_40 k_52 k_572) rfl rfl rfl (by decide +kernel) ⟨Nat.le_of_ble_eq_true rfl, Nat.le_of_ble_eq_true rfl⟩) hK hP hD 0 2 rfl rfl rfl hl.1 rfl (Nat.le_of_ble_eq_true rfl) d_X2_limb_38 ⟨Nat.zero_le _, Nat.zero_le _⟩) rfl ?_
  exact x_iret hx hb hr hlocks hP hD hS d_X2_limb_41 rfl rfl
set_option maxHeartbeats 800000 in
set_option maxRecDepth 100000 in
theorem c_X2_limb_1 {l : Launch} {D : va_G} {Rs : va_W} {cA cR cL : ClassId} {h aw ar ag az : Nat} {cd : Int32} {w g : Nat → Nat} {sg : Nat → Int32} {z : Nat → Nat} (hok : mdOk w g z) {r : Nat} (hr64 : r < 64) {k : Nat} (hk31 : k < 2 ^ 31) (hkw : (w r) ≤ k) (hsg : 0 ≤ (mLoadG w g r 2 z sg 2)) : xC l y_X2_limb w_X2_limb ({ frames := 3, cells := 0, slots := 0, locals := 71 }) D cls0 (ty3 cA cR cL) [.ref h, .int (nI r), .int (nI k)] (md cA h aw ar ag az cd w g sg z Rs) (some (.int (nI 0))) (fun w1 => w1 = md cA h aw ar ag az (nI 0) w g (mLoadG w g r 2 z sg) (mLoadZ w g r 2 z) Rs) 0 0 := by
  refine xC.ofW (cc := b_X2_limb) (maxL := 3) (ret := some .int) (by decide) rfl (Nat.le_of_ble_eq_true rfl) ?_
  intro p e s m below meth c A ls _ hin hx hb hr hml hown hts hlocks hA hK hP hD hS hl
  have hts : ∀ w ∈ gw, w.before ([.ref h, .int (nI r), .int (nI k)]).toArray s = true := fun w h => hts w (List.mem_cons_of_mem _ h)
  have hown : s.vm.findClass R_Md = some m.cls := hown
  have hl : lv_has ls 3 [(0, .ref h), (1, .int (nI r)), (2, .int (nI k))] := hl
  have hwr := hok.1 r hr64
  refine lv_aload_n hx hb d_X2_limb_0 rfl (lv_at hl 0 rfl) ?_
  refine lv_iload_n hx hb d_X2_limb_1 rfl (lv_at hl 1 rfl) ?_
  refine x_callR (st1 := [.int (mIsRow (nI r)), .ref h]) (x_runS (As := [.int (nI r)]) (rest := [.ref h]) (nL := 3) ⟨hx, hb, hml, hown, hts⟩ (c_X2_isRow (nI r) _) (cwS 1 hts (gw_S k_511 k_512 k_52 k_513) rfl rfl rfl (by decide +kernel) ⟨Nat.le_of_ble_eq_true rfl, Nat.le_of_ble_eq_true rfl⟩) hK hP hD rfl hl.1 rfl (Nat.le_of_ble_eq_true rfl) d_X2_limb_2 ⟨Nat.zero_le _, Nat.zero_le _⟩) rfl ?_
  rw [mIsRow_1 (show r < 64 by omega)]
  refine n_if_eq (tgt := 12) hx hb d_X2_limb_5 (by decide) (by omega) (fun c => absurd c (by decide)) (fun _ => ?_)
  refine lv_iload_n hx hb d_X2_limb_8 rfl (lv_at hl 2 rfl) ?_
  refine n_if_ge (tgt := 16) hx hb d_X2_limb_9 (by decide) (by omega) ?_
  refine lv_iconst (v := nI 0) hx hb d_X2_limb_16 (by decide) ?_
  refine x_call (st1 := [.int (mRef (nI 0))]) (x_runV (As := [.int (nI 0)]) (rest := []) (nL := 3) ⟨hx, hb, hml, hown, hts⟩ (c_X2_refuses (nI 0) _) (cwV 1 hts (gw_V k_514 k_516 k_30 k_52 k_517) rfl rfl rfl (by decide +kernel) ⟨Nat.le_of_ble_eq_true rfl, Nat.le_of_ble_eq_true rfl⟩) hK hP hD 0 2 rfl rfl rfl hl.1 rfl (Nat.le_of_ble_eq_true rfl) d_X2_limb_17 ⟨Nat.zero_le _, Nat.zero_le _⟩) hS (x_sub hD hS hA) (x_sub hD hS hA) rfl (fun w1 H locs hY hP hD hS => ?_)
  subst hY
  rw [mRef_0]
  refine n_if_eq (tgt := 25) hx hb d_X2_limb_20 (by decide) (by omega) (fun _ => ?_) (fun c => absurd c (by decide))
  refine lv_iload_n hx hb d_X2_limb_25 rfl (lv_at hl 2 rfl) ?_
  refine lv_aload_n hx hb d_X2_limb_26 rfl (lv_at hl 0 rfl) ?_
  refine m_getW hx hb hts hown hK hP d_X2_limb_27 ?_
  refine lv_iload_n hx hb d_X2_limb_30 rfl (lv_at hl 1 rfl) ?_
  have hq_31 := hok.1 r (by omega)
  refine m_aldW hx hb hK hP (j := r) (by omega) d_X2_limb_31 ?_
  refine n_icmp_ge (tgt := 42) hx hb d_X2_limb_32 (by decide) (by omega) (by omega) (fun _ => ?_) (fun c9 => absurd c9 (by omega))
  refine lv_aload_n hx hb d_X2_limb_42 rfl (lv_at hl 0 rfl) ?_
  refine lv_iload_n hx hb d_X2_limb_43 rfl (lv_at hl 1 rfl) ?_
  refine x_call (st1 := [.int (mLoadG w g r 2 z sg 2)]) (x_runV (As := [.int (nI r)]) (rest := []) (nL := 3) ⟨hx, hb, hml, hown, hts⟩ (c_X2_signOf hok (r := r) (by omega) _) (cwV 1 hts (gw_V k_577 k_579 k_41 k_52 k_580) rfl rfl rfl (by decide +kernel) ⟨Nat.le_of_ble_eq_true rfl, Nat.le_of_ble_eq_true rfl⟩) hK hP hD 0 2 rfl rfl rfl hl.1 rfl (Nat.le_of_ble_eq_true rfl) d_X2_limb_44 ⟨Nat.zero_le _, Nat.zero_le _⟩) hS (x_sub hD hS hA) (x_sub hD hS hA) rfl (fun w1 H locs hY hP hD hS => ?_)
  subst hY
  refine lv_if_ge (tgt := 54) hx hb d_X2_limb_47 (by decide) (fun _ => ?_) (fun c9 => absurd hsg c9)
  refine lv_iconst (v := nI 0) hx hb d_X2_limb_54 (by decide) ?_
  exact x_iret hx hb hr hlocks hP hD hS d_X2_limb_55 rfl rfl
set_option maxHeartbeats 800000 in
set_option maxRecDepth 100000 in
theorem c_X2_limb_2 {l : Launch} {D : va_G} {Rs : va_W} {cA cR cL : ClassId} {h aw ar ag az : Nat} {cd : Int32} {w g : Nat → Nat} {sg : Nat → Int32} {z : Nat → Nat} (hok : mdOk w g z) {r : Nat} (hr64 : r < 64) {k : Nat} (hk31 : k < 2 ^ 31) (hkw : (w r) ≤ k) (hsg : ¬ 0 ≤ (mLoadG w g r 2 z sg 2)) : xC l y_X2_limb w_X2_limb ({ frames := 3, cells := 0, slots := 0, locals := 71 }) D cls0 (ty3 cA cR cL) [.ref h, .int (nI r), .int (nI k)] (md cA h aw ar ag az cd w g sg z Rs) (some (.int (-1))) (fun w1 => w1 = md cA h aw ar ag az (nI 0) w g (mLoadG w g r 2 z sg) (mLoadZ w g r 2 z) Rs) 0 0 := by
  refine xC.ofW (cc := b_X2_limb) (maxL := 3) (ret := some .int) (by decide) rfl (Nat.le_of_ble_eq_true rfl) ?_
  intro p e s m below meth c A ls _ hin hx hb hr hml hown hts hlocks hA hK hP hD hS hl
  have hts : ∀ w ∈ gw, w.before ([.ref h, .int (nI r), .int (nI k)]).toArray s = true := fun w h => hts w (List.mem_cons_of_mem _ h)
  have hown : s.vm.findClass R_Md = some m.cls := hown
  have hl : lv_has ls 3 [(0, .ref h), (1, .int (nI r)), (2, .int (nI k))] := hl
  have hwr := hok.1 r hr64
  refine lv_aload_n hx hb d_X2_limb_0 rfl (lv_at hl 0 rfl) ?_
  refine lv_iload_n hx hb d_X2_limb_1 rfl (lv_at hl 1 rfl) ?_
  refine x_callR (st1 := [.int (mIsRow (nI r)), .ref h]) (x_runS (As := [.int (nI r)]) (rest := [.ref h]) (nL := 3) ⟨hx, hb, hml, hown, hts⟩ (c_X2_isRow (nI r) _) (cwS 1 hts (gw_S k_511 k_512 k_52 k_513) rfl rfl rfl (by decide +kernel) ⟨Nat.le_of_ble_eq_true rfl, Nat.le_of_ble_eq_true rfl⟩) hK hP hD rfl hl.1 rfl (Nat.le_of_ble_eq_true rfl) d_X2_limb_2 ⟨Nat.zero_le _, Nat.zero_le _⟩) rfl ?_
  rw [mIsRow_1 (show r < 64 by omega)]
  refine n_if_eq (tgt := 12) hx hb d_X2_limb_5 (by decide) (by omega) (fun c => absurd c (by decide)) (fun _ => ?_)
  refine lv_iload_n hx hb d_X2_limb_8 rfl (lv_at hl 2 rfl) ?_
  refine n_if_ge (tgt := 16) hx hb d_X2_limb_9 (by decide) (by omega) ?_
  refine lv_iconst (v := nI 0) hx hb d_X2_limb_16 (by decide) ?_
  refine x_call (st1 := [.int (mRef (nI 0))]) (x_runV (As := [.int (nI 0)]) (rest := []) (nL := 3) ⟨hx, hb, hml, hown, hts⟩ (c_X2_refuses (nI 0) _) (cwV 1 hts (gw_V k_514 k_516 k_30 k_52 k_517) rfl rfl rfl (by decide +kernel) ⟨Nat.le_of_ble_eq_true rfl, Nat.le_of_ble_eq_true rfl⟩) hK hP hD 0 2 rfl rfl rfl hl.1 rfl (Nat.le_of_ble_eq_true rfl) d_X2_limb_17 ⟨Nat.zero_le _, Nat.zero_le _⟩) hS (x_sub hD hS hA) (x_sub hD hS hA) rfl (fun w1 H locs hY hP hD hS => ?_)
  subst hY
  rw [mRef_0]
  refine n_if_eq (tgt := 25) hx hb d_X2_limb_20 (by decide) (by omega) (fun _ => ?_) (fun c => absurd c (by decide))
  refine lv_iload_n hx hb d_X2_limb_25 rfl (lv_at hl 2 rfl) ?_
  refine lv_aload_n hx hb d_X2_limb_26 rfl (lv_at hl 0 rfl) ?_
  refine m_getW hx hb hts hown hK hP d_X2_limb_27 ?_
  refine lv_iload_n hx hb d_X2_limb_30 rfl (lv_at hl 1 rfl) ?_
  have hq_31 := hok.1 r (by omega)
  refine m_aldW hx hb hK hP (j := r) (by omega) d_X2_limb_31 ?_
  refine n_icmp_ge (tgt := 42) hx hb d_X2_limb_32 (by decide) (by omega) (by omega) (fun _ => ?_) (fun c9 => absurd c9 (by omega))
  refine lv_aload_n hx hb d_X2_limb_42 rfl (lv_at hl 0 rfl) ?_
  refine lv_iload_n hx hb d_X2_limb_43 rfl (lv_at hl 1 rfl) ?_
  refine x_call (st1 := [.int (mLoadG w g r 2 z sg 2)]) (x_runV (As := [.int (nI r)]) (rest := []) (nL := 3) ⟨hx, hb, hml, hown, hts⟩ (c_X2_signOf hok (r := r) (by omega) _) (cwV 1 hts (gw_V k_577 k_579 k_41 k_52 k_580) rfl rfl rfl (by decide +kernel) ⟨Nat.le_of_ble_eq_true rfl, Nat.le_of_ble_eq_true rfl⟩) hK hP hD 0 2 rfl rfl rfl hl.1 rfl (Nat.le_of_ble_eq_true rfl) d_X2_limb_44 ⟨Nat.zero_le _, Nat.zero_le _⟩) hS (x_sub hD hS hA) (x_sub hD hS hA) rfl (fun w1 H locs hY hP hD hS => ?_)
  subst hY
  refine lv_if_ge (tgt := 54) hx hb d_X2_limb_47 (by decide) (fun c9 => absurd c9 hsg) (fun _ => ?_)
  refine lv_iconst (v := -1) hx hb d_X2_limb_50 (by decide) ?_
  refine lv_goto (tgt := 55) hx hb d_X2_limb_51 (by decide) ?_
  exact x_iret hx hb hr hlocks hP hD hS d_X2_limb_55 rfl rfl
set_option maxHeartbeats 800000 in
set_option maxRecDepth 100000 in
theorem li_X2_left {p : Program} {l : Launch} {e : Env} {s : State} {m : MethodId} {args : Array Value} {below : List Frame} {meth : Method} {c : Code} {D : va_G} {Rs : va_W} {cA cR cL : ClassId} {h aw ar ag az : Nat} {A : Nat → Prop} {cd : Int32} {w g : Nat → Nat} {sg : Nat → Int32} (hx : p.tables.exec = Jvm.exec) (hb : c.code = b_X2_left) (hr : meth.sig.returnType = some .int) (hml : c.maxLocals = 5) (hown : s.vm.findClass R_Md = some m.cls) (hts : ∀ w ∈ gw, w.before args s = true) (hlocks : meth.locks = false) (hA : ∀ q : Nat, s.heap.size ≤ q → A q) (hK : va_K D cls0 (ty3 cA cR cL) s) {r k N : Nat} (hk8 : k ≤ 8192) (hN : N ≤ 8192) {Q : State → Prop} : ∀ (n : Nat) (i : Nat) (z : Nat → Nat), n = N - i → i ≤ 8192 → mdOk w g z → ∀ (H : Heap) (locs : List Loc), va_P D cls0 (md cA h aw ar ag az cd w g sg z Rs) H → va_D A (md cA h aw ar ag az cd w g sg z Rs) → va_S A s.heap H locs →
    (∀ (H : Heap) (locs : List Loc) (ls : Array Slot), va_P D cls0 (md cA h aw ar ag az cd w g sg (mLfZ k n i z) Rs) H → va_D A (md cA h aw ar ag az cd w g sg (mLfZ k n i z) Rs) → va_S A s.heap H locs → lv_has ls 5 [(0, .ref h), (1, .int (nI r)), (2, .int (nI k))] → W p l e ({ frames := 5, cells := 0, slots := 0, locals := 115 }) s m args below meth c H locs 0 0 Q (F0 m 116 ls [])) →
    ∀ (ls : Array Slot), lv_has ls 5 [(0, .ref h), (1, .int (nI r)), (2, .int (nI k)), (3, .int (nI N)), (4, .int (nI i))] → W p l e ({ frames := 5, cells := 0, slots := 0, locals := 115 }) s m args below meth c H locs 0 0 Q (F0 m 56 ls []) := by
  intro n
  induction n with
  | zero =>
    intro i z hn hi hok H locs hP hD hS kx ls hl
    refine lv_iload hx hb d_X2_left_56 (lv_at hl 4 rfl) ?_
    refine lv_iload_n hx hb d_X2_left_58 rfl (lv_at hl 3 rfl) ?_
    refine n_icmp_ge (tgt := 116) hx hb d_X2_left_59 (by decide) (by omega) (by omega) (fun c_1 => ?_) (fun c_1 => ?_)
    rotate_left
    · exact absurd c_1 (by omega)
    exact kx _ _ ls hP hD hS (lv_sub hl [0, 1, 2] rfl)
  | succ n ih =>
    intro i z hn hi hok H locs hP hD hS kx ls hl
    refine lv_iload hx hb d_X2_left_56 (lv_at hl 4 rfl) ?_
    refine lv_iload_n hx hb d_X2_left_58 rfl (lv_at hl 3 rfl) ?_
    refine n_icmp_ge (tgt := 116) hx hb d_X2_left_59 (by decide) (by omega) (by omega) (fun c_1 => ?_) (fun c_1 => ?_)
    · exact absurd c_1 (by omega)
    refine lv_aload_n hx hb d_X2_left_62 rfl (lv_at hl 0 rfl) ?_
    refine m_getZ hx hb hts hown hK hP d_X2_left_63 ?_
    refine lv_sipush (v := nI 1100) hx hb d_X2_left_66 (by decide) ?_
    refine lv_iload hx hb d_X2_left_69 (lv_at hl 4 rfl) ?_
    refine lv_iload_n hx hb d_X2_left_71 rfl (lv_at hl 2 rfl) ?_
    refine n_iadd hx hb d_X2_left_72 ?_
    refine lv_bipush (v := nI 16) hx hb d_X2_left_73 (by decide) ?_
    refine n_idiv hx hb d_X2_left_75 (by omega) (by omega) (by omega) ?_
    refine n_iadd hx hb d_X2_left_76 ?_
    refine lv_aload_n hx hb d_X2_left_77 rfl (lv_at hl 0 rfl) ?_
    refine m_getZ hx hb hts hown hK hP d_X2_left_78 ?_
    refine lv_sipush (v := nI 1100) hx hb d_X2_left_81 (by decide) ?_
    refine lv_iload hx hb d_X2_left_84 (lv_at hl 4 rfl) ?_
    refine lv_iload_n hx hb d_X2_left_86 rfl (lv_at hl 2 rfl) ?_
    refine n_iadd hx hb d_X2_left_87 ?_
    refine lv_bipush (v := nI 16) hx hb d_X2_left_88 (by decide) ?_
    refine n_idiv hx hb d_X2_left_90 (by omega) (by omega) (by omega) ?_
    refine n_iadd hx hb d_X2_left_91 ?_
    refine m_aldZ hx hb hK hP (j := 1100 + ((i + k) / 16)) (by omega) d_X2_left_92 ?_
    have hq_92 := hok.2.2 (1100 + ((i + k) / 16))
    refine lv_aload_n hx hb d_X2_left_93 rfl (lv_at hl 0 rfl) ?_
    refine lv_iconst (v := nI 0) hx hb d_X2_left_94 (by decide) ?_
    refine lv_iload hx hb d_X2_left_95 (lv_at hl 4 rfl) ?_
    refine x_callR (st1 := [.int (nI (mBit z 0 i)), .int (nI (z (1100 + ((i + k) / 16)))), .int (nI (1100 + ((i + k) / 16))), .ref az]) (x_runV (As := [.int (nI 0), .int (nI i)]) (rest := [.int (nI (z (1100 + ((i + k) / 16)))), .int (nI (1100 + ((i + k) / 16))), .ref az]) (nL := 5) ⟨hx, hb, hml, hown, hts⟩ (c_X2_bit hok (b := 0) (k := i) (by omega) (by omega) _) (cwV 2 hts (gw_V k_548 k_550 k_38 k_52 k_551) rfl rfl rfl (by decide +kernel) ⟨Nat.le_of_ble_eq_true rfl, Nat.le_of_ble_eq_true rfl⟩) hK hP hD 0 2 rfl rfl rfl hl.1 rfl (Nat.le_of_ble_eq_true rfl) d_X2_left_97 ⟨Nat.zero_le _, Nat.zero_le _⟩) rfl ?_
    have hbt := mBit_lt z 0 i
    refine lv_iload hx hb d_X2_left_100 (lv_at hl 4 rfl) ?_
    refine lv_iload_n hx hb d_X2_left_102 rfl (lv_at hl 2 rfl) ?_
    refine n_iadd hx hb d_X2_left_103 ?_
    refine lv_bipush (v := nI 16) hx hb d_X2_left_104 (by decide) ?_
    refine n_irem hx hb d_X2_left_106 (by omega) (by omega) (by omega) ?_
    have hbs := bit_shl hbt (show (i + k) % 16 < 16 by omega)
    refine lv_ishl hx hb d_X2_left_107 ?_
    rw [n_shl (by omega) (by omega)]
    refine lv_ior hx hb d_X2_left_108 ?_
    rw [n_or]
    have hor := mOr_lt hok (i + k) i
    rw [show (z (1100 + ((i + k) / 16))) ||| ((mBit z 0 i) * 2 ^ ((i + k) % 16)) = mOr z (i + k) i from rfl]
    refine m_astZ hx hb hK hP hD hS (j := 1100 + ((i + k) / 16)) (v := mOr z (i + k) i) (by omega) d_X2_left_109 (fun H locs hP hD hS => ?_)
    have hok := hok.z (j := 1100 + ((i + k) / 16)) (v := mOr z (i + k) i) (by omega)
    refine n_iinc (lv' := [(4, .int (nI (i + 1))), (0, .ref h), (1, .int (nI r)), (2, .int (nI k)), (3, .int (nI N))]) hx hb d_X2_left_110 hl (k := 4) rfl (by decide) rfl (fun ls hl => ?_)
    refine lv_goto (tgt := 56) hx hb d_X2_left_113 (by decide) ?_
    exact ih (i + 1) _ (by omega) (by omega) hok H locs hP hD hS kx ls (lv_sub hl [1, 2, 3, 4, 0] rfl)
abbrev w_X2_left : List Cond := .code y_X2_left b_X2_left 5 (some .int) :: gw
set_option maxHeartbeats 800000 in
set_option maxRecDepth 100000 in
theorem c_X2_left {l : Launch} {D : va_G} {Rs : va_W} {cA cR cL : ClassId} {h aw ar ag az : Nat} {cd : Int32} {w g : Nat → Nat} {sg : Nat → Int32} {z : Nat → Nat} (hok : mdOk w g z) {r : Nat} (hr64 : r < 64) {k : Nat} (hk8 : k ≤ 8192) (hN : mBits (mClr 1 cZ 0 (mLoadZ w g r 0 z)) 0 ≤ 8192) {t : Nat} (hlow : ¬ 0 ≤ (upd (upd (mLoadG w g r 0 z sg) 1 (nI 0)) 1 ((upd (mLoadG w g r 0 z sg) 1 (nI 0)) 0)) 1 → mLow (mLfZ k (mBits (mClr 1 cZ 0 (mLoadZ w g r 0 z)) 0) 0 (mClr 1 cZ 0 (mLoadZ w g r 0 z))) 1 t) : xC l y_X2_left w_X2_left ({ frames := 5, cells := 0, slots := 0, locals := 115 }) D cls0 (ty3 cA cR cL) [.ref h, .int (nI r), .int (nI k)] (md cA h aw ar ag az cd w g sg z Rs) (some (.int (mKSg (upd (upd (mLoadG w g r 0 z sg) 1 (nI 0)) 1 ((upd (mLoadG w g r 0 z sg) 1 (nI 0)) 0)) w (mLfZ k (mBits (mClr 1 cZ 0 (mLoadZ w g r 0 z)) 0) 0 (mClr 1 cZ 0 (mLoadZ w g r 0 z))) r 1 g 2))) (fun w1 => w1 = md cA h aw ar ag az (nI 0) w (mStore (upd (upd (mLoadG w g r 0 z sg) 1 (nI 0)) 1 ((upd (mLoadG w g r 0 z sg) 1 (nI 0)) 0)) w (mLfZ k (mBits (mClr 1 cZ 0 (mLoadZ w g r 0 z)) 0) 0 (mClr 1 cZ 0 (mLoadZ w g r 0 z))) r 1 g) (mKSg (upd (upd (mLoadG w g r 0 z sg) 1 (nI 0)) 1 ((upd (mLoadG w g r 0 z sg) 1 (nI 0)) 0)) w (mLfZ k (mBits (mClr 1 cZ 0 (mLoadZ w g r 0 z)) 0) 0 (mClr 1 cZ 0 (mLoadZ w g r 0 z))) r 1 g) (mKZ (upd (upd (mLoadG w g r 0 z sg) 1 (nI 0)) 1 ((upd (mLoadG w g r 0 z sg) 1 (nI 0)) 0)) w (mLfZ k (mBits (mClr 1 cZ 0 (mLoadZ w g r 0 z)) 0) 0 (mClr 1 cZ 0 (mLoadZ w g r 0 z))) r 1 g) Rs) 0 0 := by
  refine xC.ofW (cc := b_X2_left) (maxL := 5) (ret := some .int) (by decide) rfl (Nat.le_of_ble_eq_true rfl) ?_
  intro p e s m below meth c A ls _ hin hx hb hr hml hown hts hlocks hA hK hP hD hS hl
  have hts : ∀ w ∈ gw, w.before ([.ref h, .int (nI r), .int (nI k)]).toArray s = true := fun w h => hts w (List.mem_cons_of_mem _ h)
  have hown : s.vm.findClass R_Md = some m.cls := hown
  have hl : lv_has ls 5 [(0, .ref h), (1, .int (nI r)), (2, .int (nI k))] := hl
  refine lv_aload_n hx hb d_X2_left_0 rfl (lv_at hl 0 rfl) ?_
  refine lv_iload_n hx hb d_X2_left_1 rfl (lv_at hl 1 rfl) ?_
  refine x_callR (st1 := [.int (mIsRow (nI r)), .ref h]) (x_runS (As := [.int (nI r)]) (rest := [.ref h]) (nL := 5) ⟨hx, hb, hml, hown, hts⟩ (c_X2_isRow (nI r) _) (cwS 1 hts (gw_S k_511 k_512 k_52 k_513) rfl rfl rfl (by decide +kernel) ⟨Nat.le_of_ble_eq_true rfl, Nat.le_of_ble_eq_true rfl⟩) hK hP hD rfl hl.1 rfl (Nat.le_of_ble_eq_true rfl) d_X2_left_2 ⟨Nat.zero_le _, Nat.zero_le _⟩) rfl ?_
  rw [mIsRow_1 (show r < 64 by omega)]
  refine n_if_ne (tgt := 12) hx hb d_X2_left_5 (by decide) (by omega) (fun _ => ?_) (fun c => absurd c (by decide))
  refine lv_iload_n hx hb d_X2_left_12 rfl (lv_at hl 2 rfl) ?_
  refine n_if_lt (tgt := 23) hx hb d_X2_left_13 (by decide) (by omega) ?_
  refine lv_iload_n hx hb d_X2_left_16 rfl (lv_at hl 2 rfl) ?_
  refine lv_sipush (v := nI 8192) hx hb d_X2_left_17 (by decide) ?_
  refine n_icmp_le (tgt := 27) hx hb d_X2_left_20 (by decide) (by omega) (by omega) (fun _ => ?_) (fun c9 => absurd c9 (by omega))
  refine lv_iconst (v := nI 0) hx hb d_X2_left_27 (by decide) ?_
  refine x_call (st1 := [.int (mRef (nI 0))]) (x_runV (As := [.int (nI 0)]) (rest := []) (nL := 5) ⟨hx, hb, hml, hown, hts⟩ (c_X2_refuses (nI 0) _) (cwV 1 hts (gw_V k_514 k_516 k_30 k_52 k_517) rfl rfl rfl (by decide +kernel) ⟨Nat.le_of_ble_eq_true rfl, Nat.le_of_ble_eq_true rfl⟩) hK hP hD 0 2 rfl rfl rfl hl.1 rfl (Nat.le_of_ble_eq_true rfl) d_X2_left_28 ⟨Nat.zero_le _, Nat.zero_le _⟩) hS (x_sub hD hS hA) (x_sub hD hS hA) rfl (fun w1 H locs hY hP hD hS => ?_)
  subst hY
  rw [mRef_0]
  refine n_if_eq (tgt := 36) hx hb d_X2_left_31 (by decide) (by omega) (fun _ => ?_) (fun c => absurd c (by decide))
  refine lv_aload_n hx hb d_X2_left_36 rfl (lv_at hl 0 rfl) ?_
  refine lv_iconst (v := nI 0) hx hb d_X2_left_37 (by decide) ?_
  refine lv_iload_n hx hb d_X2_left_38 rfl (lv_at hl 1 rfl) ?_
  refine x_call (st1 := []) (x_runV (As := [.int (nI 0), .int (nI r)]) (rest := []) (nL := 5) ⟨hx, hb, hml, hown, hts⟩ (c_X2_load hok (b := 0) (r := r) (by omega) (by omega) _) (cwV 2 hts (gw_V k_518 k_520 k_31 k_52 k_521) rfl rfl rfl (by decide +kernel) ⟨Nat.le_of_ble_eq_true rfl, Nat.le_of_ble_eq_true rfl⟩) hK hP hD 0 2 rfl rfl rfl hl.1 rfl (Nat.le_of_ble_eq_true rfl) d_X2_left_39 ⟨Nat.zero_le _, Nat.zero_le _⟩) hS (x_sub hD hS hA) (x_sub hD hS hA) rfl (fun w1 H locs hY hP hD hS => ?_)
  subst hY
  have hok := mLoadZ_ok (r := r) (b := 0) hok
  refine lv_aload_n hx hb d_X2_left_42 rfl (lv_at hl 0 rfl) ?_
  refine lv_iconst (v := nI 1) hx hb d_X2_left_43 (by decide) ?_
  refine x_call (st1 := []) (x_runV (As := [.int (nI 1)]) (rest := []) (nL := 5) ⟨hx, hb, hml, hown, hts⟩ (c_X2_clear (b := 1) (by omega) _) (cwV 1 hts (gw_V k_522 k_524 k_32 k_52 k_525) rfl rfl rfl (by decide +kernel) ⟨Nat.le_of_ble_eq_true rfl, Nat.le_of_ble_eq_true rfl⟩) hK hP hD 0 2 rfl rfl rfl hl.1 rfl (Nat.le_of_ble_eq_true rfl) d_X2_left_44 ⟨Nat.zero_le _, Nat.zero_le _⟩) hS (x_sub hD hS hA) (x_sub hD hS hA) rfl (fun w1 H locs hY hP hD hS => ?_)
  subst hY
  have hok := mClr_ok (b := 1) cZ 0 _ hok
  refine lv_aload_n hx hb d_X2_left_47 rfl (lv_at hl 0 rfl) ?_
  refine lv_iconst (v := nI 0) hx hb d_X2_left_48 (by decide) ?_
  refine x_callR (st1 := [.int (nI (mBits (mClr 1 cZ 0 (mLoadZ w g r 0 z)) 0))]) (x_runV (As := [.int (nI 0)]) (rest := []) (nL := 5) ⟨hx, hb, hml, hown, hts⟩ (c_X2_bits hok (b := 0) (by omega) _) (cwV 1 hts (gw_V k_540 k_542 k_36 k_52 k_543) rfl rfl rfl (by decide +kernel) ⟨Nat.le_of_ble_eq_true rfl, Nat.le_of_ble_eq_true rfl⟩) hK hP hD 0 2 rfl rfl rfl hl.1 rfl (Nat.le_of_ble_eq_true rfl) d_X2_left_49 ⟨Nat.zero_le _, Nat.zero_le _⟩) rfl ?_
  refine lv_istore_n (lv' := [(3, .int (nI (mBits (mClr 1 cZ 0 (mLoadZ w g r 0 z)) 0))), (0, .ref h), (1, .int (nI r)), (2, .int (nI k))]) hx hb d_X2_left_52 rfl hl (by decide) rfl (fun ls hl => ?_)
  refine lv_iconst (v := nI 0) hx hb d_X2_left_53 (by decide) ?_
  refine lv_istore (lv' := [(4, .int (nI 0)), (3, .int (nI (mBits (mClr 1 cZ 0 (mLoadZ w g r 0 z)) 0))), (0, .ref h), (1, .int (nI r)), (2, .int (nI k))]) hx hb d_X2_left_54 hl (by decide) rfl (fun ls hl => ?_)
  refine li_X2_left hx hb hr hml hown hts hlocks hA hK hk8 hN (mBits (mClr 1 cZ 0 (mLoadZ w g r 0 z)) 0) 0 _ rfl (by omega) hok _ _ hP hD hS (fun H locs ls hP hD hS hl => ?_) ls (lv_sub hl [2, 3, 4, 1, 0] rfl)
  have hok := mLfZ_ok (k := k) (mBits (mClr 1 cZ 0 (mLoadZ w g r 0 z)) 0) 0 _ hok
  refine lv_aload_n hx hb d_X2_left_116 rfl (lv_at hl 0 rfl) ?_
  refine m_getG hx hb hts hown hK hP d_X2_left_117 ?_
  refine lv_iconst (v := nI 1) hx hb d_X2_left_120 (by decide) ?_
  refine lv_aload_n hx hb d_X2_left_121 rfl (lv_at hl 0 rfl) ?_
  refine m_getG hx hb hts hown hK hP d_X2_left_122 ?_
  refine lv_iconst (v := nI 0) hx hb d_X2_left_125 (by decide) ?_
  refine m_aldG hx hb hK hP (j := 0) (by omega) d_X2_left_126 ?_
  refine m_astG hx hb hK hP hD hS (j := 1) (x := (upd (mLoadG w g r 0 z sg) 1 (nI 0)) 0) (by omega) d_X2_left_127 (fun H locs hP hD hS => ?_)
  refine lv_aload_n hx hb d_X2_left_128 rfl (lv_at hl 0 rfl) ?_
  refine lv_iload_n hx hb d_X2_left_129 rfl (lv_at hl 1 rfl) ?_
  refine lv_iconst (v := nI 1) hx hb d_X2_left_130 (by decide) ?_
  refine x_call (st1 := [.int (mKSg (upd (upd (mLoadG w g r 0 z sg) 1 (nI 0)) 1 ((upd (mLoadG w g r 0 z sg) 1 (nI 0)) 0)) w (mLfZ k (mBits (mClr 1 cZ 0 (mLoadZ w g r 0 z)) 0) 0 (mClr 1 cZ 0 (mLoadZ w g r 0 z))) r 1 g 2)]) (x_runV (As := [.int (nI r), .int (nI 1)]) (rest := []) (nL := 5) ⟨hx, hb, hml, hown, hts⟩ (c_X2_kept hok (b := 1) (r := r) (t := t) (by omega) (by omega) hlow _) (cwV 2 hts (gw_V k_601 k_603 k_45 k_52 k_604) rfl rfl rfl (by decide +kernel) ⟨Nat.le_of_ble_eq_true rfl, Nat.le_of_ble_eq_true rfl⟩) hK hP hD 0 2 rfl rfl rfl hl.1 rfl (Nat.le_of_ble_eq_true rfl) d_X2_left_131 ⟨Nat.zero_le _, Nat.zero_le _⟩) hS (x_sub hD hS hA) (x_sub hD hS hA) rfl (fun w1 H locs hY hP hD hS => ?_)
  subst hY
  exact x_iret hx hb hr hlocks hP hD hS d_X2_left_134 rfl rfl
abbrev w_X2_right : List Cond := .code y_X2_right b_X2_right 3 (some .int) :: gw
set_option maxHeartbeats 800000 in
set_option maxRecDepth 100000 in
theorem c_X2_right_0 {l : Launch} {D : va_G} {Rs : va_W} {cA cR cL : ClassId} {h aw ar ag az : Nat} {cd : Int32} {w g : Nat → Nat} {sg : Nat → Int32} {z : Nat → Nat} (hok : mdOk w g z) {r : Nat} (hr64 : r < 64) {k : Nat} (hk8 : k ≤ 8192) (hsg : 0 ≤ ((mLoadG w g r 0 z sg) 0)) {t : Nat} (hlow : ¬ 0 ≤ (mHfS (mLoadG w g r 0 z sg) k 0 (mLoadZ w g r 0 z)) 1 → mLow (mHfZ (mLoadG w g r 0 z sg) k 0 (mLoadZ w g r 0 z)) 1 t) : xC l y_X2_right w_X2_right ({ frames := 5, cells := 0, slots := 0, locals := 115 }) D cls0 (ty3 cA cR cL) [.ref h, .int (nI r), .int (nI k)] (md cA h aw ar ag az cd w g sg z Rs) (some (.int (mKSg (mHfS (mLoadG w g r 0 z sg) k 0 (mLoadZ w g r 0 z)) w (mHfZ (mLoadG w g r 0 z sg) k 0 (mLoadZ w g r 0 z)) r 1 g 2))) (fun w1 => w1 = md cA h aw ar ag az (nI 0) w (mStore (mHfS (mLoadG w g r 0 z sg) k 0 (mLoadZ w g r 0 z)) w (mHfZ (mLoadG w g r 0 z sg) k 0 (mLoadZ w g r 0 z)) r 1 g) (mKSg (mHfS (mLoadG w g r 0 z sg) k 0 (mLoadZ w g r 0 z)) w (mHfZ (mLoadG w g r 0 z sg) k 0 (mLoadZ w g r 0 z)) r 1 g) (mKZ (mHfS (mLoadG w g r 0 z sg) k 0 (mLoadZ w g r 0 z)) w (mHfZ (mLoadG w g r 0 z sg) k 0 (mLoadZ w g r 0 z)) r 1 g) Rs) 0 0 := by
  refine xC.ofW (cc := b_X2_right) (maxL := 3) (ret := some .int) (by decide) rfl (Nat.le_of_ble_eq_true rfl) ?_
  intro p e s m below meth c A ls _ hin hx hb hr hml hown hts hlocks hA hK hP hD hS hl
  have hts : ∀ w ∈ gw, w.before ([.ref h, .int (nI r), .int (nI k)]).toArray s = true := fun w h => hts w (List.mem_cons_of_mem _ h)
  have hown : s.vm.findClass R_Md = some m.cls := hown
  have hl : lv_has ls 3 [(0, .ref h), (1, .int (nI r)), (2, .int (nI k))] := hl
  refine lv_aload_n hx hb d_X2_right_0 rfl (lv_at hl 0 rfl) ?_
  refine lv_iload_n hx hb d_X2_right_1 rfl (lv_at hl 1 rfl) ?_
  refine x_callR (st1 := [.int (mIsRow (nI r)), .ref h]) (x_runS (As := [.int (nI r)]) (rest := [.ref h]) (nL := 3) ⟨hx, hb, hml, hown, hts⟩ (c_X2_isRow (nI r) _) (cwS 1 hts (gw_S k_511 k_512 k_52 k_513) rfl rfl rfl (by decide +kernel) ⟨Nat.le_of_ble_eq_true rfl, Nat.le_of_ble_eq_true rfl⟩) hK hP hD rfl hl.1 rfl (Nat.le_of_ble_eq_true rfl) d_X2_right_2 ⟨Nat.zero_le _, Nat.zero_le _⟩) rfl ?_
  rw [mIsRow_1 (show r < 64 by omega)]
  refine n_if_ne (tgt := 12) hx hb d_X2_right_5 (by decide) (by omega) (fun _ => ?_) (fun c => absurd c (by decide))
  refine lv_iload_n hx hb d_X2_right_12 rfl (lv_at hl 2 rfl) ?_
  refine n_if_lt (tgt := 23) hx hb d_X2_right_13 (by decide) (by omega) ?_
  refine lv_iload_n hx hb d_X2_right_16 rfl (lv_at hl 2 rfl) ?_
  refine lv_sipush (v := nI 8192) hx hb d_X2_right_17 (by decide) ?_
  refine n_icmp_le (tgt := 27) hx hb d_X2_right_20 (by decide) (by omega) (by omega) (fun _ => ?_) (fun c9 => absurd c9 (by omega))
  refine lv_iconst (v := nI 0) hx hb d_X2_right_27 (by decide) ?_
  refine x_call (st1 := [.int (mRef (nI 0))]) (x_runV (As := [.int (nI 0)]) (rest := []) (nL := 3) ⟨hx, hb, hml, hown, hts⟩ (c_X2_refuses (nI 0) _) (cwV 1 hts (gw_V k_514 k_516 k_30 k_52 k_517) rfl rfl rfl (by decide +kernel) ⟨Nat.le_of_ble_eq_true rfl, Nat.le_of_ble_eq_true rfl⟩) hK hP hD 0 2 rfl rfl rfl hl.1 rfl (Nat.le_of_ble_eq_true rfl) d_X2_right_28 ⟨Nat.zero_le _, Nat.zero_le _⟩) hS (x_sub hD hS hA) (x_sub hD hS hA) rfl (fun w1 H locs hY hP hD hS => ?_)
  subst hY
  rw [mRef_0]
  refine n_if_eq (tgt := 36) hx hb d_X2_right_31 (by decide) (by omega) (fun _ => ?_) (fun c => absurd c (by decide))
  refine lv_aload_n hx hb d_X2_right_36 rfl (lv_at hl 0 rfl) ?_
  refine lv_iconst (v := nI 0) hx hb d_X2_right_37 (by decide) ?_
  refine lv_iload_n hx hb d_X2_right_38 rfl (lv_at hl 1 rfl) ?_
  refine x_call (st1 := []) (x_runV (As := [.int (nI 0), .int (nI r)]) (rest := []) (nL := 3) ⟨hx, hb, hml, hown, hts⟩ (c_X2_load hok (b := 0) (r := r) (by omega) (by omega) _) (cwV 2 hts (gw_V k_518 k_520 k_31 k_52 k_521) rfl rfl rfl (by decide +kernel) ⟨Nat.le_of_ble_eq_true rfl, Nat.le_of_ble_eq_true rfl⟩) hK hP hD 0 2 rfl rfl rfl hl.1 rfl (Nat.le_of_ble_eq_true rfl) d_X2_right_39 ⟨Nat.zero_le _, Nat.zero_le _⟩) hS (x_sub hD hS hA) (x_sub hD hS hA) rfl (fun w1 H locs hY hP hD hS => ?_)
  subst hY
  have hok := mLoadZ_ok (r := r) (b := 0) hok
  refine lv_aload_n hx hb d_X2_right_42 rfl (lv_at hl 0 rfl) ?_
  refine lv_iload_n hx hb d_X2_right_43 rfl (lv_at hl 2 rfl) ?_
  refine lv_aload_n hx hb d_X2_right_44 rfl (lv_at hl 0 rfl) ?_
  refine m_getG hx hb hts hown hK hP d_X2_right_45 ?_
  refine lv_iconst (v := nI 0) hx hb d_X2_right_48 (by decide) ?_
  refine m_aldG hx hb hK hP (j := 0) (by omega) d_X2_right_49 ?_
  refine lv_if_ge (tgt := 66) hx hb d_X2_right_50 (by decide) (fun _ => ?_) (fun c9 => absurd hsg c9)
  refine lv_iconst (v := nI 0) hx hb d_X2_right_66 (by decide) ?_
  refine x_call (st1 := []) (x_runV (As := [.int (nI k), .int (nI 0)]) (rest := []) (nL := 3) ⟨hx, hb, hml, hown, hts⟩ (c_X2_halve hok (k := k) (f := 0) hk8 (by omega) _) (cwV 2 hts (gw_V k_642 k_644 k_48 k_52 k_645) rfl rfl rfl (by decide +kernel) ⟨Nat.le_of_ble_eq_true rfl, Nat.le_of_ble_eq_true rfl⟩) hK hP hD 0 2 rfl rfl rfl hl.1 rfl (Nat.le_of_ble_eq_true rfl) d_X2_right_67 ⟨Nat.zero_le _, Nat.zero_le _⟩) hS (x_sub hD hS hA) (x_sub hD hS hA) rfl (fun w1 H locs hY hP hD hS => ?_)
  subst hY
  have hok := mHfZ_ok (sg := mLoadG w g r 0 z sg) (k := k) (f := 0) hok
  refine lv_aload_n hx hb d_X2_right_70 rfl (lv_at hl 0 rfl) ?_
  refine lv_iload_n hx hb d_X2_right_71 rfl (lv_at hl 1 rfl) ?_
  refine lv_iconst (v := nI 1) hx hb d_X2_right_72 (by decide) ?_
  refine x_call (st1 := [.int (mKSg (mHfS (mLoadG w g r 0 z sg) k 0 (mLoadZ w g r 0 z)) w (mHfZ (mLoadG w g r 0 z sg) k 0 (mLoadZ w g r 0 z)) r 1 g 2)]) (x_runV (As := [.int (nI r), .int (nI 1)]) (rest := []) (nL := 3) ⟨hx, hb, hml, hown, hts⟩ (c_X2_kept hok (b := 1) (r := r) (t := t) (by omega) (by omega) hlow _) (cwV 2 hts (gw_V k_601 k_603 k_45 k_52 k_604) rfl rfl rfl (by decide +kernel) ⟨Nat.le_of_ble_eq_true rfl, Nat.le_of_ble_eq_true rfl⟩) hK hP hD 0 2 rfl rfl rfl hl.1 rfl (Nat.le_of_ble_eq_true rfl) d_X2_right_73 ⟨Nat.zero_le _, Nat.zero_le _⟩) hS (x_sub hD hS hA) (x_sub hD hS hA) rfl (fun w1 H locs hY hP hD hS => ?_)
  subst hY
  exact x_iret hx hb hr hlocks hP hD hS d_X2_right_76 rfl rfl
set_option maxHeartbeats 800000 in
set_option maxRecDepth 100000 in
theorem c_X2_right_1 {l : Launch} {D : va_G} {Rs : va_W} {cA cR cL : ClassId} {h aw ar ag az : Nat} {cd : Int32} {w g : Nat → Nat} {sg : Nat → Int32} {z : Nat → Nat} (hok : mdOk w g z) {r : Nat} (hr64 : r < 64) {k : Nat} (hk8 : k ≤ 8192) (hsg : ¬ 0 ≤ ((mLoadG w g r 0 z sg) 0)) {t0 : Nat} (ht : t0 < 17600) (ht1 : mBit (mLoadZ w g r 0 z) 0 t0 = 1) (ht0 : ∀ k, k < t0 → mBit (mLoadZ w g r 0 z) 0 k = 0) (htk : k ≤ t0) {t : Nat} (hlow : ¬ 0 ≤ (mHfS (mLoadG w g r 0 z sg) k 0 (mLoadZ w g r 0 z)) 1 → mLow (mHfZ (mLoadG w g r 0 z sg) k 0 (mLoadZ w g r 0 z)) 1 t) : xC l y_X2_right w_X2_right ({ frames := 5, cells := 0, slots := 0, locals := 115 }) D cls0 (ty3 cA cR cL) [.ref h, .int (nI r), .int (nI k)] (md cA h aw ar ag az cd w g sg z Rs) (some (.int (mKSg (mHfS (mLoadG w g r 0 z sg) k 0 (mLoadZ w g r 0 z)) w (mHfZ (mLoadG w g r 0 z sg) k 0 (mLoadZ w g r 0 z)) r 1 g 2))) (fun w1 => w1 = md cA h aw ar ag az (nI 0) w (mStore (mHfS (mLoadG w g r 0 z sg) k 0 (mLoadZ w g r 0 z)) w (mHfZ (mLoadG w g r 0 z sg) k 0 (mLoadZ w g r 0 z)) r 1 g) (mKSg (mHfS (mLoadG w g r 0 z sg) k 0 (mLoadZ w g r 0 z)) w (mHfZ (mLoadG w g r 0 z sg) k 0 (mLoadZ w g r 0 z)) r 1 g) (mKZ (mHfS (mLoadG w g r 0 z sg) k 0 (mLoadZ w g r 0 z)) w (mHfZ (mLoadG w g r 0 z sg) k 0 (mLoadZ w g r 0 z)) r 1 g) Rs) 0 0 := by
  refine xC.ofW (cc := b_X2_right) (maxL := 3) (ret := some .int) (by decide) rfl (Nat.le_of_ble_eq_true rfl) ?_
  intro p e s m below meth c A ls _ hin hx hb hr hml hown hts hlocks hA hK hP hD hS hl
  have hts : ∀ w ∈ gw, w.before ([.ref h, .int (nI r), .int (nI k)]).toArray s = true := fun w h => hts w (List.mem_cons_of_mem _ h)
  have hown : s.vm.findClass R_Md = some m.cls := hown
  have hl : lv_has ls 3 [(0, .ref h), (1, .int (nI r)), (2, .int (nI k))] := hl
  refine lv_aload_n hx hb d_X2_right_0 rfl (lv_at hl 0 rfl) ?_
  refine lv_iload_n hx hb d_X2_right_1 rfl (lv_at hl 1 rfl) ?_
  refine x_callR (st1 := [.int (mIsRow (nI r)), .ref h]) (x_runS (As := [.int (nI r)]) (rest := [.ref h]) (nL := 3) ⟨hx, hb, hml, hown, hts⟩ (c_X2_isRow (nI r) _) (cwS 1 hts (gw_S k_511 k_512 k_52 k_513) rfl rfl rfl (by decide +kernel) ⟨Nat.le_of_ble_eq_true rfl, Nat.le_of_ble_eq_true rfl⟩) hK hP hD rfl hl.1 rfl (Nat.le_of_ble_eq_true rfl) d_X2_right_2 ⟨Nat.zero_le _, Nat.zero_le _⟩) rfl ?_
  rw [mIsRow_1 (show r < 64 by omega)]
  refine n_if_ne (tgt := 12) hx hb d_X2_right_5 (by decide) (by omega) (fun _ => ?_) (fun c => absurd c (by decide))
  refine lv_iload_n hx hb d_X2_right_12 rfl (lv_at hl 2 rfl) ?_
  refine n_if_lt (tgt := 23) hx hb d_X2_right_13 (by decide) (by omega) ?_
  refine lv_iload_n hx hb d_X2_right_16 rfl (lv_at hl 2 rfl) ?_
  refine lv_sipush (v := nI 8192) hx hb d_X2_right_17 (by decide) ?_
  refine n_icmp_le (tgt := 27) hx hb d_X2_right_20 (by decide) (by omega) (by omega) (fun _ => ?_) (fun c9 => absurd c9 (by omega))
  refine lv_iconst (v := nI 0) hx hb d_X2_right_27 (by decide) ?_
  refine x_call (st1 := [.int (mRef (nI 0))]) (x_runV (As := [.int (nI 0)]) (rest := []) (nL := 3) ⟨hx, hb, hml, hown, hts⟩ (c_X2_refuses (nI 0) _) (cwV 1 hts (gw_V k_514 k_516 k_30 k_52 k_517) rfl rfl rfl (by decide +kernel) ⟨Nat.le_of_ble_eq_true rfl, Nat.le_of_ble_eq_true rfl⟩) hK hP hD 0 2 rfl rfl rfl hl.1 rfl (Nat.le_of_ble_eq_true rfl) d_X2_right_28 ⟨Nat.zero_le _, Nat.zero_le _⟩) hS (x_sub hD hS hA) (x_sub hD hS hA) rfl (fun w1 H locs hY hP hD hS => ?_)
  subst hY
  rw [mRef_0]
  refine n_if_eq (tgt := 36) hx hb d_X2_right_31 (by decide) (by omega) (fun _ => ?_) (fun c => absurd c (by decide))
  refine lv_aload_n hx hb d_X2_right_36 rfl (lv_at hl 0 rfl) ?_
  refine lv_iconst (v := nI 0) hx hb d_X2_right_37 (by decide) ?_
  refine lv_iload_n hx hb d_X2_right_38 rfl (lv_at hl 1 rfl) ?_
  refine x_call (st1 := []) (x_runV (As := [.int (nI 0), .int (nI r)]) (rest := []) (nL := 3) ⟨hx, hb, hml, hown, hts⟩ (c_X2_load hok (b := 0) (r := r) (by omega) (by omega) _) (cwV 2 hts (gw_V k_518 k_520 k_31 k_52 k_521) rfl rfl rfl (by decide +kernel) ⟨Nat.le_of_ble_eq_true rfl, Nat.le_of_ble_eq_true rfl⟩) hK hP hD 0 2 rfl rfl rfl hl.1 rfl (Nat.le_of_ble_eq_true rfl) d_X2_right_39 ⟨Nat.zero_le _, Nat.zero_le _⟩) hS (x_sub hD hS hA) (x_sub hD hS hA) rfl (fun w1 H locs hY hP hD hS => ?_)
  subst hY
  have hok := mLoadZ_ok (r := r) (b := 0) hok
  refine lv_aload_n hx hb d_X2_right_42 rfl (lv_at hl 0 rfl) ?_
  refine lv_iload_n hx hb d_X2_right_43 rfl (lv_at hl 2 rfl) ?_
  refine lv_aload_n hx hb d_X2_right_44 rfl (lv_at hl 0 rfl) ?_
  refine m_getG hx hb hts hown hK hP d_X2_right_45 ?_
  refine lv_iconst (v := nI 0) hx hb d_X2_right_48 (by decide) ?_
  refine m_aldG hx hb hK hP (j := 0) (by omega) d_X2_right_49 ?_
  refine lv_if_ge (tgt := 66) hx hb d_X2_right_50 (by decide) (fun c9 => absurd c9 hsg) (fun _ => ?_)
  refine lv_aload_n hx hb d_X2_right_53 rfl (lv_at hl 0 rfl) ?_
  refine lv_iconst (v := nI 0) hx hb d_X2_right_54 (by decide) ?_
  refine x_callR (st1 := [.int (nI t0), .int (nI k), .ref h]) (x_runV (As := [.int (nI 0)]) (rest := [.int (nI k), .ref h]) (nL := 3) ⟨hx, hb, hml, hown, hts⟩ (c_X2_zerosOf hok (by omega) ht ht1 ht0 _) (cwV 1 hts (gw_V k_544 k_546 k_37 k_52 k_547) rfl rfl rfl (by decide +kernel) ⟨Nat.le_of_ble_eq_true rfl, Nat.le_of_ble_eq_true rfl⟩) hK hP hD 0 2 rfl rfl rfl hl.1 rfl (Nat.le_of_ble_eq_true rfl) d_X2_right_55 ⟨Nat.zero_le _, Nat.zero_le _⟩) rfl ?_
  refine lv_iload_n hx hb d_X2_right_58 rfl (lv_at hl 2 rfl) ?_
  refine n_icmp_ge (tgt := 66) hx hb d_X2_right_59 (by decide) (by omega) (by omega) (fun _ => ?_) (fun c9 => absurd c9 (by omega))
  refine lv_iconst (v := nI 0) hx hb d_X2_right_66 (by decide) ?_
  refine x_call (st1 := []) (x_runV (As := [.int (nI k), .int (nI 0)]) (rest := []) (nL := 3) ⟨hx, hb, hml, hown, hts⟩ (c_X2_halve hok (k := k) (f := 0) hk8 (by omega) _) (cwV 2 hts (gw_V k_642 k_644 k_48 k_52 k_645) rfl rfl rfl (by decide +kernel) ⟨Nat.le_of_ble_eq_true rfl, Nat.le_of_ble_eq_true rfl⟩) hK hP hD 0 2 rfl rfl rfl hl.1 rfl (Nat.le_of_ble_eq_true rfl) d_X2_right_67 ⟨Nat.zero_le _, Nat.zero_le _⟩) hS (x_sub hD hS hA) (x_sub hD hS hA) rfl (fun w1 H locs hY hP hD hS => ?_)
  subst hY
  have hok := mHfZ_ok (sg := mLoadG w g r 0 z sg) (k := k) (f := 0) hok
  refine lv_aload_n hx hb d_X2_right_70 rfl (lv_at hl 0 rfl) ?_
  refine lv_iload_n hx hb d_X2_right_71 rfl (lv_at hl 1 rfl) ?_
  refine lv_iconst (v := nI 1) hx hb d_X2_right_72 (by decide) ?_
  refine x_call (st1 := [.int (mKSg (mHfS (mLoadG w g r 0 z sg) k 0 (mLoadZ w g r 0 z)) w (mHfZ (mLoadG w g r 0 z sg) k 0 (mLoadZ w g r 0 z)) r 1 g 2)]) (x_runV (As := [.int (nI r), .int (nI 1)]) (rest := []) (nL := 3) ⟨hx, hb, hml, hown, hts⟩ (c_X2_kept hok (b := 1) (r := r) (t := t) (by omega) (by omega) hlow _) (cwV 2 hts (gw_V k_601 k_603 k_45 k_52 k_604) rfl rfl rfl (by decide +kernel) ⟨Nat.le_of_ble_eq_true rfl, Nat.le_of_ble_eq_true rfl⟩) hK hP hD 0 2 rfl rfl rfl hl.1 rfl (Nat.le_of_ble_eq_true rfl) d_X2_right_73 ⟨Nat.zero_le _, Nat.zero_le _⟩) hS (x_sub hD hS hA) (x_sub hD hS hA) rfl (fun w1 H locs hY hP hD hS => ?_)
  subst hY
  exact x_iret hx hb hr hlocks hP hD hS d_X2_right_76 rfl rfl
set_option maxHeartbeats 800000 in
set_option maxRecDepth 100000 in
theorem c_X2_right_2 {l : Launch} {D : va_G} {Rs : va_W} {cA cR cL : ClassId} {h aw ar ag az : Nat} {cd : Int32} {w g : Nat → Nat} {sg : Nat → Int32} {z : Nat → Nat} (hok : mdOk w g z) {r : Nat} (hr64 : r < 64) {k : Nat} (hk8 : k ≤ 8192) (hsg : ¬ 0 ≤ ((mLoadG w g r 0 z sg) 0)) {t0 : Nat} (ht : t0 < 17600) (ht1 : mBit (mLoadZ w g r 0 z) 0 t0 = 1) (ht0 : ∀ k, k < t0 → mBit (mLoadZ w g r 0 z) 0 k = 0) (htk : t0 < k) {t : Nat} (hlow : ¬ 0 ≤ (mHfS (mLoadG w g r 0 z sg) k 1 (mLoadZ w g r 0 z)) 1 → mLow (mHfZ (mLoadG w g r 0 z sg) k 1 (mLoadZ w g r 0 z)) 1 t) : xC l y_X2_right w_X2_right ({ frames := 5, cells := 0, slots := 0, locals := 115 }) D cls0 (ty3 cA cR cL) [.ref h, .int (nI r), .int (nI k)] (md cA h aw ar ag az cd w g sg z Rs) (some (.int (mKSg (mHfS (mLoadG w g r 0 z sg) k 1 (mLoadZ w g r 0 z)) w (mHfZ (mLoadG w g r 0 z sg) k 1 (mLoadZ w g r 0 z)) r 1 g 2))) (fun w1 => w1 = md cA h aw ar ag az (nI 0) w (mStore (mHfS (mLoadG w g r 0 z sg) k 1 (mLoadZ w g r 0 z)) w (mHfZ (mLoadG w g r 0 z sg) k 1 (mLoadZ w g r 0 z)) r 1 g) (mKSg (mHfS (mLoadG w g r 0 z sg) k 1 (mLoadZ w g r 0 z)) w (mHfZ (mLoadG w g r 0 z sg) k 1 (mLoadZ w g r 0 z)) r 1 g) (mKZ (mHfS (mLoadG w g r 0 z sg) k 1 (mLoadZ w g r 0 z)) w (mHfZ (mLoadG w g r 0 z sg) k 1 (mLoadZ w g r 0 z)) r 1 g) Rs) 0 0 := by
  refine xC.ofW (cc := b_X2_right) (maxL := 3) (ret := some .int) (by decide) rfl (Nat.le_of_ble_eq_true rfl) ?_
  intro p e s m below meth c A ls _ hin hx hb hr hml hown hts hlocks hA hK hP hD hS hl
  have hts : ∀ w ∈ gw, w.before ([.ref h, .int (nI r), .int (nI k)]).toArray s = true := fun w h => hts w (List.mem_cons_of_mem _ h)
  have hown : s.vm.findClass R_Md = some m.cls := hown
  have hl : lv_has ls 3 [(0, .ref h), (1, .int (nI r)), (2, .int (nI k))] := hl
  refine lv_aload_n hx hb d_X2_right_0 rfl (lv_at hl 0 rfl) ?_
  refine lv_iload_n hx hb d_X2_right_1 rfl (lv_at hl 1 rfl) ?_
  refine x_callR (st1 := [.int (mIsRow (nI r)), .ref h]) (x_runS (As := [.int (nI r)]) (rest := [.ref h]) (nL := 3) ⟨hx, hb, hml, hown, hts⟩ (c_X2_isRow (nI r) _) (cwS 1 hts (gw_S k_511 k_512 k_52 k_513) rfl rfl rfl (by decide +kernel) ⟨Nat.le_of_ble_eq_true rfl, Nat.le_of_ble_eq_true rfl⟩) hK hP hD rfl hl.1 rfl (Nat.le_of_ble_eq_true rfl) d_X2_right_2 ⟨Nat.zero_le _, Nat.zero_le _⟩) rfl ?_
  rw [mIsRow_1 (show r < 64 by omega)]
  refine n_if_ne (tgt := 12) hx hb d_X2_right_5 (by decide) (by omega) (fun _ => ?_) (fun c => absurd c (by decide))
  refine lv_iload_n hx hb d_X2_right_12 rfl (lv_at hl 2 rfl) ?_
  refine n_if_lt (tgt := 23) hx hb d_X2_right_13 (by decide) (by omega) ?_
  refine lv_iload_n hx hb d_X2_right_16 rfl (lv_at hl 2 rfl) ?_
  refine lv_sipush (v := nI 8192) hx hb d_X2_right_17 (by decide) ?_
  refine n_icmp_le (tgt := 27) hx hb d_X2_right_20 (by decide) (by omega) (by omega) (fun _ => ?_) (fun c9 => absurd c9 (by omega))
  refine lv_iconst (v := nI 0) hx hb d_X2_right_27 (by decide) ?_
  refine x_call (st1 := [.int (mRef (nI 0))]) (x_runV (As := [.int (nI 0)]) (rest := []) (nL := 3) ⟨hx, hb, hml, hown, hts⟩ (c_X2_refuses (nI 0) _) (cwV 1 hts (gw_V k_514 k_516 k_30 k_52 k_517) rfl rfl rfl (by decide +kernel) ⟨Nat.le_of_ble_eq_true rfl, Nat.le_of_ble_eq_true rfl⟩) hK hP hD 0 2 rfl rfl rfl hl.1 rfl (Nat.le_of_ble_eq_true rfl) d_X2_right_28 ⟨Nat.zero_le _, Nat.zero_le _⟩) hS (x_sub hD hS hA) (x_sub hD hS hA) rfl (fun w1 H locs hY hP hD hS => ?_)
  subst hY
  rw [mRef_0]
  refine n_if_eq (tgt := 36) hx hb d_X2_right_31 (by decide) (by omega) (fun _ => ?_) (fun c => absurd c (by decide))
  refine lv_aload_n hx hb d_X2_right_36 rfl (lv_at hl 0 rfl) ?_
  refine lv_iconst (v := nI 0) hx hb d_X2_right_37 (by decide) ?_
  refine lv_iload_n hx hb d_X2_right_38 rfl (lv_at hl 1 rfl) ?_
  refine x_call (st1 := []) (x_runV (As := [.int (nI 0), .int (nI r)]) (rest := []) (nL := 3) ⟨hx, hb, hml, hown, hts⟩ (c_X2_load hok (b := 0) (r := r) (by omega) (by omega) _) (cwV 2 hts (gw_V k_518 k_520 k_31 k_52 k_521) rfl rfl rfl (by decide +kernel) ⟨Nat.le_of_ble_eq_true rfl, Nat.le_of_ble_eq_true rfl⟩) hK hP hD 0 2 rfl rfl rfl hl.1 rfl (Nat.le_of_ble_eq_true rfl) d_X2_right_39 ⟨Nat.zero_le _, Nat.zero_le _⟩) hS (x_sub hD hS hA) (x_sub hD hS hA) rfl (fun w1 H locs hY hP hD hS => ?_)
  subst hY
  have hok := mLoadZ_ok (r := r) (b := 0) hok
  refine lv_aload_n hx hb d_X2_right_42 rfl (lv_at hl 0 rfl) ?_
  refine lv_iload_n hx hb d_X2_right_43 rfl (lv_at hl 2 rfl) ?_
  refine lv_aload_n hx hb d_X2_right_44 rfl (lv_at hl 0 rfl) ?_
  refine m_getG hx hb hts hown hK hP d_X2_right_45 ?_
  refine lv_iconst (v := nI 0) hx hb d_X2_right_48 (by decide) ?_
  refine m_aldG hx hb hK hP (j := 0) (by omega) d_X2_right_49 ?_
  refine lv_if_ge (tgt := 66) hx hb d_X2_right_50 (by decide) (fun c9 => absurd c9 hsg) (fun _ => ?_)
  refine lv_aload_n hx hb d_X2_right_53 rfl (lv_at hl 0 rfl) ?_
  refine lv_iconst (v := nI 0) hx hb d_X2_right_54 (by decide) ?_
  refine x_callR (st1 := [.int (nI t0), .int (nI k), .ref h]) (x_runV (As := [.int (nI 0)]) (rest := [.int (nI k), .ref h]) (nL := 3) ⟨hx, hb, hml, hown, hts⟩ (c_X2_zerosOf hok (by omega) ht ht1 ht0 _) (cwV 1 hts (gw_V k_544 k_546 k_37 k_52 k_547) rfl rfl rfl (by decide +kernel) ⟨Nat.le_of_ble_eq_true rfl, Nat.le_of_ble_eq_true rfl⟩) hK hP hD 0 2 rfl rfl rfl hl.1 rfl (Nat.le_of_ble_eq_true rfl) d_X2_right_55 ⟨Nat.zero_le _, Nat.zero_le _⟩) rfl ?_
  refine lv_iload_n hx hb d_X2_right_58 rfl (lv_at hl 2 rfl) ?_
  refine n_icmp_ge (tgt := 66) hx hb d_X2_right_59 (by decide) (by omega) (by omega) (fun c9 => absurd c9 (by omega)) (fun _ => ?_)
  refine lv_iconst (v := nI 1) hx hb d_X2_right_62 (by decide) ?_
  refine lv_goto (tgt := 67) hx hb d_X2_right_63 (by decide) ?_
  refine x_call (st1 := []) (x_runV (As := [.int (nI k), .int (nI 1)]) (rest := []) (nL := 3) ⟨hx, hb, hml, hown, hts⟩ (c_X2_halve hok (k := k) (f := 1) hk8 (by omega) _) (cwV 2 hts (gw_V k_642 k_644 k_48 k_52 k_645) rfl rfl rfl (by decide +kernel) ⟨Nat.le_of_ble_eq_true rfl, Nat.le_of_ble_eq_true rfl⟩) hK hP hD 0 2 rfl rfl rfl hl.1 rfl (Nat.le_of_ble_eq_true rfl) d_X2_right_67 ⟨Nat.zero_le _, Nat.zero_le _⟩) hS (x_sub hD hS hA) (x_sub hD hS hA) rfl (fun w1 H locs hY hP hD hS => ?_)
  subst hY
  have hok := mHfZ_ok (sg := mLoadG w g r 0 z sg) (k := k) (f := 1) hok
  refine lv_aload_n hx hb d_X2_right_70 rfl (lv_at hl 0 rfl) ?_
  refine lv_iload_n hx hb d_X2_right_71 rfl (lv_at hl 1 rfl) ?_
  refine lv_iconst (v := nI 1) hx hb d_X2_right_72 (by decide) ?_
  refine x_call (st1 := [.int (mKSg (mHfS (mLoadG w g r 0 z sg) k 1 (mLoadZ w g r 0 z)) w (mHfZ (mLoadG w g r 0 z sg) k 1 (mLoadZ w g r 0 z)) r 1 g 2)]) (x_runV (As := [.int (nI r), .int (nI 1)]) (rest := []) (nL := 3) ⟨hx, hb, hml, hown, hts⟩ (c_X2_kept hok (b := 1) (r := r) (t := t) (by omega) (by omega) hlow _) (cwV 2 hts (gw_V k_601 k_603 k_45 k_52 k_604) rfl rfl rfl (by decide +kernel) ⟨Nat.le_of_ble_eq_true rfl, Nat.le_of_ble_eq_true rfl⟩) hK hP hD 0 2 rfl rfl rfl hl.1 rfl (Nat.le_of_ble_eq_true rfl) d_X2_right_73 ⟨Nat.zero_le _, Nat.zero_le _⟩) hS (x_sub hD hS hA) (x_sub hD hS hA) rfl (fun w1 H locs hY hP hD hS => ?_)
  subst hY
  exact x_iret hx hb hr hlocks hP hD hS d_X2_right_76 rfl rfl
abbrev w_X2_nearest : List Cond := .code y_X2_nearest b_X2_nearest 5 (some .int) :: gw
set_option maxHeartbeats 800000 in
set_option maxRecDepth 100000 in
theorem c_X2_nearest_0 {l : Launch} {D : va_G} {Rs : va_W} {cA cR cL : ClassId} {h aw ar ag az : Nat} {cd : Int32} {w g : Nat → Nat} {sg : Nat → Int32} {z : Nat → Nat} (hok : mdOk w g z) {r : Nat} (hr64 : r < 64) {k : Nat} (hk8 : k ≤ 8192) (hk0 : k ≤ 0) {t : Nat} (hlow : ¬ 0 ≤ (mHfS (mLoadG w g r 0 z sg) k 0 (mLoadZ w g r 0 z)) 1 → mLow (mHfZ (mLoadG w g r 0 z sg) k 0 (mLoadZ w g r 0 z)) 1 t) : xC l y_X2_nearest w_X2_nearest ({ frames := 5, cells := 0, slots := 0, locals := 115 }) D cls0 (ty3 cA cR cL) [.ref h, .int (nI r), .int (nI k)] (md cA h aw ar ag az cd w g sg z Rs) (some (.int (mKSg (mHfS (mLoadG w g r 0 z sg) k 0 (mLoadZ w g r 0 z)) w (mHfZ (mLoadG w g r 0 z sg) k 0 (mLoadZ w g r 0 z)) r 1 g 2))) (fun w1 => w1 = md cA h aw ar ag az (nI 0) w (mStore (mHfS (mLoadG w g r 0 z sg) k 0 (mLoadZ w g r 0 z)) w (mHfZ (mLoadG w g r 0 z sg) k 0 (mLoadZ w g r 0 z)) r 1 g) (mKSg (mHfS (mLoadG w g r 0 z sg) k 0 (mLoadZ w g r 0 z)) w (mHfZ (mLoadG w g r 0 z sg) k 0 (mLoadZ w g r 0 z)) r 1 g) (mKZ (mHfS (mLoadG w g r 0 z sg) k 0 (mLoadZ w g r 0 z)) w (mHfZ (mLoadG w g r 0 z sg) k 0 (mLoadZ w g r 0 z)) r 1 g) Rs) 0 0 := by
  refine xC.ofW (cc := b_X2_nearest) (maxL := 5) (ret := some .int) (by decide) rfl (Nat.le_of_ble_eq_true rfl) ?_
  intro p e s m below meth c A ls _ hin hx hb hr hml hown hts hlocks hA hK hP hD hS hl
  have hts : ∀ w ∈ gw, w.before ([.ref h, .int (nI r), .int (nI k)]).toArray s = true := fun w h => hts w (List.mem_cons_of_mem _ h)
  have hown : s.vm.findClass R_Md = some m.cls := hown
  have hl : lv_has ls 5 [(0, .ref h), (1, .int (nI r)), (2, .int (nI k))] := hl
  refine lv_aload_n hx hb d_X2_nearest_0 rfl (lv_at hl 0 rfl) ?_
  refine lv_iload_n hx hb d_X2_nearest_1 rfl (lv_at hl 1 rfl) ?_
  refine x_callR (st1 := [.int (mIsRow (nI r)), .ref h]) (x_runS (As := [.int (nI r)]) (rest := [.ref h]) (nL := 5) ⟨hx, hb, hml, hown, hts⟩ (c_X2_isRow (nI r) _) (cwS 1 hts (gw_S k_511 k_512 k_52 k_513) rfl rfl rfl (by decide +kernel) ⟨Nat.le_of_ble_eq_true rfl, Nat.le_of_ble_eq_true rfl⟩) hK hP hD rfl hl.1 rfl (Nat.le_of_ble_eq_true rfl) d_X2_nearest_2 ⟨Nat.zero_le _, Nat.zero_le _⟩) rfl ?_
  rw [mIsRow_1 (show r < 64 by omega)]
  refine n_if_ne (tgt := 12) hx hb d_X2_nearest_5 (by decide) (by omega) (fun _ => ?_) (fun c => absurd c (by decide))
  refine lv_iload_n hx hb d_X2_nearest_12 rfl (lv_at hl 2 rfl) ?_
  refine n_if_lt (tgt := 23) hx hb d_X2_nearest_13 (by decide) (by omega) ?_
  refine lv_iload_n hx hb d_X2_nearest_16 rfl (lv_at hl 2 rfl) ?_
  refine lv_sipush (v := nI 8192) hx hb d_X2_nearest_17 (by decide) ?_
  refine n_icmp_le (tgt := 27) hx hb d_X2_nearest_20 (by decide) (by omega) (by omega) (fun _ => ?_) (fun c9 => absurd c9 (by omega))
  refine lv_iconst (v := nI 0) hx hb d_X2_nearest_27 (by decide) ?_
  refine x_call (st1 := [.int (mRef (nI 0))]) (x_runV (As := [.int (nI 0)]) (rest := []) (nL := 5) ⟨hx, hb, hml, hown, hts⟩ (c_X2_refuses (nI 0) _) (cwV 1 hts (gw_V k_514 k_516 k_30 k_52 k_517) rfl rfl rfl (by decide +kernel) ⟨Nat.le_of_ble_eq_true rfl, Nat.le_of_ble_eq_true rfl⟩) hK hP hD 0 2 rfl rfl rfl hl.1 rfl (Nat.le_of_ble_eq_true rfl) d_X2_nearest_28 ⟨Nat.zero_le _, Nat.zero_le _⟩) hS (x_sub hD hS hA) (x_sub hD hS hA) rfl (fun w1 H locs hY hP hD hS => ?_)
  subst hY
  rw [mRef_0]
  refine n_if_eq (tgt := 36) hx hb d_X2_nearest_31 (by decide) (by omega) (fun _ => ?_) (fun c => absurd c (by decide))
  refine lv_aload_n hx hb d_X2_nearest_36 rfl (lv_at hl 0 rfl) ?_
  refine lv_iconst (v := nI 0) hx hb d_X2_nearest_37 (by decide) ?_
  refine lv_iload_n hx hb d_X2_nearest_38 rfl (lv_at hl 1 rfl) ?_
  refine x_call (st1 := []) (x_runV (As := [.int (nI 0), .int (nI r)]) (rest := []) (nL := 5) ⟨hx, hb, hml, hown, hts⟩ (c_X2_load hok (b := 0) (r := r) (by omega) (by omega) _) (cwV 2 hts (gw_V k_518 k_520 k_31 k_52 k_521) rfl rfl rfl (by decide +kernel) ⟨Nat.le_of_ble_eq_true rfl, Nat.le_of_ble_eq_true rfl⟩) hK hP hD 0 2 rfl rfl rfl hl.1 rfl (Nat.le_of_ble_eq_true rfl) d_X2_nearest_39 ⟨Nat.zero_le _, Nat.zero_le _⟩) hS (x_sub hD hS hA) (x_sub hD hS hA) rfl (fun w1 H locs hY hP hD hS => ?_)
  subst hY
  have hok := mLoadZ_ok (r := r) (b := 0) hok
  refine lv_iload_n hx hb d_X2_nearest_42 rfl (lv_at hl 2 rfl) ?_
  refine n_if_le (tgt := 71) hx hb d_X2_nearest_43 (by decide) (by omega) (fun _ => ?_) (fun c9 => absurd c9 (by omega))
  refine lv_iconst (v := nI 0) hx hb d_X2_nearest_71 (by decide) ?_
  refine lv_istore_n (lv' := [(3, .int (nI 0)), (0, .ref h), (1, .int (nI r)), (2, .int (nI k))]) hx hb d_X2_nearest_72 rfl hl (by decide) rfl (fun ls hl => ?_)
  refine lv_iload_n hx hb d_X2_nearest_73 rfl (lv_at hl 0 rfl) ?_
  refine n_if_eq (tgt := 102) hx hb d_X2_nearest_74 (by decide) (by omega) (fun _ => ?_) (fun c => absurd c (by decide))
  refine lv_iconst (v := nI 0) hx hb d_X2_nearest_102 (by decide) ?_
  refine lv_istore (lv' := [(4, .int (nI 0)), (3, .int (nI 0)), (0, .ref h), (1, .int (nI r)), (2, .int (nI k))]) hx hb d_X2_nearest_103 hl (by decide) rfl (fun ls hl => ?_)
  refine lv_aload_n hx hb d_X2_nearest_105 rfl (lv_at hl 2 rfl) ?_
  refine lv_iload_n hx hb d_X2_nearest_106 rfl (lv_at hl 4 rfl) ?_
  refine lv_iload hx hb d_X2_nearest_107 (lv_at hl 0 rfl) ?_
  refine x_call (st1 := []) (x_runV (As := [.int (nI k), .int (nI 0)]) (rest := []) (nL := 5) ⟨hx, hb, hml, hown, hts⟩ (c_X2_halve hok (k := k) (f := 0) hk8 (by omega) _) (cwV 2 hts (gw_V k_642 k_644 k_48 k_52 k_645) rfl rfl rfl (by decide +kernel) ⟨Nat.le_of_ble_eq_true rfl, Nat.le_of_ble_eq_true rfl⟩) hK hP hD 0 2 rfl rfl rfl hl.1 rfl (Nat.le_of_ble_eq_true rfl) d_X2_nearest_109 ⟨Nat.zero_le _, Nat.zero_le _⟩) hS (x_sub hD hS hA) (x_sub hD hS hA) rfl (fun w1 H locs hY hP hD hS => ?_)
  subst hY
  have hok := mHfZ_ok (sg := mLoadG w g r 0 z sg) (k := k) (f := 0) hok
  refine lv_aload_n hx hb d_X2_nearest_112 rfl (lv_at hl 2 rfl) ?_
  refine lv_iload_n hx hb d_X2_nearest_113 rfl (lv_at hl 3 rfl) ?_
  refine lv_iconst (v := nI 1) hx hb d_X2_nearest_114 (by decide) ?_
  refine x_call (st1 := [.int (mKSg (mHfS (mLoadG w g r 0 z sg) k 0 (mLoadZ w g r 0 z)) w (mHfZ (mLoadG w g r 0 z sg) k 0 (mLoadZ w g r 0 z)) r 1 g 2)]) (x_runV (As := [.int (nI r), .int (nI 1)]) (rest := []) (nL := 5) ⟨hx, hb, hml, hown, hts⟩ (c_X2_kept hok (b := 1) (r := r) (t := t) (by omega) (by omega) hlow _) (cwV 2 hts (gw_V k_601 k_603 k_45 k_52 k_604) rfl rfl rfl (by decide +kernel) ⟨Nat.le_of_ble_eq_true rfl, Nat.le_of_ble_eq_true rfl⟩) hK hP hD 0 2 rfl rfl rfl hl.1 rfl (Nat.le_of_ble_eq_true rfl) d_X2_nearest_115 ⟨Nat.zero_le _, Nat.zero_le _⟩) hS (x_sub hD hS hA) (x_sub hD hS hA) rfl (fun w1 H locs hY hP hD hS => ?_)
  subst hY
  exact x_iret hx hb hr hlocks hP hD hS d_X2_nearest_118 rfl rfl
set_option maxHeartbeats 800000 in
set_option maxRecDepth 100000 in
theorem c_X2_nearest_1 {l : Launch} {D : va_G} {Rs : va_W} {cA cR cL : ClassId} {h aw ar ag az : Nat} {cd : Int32} {w g : Nat → Nat} {sg : Nat → Int32} {z : Nat → Nat} (hok : mdOk w g z) {r : Nat} (hr64 : r < 64) {k : Nat} (hk8 : k ≤ 8192) (hk0 : 0 < k) (hsg : ((mLoadG w g r 0 z sg) 0) = 0) {t : Nat} (hlow : ¬ 0 ≤ (mHfS (mLoadG w g r 0 z sg) k 0 (mLoadZ w g r 0 z)) 1 → mLow (mHfZ (mLoadG w g r 0 z sg) k 0 (mLoadZ w g r 0 z)) 1 t) : xC l y_X2_nearest w_X2_nearest ({ frames := 5, cells := 0, slots := 0, locals := 115 }) D cls0 (ty3 cA cR cL) [.ref h, .int (nI r), .int (nI k)] (md cA h aw ar ag az cd w g sg z Rs) (some (.int (mKSg (mHfS (mLoadG w g r 0 z sg) k 0 (mLoadZ w g r 0 z)) w (mHfZ (mLoadG w g r 0 z sg) k 0 (mLoadZ w g r 0 z)) r 1 g 2))) (fun w1 => w1 = md cA h aw ar ag az (nI 0) w (mStore (mHfS (mLoadG w g r 0 z sg) k 0 (mLoadZ w g r 0 z)) w (mHfZ (mLoadG w g r 0 z sg) k 0 (mLoadZ w g r 0 z)) r 1 g) (mKSg (mHfS (mLoadG w g r 0 z sg) k 0 (mLoadZ w g r 0 z)) w (mHfZ (mLoadG w g r 0 z sg) k 0 (mLoadZ w g r 0 z)) r 1 g) (mKZ (mHfS (mLoadG w g r 0 z sg) k 0 (mLoadZ w g r 0 z)) w (mHfZ (mLoadG w g r 0 z sg) k 0 (mLoadZ w g r 0 z)) r 1 g) Rs) 0 0 := by
  refine xC.ofW (cc := b_X2_nearest) (maxL := 5) (ret := some .int) (by decide) rfl (Nat.le_of_ble_eq_true rfl) ?_
  intro p e s m below meth c A ls _ hin hx hb hr hml hown hts hlocks hA hK hP hD hS hl
  have hts : ∀ w ∈ gw, w.before ([.ref h, .int (nI r), .int (nI k)]).toArray s = true := fun w h => hts w (List.mem_cons_of_mem _ h)
  have hown : s.vm.findClass R_Md = some m.cls := hown
  have hl : lv_has ls 5 [(0, .ref h), (1, .int (nI r)), (2, .int (nI k))] := hl
  refine lv_aload_n hx hb d_X2_nearest_0 rfl (lv_at hl 0 rfl) ?_
  refine lv_iload_n hx hb d_X2_nearest_1 rfl (lv_at hl 1 rfl) ?_
  refine x_callR (st1 := [.int (mIsRow (nI r)), .ref h]) (x_runS (As := [.int (nI r)]) (rest := [.ref h]) (nL := 5) ⟨hx, hb, hml, hown, hts⟩ (c_X2_isRow (nI r) _) (cwS 1 hts (gw_S k_511 k_512 k_52 k_513) rfl rfl rfl (by decide +kernel) ⟨Nat.le_of_ble_eq_true rfl, Nat.le_of_ble_eq_true rfl⟩) hK hP hD rfl hl.1 rfl (Nat.le_of_ble_eq_true rfl) d_X2_nearest_2 ⟨Nat.zero_le _, Nat.zero_le _⟩) rfl ?_
  rw [mIsRow_1 (show r < 64 by omega)]
  refine n_if_ne (tgt := 12) hx hb d_X2_nearest_5 (by decide) (by omega) (fun _ => ?_) (fun c => absurd c (by decide))
  refine lv_iload_n hx hb d_X2_nearest_12 rfl (lv_at hl 2 rfl) ?_
  refine n_if_lt (tgt := 23) hx hb d_X2_nearest_13 (by decide) (by omega) ?_
  refine lv_iload_n hx hb d_X2_nearest_16 rfl (lv_at hl 2 rfl) ?_
  refine lv_sipush (v := nI 8192) hx hb d_X2_nearest_17 (by decide) ?_
  refine n_icmp_le (tgt := 27) hx hb d_X2_nearest_20 (by decide) (by omega) (by omega) (fun _ => ?_) (fun c9 => absurd c9 (by omega))
  refine lv_iconst (v := nI 0) hx hb d_X2_nearest_27 (by decide) ?_
  refine x_call (st1 := [.int (mRef (nI 0))]) (x_runV (As := [.int (nI 0)]) (rest := []) (nL := 5) ⟨hx, hb, hml, hown, hts⟩ (c_X2_refuses (nI 0) _) (cwV 1 hts (gw_V k_514 k_516 k_30 k_52 k_517) rfl rfl rfl (by decide +kernel) ⟨Nat.le_of_ble_eq_true rfl, Nat.le_of_ble_eq_true rfl⟩) hK hP hD 0 2 rfl rfl rfl hl.1 rfl (Nat.le_of_ble_eq_true rfl) d_X2_nearest_28 ⟨Nat.zero_le _, Nat.zero_le _⟩) hS (x_sub hD hS hA) (x_sub hD hS hA) rfl (fun w1 H locs hY hP hD hS => ?_)
  subst hY
  rw [mRef_0]
  refine n_if_eq (tgt := 36) hx hb d_X2_nearest_31 (by decide) (by omega) (fun _ => ?_) (fun c => absurd c (by decide))
  refine lv_aload_n hx hb d_X2_nearest_36 rfl (lv_at hl 0 rfl) ?_
  refine lv_iconst (v := nI 0) hx hb d_X2_nearest_37 (by decide) ?_
  refine lv_iload_n hx hb d_X2_nearest_38 rfl (lv_at hl 1 rfl) ?_
  refine x_call (st1 := []) (x_runV (As := [.int (nI 0), .int (nI r)]) (rest := []) (nL := 5) ⟨hx, hb, hml, hown, hts⟩ (c_X2_load hok (b := 0) (r := r) (by omega) (by omega) _) (cwV 2 hts (gw_V k_518 k_520 k_31 k_52 k_521) rfl rfl rfl (by decide +kernel) ⟨Nat.le_of_ble_eq_true rfl, Nat.le_of_ble_eq_true rfl⟩) hK hP hD 0 2 rfl rfl rfl hl.1 rfl (Nat.le_of_ble_eq_true rfl) d_X2_nearest_39 ⟨Nat.zero_le _, Nat.zero_le _⟩) hS (x_sub hD hS hA) (x_sub hD hS hA) rfl (fun w1 H locs hY hP hD hS => ?_)
  subst hY
  have hok := mLoadZ_ok (r := r) (b := 0) hok
  refine lv_iload_n hx hb d_X2_nearest_42 rfl (lv_at hl 2 rfl) ?_
  refine n_if_le (tgt := 71) hx hb d_X2_nearest_43 (by decide) (by omega) (fun c9 => absurd c9 (by omega)) (fun _ => ?_)
  refine lv_aload_n hx hb d_X2_nearest_46 rfl (lv_at hl 0 rfl) ?_
  refine m_getG hx hb hts hown hK hP d_X2_nearest_47 ?_
  refine lv_iconst (v := nI 0) hx hb d_X2_nearest_50 (by decide) ?_
  refine m_aldG hx hb hK hP (j := 0) (by omega) d_X2_nearest_51 ?_
  refine lv_if_eq (tgt := 71) hx hb d_X2_nearest_52 (by decide) (fun _ => ?_) (fun c9 => absurd hsg c9)
  refine lv_iconst (v := nI 0) hx hb d_X2_nearest_71 (by decide) ?_
  refine lv_istore_n (lv' := [(3, .int (nI 0)), (0, .ref h), (1, .int (nI r)), (2, .int (nI k))]) hx hb d_X2_nearest_72 rfl hl (by decide) rfl (fun ls hl => ?_)
  refine lv_iload_n hx hb d_X2_nearest_73 rfl (lv_at hl 0 rfl) ?_
  refine n_if_eq (tgt := 102) hx hb d_X2_nearest_74 (by decide) (by omega) (fun _ => ?_) (fun c => absurd c (by decide))
  refine lv_iconst (v := nI 0) hx hb d_X2_nearest_102 (by decide) ?_
  refine lv_istore (lv' := [(4, .int (nI 0)), (3, .int (nI 0)), (0, .ref h), (1, .int (nI r)), (2, .int (nI k))]) hx hb d_X2_nearest_103 hl (by decide) rfl (fun ls hl => ?_)
  refine lv_aload_n hx hb d_X2_nearest_105 rfl (lv_at hl 2 rfl) ?_
  refine lv_iload_n hx hb d_X2_nearest_106 rfl (lv_at hl 4 rfl) ?_
  refine lv_iload hx hb d_X2_nearest_107 (lv_at hl 0 rfl) ?_
  refine x_call (st1 := []) (x_runV (As := [.int (nI k), .int (nI 0)]) (rest := []) (nL := 5) ⟨hx, hb, hml, hown, hts⟩ (c_X2_halve hok (k := k) (f := 0) hk8 (by omega) _) (cwV 2 hts (gw_V k_642 k_644 k_48 k_52 k_645) rfl rfl rfl (by decide +kernel) ⟨Nat.le_of_ble_eq_true rfl, Nat.le_of_ble_eq_true rfl⟩) hK hP hD 0 2 rfl rfl rfl hl.1 rfl (Nat.le_of_ble_eq_true rfl) d_X2_nearest_109 ⟨Nat.zero_le _, Nat.zero_le _⟩) hS (x_sub hD hS hA) (x_sub hD hS hA) rfl (fun w1 H locs hY hP hD hS => ?_)
  subst hY
  have hok := mHfZ_ok (sg := mLoadG w g r 0 z sg) (k := k) (f := 0) hok
  refine lv_aload_n hx hb d_X2_nearest_112 rfl (lv_at hl 2 rfl) ?_
  refine lv_iload_n hx hb d_X2_nearest_113 rfl (lv_at hl 3 rfl) ?_
  refine lv_iconst (v := nI 1) hx hb d_X2_nearest_114 (by decide) ?_
  refine x_call (st1 := [.int (mKSg (mHfS (mLoadG w g r 0 z sg) k 0 (mLoadZ w g r 0 z)) w (mHfZ (mLoadG w g r 0 z sg) k 0 (mLoadZ w g r 0 z)) r 1 g 2)]) (x_runV (As := [.int (nI r), .int (nI 1)]) (rest := []) (nL := 5) ⟨hx, hb, hml, hown, hts⟩ (c_X2_kept hok (b := 1) (r := r) (t := t) (by omega) (by omega) hlow _) (cwV 2 hts (gw_V k_601 k_603 k_45 k_52 k_604) rfl rfl rfl (by decide +kernel) ⟨Nat.le_of_ble_eq_true rfl, Nat.le_of_ble_eq_true rfl⟩) hK hP hD 0 2 rfl rfl rfl hl.1 rfl (Nat.le_of_ble_eq_true rfl) d_X2_nearest_115 ⟨Nat.zero_le _, Nat.zero_le _⟩) hS (x_sub hD hS hA) (x_sub hD hS hA) rfl (fun w1 H locs hY hP hD hS => ?_)
  subst hY
  exact x_iret hx hb hr hlocks hP hD hS d_X2_nearest_118 rfl rfl
set_option maxHeartbeats 800000 in
set_option maxRecDepth 100000 in
theorem c_X2_nearest_2 {l : Launch} {D : va_G} {Rs : va_W} {cA cR cL : ClassId} {h aw ar ag az : Nat} {cd : Int32} {w g : Nat → Nat} {sg : Nat → Int32} {z : Nat → Nat} (hok : mdOk w g z) {r : Nat} (hr64 : r < 64) {k : Nat} (hk8 : k ≤ 8192) (hk0 : 0 < k) (hsg : ¬ ((mLoadG w g r 0 z sg) 0) = 0) (hbt : (mBit (mLoadZ w g r 0 z) 0 (k - 1)) ≠ 1) {t : Nat} (hlow : ¬ 0 ≤ (mHfS (mLoadG w g r 0 z sg) k 0 (mLoadZ w g r 0 z)) 1 → mLow (mHfZ (mLoadG w g r 0 z sg) k 0 (mLoadZ w g r 0 z)) 1 t) : xC l y_X2_nearest w_X2_nearest ({ frames := 5, cells := 0, slots := 0, locals := 115 }) D cls0 (ty3 cA cR cL) [.ref h, .int (nI r), .int (nI k)] (md cA h aw ar ag az cd w g sg z Rs) (some (.int (mKSg (mHfS (mLoadG w g r 0 z sg) k 0 (mLoadZ w g r 0 z)) w (mHfZ (mLoadG w g r 0 z sg) k 0 (mLoadZ w g r 0 z)) r 1 g 2))) (fun w1 => w1 = md cA h aw ar ag az (nI 0) w (mStore (mHfS (mLoadG w g r 0 z sg) k 0 (mLoadZ w g r 0 z)) w (mHfZ (mLoadG w g r 0 z sg) k 0 (mLoadZ w g r 0 z)) r 1 g) (mKSg (mHfS (mLoadG w g r 0 z sg) k 0 (mLoadZ w g r 0 z)) w (mHfZ (mLoadG w g r 0 z sg) k 0 (mLoadZ w g r 0 z)) r 1 g) (mKZ (mHfS (mLoadG w g r 0 z sg) k 0 (mLoadZ w g r 0 z)) w (mHfZ (mLoadG w g r 0 z sg) k 0 (mLoadZ w g r 0 z)) r 1 g) Rs) 0 0 := by
  refine xC.ofW (cc := b_X2_nearest) (maxL := 5) (ret := some .int) (by decide) rfl (Nat.le_of_ble_eq_true rfl) ?_
  intro p e s m below meth c A ls _ hin hx hb hr hml hown hts hlocks hA hK hP hD hS hl
  have hts : ∀ w ∈ gw, w.before ([.ref h, .int (nI r), .int (nI k)]).toArray s = true := fun w h => hts w (List.mem_cons_of_mem _ h)
  have hown : s.vm.findClass R_Md = some m.cls := hown
  have hl : lv_has ls 5 [(0, .ref h), (1, .int (nI r)), (2, .int (nI k))] := hl
  refine lv_aload_n hx hb d_X2_nearest_0 rfl (lv_at hl 0 rfl) ?_
  refine lv_iload_n hx hb d_X2_nearest_1 rfl (lv_at hl 1 rfl) ?_
  refine x_callR (st1 := [.int (mIsRow (nI r)), .ref h]) (x_runS (As := [.int (nI r)]) (rest := [.ref h]) (nL := 5) ⟨hx, hb, hml, hown, hts⟩ (c_X2_isRow (nI r) _) (cwS 1 hts (gw_S k_511 k_512 k_52 k_513) rfl rfl rfl (by decide +kernel) ⟨Nat.le_of_ble_eq_true rfl, Nat.le_of_ble_eq_true rfl⟩) hK hP hD rfl hl.1 rfl (Nat.le_of_ble_eq_true rfl) d_X2_nearest_2 ⟨Nat.zero_le _, Nat.zero_le _⟩) rfl ?_
  rw [mIsRow_1 (show r < 64 by omega)]
  refine n_if_ne (tgt := 12) hx hb d_X2_nearest_5 (by decide) (by omega) (fun _ => ?_) (fun c => absurd c (by decide))
  refine lv_iload_n hx hb d_X2_nearest_12 rfl (lv_at hl 2 rfl) ?_
  refine n_if_lt (tgt := 23) hx hb d_X2_nearest_13 (by decide) (by omega) ?_
  refine lv_iload_n hx hb d_X2_nearest_16 rfl (lv_at hl 2 rfl) ?_
  refine lv_sipush (v := nI 8192) hx hb d_X2_nearest_17 (by decide) ?_
  refine n_icmp_le (tgt := 27) hx hb d_X2_nearest_20 (by decide) (by omega) (by omega) (fun _ => ?_) (fun c9 => absurd c9 (by omega))
  refine lv_iconst (v := nI 0) hx hb d_X2_nearest_27 (by decide) ?_
  refine x_call (st1 := [.int (mRef (nI 0))]) (x_runV (As := [.int (nI 0)]) (rest := []) (nL := 5) ⟨hx, hb, hml, hown, hts⟩ (c_X2_refuses (nI 0) _) (cwV 1 hts (gw_V k_514 k_516 k_30 k_52 k_517) rfl rfl rfl (by decide +kernel) ⟨Nat.le_of_ble_eq_true rfl, Nat.le_of_ble_eq_true rfl⟩) hK hP hD 0 2 rfl rfl rfl hl.1 rfl (Nat.le_of_ble_eq_true rfl) d_X2_nearest_28 ⟨Nat.zero_le _, Nat.zero_le _⟩) hS (x_sub hD hS hA) (x_sub hD hS hA) rfl (fun w1 H locs hY hP hD hS => ?_)
  subst hY
  rw [mRef_0]
  refine n_if_eq (tgt := 36) hx hb d_X2_nearest_31 (by decide) (by omega) (fun _ => ?_) (fun c => absurd c (by decide))
  refine lv_aload_n hx hb d_X2_nearest_36 rfl (lv_at hl 0 rfl) ?_
  refine lv_iconst (v := nI 0) hx hb d_X2_nearest_37 (by decide) ?_
  refine lv_iload_n hx hb d_X2_nearest_38 rfl (lv_at hl 1 rfl) ?_
  refine x_call (st1 := []) (x_runV (As := [.int (nI 0), .int (nI r)]) (rest := []) (nL := 5) ⟨hx, hb, hml, hown, hts⟩ (c_X2_load hok (b := 0) (r := r) (by omega) (by omega) _) (cwV 2 hts (gw_V k_518 k_520 k_31 k_52 k_521) rfl rfl rfl (by decide +kernel) ⟨Nat.le_of_ble_eq_true rfl, Nat.le_of_ble_eq_true rfl⟩) hK hP hD 0 2 rfl rfl rfl hl.1 rfl (Nat.le_of_ble_eq_true rfl) d_X2_nearest_39 ⟨Nat.zero_le _, Nat.zero_le _⟩) hS (x_sub hD hS hA) (x_sub hD hS hA) rfl (fun w1 H locs hY hP hD hS => ?_)
  subst hY
  have hok := mLoadZ_ok (r := r) (b := 0) hok
  refine lv_iload_n hx hb d_X2_nearest_42 rfl (lv_at hl 2 rfl) ?_
  refine n_if_le (tgt := 71) hx hb d_X2_nearest_43 (by decide) (by omega) (fun c9 => absurd c9 (by omega)) (fun _ => ?_)
  refine lv_aload_n hx hb d_X2_nearest_46 rfl (lv_at hl 0 rfl) ?_
  refine m_getG hx hb hts hown hK hP d_X2_nearest_47 ?_
  refine lv_iconst (v := nI 0) hx hb d_X2_nearest_50 (by decide) ?_
  refine m_aldG hx hb hK hP (j := 0) (by omega) d_X2_nearest_51 ?_
  refine lv_if_eq (tgt := 71) hx hb d_X2_nearest_52 (by decide) (fun c9 => absurd c9 hsg) (fun _ => ?_)
  refine lv_aload_n hx hb d_X2_nearest_55 rfl (lv_at hl 0 rfl) ?_
  refine lv_iconst (v := nI 0) hx hb d_X2_nearest_56 (by decide) ?_
  refine lv_iload_n hx hb d_X2_nearest_57 rfl (lv_at hl 2 rfl) ?_
  refine lv_iconst (v := nI 1) hx hb d_X2_nearest_58 (by decide) ?_
  refine n_isub hx hb d_X2_nearest_59 (by omega) ?_
  refine x_callR (st1 := [.int (nI (mBit (mLoadZ w g r 0 z) 0 (k - 1)))]) (x_runV (As := [.int (nI 0), .int (nI (k - 1))]) (rest := []) (nL := 5) ⟨hx, hb, hml, hown, hts⟩ (c_X2_bit hok (b := 0) (k := k - 1) (by omega) (by omega) _) (cwV 2 hts (gw_V k_548 k_550 k_38 k_52 k_551) rfl rfl rfl (by decide +kernel) ⟨Nat.le_of_ble_eq_true rfl, Nat.le_of_ble_eq_true rfl⟩) hK hP hD 0 2 rfl rfl rfl hl.1 rfl (Nat.le_of_ble_eq_true rfl) d_X2_nearest_60 ⟨Nat.zero_le _, Nat.zero_le _⟩) rfl ?_
  refine lv_iconst (v := nI 1) hx hb d_X2_nearest_63 (by decide) ?_
  refine n_icmp_ne (tgt := 71) hx hb d_X2_nearest_64 (by decide) (Nat.lt_of_lt_of_le (mBit_lt _ _ _) (by decide)) (by omega) (fun _ => ?_) (fun c9 => absurd c9 (by omega))
  refine lv_iconst (v := nI 0) hx hb d_X2_nearest_71 (by decide) ?_
  refine lv_istore_n (lv' := [(3, .int (nI 0)), (0, .ref h), (1, .int (nI r)), (2, .int (nI k))]) hx hb d_X2_nearest_72 rfl hl (by decide) rfl (fun ls hl => ?_)
  refine lv_iload_n hx hb d_X2_nearest_73 rfl (lv_at hl 0 rfl) ?_
  refine n_if_eq (tgt := 102) hx hb d_X2_nearest_74 (by decide) (by omega) (fun _ => ?_) (fun c => absurd c (by decide))
  refine lv_iconst (v := nI 0) hx hb d_X2_nearest_102 (by decide) ?_
  refine lv_istore (lv' := [(4, .int (nI 0)), (3, .int (nI 0)), (0, .ref h), (1, .int (nI r)), (2, .int (nI k))]) hx hb d_X2_nearest_103 hl (by decide) rfl (fun ls hl => ?_)
  refine lv_aload_n hx hb d_X2_nearest_105 rfl (lv_at hl 2 rfl) ?_
  refine lv_iload_n hx hb d_X2_nearest_106 rfl (lv_at hl 4 rfl) ?_
  refine lv_iload hx hb d_X2_nearest_107 (lv_at hl 0 rfl) ?_
  refine x_call (st1 := []) (x_runV (As := [.int (nI k), .int (nI 0)]) (rest := []) (nL := 5) ⟨hx, hb, hml, hown, hts⟩ (c_X2_halve hok (k := k) (f := 0) hk8 (by omega) _) (cwV 2 hts (gw_V k_642 k_644 k_48 k_52 k_645) rfl rfl rfl (by decide +kernel) ⟨Nat.le_of_ble_eq_true rfl, Nat.le_of_ble_eq_true rfl⟩) hK hP hD 0 2 rfl rfl rfl hl.1 rfl (Nat.le_of_ble_eq_true rfl) d_X2_nearest_109 ⟨Nat.zero_le _, Nat.zero_le _⟩) hS (x_sub hD hS hA) (x_sub hD hS hA) rfl (fun w1 H locs hY hP hD hS => ?_)
  subst hY
  have hok := mHfZ_ok (sg := mLoadG w g r 0 z sg) (k := k) (f := 0) hok
  refine lv_aload_n hx hb d_X2_nearest_112 rfl (lv_at hl 2 rfl) ?_
  refine lv_iload_n hx hb d_X2_nearest_113 rfl (lv_at hl 3 rfl) ?_
  refine lv_iconst (v := nI 1) hx hb d_X2_nearest_114 (by decide) ?_
  refine x_call (st1 := [.int (mKSg (mHfS (mLoadG w g r 0 z sg) k 0 (mLoadZ w g r 0 z)) w (mHfZ (mLoadG w g r 0 z sg) k 0 (mLoadZ w g r 0 z)) r 1 g 2)]) (x_runV (As := [.int (nI r), .int (nI 1)]) (rest := []) (nL := 5) ⟨hx, hb, hml, hown, hts⟩ (c_X2_kept hok (b := 1) (r := r) (t := t) (by omega) (by omega) hlow _) (cwV 2 hts (gw_V k_601 k_603 k_45 k_52 k_604) rfl rfl rfl (by decide +kernel) ⟨Nat.le_of_ble_eq_true rfl, Nat.le_of_ble_eq_true rfl⟩) hK hP hD 0 2 rfl rfl rfl hl.1 rfl (Nat.le_of_ble_eq_true rfl) d_X2_nearest_115 ⟨Nat.zero_le _, Nat.zero_le _⟩) hS (x_sub hD hS hA) (x_sub hD hS hA) rfl (fun w1 H locs hY hP hD hS => ?_)
  subst hY
  exact x_iret hx hb hr hlocks hP hD hS d_X2_nearest_118 rfl rfl
set_option maxHeartbeats 800000 in
set_option maxRecDepth 100000 in
theorem c_X2_nearest_3 {l : Launch} {D : va_G} {Rs : va_W} {cA cR cL : ClassId} {h aw ar ag az : Nat} {cd : Int32} {w g : Nat → Nat} {sg : Nat → Int32} {z : Nat → Nat} (hok : mdOk w g z) {r : Nat} (hr64 : r < 64) {k : Nat} (hk8 : k ≤ 8192) (hk0 : 0 < k) (hsg : ¬ ((mLoadG w g r 0 z sg) 0) = 0) (hbt : (mBit (mLoadZ w g r 0 z) 0 (k - 1)) = 1) {t0 : Nat} (ht : t0 < 17600) (ht1 : mBit (mLoadZ w g r 0 z) 0 t0 = 1) (ht0 : ∀ k, k < t0 → mBit (mLoadZ w g r 0 z) 0 k = 0) (htk : t0 < (k - 1)) {t : Nat} (hlow : ¬ 0 ≤ (mHfS (mLoadG w g r 0 z sg) k 1 (mLoadZ w g r 0 z)) 1 → mLow (mHfZ (mLoadG w g r 0 z sg) k 1 (mLoadZ w g r 0 z)) 1 t) : xC l y_X2_nearest w_X2_nearest ({ frames := 5, cells := 0, slots := 0, locals := 115 }) D cls0 (ty3 cA cR cL) [.ref h, .int (nI r), .int (nI k)] (md cA h aw ar ag az cd w g sg z Rs) (some (.int (mKSg (mHfS (mLoadG w g r 0 z sg) k 1 (mLoadZ w g r 0 z)) w (mHfZ (mLoadG w g r 0 z sg) k 1 (mLoadZ w g r 0 z)) r 1 g 2))) (fun w1 => w1 = md cA h aw ar ag az (nI 0) w (mStore (mHfS (mLoadG w g r 0 z sg) k 1 (mLoadZ w g r 0 z)) w (mHfZ (mLoadG w g r 0 z sg) k 1 (mLoadZ w g r 0 z)) r 1 g) (mKSg (mHfS (mLoadG w g r 0 z sg) k 1 (mLoadZ w g r 0 z)) w (mHfZ (mLoadG w g r 0 z sg) k 1 (mLoadZ w g r 0 z)) r 1 g) (mKZ (mHfS (mLoadG w g r 0 z sg) k 1 (mLoadZ w g r 0 z)) w (mHfZ (mLoadG w g r 0 z sg) k 1 (mLoadZ w g r 0 z)) r 1 g) Rs) 0 0 := by
  refine xC.ofW (cc := b_X2_nearest) (maxL := 5) (ret := some .int) (by decide) rfl (Nat.le_of_ble_eq_true rfl) ?_
  intro p e s m below meth c A ls _ hin hx hb hr hml hown hts hlocks hA hK hP hD hS hl
  have hts : ∀ w ∈ gw, w.before ([.ref h, .int (nI r), .int (nI k)]).toArray s = true := fun w h => hts w (List.mem_cons_of_mem _ h)
  have hown : s.vm.findClass R_Md = some m.cls := hown
  have hl : lv_has ls 5 [(0, .ref h), (1, .int (nI r)), (2, .int (nI k))] := hl
  refine lv_aload_n hx hb d_X2_nearest_0 rfl (lv_at hl 0 rfl) ?_
  refine lv_iload_n hx hb d_X2_nearest_1 rfl (lv_at hl 1 rfl) ?_
  refine x_callR (st1 := [.int (mIsRow (nI r)), .ref h]) (x_runS (As := [.int (nI r)]) (rest := [.ref h]) (nL := 5) ⟨hx, hb, hml, hown, hts⟩ (c_X2_isRow (nI r) _) (cwS 1 hts (gw_S k_511 k_512 k_52 k_513) rfl rfl rfl (by decide +kernel) ⟨Nat.le_of_ble_eq_true rfl, Nat.le_of_ble_eq_true rfl⟩) hK hP hD rfl hl.1 rfl (Nat.le_of_ble_eq_true rfl) d_X2_nearest_2 ⟨Nat.zero_le _, Nat.zero_le _⟩) rfl ?_
  rw [mIsRow_1 (show r < 64 by omega)]
  refine n_if_ne (tgt := 12) hx hb d_X2_nearest_5 (by decide) (by omega) (fun _ => ?_) (fun c => absurd c (by decide))
  refine lv_iload_n hx hb d_X2_nearest_12 rfl (lv_at hl 2 rfl) ?_
  refine n_if_lt (tgt := 23) hx hb d_X2_nearest_13 (by decide) (by omega) ?_
  refine lv_iload_n hx hb d_X2_nearest_16 rfl (lv_at hl 2 rfl) ?_
  refine lv_sipush (v := nI 8192) hx hb d_X2_nearest_17 (by decide) ?_
  refine n_icmp_le (tgt := 27) hx hb d_X2_nearest_20 (by decide) (by omega) (by omega) (fun _ => ?_) (fun c9 => absurd c9 (by omega))
  refine lv_iconst (v := nI 0) hx hb d_X2_nearest_27 (by decide) ?_
  refine x_call (st1 := [.int (mRef (nI 0))]) (x_runV (As := [.int (nI 0)]) (rest := []) (nL := 5) ⟨hx, hb, hml, hown, hts⟩ (c_X2_refuses (nI 0) _) (cwV 1 hts (gw_V k_514 k_516 k_30 k_52 k_517) rfl rfl rfl (by decide +kernel) ⟨Nat.le_of_ble_eq_true rfl, Nat.le_of_ble_eq_true rfl⟩) hK hP hD 0 2 rfl rfl rfl hl.1 rfl (Nat.le_of_ble_eq_true rfl) d_X2_nearest_28 ⟨Nat.zero_le _, Nat.zero_le _⟩) hS (x_sub hD hS hA) (x_sub hD hS hA) rfl (fun w1 H locs hY hP hD hS => ?_)
  subst hY
  rw [mRef_0]
  refine n_if_eq (tgt := 36) hx hb d_X2_nearest_31 (by decide) (by omega) (fun _ => ?_) (fun c => absurd c (by decide))
  refine lv_aload_n hx hb d_X2_nearest_36 rfl (lv_at hl 0 rfl) ?_
  refine lv_iconst (v := nI 0) hx hb d_X2_nearest_37 (by decide) ?_
  refine lv_iload_n hx hb d_X2_nearest_38 rfl (lv_at hl 1 rfl) ?_
  refine x_call (st1 := []) (x_runV (As := [.int (nI 0), .int (nI r)]) (rest := []) (nL := 5) ⟨hx, hb, hml, hown, hts⟩ (c_X2_load hok (b := 0) (r := r) (by omega) (by omega) _) (cwV 2 hts (gw_V k_518 k_520 k_31 k_52 k_521) rfl rfl rfl (by decide +kernel) ⟨Nat.le_of_ble_eq_true rfl, Nat.le_of_ble_eq_true rfl⟩) hK hP hD 0 2 rfl rfl rfl hl.1 rfl (Nat.le_of_ble_eq_true rfl) d_X2_nearest_39 ⟨Nat.zero_le _, Nat.zero_le _⟩) hS (x_sub hD hS hA) (x_sub hD hS hA) rfl (fun w1 H locs hY hP hD hS => ?_)
  subst hY
  have hok := mLoadZ_ok (r := r) (b := 0) hok
  refine lv_iload_n hx hb d_X2_nearest_42 rfl (lv_at hl 2 rfl) ?_
  refine n_if_le (tgt := 71) hx hb d_X2_nearest_43 (by decide) (by omega) (fun c9 => absurd c9 (by omega)) (fun _ => ?_)
  refine lv_aload_n hx hb d_X2_nearest_46 rfl (lv_at hl 0 rfl) ?_
  refine m_getG hx hb hts hown hK hP d_X2_nearest_47 ?_
  refine lv_iconst (v := nI 0) hx hb d_X2_nearest_50 (by decide) ?_
  refine m_aldG hx hb hK hP (j := 0) (by omega) d_X2_nearest_51 ?_
  refine lv_if_eq (tgt := 71) hx hb d_X2_nearest_52 (by decide) (fun c9 => absurd c9 hsg) (fun _ => ?_)
  refine lv_aload_n hx hb d_X2_nearest_55 rfl (lv_at hl 0 rfl) ?_
  refine lv_iconst (v := nI 0) hx hb d_X2_nearest_56 (by decide) ?_
  refine lv_iload_n hx hb d_X2_nearest_57 rfl (lv_at hl 2 rfl) ?_
  refine lv_iconst (v := nI 1) hx hb d_X2_nearest_58 (by decide) ?_
  refine n_isub hx hb d_X2_nearest_59 (by omega) ?_
  refine x_callR (st1 := [.int (nI (mBit (mLoadZ w g r 0 z) 0 (k - 1)))]) (x_runV (As := [.int (nI 0), .int (nI (k - 1))]) (rest := []) (nL := 5) ⟨hx, hb, hml, hown, hts⟩ (c_X2_bit hok (b := 0) (k := k - 1) (by omega) (by omega) _) (cwV 2 hts (gw_V k_548 k_550 k_38 k_52 k_551) rfl rfl rfl (by decide +kernel) ⟨Nat.le_of_ble_eq_true rfl, Nat.le_of_ble_eq_true rfl⟩) hK hP hD 0 2 rfl rfl rfl hl.1 rfl (Nat.le_of_ble_eq_true rfl) d_X2_nearest_60 ⟨Nat.zero_le _, Nat.zero_le _⟩) rfl ?_
  refine lv_iconst (v := nI 1) hx hb d_X2_nearest_63 (by decide) ?_
  refine n_icmp_ne (tgt := 71) hx hb d_X2_nearest_64 (by decide) (Nat.lt_of_lt_of_le (mBit_lt _ _ _) (by decide)) (by omega) (fun c9 => absurd c9 (by omega)) (fun _ => ?_)
  refine lv_iconst (v := nI 1) hx hb d_X2_nearest_67 (by decide) ?_
  refine lv_goto (tgt := 72) hx hb d_X2_nearest_68 (by decide) ?_
  refine lv_istore_n (lv' := [(3, .int (nI 1)), (0, .ref h), (1, .int (nI r)), (2, .int (nI k))]) hx hb d_X2_nearest_72 rfl hl (by decide) rfl (fun ls hl => ?_)
  refine lv_iload_n hx hb d_X2_nearest_73 rfl (lv_at hl 0 rfl) ?_
  refine n_if_eq (tgt := 102) hx hb d_X2_nearest_74 (by decide) (by omega) (fun c => absurd c (by decide)) (fun _ => ?_)
  refine lv_aload_n hx hb d_X2_nearest_77 rfl (lv_at hl 1 rfl) ?_
  refine lv_iconst (v := nI 0) hx hb d_X2_nearest_78 (by decide) ?_
  refine x_callR (st1 := [.int (nI t0)]) (x_runV (As := [.int (nI 0)]) (rest := []) (nL := 5) ⟨hx, hb, hml, hown, hts⟩ (c_X2_zerosOf hok (by omega) ht ht1 ht0 _) (cwV 1 hts (gw_V k_544 k_546 k_37 k_52 k_547) rfl rfl rfl (by decide +kernel) ⟨Nat.le_of_ble_eq_true rfl, Nat.le_of_ble_eq_true rfl⟩) hK hP hD 0 2 rfl rfl rfl hl.1 rfl (Nat.le_of_ble_eq_true rfl) d_X2_nearest_79 ⟨Nat.zero_le _, Nat.zero_le _⟩) rfl ?_
  refine lv_iload_n hx hb d_X2_nearest_82 rfl (lv_at hl 3 rfl) ?_
  refine lv_iconst (v := nI 1) hx hb d_X2_nearest_83 (by decide) ?_
  refine n_isub hx hb d_X2_nearest_84 (by omega) ?_
  refine n_icmp_lt (tgt := 98) hx hb d_X2_nearest_85 (by decide) (by omega) (by omega) (fun _ => ?_) (fun c9 => absurd c9 (by omega))
  refine lv_iconst (v := nI 1) hx hb d_X2_nearest_98 (by decide) ?_
  refine lv_goto (tgt := 103) hx hb d_X2_nearest_99 (by decide) ?_
  refine lv_istore (lv' := [(4, .int (nI 1)), (3, .int (nI 1)), (0, .ref h), (1, .int (nI r)), (2, .int (nI k))]) hx hb d_X2_nearest_103 hl (by decide) rfl (fun ls hl => ?_)
  refine lv_aload_n hx hb d_X2_nearest_105 rfl (lv_at hl 2 rfl) ?_
  refine lv_iload_n hx hb d_X2_nearest_106 rfl (lv_at hl 4 rfl) ?_
  refine lv_iload hx hb d_X2_nearest_107 (lv_at hl 0 rfl) ?_
  refine x_call (st1 := []) (x_runV (As := [.int (nI k), .int (nI 1)]) (rest := []) (nL := 5) ⟨hx, hb, hml, hown, hts⟩ (c_X2_halve hok (k := k) (f := 1) hk8 (by omega) _) (cwV 2 hts (gw_V k_642 k_644 k_48 k_52 k_645) rfl rfl rfl (by decide +kernel) ⟨Nat.le_of_ble_eq_true rfl, Nat.le_of_ble_eq_true rfl⟩) hK hP hD 0 2 rfl rfl rfl hl.1 rfl (Nat.le_of_ble_eq_true rfl) d_X2_nearest_109 ⟨Nat.zero_le _, Nat.zero_le _⟩) hS (x_sub hD hS hA) (x_sub hD hS hA) rfl (fun w1 H locs hY hP hD hS => ?_)
  subst hY
  have hok := mHfZ_ok (sg := mLoadG w g r 0 z sg) (k := k) (f := 1) hok
  refine lv_aload_n hx hb d_X2_nearest_112 rfl (lv_at hl 2 rfl) ?_
  refine lv_iload_n hx hb d_X2_nearest_113 rfl (lv_at hl 3 rfl) ?_
  refine lv_iconst (v := nI 1) hx hb d_X2_nearest_114 (by decide) ?_
  refine x_call (st1 := [.int (mKSg (mHfS (mLoadG w g r 0 z sg) k 1 (mLoadZ w g r 0 z)) w (mHfZ (mLoadG w g r 0 z sg) k 1 (mLoadZ w g r 0 z)) r 1 g 2)]) (x_runV (As := [.int (nI r), .int (nI 1)]) (rest := []) (nL := 5) ⟨hx, hb, hml, hown, hts⟩ (c_X2_kept hok (b := 1) (r := r) (t := t) (by omega) (by omega) hlow _) (cwV 2 hts (gw_V k_601 k_603 k_45 k_52 k_604) rfl rfl rfl (by decide +kernel) ⟨Nat.le_of_ble_eq_true rfl, Nat.le_of_ble_eq_true rfl⟩) hK hP hD 0 2 rfl rfl rfl hl.1 rfl (Nat.le_of_ble_eq_true rfl) d_X2_nearest_115 ⟨Nat.zero_le _, Nat.zero_le _⟩) hS (x_sub hD hS hA) (x_sub hD hS hA) rfl (fun w1 H locs hY hP hD hS => ?_)
  subst hY
  exact x_iret hx hb hr hlocks hP hD hS d_X2_nearest_118 rfl rfl
set_option maxHeartbeats 800000 in
set_option maxRecDepth 100000 in
theorem c_X2_nearest_4 {l : Launch} {D : va_G} {Rs : va_W} {cA cR cL : ClassId} {h aw ar ag az : Nat} {cd : Int32} {w g : Nat → Nat} {sg : Nat → Int32} {z : Nat → Nat} (hok : mdOk w g z) {r : Nat} (hr64 : r < 64) {k : Nat} (hk8 : k ≤ 8192) (hk0 : 0 < k) (hsg : ¬ ((mLoadG w g r 0 z sg) 0) = 0) (hbt : (mBit (mLoadZ w g r 0 z) 0 (k - 1)) = 1) {t0 : Nat} (ht : t0 < 17600) (ht1 : mBit (mLoadZ w g r 0 z) 0 t0 = 1) (ht0 : ∀ k, k < t0 → mBit (mLoadZ w g r 0 z) 0 k = 0) (htk : (k - 1) ≤ t0) (hbk : (mBit (mLoadZ w g r 0 z) 0 k) = 1) {t : Nat} (hlow : ¬ 0 ≤ (mHfS (mLoadG w g r 0 z sg) k 1 (mLoadZ w g r 0 z)) 1 → mLow (mHfZ (mLoadG w g r 0 z sg) k 1 (mLoadZ w g r 0 z)) 1 t) : xC l y_X2_nearest w_X2_nearest ({ frames := 5, cells := 0, slots := 0, locals := 115 }) D cls0 (ty3 cA cR cL) [.ref h, .int (nI r), .int (nI k)] (md cA h aw ar ag az cd w g sg z Rs) (some (.int (mKSg (mHfS (mLoadG w g r 0 z sg) k 1 (mLoadZ w g r 0 z)) w (mHfZ (mLoadG w g r 0 z sg) k 1 (mLoadZ w g r 0 z)) r 1 g 2))) (fun w1 => w1 = md cA h aw ar ag az (nI 0) w (mStore (mHfS (mLoadG w g r 0 z sg) k 1 (mLoadZ w g r 0 z)) w (mHfZ (mLoadG w g r 0 z sg) k 1 (mLoadZ w g r 0 z)) r 1 g) (mKSg (mHfS (mLoadG w g r 0 z sg) k 1 (mLoadZ w g r 0 z)) w (mHfZ (mLoadG w g r 0 z sg) k 1 (mLoadZ w g r 0 z)) r 1 g) (mKZ (mHfS (mLoadG w g r 0 z sg) k 1 (mLoadZ w g r 0 z)) w (mHfZ (mLoadG w g r 0 z sg) k 1 (mLoadZ w g r 0 z)) r 1 g) Rs) 0 0 := by
  refine xC.ofW (cc := b_X2_nearest) (maxL := 5) (ret := some .int) (by decide) rfl (Nat.le_of_ble_eq_true rfl) ?_
  intro p e s m below meth c A ls _ hin hx hb hr hml hown hts hlocks hA hK hP hD hS hl
  have hts : ∀ w ∈ gw, w.before ([.ref h, .int (nI r), .int (nI k)]).toArray s = true := fun w h => hts w (List.mem_cons_of_mem _ h)
  have hown : s.vm.findClass R_Md = some m.cls := hown
  have hl : lv_has ls 5 [(0, .ref h), (1, .int (nI r)), (2, .int (nI k))] := hl
  refine lv_aload_n hx hb d_X2_nearest_0 rfl (lv_at hl 0 rfl) ?_
  refine lv_iload_n hx hb d_X2_nearest_1 rfl (lv_at hl 1 rfl) ?_
  refine x_callR (st1 := [.int (mIsRow (nI r)), .ref h]) (x_runS (As := [.int (nI r)]) (rest := [.ref h]) (nL := 5) ⟨hx, hb, hml, hown, hts⟩ (c_X2_isRow (nI r) _) (cwS 1 hts (gw_S k_511 k_512 k_52 k_513) rfl rfl rfl (by decide +kernel) ⟨Nat.le_of_ble_eq_true rfl, Nat.le_of_ble_eq_true rfl⟩) hK hP hD rfl hl.1 rfl (Nat.le_of_ble_eq_true rfl) d_X2_nearest_2 ⟨Nat.zero_le _, Nat.zero_le _⟩) rfl ?_
  rw [mIsRow_1 (show r < 64 by omega)]
  refine n_if_ne (tgt := 12) hx hb d_X2_nearest_5 (by decide) (by omega) (fun _ => ?_) (fun c => absurd c (by decide))
  refine lv_iload_n hx hb d_X2_nearest_12 rfl (lv_at hl 2 rfl) ?_
  refine n_if_lt (tgt := 23) hx hb d_X2_nearest_13 (by decide) (by omega) ?_
  refine lv_iload_n hx hb d_X2_nearest_16 rfl (lv_at hl 2 rfl) ?_
  refine lv_sipush (v := nI 8192) hx hb d_X2_nearest_17 (by decide) ?_
  refine n_icmp_le (tgt := 27) hx hb d_X2_nearest_20 (by decide) (by omega) (by omega) (fun _ => ?_) (fun c9 => absurd c9 (by omega))
  refine lv_iconst (v := nI 0) hx hb d_X2_nearest_27 (by decide) ?_
  refine x_call (st1 := [.int (mRef (nI 0))]) (x_runV (As := [.int (nI 0)]) (rest := []) (nL := 5) ⟨hx, hb, hml, hown, hts⟩ (c_X2_refuses (nI 0) _) (cwV 1 hts (gw_V k_514 k_516 k_30 k_52 k_517) rfl rfl rfl (by decide +kernel) ⟨Nat.le_of_ble_eq_true rfl, Nat.le_of_ble_eq_true rfl⟩) hK hP hD 0 2 rfl rfl rfl hl.1 rfl (Nat.le_of_ble_eq_true rfl) d_X2_nearest_28 ⟨Nat.zero_le _, Nat.zero_le _⟩) hS (x_sub hD hS hA) (x_sub hD hS hA) rfl (fun w1 H locs hY hP hD hS => ?_)
  subst hY
  rw [mRef_0]
  refine n_if_eq (tgt := 36) hx hb d_X2_nearest_31 (by decide) (by omega) (fun _ => ?_) (fun c => absurd c (by decide))
  refine lv_aload_n hx hb d_X2_nearest_36 rfl (lv_at hl 0 rfl) ?_
  refine lv_iconst (v := nI 0) hx hb d_X2_nearest_37 (by decide) ?_
  refine lv_iload_n hx hb d_X2_nearest_38 rfl (lv_at hl 1 rfl) ?_
  refine x_call (st1 := []) (x_runV (As := [.int (nI 0), .int (nI r)]) (rest := []) (nL := 5) ⟨hx, hb, hml, hown, hts⟩ (c_X2_load hok (b := 0) (r := r) (by omega) (by omega) _) (cwV 2 hts (gw_V k_518 k_520 k_31 k_52 k_521) rfl rfl rfl (by decide +kernel) ⟨Nat.le_of_ble_eq_true rfl, Nat.le_of_ble_eq_true rfl⟩) hK hP hD 0 2 rfl rfl rfl hl.1 rfl (Nat.le_of_ble_eq_true rfl) d_X2_nearest_39 ⟨Nat.zero_le _, Nat.zero_le _⟩) hS (x_sub hD hS hA) (x_sub hD hS hA) rfl (fun w1 H locs hY hP hD hS => ?_)
  subst hY
  have hok := mLoadZ_ok (r := r) (b := 0) hok
  refine lv_iload_n hx hb d_X2_nearest_42 rfl (lv_at hl 2 rfl) ?_
  refine n_if_le (tgt := 71) hx hb d_X2_nearest_43 (by decide) (by omega) (fun c9 => absurd c9 (by omega)) (fun _ => ?_)
  refine lv_aload_n hx hb d_X2_nearest_46 rfl (lv_at hl 0 rfl) ?_
  refine m_getG hx hb hts hown hK hP d_X2_nearest_47 ?_
  refine lv_iconst (v := nI 0) hx hb d_X2_nearest_50 (by decide) ?_
  refine m_aldG hx hb hK hP (j := 0) (by omega) d_X2_nearest_51 ?_
  refine lv_if_eq (tgt := 71) hx hb d_X2_nearest_52 (by decide) (fun c9 => absurd c9 hsg) (fun _ => ?_)
  refine lv_aload_n hx hb d_X2_nearest_55 rfl (lv_at hl 0 rfl) ?_
  refine lv_iconst (v := nI 0) hx hb d_X2_nearest_56 (by decide) ?_
  refine lv_iload_n hx hb d_X2_nearest_57 rfl (lv_at hl 2 rfl) ?_
  refine lv_iconst (v := nI 1) hx hb d_X2_nearest_58 (by decide) ?_
  refine n_isub hx hb d_X2_nearest_59 (by omega) ?_
  refine x_callR (st1 := [.int (nI (mBit (mLoadZ w g r 0 z) 0 (k - 1)))]) (x_runV (As := [.int (nI 0), .int (nI (k - 1))]) (rest := []) (nL := 5) ⟨hx, hb, hml, hown, hts⟩ (c_X2_bit hok (b := 0) (k := k - 1) (by omega) (by omega) _) (cwV 2 hts (gw_V k_548 k_550 k_38 k_52 k_551) rfl rfl rfl (by decide +kernel) ⟨Nat.le_of_ble_eq_true rfl, Nat.le_of_ble_eq_true rfl⟩) hK hP hD 0 2 rfl rfl rfl hl.1 rfl (Nat.le_of_ble_eq_true rfl) d_X2_nearest_60 ⟨Nat.zero_le _, Nat.zero_le _⟩) rfl ?_
  refine lv_iconst (v := nI 1) hx hb d_X2_nearest_63 (by decide) ?_
  refine n_icmp_ne (tgt := 71) hx hb d_X2_nearest_64 (by decide) (Nat.lt_of_lt_of_le (mBit_lt _ _ _) (by decide)) (by omega) (fun c9 => absurd c9 (by omega)) (fun _ => ?_)
  refine lv_iconst (v := nI 1) hx hb d_X2_nearest_67 (by decide) ?_
  refine lv_goto (tgt := 72) hx hb d_X2_nearest_68 (by decide) ?_
  refine lv_istore_n (lv' := [(3, .int (nI 1)), (0, .ref h), (1, .int (nI r)), (2, .int (nI k))]) hx hb d_X2_nearest_72 rfl hl (by decide) rfl (fun ls hl => ?_)
  refine lv_iload_n hx hb d_X2_nearest_73 rfl (lv_at hl 0 rfl) ?_
  refine n_if_eq (tgt := 102) hx hb d_X2_nearest_74 (by decide) (by omega) (fun c => absurd c (by decide)) (fun _ => ?_)
  refine lv_aload_n hx hb d_X2_nearest_77 rfl (lv_at hl 1 rfl) ?_
  refine lv_iconst (v := nI 0) hx hb d_X2_nearest_78 (by decide) ?_
  refine x_callR (st1 := [.int (nI t0)]) (x_runV (As := [.int (nI 0)]) (rest := []) (nL := 5) ⟨hx, hb, hml, hown, hts⟩ (c_X2_zerosOf hok (by omega) ht ht1 ht0 _) (cwV 1 hts (gw_V k_544 k_546 k_37 k_52 k_547) rfl rfl rfl (by decide +kernel) ⟨Nat.le_of_ble_eq_true rfl, Nat.le_of_ble_eq_true rfl⟩) hK hP hD 0 2 rfl rfl rfl hl.1 rfl (Nat.le_of_ble_eq_true rfl) d_X2_nearest_79 ⟨Nat.zero_le _, Nat.zero_le _⟩) rfl ?_
  refine lv_iload_n hx hb d_X2_nearest_82 rfl (lv_at hl 3 rfl) ?_
  refine lv_iconst (v := nI 1) hx hb d_X2_nearest_83 (by decide) ?_
  refine n_isub hx hb d_X2_nearest_84 (by omega) ?_
  refine n_icmp_lt (tgt := 98) hx hb d_X2_nearest_85 (by decide) (by omega) (by omega) (fun c9 => absurd c9 (by omega)) (fun _ => ?_)
  refine lv_aload_n hx hb d_X2_nearest_88 rfl (lv_at hl 1 rfl) ?_
  refine lv_iconst (v := nI 0) hx hb d_X2_nearest_89 (by decide) ?_
  refine lv_iload_n hx hb d_X2_nearest_90 rfl (lv_at hl 3 rfl) ?_
  refine x_callR (st1 := [.int (nI (mBit (mLoadZ w g r 0 z) 0 k))]) (x_runV (As := [.int (nI 0), .int (nI k)]) (rest := []) (nL := 5) ⟨hx, hb, hml, hown, hts⟩ (c_X2_bit hok (b := 0) (k := k) (by omega) (by omega) _) (cwV 2 hts (gw_V k_548 k_550 k_38 k_52 k_551) rfl rfl rfl (by decide +kernel) ⟨Nat.le_of_ble_eq_true rfl, Nat.le_of_ble_eq_true rfl⟩) hK hP hD 0 2 rfl rfl rfl hl.1 rfl (Nat.le_of_ble_eq_true rfl) d_X2_nearest_91 ⟨Nat.zero_le _, Nat.zero_le _⟩) rfl ?_
  refine lv_iconst (v := nI 1) hx hb d_X2_nearest_94 (by decide) ?_
  refine n_icmp_ne (tgt := 102) hx hb d_X2_nearest_95 (by decide) (Nat.lt_of_lt_of_le (mBit_lt _ _ _) (by decide)) (by omega) (fun c9 => absurd c9 (by omega)) (fun _ => ?_)
  refine lv_iconst (v := nI 1) hx hb d_X2_nearest_98 (by decide) ?_
  refine lv_goto (tgt := 103) hx hb d_X2_nearest_99 (by decide) ?_
  refine lv_istore (lv' := [(4, .int (nI 1)), (3, .int (nI 1)), (0, .ref h), (1, .int (nI r)), (2, .int (nI k))]) hx hb d_X2_nearest_103 hl (by decide) rfl (fun ls hl => ?_)
  refine lv_aload_n hx hb d_X2_nearest_105 rfl (lv_at hl 2 rfl) ?_
  refine lv_iload_n hx hb d_X2_nearest_106 rfl (lv_at hl 4 rfl) ?_
  refine lv_iload hx hb d_X2_nearest_107 (lv_at hl 0 rfl) ?_
  refine x_call (st1 := []) (x_runV (As := [.int (nI k), .int (nI 1)]) (rest := []) (nL := 5) ⟨hx, hb, hml, hown, hts⟩ (c_X2_halve hok (k := k) (f := 1) hk8 (by omega) _) (cwV 2 hts (gw_V k_642 k_644 k_48 k_52 k_645) rfl rfl rfl (by decide +kernel) ⟨Nat.le_of_ble_eq_true rfl, Nat.le_of_ble_eq_true rfl⟩) hK hP hD 0 2 rfl rfl rfl hl.1 rfl (Nat.le_of_ble_eq_true rfl) d_X2_nearest_109 ⟨Nat.zero_le _, Nat.zero_le _⟩) hS (x_sub hD hS hA) (x_sub hD hS hA) rfl (fun w1 H locs hY hP hD hS => ?_)
  subst hY
  have hok := mHfZ_ok (sg := mLoadG w g r 0 z sg) (k := k) (f := 1) hok
  refine lv_aload_n hx hb d_X2_nearest_112 rfl (lv_at hl 2 rfl) ?_
  refine lv_iload_n hx hb d_X2_nearest_113 rfl (lv_at hl 3 rfl) ?_
  refine lv_iconst (v := nI 1) hx hb d_X2_nearest_114 (by decide) ?_
  refine x_call (st1 := [.int (mKSg (mHfS (mLoadG w g r 0 z sg) k 1 (mLoadZ w g r 0 z)) w (mHfZ (mLoadG w g r 0 z sg) k 1 (mLoadZ w g r 0 z)) r 1 g 2)]) (x_runV (As := [.int (nI r), .int (nI 1)]) (rest := []) (nL := 5) ⟨hx, hb, hml, hown, hts⟩ (c_X2_kept hok (b := 1) (r := r) (t := t) (by omega) (by omega) hlow _) (cwV 2 hts (gw_V k_601 k_603 k_45 k_52 k_604) rfl rfl rfl (by decide +kernel) ⟨Nat.le_of_ble_eq_true rfl, Nat.le_of_ble_eq_true rfl⟩) hK hP hD 0 2 rfl rfl rfl hl.1 rfl (Nat.le_of_ble_eq_true rfl) d_X2_nearest_115 ⟨Nat.zero_le _, Nat.zero_le _⟩) hS (x_sub hD hS hA) (x_sub hD hS hA) rfl (fun w1 H locs hY hP hD hS => ?_)
  subst hY
  exact x_iret hx hb hr hlocks hP hD hS d_X2_nearest_118 rfl rfl
set_option maxHeartbeats 800000 in
set_option maxRecDepth 100000 in
theorem c_X2_nearest_5 {l : Launch} {D : va_G} {Rs : va_W} {cA cR cL : ClassId} {h aw ar ag az : Nat} {cd : Int32} {w g : Nat → Nat} {sg : Nat → Int32} {z : Nat → Nat} (hok : mdOk w g z) {r : Nat} (hr64 : r < 64) {k : Nat} (hk8 : k ≤ 8192) (hk0 : 0 < k) (hsg : ¬ ((mLoadG w g r 0 z sg) 0) = 0) (hbt : (mBit (mLoadZ w g r 0 z) 0 (k - 1)) = 1) {t0 : Nat} (ht : t0 < 17600) (ht1 : mBit (mLoadZ w g r 0 z) 0 t0 = 1) (ht0 : ∀ k, k < t0 → mBit (mLoadZ w g r 0 z) 0 k = 0) (htk : (k - 1) ≤ t0) (hbk : (mBit (mLoadZ w g r 0 z) 0 k) ≠ 1) {t : Nat} (hlow : ¬ 0 ≤ (mHfS (mLoadG w g r 0 z sg) k 0 (mLoadZ w g r 0 z)) 1 → mLow (mHfZ (mLoadG w g r 0 z sg) k 0 (mLoadZ w g r 0 z)) 1 t) : xC l y_X2_nearest w_X2_nearest ({ frames := 5, cells := 0, slots := 0, locals := 115 }) D cls0 (ty3 cA cR cL) [.ref h, .int (nI r), .int (nI k)] (md cA h aw ar ag az cd w g sg z Rs) (some (.int (mKSg (mHfS (mLoadG w g r 0 z sg) k 0 (mLoadZ w g r 0 z)) w (mHfZ (mLoadG w g r 0 z sg) k 0 (mLoadZ w g r 0 z)) r 1 g 2))) (fun w1 => w1 = md cA h aw ar ag az (nI 0) w (mStore (mHfS (mLoadG w g r 0 z sg) k 0 (mLoadZ w g r 0 z)) w (mHfZ (mLoadG w g r 0 z sg) k 0 (mLoadZ w g r 0 z)) r 1 g) (mKSg (mHfS (mLoadG w g r 0 z sg) k 0 (mLoadZ w g r 0 z)) w (mHfZ (mLoadG w g r 0 z sg) k 0 (mLoadZ w g r 0 z)) r 1 g) (mKZ (mHfS (mLoadG w g r 0 z sg) k 0 (mLoadZ w g r 0 z)) w (mHfZ (mLoadG w g r 0 z sg) k 0 (mLoadZ w g r 0 z)) r 1 g) Rs) 0 0 := by
  refine xC.ofW (cc := b_X2_nearest) (maxL := 5) (ret := some .int) (by decide) rfl (Nat.le_of_ble_eq_true rfl) ?_
  intro p e s m below meth c A ls _ hin hx hb hr hml hown hts hlocks hA hK hP hD hS hl
  have hts : ∀ w ∈ gw, w.before ([.ref h, .int (nI r), .int (nI k)]).toArray s = true := fun w h => hts w (List.mem_cons_of_mem _ h)
  have hown : s.vm.findClass R_Md = some m.cls := hown
  have hl : lv_has ls 5 [(0, .ref h), (1, .int (nI r)), (2, .int (nI k))] := hl
  refine lv_aload_n hx hb d_X2_nearest_0 rfl (lv_at hl 0 rfl) ?_
  refine lv_iload_n hx hb d_X2_nearest_1 rfl (lv_at hl 1 rfl) ?_
  refine x_callR (st1 := [.int (mIsRow (nI r)), .ref h]) (x_runS (As := [.int (nI r)]) (rest := [.ref h]) (nL := 5) ⟨hx, hb, hml, hown, hts⟩ (c_X2_isRow (nI r) _) (cwS 1 hts (gw_S k_511 k_512 k_52 k_513) rfl rfl rfl (by decide +kernel) ⟨Nat.le_of_ble_eq_true rfl, Nat.le_of_ble_eq_true rfl⟩) hK hP hD rfl hl.1 rfl (Nat.le_of_ble_eq_true rfl) d_X2_nearest_2 ⟨Nat.zero_le _, Nat.zero_le _⟩) rfl ?_
  rw [mIsRow_1 (show r < 64 by omega)]
  refine n_if_ne (tgt := 12) hx hb d_X2_nearest_5 (by decide) (by omega) (fun _ => ?_) (fun c => absurd c (by decide))
  refine lv_iload_n hx hb d_X2_nearest_12 rfl (lv_at hl 2 rfl) ?_
  refine n_if_lt (tgt := 23) hx hb d_X2_nearest_13 (by decide) (by omega) ?_
  refine lv_iload_n hx hb d_X2_nearest_16 rfl (lv_at hl 2 rfl) ?_
  refine lv_sipush (v := nI 8192) hx hb d_X2_nearest_17 (by decide) ?_
  refine n_icmp_le (tgt := 27) hx hb d_X2_nearest_20 (by decide) (by omega) (by omega) (fun _ => ?_) (fun c9 => absurd c9 (by omega))
  refine lv_iconst (v := nI 0) hx hb d_X2_nearest_27 (by decide) ?_
  refine x_call (st1 := [.int (mRef (nI 0))]) (x_runV (As := [.int (nI 0)]) (rest := []) (nL := 5) ⟨hx, hb, hml, hown, hts⟩ (c_X2_refuses (nI 0) _) (cwV 1 hts (gw_V k_514 k_516 k_30 k_52 k_517) rfl rfl rfl (by decide +kernel) ⟨Nat.le_of_ble_eq_true rfl, Nat.le_of_ble_eq_true rfl⟩) hK hP hD 0 2 rfl rfl rfl hl.1 rfl (Nat.le_of_ble_eq_true rfl) d_X2_nearest_28 ⟨Nat.zero_le _, Nat.zero_le _⟩) hS (x_sub hD hS hA) (x_sub hD hS hA) rfl (fun w1 H locs hY hP hD hS => ?_)
  subst hY
  rw [mRef_0]
  refine n_if_eq (tgt := 36) hx hb d_X2_nearest_31 (by decide) (by omega) (fun _ => ?_) (fun c => absurd c (by decide))
  refine lv_aload_n hx hb d_X2_nearest_36 rfl (lv_at hl 0 rfl) ?_
  refine lv_iconst (v := nI 0) hx hb d_X2_nearest_37 (by decide) ?_
  refine lv_iload_n hx hb d_X2_nearest_38 rfl (lv_at hl 1 rfl) ?_
  refine x_call (st1 := []) (x_runV (As := [.int (nI 0), .int (nI r)]) (rest := []) (nL := 5) ⟨hx, hb, hml, hown, hts⟩ (c_X2_load hok (b := 0) (r := r) (by omega) (by omega) _) (cwV 2 hts (gw_V k_518 k_520 k_31 k_52 k_521) rfl rfl rfl (by decide +kernel) ⟨Nat.le_of_ble_eq_true rfl, Nat.le_of_ble_eq_true rfl⟩) hK hP hD 0 2 rfl rfl rfl hl.1 rfl (Nat.le_of_ble_eq_true rfl) d_X2_nearest_39 ⟨Nat.zero_le _, Nat.zero_le _⟩) hS (x_sub hD hS hA) (x_sub hD hS hA) rfl (fun w1 H locs hY hP hD hS => ?_)
  subst hY
  have hok := mLoadZ_ok (r := r) (b := 0) hok
  refine lv_iload_n hx hb d_X2_nearest_42 rfl (lv_at hl 2 rfl) ?_
  refine n_if_le (tgt := 71) hx hb d_X2_nearest_43 (by decide) (by omega) (fun c9 => absurd c9 (by omega)) (fun _ => ?_)
  refine lv_aload_n hx hb d_X2_nearest_46 rfl (lv_at hl 0 rfl) ?_
  refine m_getG hx hb hts hown hK hP d_X2_nearest_47 ?_
  refine lv_iconst (v := nI 0) hx hb d_X2_nearest_50 (by decide) ?_
  refine m_aldG hx hb hK hP (j := 0) (by omega) d_X2_nearest_51 ?_
  refine lv_if_eq (tgt := 71) hx hb d_X2_nearest_52 (by decide) (fun c9 => absurd c9 hsg) (fun _ => ?_)
  refine lv_aload_n hx hb d_X2_nearest_55 rfl (lv_at hl 0 rfl) ?_
  refine lv_iconst (v := nI 0) hx hb d_X2_nearest_56 (by decide) ?_
  refine lv_iload_n hx hb d_X2_nearest_57 rfl (lv_at hl 2 rfl) ?_
  refine lv_iconst (v := nI 1) hx hb d_X2_nearest_58 (by decide) ?_
  refine n_isub hx hb d_X2_nearest_59 (by omega) ?_
  refine x_callR (st1 := [.int (nI (mBit (mLoadZ w g r 0 z) 0 (k - 1)))]) (x_runV (As := [.int (nI 0), .int (nI (k - 1))]) (rest := []) (nL := 5) ⟨hx, hb, hml, hown, hts⟩ (c_X2_bit hok (b := 0) (k := k - 1) (by omega) (by omega) _) (cwV 2 hts (gw_V k_548 k_550 k_38 k_52 k_551) rfl rfl rfl (by decide +kernel) ⟨Nat.le_of_ble_eq_true rfl, Nat.le_of_ble_eq_true rfl⟩) hK hP hD 0 2 rfl rfl rfl hl.1 rfl (Nat.le_of_ble_eq_true rfl) d_X2_nearest_60 ⟨Nat.zero_le _, Nat.zero_le _⟩) rfl ?_
  refine lv_iconst (v := nI 1) hx hb d_X2_nearest_63 (by decide) ?_
  refine n_icmp_ne (tgt := 71) hx hb d_X2_nearest_64 (by decide) (Nat.lt_of_lt_of_le (mBit_lt _ _ _) (by decide)) (by omega) (fun c9 => absurd c9 (by omega)) (fun _ => ?_)
  refine lv_iconst (v := nI 1) hx hb d_X2_nearest_67 (by decide) ?_
  refine lv_goto (tgt := 72) hx hb d_X2_nearest_68 (by decide) ?_
  refine lv_istore_n (lv' := [(3, .int (nI 1)), (0, .ref h), (1, .int (nI r)), (2, .int (nI k))]) hx hb d_X2_nearest_72 rfl hl (by decide) rfl (fun ls hl => ?_)
  refine lv_iload_n hx hb d_X2_nearest_73 rfl (lv_at hl 0 rfl) ?_
  refine n_if_eq (tgt := 102) hx hb d_X2_nearest_74 (by decide) (by omega) (fun c => absurd c (by decide)) (fun _ => ?_)
  refine lv_aload_n hx hb d_X2_nearest_77 rfl (lv_at hl 1 rfl) ?_
  refine lv_iconst (v := nI 0) hx hb d_X2_nearest_78 (by decide) ?_
  refine x_callR (st1 := [.int (nI t0)]) (x_runV (As := [.int (nI 0)]) (rest := []) (nL := 5) ⟨hx, hb, hml, hown, hts⟩ (c_X2_zerosOf hok (by omega) ht ht1 ht0 _) (cwV 1 hts (gw_V k_544 k_546 k_37 k_52 k_547) rfl rfl rfl (by decide +kernel) ⟨Nat.le_of_ble_eq_true rfl, Nat.le_of_ble_eq_true rfl⟩) hK hP hD 0 2 rfl rfl rfl hl.1 rfl (Nat.le_of_ble_eq_true rfl) d_X2_nearest_79 ⟨Nat.zero_le _, Nat.zero_le _⟩) rfl ?_
  refine lv_iload_n hx hb d_X2_nearest_82 rfl (lv_at hl 3 rfl) ?_
  refine lv_iconst (v := nI 1) hx hb d_X2_nearest_83 (by decide) ?_
  refine n_isub hx hb d_X2_nearest_84 (by omega) ?_
  refine n_icmp_lt (tgt := 98) hx hb d_X2_nearest_85 (by decide) (by omega) (by omega) (fun c9 => absurd c9 (by omega)) (fun _ => ?_)
  refine lv_aload_n hx hb d_X2_nearest_88 rfl (lv_at hl 1 rfl) ?_
  refine lv_iconst (v := nI 0) hx hb d_X2_nearest_89 (by decide) ?_
  refine lv_iload_n hx hb d_X2_nearest_90 rfl (lv_at hl 3 rfl) ?_
  refine x_callR (st1 := [.int (nI (mBit (mLoadZ w g r 0 z) 0 k))]) (x_runV (As := [.int (nI 0), .int (nI k)]) (rest := []) (nL := 5) ⟨hx, hb, hml, hown, hts⟩ (c_X2_bit hok (b := 0) (k := k) (by omega) (by omega) _) (cwV 2 hts (gw_V k_548 k_550 k_38 k_52 k_551) rfl rfl rfl (by decide +kernel) ⟨Nat.le_of_ble_eq_true rfl, Nat.le_of_ble_eq_true rfl⟩) hK hP hD 0 2 rfl rfl rfl hl.1 rfl (Nat.le_of_ble_eq_true rfl) d_X2_nearest_91 ⟨Nat.zero_le _, Nat.zero_le _⟩) rfl ?_
  refine lv_iconst (v := nI 1) hx hb d_X2_nearest_94 (by decide) ?_
  refine n_icmp_ne (tgt := 102) hx hb d_X2_nearest_95 (by decide) (Nat.lt_of_lt_of_le (mBit_lt _ _ _) (by decide)) (by omega) (fun _ => ?_) (fun c9 => absurd c9 (by omega))
  refine lv_iconst (v := nI 0) hx hb d_X2_nearest_102 (by decide) ?_
  refine lv_istore (lv' := [(4, .int (nI 0)), (3, .int (nI 1)), (0, .ref h), (1, .int (nI r)), (2, .int (nI k))]) hx hb d_X2_nearest_103 hl (by decide) rfl (fun ls hl => ?_)
  refine lv_aload_n hx hb d_X2_nearest_105 rfl (lv_at hl 2 rfl) ?_
  refine lv_iload_n hx hb d_X2_nearest_106 rfl (lv_at hl 4 rfl) ?_
  refine lv_iload hx hb d_X2_nearest_107 (lv_at hl 0 rfl) ?_
  refine x_call (st1 := []) (x_runV (As := [.int (nI k), .int (nI 0)]) (rest := []) (nL := 5) ⟨hx, hb, hml, hown, hts⟩ (c_X2_halve hok (k := k) (f := 0) hk8 (by omega) _) (cwV 2 hts (gw_V k_642 k_644 k_48 k_52 k_645) rfl rfl rfl (by decide +kernel) ⟨Nat.le_of_ble_eq_true rfl, Nat.le_of_ble_eq_true rfl⟩) hK hP hD 0 2 rfl rfl rfl hl.1 rfl (Nat.le_of_ble_eq_true rfl) d_X2_nearest_109 ⟨Nat.zero_le _, Nat.zero_le _⟩) hS (x_sub hD hS hA) (x_sub hD hS hA) rfl (fun w1 H locs hY hP hD hS => ?_)
  subst hY
  have hok := mHfZ_ok (sg := mLoadG w g r 0 z sg) (k := k) (f := 0) hok
  refine lv_aload_n hx hb d_X2_nearest_112 rfl (lv_at hl 2 rfl) ?_
  refine lv_iload_n hx hb d_X2_nearest_113 rfl (lv_at hl 3 rfl) ?_
  refine lv_iconst (v := nI 1) hx hb d_X2_nearest_114 (by decide) ?_
  refine x_call (st1 := [.int (mKSg (mHfS (mLoadG w g r 0 z sg) k 0 (mLoadZ w g r 0 z)) w (mHfZ (mLoadG w g r 0 z sg) k 0 (mLoadZ w g r 0 z)) r 1 g 2)]) (x_runV (As := [.int (nI r), .int (nI 1)]) (rest := []) (nL := 5) ⟨hx, hb, hml, hown, hts⟩ (c_X2_kept hok (b := 1) (r := r) (t := t) (by omega) (by omega) hlow _) (cwV 2 hts (gw_V k_601 k_603 k_45 k_52 k_604) rfl rfl rfl (by decide +kernel) ⟨Nat.le_of_ble_eq_true rfl, Nat.le_of_ble_eq_true rfl⟩) hK hP hD 0 2 rfl rfl rfl hl.1 rfl (Nat.le_of_ble_eq_true rfl) d_X2_nearest_115 ⟨Nat.zero_le _, Nat.zero_le _⟩) hS (x_sub hD hS hA) (x_sub hD hS hA) rfl (fun w1 H locs hY hP hD hS => ?_)
  subst hY
  exact x_iret hx hb hr hlocks hP hD hS d_X2_nearest_118 rfl rfl
