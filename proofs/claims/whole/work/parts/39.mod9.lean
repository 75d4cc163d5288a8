noncomputable def mHfN (z : Nat → Nat) : Nat := mBits (mClr 1 cZ 0 z) 0
noncomputable def mHfZ (sg : Nat → Int32) (k f : Nat) (z : Nat → Nat) : Nat → Nat := mHvTZ (mHvS (upd sg 1 (nI 0)) k (mHfN z)) (mHvZ k (mHfN z - k) k (mClr 1 cZ 0 z)) f
noncomputable def mHfS (sg : Nat → Int32) (k f : Nat) (z : Nat → Nat) : Nat → Int32 := mHvTS (mHvS (upd sg 1 (nI 0)) k (mHfN z)) (mHvZ k (mHfN z - k) k (mClr 1 cZ 0 z)) f
theorem mHfZ_ok {sg : Nat → Int32} {w g z : Nat → Nat} {k f : Nat} (h : mdOk w g z) : mdOk w g (mHfZ sg k f z) := by
  unfold mHfZ mHvTZ
  split
  · exact mHvZ_ok _ _ _ (mClr_ok _ _ _ h)
  · exact mCombZ_ok (mLongZ_ok (mHvZ_ok _ _ _ (mClr_ok _ _ _ h)))
theorem mIsRow_1 {r : Nat} (h : r < 64) : mIsRow (nI r) = nI 1 := by
  unfold mIsRow
  rw [if_neg (nI_pos (by omega)), if_neg (nI_ge h (by decide))]
theorem mRef_0 : mRef (nI 0) = nI 0 := by decide
theorem mRef_1 : mRef (nI 1) = nI 1 := by decide
theorem mRef_2 : mRef (nI 2) = nI 1 := by decide
theorem mdOk.w {w g z : Nat → Nat} {j v : Nat} (h : mdOk w g z) (hv : 1 ≤ v ∧ v ≤ 256) : mdOk (va_up w j v) g z := ⟨fun r hr => by unfold va_up; split; exact hv; exact h.1 r hr, h.2.1, h.2.2⟩
abbrev w_X2_halve : List Cond := .code y_X2_halve b_X2_halve 5 (none) :: gw
set_option maxHeartbeats 800000 in
set_option maxRecDepth 100000 in
theorem c_X2_halve {l : Launch} {D : va_G} {Rs : va_W} {cA cR cL : ClassId} {h aw ar ag az : Nat} {cd : Int32} {w g : Nat → Nat} {sg : Nat → Int32} {z : Nat → Nat} (hok : mdOk w g z) {k f : Nat} (hk : k ≤ 8192) (hf : f < 2) : xC l y_X2_halve w_X2_halve ({ frames := 2, cells := 0, slots := 0, locals := 54 }) D cls0 (ty3 cA cR cL) [.ref h, .int (nI k), .int (nI f)] (md cA h aw ar ag az cd w g sg z Rs) (none) (fun w1 => w1 = md cA h aw ar ag az cd w g (mHfS sg k f z) (mHfZ sg k f z) Rs) 0 0 := by
  refine xC.ofW (cc := b_X2_halve) (maxL := 5) (ret := none) (by decide) rfl (Nat.le_of_ble_eq_true rfl) ?_
  intro p e s m below meth c A ls _ hin hx hb hr hml hown hts hlocks hA hK hP hD hS hl
  have hts : ∀ w ∈ gw, w.before ([.ref h, .int (nI k), .int (nI f)]).toArray s = true := fun w h => hts w (List.mem_cons_of_mem _ h)
  have hown : s.vm.findClass R_Md = some m.cls := hown
  have hl : lv_has ls 5 [(0, .ref h), (1, .int (nI k)), (2, .int (nI f))] := hl
  have hbl := mBits_le (mClr 1 cZ 0 z) 0
  refine lv_aload_n hx hb d_X2_halve_0 rfl (lv_at hl 0 rfl) ?_
  refine lv_iconst (v := nI 1) hx hb d_X2_halve_1 (by decide) ?_
  refine x_call (st1 := []) (x_runV (As := [.int (nI 1)]) (rest := []) (nL := 5) ⟨hx, hb, hml, hown, hts⟩ (c_X2_clear (b := 1) (by omega) _) (cwV 1 hts (gw_V k_522 k_524 k_32 k_52 k_525) rfl rfl rfl (by decide +kernel) ⟨Nat.le_of_ble_eq_true rfl, Nat.le_of_ble_eq_true rfl⟩) hK hP hD 0 2 rfl rfl rfl hl.1 rfl (Nat.le_of_ble_eq_true rfl) d_X2_halve_2 ⟨Nat.zero_le _, Nat.zero_le _⟩) hS (x_sub hD hS hA) (x_sub hD hS hA) rfl (fun w1 H locs hY hP hD hS => ?_)
  subst hY
  have hok := mClr_ok (b := 1) cZ 0 _ hok
  refine lv_aload_n hx hb d_X2_halve_5 rfl (lv_at hl 0 rfl) ?_
  refine lv_iconst (v := nI 0) hx hb d_X2_halve_6 (by decide) ?_
  refine x_callR (st1 := [.int (nI (mBits (mClr 1 cZ 0 z) 0))]) (x_runV (As := [.int (nI 0)]) (rest := []) (nL := 5) ⟨hx, hb, hml, hown, hts⟩ (c_X2_bits hok (b := 0) (by omega) _) (cwV 1 hts (gw_V k_540 k_542 k_36 k_52 k_543) rfl rfl rfl (by decide +kernel) ⟨Nat.le_of_ble_eq_true rfl, Nat.le_of_ble_eq_true rfl⟩) hK hP hD 0 2 rfl rfl rfl hl.1 rfl (Nat.le_of_ble_eq_true rfl) d_X2_halve_7 ⟨Nat.zero_le _, Nat.zero_le _⟩) rfl ?_
  refine lv_istore_n (lv' := [(3, .int (nI (mBits (mClr 1 cZ 0 z) 0))), (0, .ref h), (1, .int (nI k)), (2, .int (nI f))]) hx hb d_X2_halve_10 rfl hl (by decide) rfl (fun ls hl => ?_)
  refine lv_iload_n hx hb d_X2_halve_11 rfl (lv_at hl 2 rfl) ?_
  refine lv_istore (lv' := [(4, .int (nI k)), (3, .int (nI (mBits (mClr 1 cZ 0 z) 0))), (0, .ref h), (1, .int (nI k)), (2, .int (nI f))]) hx hb d_X2_halve_12 hl (by decide) rfl (fun ls hl => ?_)
  exact lp_X2_halve (N := mHfN z) hx hb hr hml hown hts hlocks hA hK hf hk hbl (mHfN z - k) k _ rfl (by omega) hok _ _ hP hD hS ls (lv_sub hl [2, 3, 4, 1, 0] rfl)
abbrev w_X2_width : List Cond := .code y_X2_width b_X2_width 2 (some .int) :: gw
set_option maxHeartbeats 800000 in
set_option maxRecDepth 100000 in
theorem c_X2_width {l : Launch} {D : va_G} {Rs : va_W} {cA cR cL : ClassId} {h aw ar ag az : Nat} {cd : Int32} {w g : Nat → Nat} {sg : Nat → Int32} {z : Nat → Nat} (hok : mdOk w g z) {r : Nat} (hr64 : r < 64) : xC l y_X2_width w_X2_width ({ frames := 1, cells := 0, slots := 0, locals := 21 }) D cls0 (ty3 cA cR cL) [.ref h, .int (nI r)] (md cA h aw ar ag az cd w g sg z Rs) (some (.int (nI (w r)))) (fun w1 => w1 = md cA h aw ar ag az (nI 0) w g sg z Rs) 0 0 := by
  refine xC.ofW (cc := b_X2_width) (maxL := 2) (ret := some .int) (by decide) rfl (Nat.le_of_ble_eq_true rfl) ?_
  intro p e s m below meth c A ls _ hin hx hb hr hml hown hts hlocks hA hK hP hD hS hl
  have hts : ∀ w ∈ gw, w.before ([.ref h, .int (nI r)]).toArray s = true := fun w h => hts w (List.mem_cons_of_mem _ h)
  have hown : s.vm.findClass R_Md = some m.cls := hown
  have hl : lv_has ls 2 [(0, .ref h), (1, .int (nI r))] := hl
  refine lv_aload_n hx hb d_X2_width_0 rfl (lv_at hl 0 rfl) ?_
  refine lv_iload_n hx hb d_X2_width_1 rfl (lv_at hl 1 rfl) ?_
  refine x_callR (st1 := [.int (mIsRow (nI r)), .ref h]) (x_runS (As := [.int (nI r)]) (rest := [.ref h]) (nL := 2) ⟨hx, hb, hml, hown, hts⟩ (c_X2_isRow (nI r) _) (cwS 1 hts (gw_S k_511 k_512 k_52 k_513) rfl rfl rfl (by decide +kernel) ⟨Nat.le_of_ble_eq_true rfl, Nat.le_of_ble_eq_true rfl⟩) hK hP hD rfl hl.1 rfl (Nat.le_of_ble_eq_true rfl) d_X2_width_2 ⟨Nat.zero_le _, Nat.zero_le _⟩) rfl ?_
  rw [mIsRow_1 (show r < 64 by omega)]
  refine n_if_eq (tgt := 12) hx hb d_X2_width_5 (by decide) (by omega) (fun c => absurd c (by decide)) (fun _ => ?_)
  refine lv_iconst (v := nI 0) hx hb d_X2_width_8 (by decide) ?_
  refine lv_goto (tgt := 13) hx hb d_X2_width_9 (by decide) ?_
  refine x_call (st1 := [.int (mRef (nI 0))]) (x_runV (As := [.int (nI 0)]) (rest := []) (nL := 2) ⟨hx, hb, hml, hown, hts⟩ (c_X2_refuses (nI 0) _) (cwV 1 hts (gw_V k_514 k_516 k_30 k_52 k_517) rfl rfl rfl (by decide +kernel) ⟨Nat.le_of_ble_eq_true rfl, Nat.le_of_ble_eq_true rfl⟩) hK hP hD 0 2 rfl rfl rfl hl.1 rfl (Nat.le_of_ble_eq_true rfl) d_X2_width_13 ⟨Nat.zero_le _, Nat.zero_le _⟩) hS (x_sub hD hS hA) (x_sub hD hS hA) rfl (fun w1 H locs hY hP hD hS => ?_)
  subst hY
  rw [mRef_0]
  refine n_if_eq (tgt := 23) hx hb d_X2_width_16 (by decide) (by omega) (fun _ => ?_) (fun c => absurd c (by decide))
  refine lv_aload_n hx hb d_X2_width_23 rfl (lv_at hl 0 rfl) ?_
  refine m_getW hx hb hts hown hK hP d_X2_width_24 ?_
  refine lv_iload_n hx hb d_X2_width_27 rfl (lv_at hl 1 rfl) ?_
  have hq_28 := hok.1 r (by omega)
  refine m_aldW hx hb hK hP (j := r) (by omega) d_X2_width_28 ?_
  exact x_iret hx hb hr hlocks hP hD hS d_X2_width_29 rfl rfl
