set_option maxHeartbeats 800000 in
set_option maxRecDepth 100000 in
theorem st_widen {l : Launch} (hst : l.stackTraces = false) {D : va_G} {cA cR cL : ClassId} {h xo ou : Nat} {w0 : va_W} (hLI : LI cA cR cL h xo ou w0) (x : Int32) (y : Int32) : stepOk Value.int (fun v : Int32 => if v = 0 then 0 else 1) l D cA cR cL y_L_widen w_L_widen [.ref xo, .int x, .int y, .ref ou] y_X2_widen w_X2_widen ({ frames := 4, cells := 0, slots := 0, locals := 93 }) [.ref h, .int x, .int y] h ou w0 (LI cA cR cL h xo ou) := by
  obtain ⟨aw, ar, ag, az, cd, w, g, sg, z, ra, fo, ro, la, cap, wd, F, X, rfl, hok, hw, hwd, hm, hc, hn⟩ := hLI
  rcases row_or x with hx | ⟨r, hr, rfl⟩
  · exact step_no (k := 1) (Or.inl rfl) (by refine ⟨rfl, rfl, ?_, ?_⟩ <;> decide) hok hw hwd hm hc hn (c_L_widen_IO (qx := 5) lW_5 (c_X1_widen_no (qx := 5) (qa := 6) hst rs_5 rs_6 hw hx y)) (fun _ => c_X2_widen_no hok hx y)
  have hr1 := hw.w hr
  have hwr := hwd r hr
  have hwk := hok.1
  have hcr := hc r hr
  have hnr : cN bB (wd r) (X r) := by rw [hwr]; exact hn r hr
  by_cases hy1 : y < nI 1
  · exact step_no (k := 2) (Or.inr rfl) (by refine ⟨rfl, rfl, ?_, ?_⟩ <;> decide) hok hw hwd hm hc hn (c_L_widen_IA (qx := 5) lW_5 (c_X1_widen_no2 (qx := 5) (qa := 6) hst rs_5 rs_6 hw hr hy1)) (fun _ => c_X2_widen_no2 hok hr hy1)
  by_cases hy2 : y ≤ nI 256
  case neg => exact step_no (k := 2) (Or.inr rfl) (by refine ⟨rfl, rfl, ?_, ?_⟩ <;> decide) hok hw hwd hm hc hn (c_L_widen_IA (qx := 5) lW_5 (c_X1_widen_no3 (qx := 5) (qa := 6) hst rs_5 rs_6 hw hr hy1 hy2)) (fun _ => c_X2_widen_no3 hok hr hy1 hy2)
  obtain ⟨n, hn2, rfl⟩ : ∃ n : Nat, n ≤ 256 ∧ y = nI n := nI_of2 (M := nI 256) rfl (fun q => hy1 (by rw [Int32.lt_iff_toInt_lt] at q ⊢; have e0 : (0 : Int32).toInt = 0 := rfl; have e1 : (nI 1).toInt = 1 := rfl; omega)) hy2
  have hn1 : 1 ≤ n := by
    rcases Nat.eq_zero_or_pos n with q | q
    · subst q; exact absurd (by decide) hy1
    · exact q
  have hb := bV.ld (z := z) (sg := sg) hwk hm hn hr 0
  obtain ⟨t, ht⟩ := tz_pick (X r)
  have hvn : va_up w r n r = n := va_up_self _ _ _
  obtain ⟨s1, -⟩ := mSto (g := g) (w := w) (w' := va_up w r n) (r := r) (x := X) hwk (by rw [hvn]; omega) (fun j hj => va_up_ne _ _ hj) hm hb
  have hfit := mFits_is (w := va_up w r n) (r := r) (by rw [hvn]; exact hn1) hb (fun q => ht (by omega))
  rw [hvn] at hfit s1
  refine step_acc (by refine ⟨rfl, rfl, ?_, ?_⟩ <;> decide) (by decide) (by decide) (c_L_widen_ok (qx := 5) (qo := 7) lW_5 (fun _ h9 => by obtain ⟨la9, cap9, F9, e9, -⟩ := h9; subst e9; rfl) (c_X1_widen (qx := 5) (qa := 6) rs_5 rs_6 hw hr ⟨hn1, hn2⟩)) (fun w1 h9 => ?_)
  obtain ⟨la', cap', F', e9, hw9, hF1, hF2⟩ := h9
  refine ⟨la', cap', _, F', e9, hw9, fun Rs => ⟨_, _, _, _, _, va_up X r (cM bB n (X r)), c_X2_widen hok hr ⟨hn1, hn2⟩ (lowB hb ht), ?_, ?_, ?_, s1, ?_, ?_⟩⟩
  · have e := fit_eq (rFit_is hr1 ⟨hn1, hn2⟩ hcr hnr) hfit
    show (if nI _ = 0 then (0 : Int64) else 1) = _
    rw [e]
  · exact mStore_ok ⟨fun j hj => by
      by_cases q : j = r
      · subst q; rw [va_up_self]; omega
      · rw [va_up_ne _ _ q]; exact hok.1 j hj, (mLoadZ_ok hok).2⟩
  · intro j hj
    by_cases q : j = r
    · subst q; rw [va_up_self, va_up_self]
    · rw [va_up_ne _ _ q, va_up_ne _ _ q]; exact hwd j hj
  · have e := cSt.up (w := wd) (w' := va_up wd r n) (r := r) hc (fun j hj => va_up_ne _ _ hj) hF1 (y := X r) (by
      rw [va_up_self]
      intro k hk
      rw [hF2 k hk]
      exact rWid_is hr1 hcr hnr rWid (fun _ => rfl) n k hk)
    rw [va_up_self] at e
    exact e
  · have e := nSt.up (w := w) (w' := va_up w r n) (r := r) hn (fun j hj => va_up_ne _ _ hj) (X r)
    rw [hvn] at e
    exact e
set_option maxHeartbeats 800000 in
set_option maxRecDepth 100000 in
theorem st_width {l : Launch} (hst : l.stackTraces = false) {D : va_G} {cA cR cL : ClassId} {h xo ou : Nat} {w0 : va_W} (hLI : LI cA cR cL h xo ou w0) (x : Int32) : stepOk Value.int (fun v : Int32 => v.toInt64) l D cA cR cL y_L_width w_L_width [.ref xo, .int x, .ref ou] y_X2_width w_X2_width ({ frames := 1, cells := 0, slots := 0, locals := 21 }) [.ref h, .int x] h ou w0 (LI cA cR cL h xo ou) := by
  obtain ⟨aw, ar, ag, az, cd, w, g, sg, z, ra, fo, ro, la, cap, wd, F, X, rfl, hok, hw, hwd, hm, hc, hn⟩ := hLI
  rcases row_or x with hx | ⟨r, hr, rfl⟩
  · exact step_no (k := 1) (Or.inl rfl) (by refine ⟨rfl, rfl, ?_, ?_⟩ <;> decide) hok hw hwd hm hc hn (c_L_width_IO (qx := 5) lW_5 (c_X1_width_no (qx := 5) (qa := 6) hst rs_5 rs_6 hw hx)) (fun _ => c_X2_width_no hok hx)
  have hr1 := hw.w hr
  have hwr := hwd r hr
  have hwk := hok.1
  have hcr := hc r hr
  have hnr : cN bB (wd r) (X r) := by rw [hwr]; exact hn r hr
  refine step_acc (by refine ⟨rfl, rfl, ?_, ?_⟩ <;> decide) (by decide) (by decide) (c_L_width_ok (qx := 5) (qo := 7) lW_5 (fun _ h9 => by subst h9; rfl) (c_X1_width (qx := 5) (qa := 6) rs_5 rs_6 hw hr)) (fun w1 h9 => ⟨la, cap, wd, _, h9, hw, fun Rs => ?_⟩)
  refine ⟨_, _, _, _, _, X, c_X2_width hok hr, ?_, hok, hwd, hm, hc, hn⟩
  show Int32.toInt64 _ = Int32.toInt64 _
  rw [hwr]
set_option maxHeartbeats 800000 in
set_option maxRecDepth 100000 in
theorem st_set {l : Launch} (hst : l.stackTraces = false) {D : va_G} {cA cR cL : ClassId} {h xo ou : Nat} {w0 : va_W} (hLI : LI cA cR cL h xo ou w0) (x : Int32) (v : Int64) : stepOk Value.int (fun v : Int32 => if v = 0 then 0 else 1) l D cA cR cL y_L_set w_L_set [.ref xo, .int x, .long v, .ref ou] y_X2_set w_X2_set ({ frames := 4, cells := 0, slots := 0, locals := 93 }) [.ref h, .int x, .long v] h ou w0 (LI cA cR cL h xo ou) := by
  obtain ⟨aw, ar, ag, az, cd, w, g, sg, z, ra, fo, ro, la, cap, wd, F, X, rfl, hok, hw, hwd, hm, hc, hn⟩ := hLI
  rcases row_or x with hx | ⟨r, hr, rfl⟩
  · exact step_no (k := 1) (Or.inl rfl) (by refine ⟨rfl, rfl, ?_, ?_⟩ <;> decide) hok hw hwd hm hc hn (c_L_set_IO (qx := 5) lW_5 (c_X1_set_no (qx := 5) (qa := 6) hst rs_5 rs_6 hw hx v)) (fun _ => c_X2_set_no hok hx v)
  have hr1 := hw.w hr
  have hwr := hwd r hr
  have hwk := hok.1
  have hcr := hc r hr
  have hnr : cN bB (wd r) (X r) := by rw [hwr]; exact hn r hr
  have hb := (mLong_is v 0 z sg).1
  obtain ⟨t, t1, t2, -, t4, -, t6, t7⟩ := mo_sto (r := r) (b := 0) (mLongZ_ok (v := v) (b := 0) hok) hm hn hr hb
  obtain ⟨k1, k2⟩ := gSet_is r (wd r) v F
  refine step_acc (by refine ⟨rfl, rfl, ?_, ?_⟩ <;> decide) (by decide) (by decide) (c_L_set_ok (qx := 5) (qo := 7) lW_5 (fun _ h9 => by subst h9; rfl) (c_X1_set (qx := 5) (qa := 6) rs_5 rs_6 hw hr v)) (fun w1 h9 => ⟨la, cap, wd, _, h9, hw, fun Rs => ?_⟩)
  refine ⟨_, _, _, _, _, _, c_X2_set hok hr v t1, ?_, t4, hwd, t6, ?_, t7⟩
  · have e := rFitsL_is hr1.1 v
    rw [hwr] at e
    have e := fit_eq e t2
    show (if nI _ = 0 then (0 : Int64) else 1) = _
    rw [hwr, e]
  · rw [← hwr]; exact hc.up (fun _ _ => rfl) k1 k2
set_option maxHeartbeats 800000 in
set_option maxRecDepth 100000 in
theorem st_put {l : Launch} (hst : l.stackTraces = false) {D : va_G} {cA cR cL : ClassId} {h xo ou : Nat} {w0 : va_W} (hLI : LI cA cR cL h xo ou w0) (x : Int32) (y : Int32) (u : Int32) : stepOk Value.int (fun v : Int32 => v.toInt64) l D cA cR cL y_L_put w_L_put [.ref xo, .int x, .int y, .int u, .ref ou] y_X2_put w_X2_put ({ frames := 1, cells := 0, slots := 0, locals := 22 }) [.ref h, .int x, .int y, .int u] h ou w0 (LI cA cR cL h xo ou) := by
  obtain ⟨aw, ar, ag, az, cd, w, g, sg, z, ra, fo, ro, la, cap, wd, F, X, rfl, hok, hw, hwd, hm, hc, hn⟩ := hLI
  rcases row_or x with hx | ⟨r, hr, rfl⟩
  · exact step_no (k := 1) (Or.inl rfl) (by refine ⟨rfl, rfl, ?_, ?_⟩ <;> decide) hok hw hwd hm hc hn (c_L_put_IO (qx := 5) lW_5 (c_X1_put_no (qx := 5) (qa := 6) hst rs_5 rs_6 hw hx y u)) (fun _ => c_X2_put_no hok hx y u)
  have hr1 := hw.w hr
  have hwr := hwd r hr
  have hwk := hok.1
  have hcr := hc r hr
  have hnr : cN bB (wd r) (X r) := by rw [hwr]; exact hn r hr
  by_cases hy1 : y < 0
  · exact step_no (k := 1) (Or.inl rfl) (by refine ⟨rfl, rfl, ?_, ?_⟩ <;> decide) hok hw hwd hm hc hn (c_L_put_IO (qx := 5) lW_5 (c_X1_put_no2 (qx := 5) (qa := 6) hst rs_5 rs_6 hw hr hy1)) (fun _ => c_X2_put_no2 hok hr hy1)
  obtain ⟨k, hk31, rfl⟩ := nI_of hy1
  by_cases hkw : wd r ≤ k
  · exact step_no (k := 1) (Or.inl rfl) (by refine ⟨rfl, rfl, ?_, ?_⟩ <;> decide) hok hw hwd hm hc hn (c_L_put_IO (qx := 5) lW_5 (c_X1_put_no3 (qx := 5) (qa := 6) hst rs_5 rs_6 hw hr hk31 hkw)) (fun _ => c_X2_put_no3 hok hr hk31 (by rw [← hwr]; exact hkw))
  have hkw2 : k < w r := by omega
  have hmr := hm r hr
  refine step_acc (by refine ⟨rfl, rfl, ?_, ?_⟩ <;> decide) (by decide) (by decide) (c_L_put_ok (qx := 5) (qo := 7) lW_5 (fun _ h9 => by subst h9; rfl) (c_X1_put (qx := 5) (qa := 6) rs_5 rs_6 hw hr (by omega) u)) (fun w1 h9 => ⟨la, cap, wd, _, h9, hw, fun Rs => ?_⟩)
  refine ⟨_, _, _, _, _, va_up X r (cM bB (w r) (puI (X r) k u)), c_X2_put hok hr hkw2 u, ?_, ?_, hwd, ?_, ?_, hn.up (fun _ _ => rfl) _⟩
  · show Int32.toInt64 _ = Int32.toInt64 _
    congr 1
    apply dI_inj
    rw [limb_m hmr hkw2, hcr k (by omega)]
  · exact (hok.g (Nat.mod_lt _ (by decide))).g (Nat.mod_lt _ (by decide))
  · refine mSt.up hwk hm (fun _ _ => rfl) (fun p hp => ?_) (put_m hmr u)
    have := hwk r hr
    rw [va_up_ne _ _ (by omega), va_up_ne _ _ (by omega)]
  · rw [← hwr]
    refine hc.up (fun _ _ => rfl) (fun j hj => va_up_ne _ _ hj) ?_
    rw [va_up_self]
    exact put_c hcr u
set_option maxHeartbeats 800000 in
set_option maxRecDepth 100000 in
theorem st_limb {l : Launch} (hst : l.stackTraces = false) {D : va_G} {cA cR cL : ClassId} {h xo ou : Nat} {w0 : va_W} (hLI : LI cA cR cL h xo ou w0) (x : Int32) (y : Int32) : stepOk Value.int (fun v : Int32 => v.toInt64) l D cA cR cL y_L_limb w_L_limb [.ref xo, .int x, .int y, .ref ou] y_X2_limb w_X2_limb ({ frames := 3, cells := 0, slots := 0, locals := 71 }) [.ref h, .int x, .int y] h ou w0 (LI cA cR cL h xo ou) := by
  obtain ⟨aw, ar, ag, az, cd, w, g, sg, z, ra, fo, ro, la, cap, wd, F, X, rfl, hok, hw, hwd, hm, hc, hn⟩ := hLI
  rcases row_or x with hx | ⟨r, hr, rfl⟩
  · exact step_no (k := 1) (Or.inl rfl) (by refine ⟨rfl, rfl, ?_, ?_⟩ <;> decide) hok hw hwd hm hc hn (c_L_limb_IO (qx := 5) lW_5 (c_X1_limb_no (qx := 5) (qa := 6) hst rs_5 rs_6 hw hx y)) (fun _ => c_X2_limb_no hok hx y)
  have hr1 := hw.w hr
  have hwr := hwd r hr
  have hwk := hok.1
  have hcr := hc r hr
  have hnr : cN bB (wd r) (X r) := by rw [hwr]; exact hn r hr
  by_cases hy1 : 0 ≤ y
  case neg => exact step_no (k := 1) (Or.inl rfl) (by refine ⟨rfl, rfl, ?_, ?_⟩ <;> decide) hok hw hwd hm hc hn (c_L_limb_IO (qx := 5) lW_5 (c_X1_limb_no2 (qx := 5) (qa := 6) hst rs_5 rs_6 hw hr hy1)) (fun _ => c_X2_limb_no2 hok hr hy1)
  obtain ⟨k, hk31, rfl⟩ := nI_of (x := y) (fun q => by
    rw [Int32.lt_iff_toInt_lt] at q
    rw [Int32.le_iff_toInt_le] at hy1
    omega)
  have hmr := hm r hr
  have hat := rAt_is hr1 hcr hnr hk31
  refine step_acc (by refine ⟨rfl, rfl, ?_, ?_⟩ <;> decide) (by decide) (by decide) (c_L_limb_ok (qx := 5) (qo := 7) lW_5 (fun _ h9 => by subst h9; rfl) (c_X1_limb (qx := 5) (qa := 6) rs_5 rs_6 hw hr hk31)) (fun w1 h9 => ⟨la, cap, wd, _, h9, hw, fun Rs => ?_⟩)
  by_cases hkw : k < w r
  · refine ⟨_, _, _, _, _, X, c_X2_limb_0 hok hr hk31 hkw, ?_, hok, hwd, hm, hc, hn⟩
    show Int32.toInt64 _ = Int32.toInt64 _
    congr 1
    apply dI_inj
    rw [limb_m hmr hkw, hat]
  · have h2 := bV.ld (z := z) (sg := sg) hwk hm hn hr 2
    have hsg := sI_ge (X r)
    rw [← h2.2] at hsg
    rw [lm_top bB0 (cN_in bB0 hnr) (by omega)] at hat
    by_cases hx0 : X r < 0
    · refine ⟨_, _, _, _, _, X, c_X2_limb_2 hok hr hk31 (by omega) (fun q => hsg.mp q hx0), ?_, mLoadZ_ok hok, hwd, hm, hc, hn⟩
      show Int32.toInt64 _ = Int32.toInt64 _
      congr 1
      apply dI_inj
      rw [hat, if_pos hx0]
      rfl
    · refine ⟨_, _, _, _, _, X, c_X2_limb_1 hok hr hk31 (by omega) (hsg.mpr hx0), ?_, mLoadZ_ok hok, hwd, hm, hc, hn⟩
      show Int32.toInt64 _ = Int32.toInt64 _
      congr 1
      apply dI_inj
      rw [hat, if_neg hx0]
      rfl
