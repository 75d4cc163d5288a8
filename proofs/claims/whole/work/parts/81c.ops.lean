set_option maxHeartbeats 800000 in
set_option maxRecDepth 100000 in
theorem st_negate {l : Launch} (hst : l.stackTraces = false) {D : va_G} {cA cR cL : ClassId} {h xo ou : Nat} {w0 : va_W} (hLI : LI cA cR cL h xo ou w0) (x : Int32) : stepOk Value.int (fun v : Int32 => if v = 0 then 0 else 1) l D cA cR cL y_L_negate w_L_negate [.ref xo, .int x, .ref ou] y_X2_negate w_X2_negate ({ frames := 4, cells := 0, slots := 0, locals := 93 }) [.ref h, .int x] h ou w0 (LI cA cR cL h xo ou) := by
  obtain ⟨aw, ar, ag, az, cd, w, g, sg, z, ra, fo, ro, la, cap, wd, F, X, rfl, hok, hw, hwd, hm, hc, hn⟩ := hLI
  rcases row_or x with hx | ⟨r, hr, rfl⟩
  · exact step_no (k := 1) (Or.inl rfl) (by refine ⟨rfl, rfl, ?_, ?_⟩ <;> decide) hok hw hwd hm hc hn (c_L_negate_IO (qx := 5) lW_5 (c_X1_negate_no (qx := 5) (qa := 6) hst rs_5 rs_6 hw hx)) (fun _ => c_X2_negate_no hok hx)
  have hr1 := hw.w hr
  have hwr := hwd r hr
  have hwk := hok.1
  have hcr := hc r hr
  have hnr : cN bB (wd r) (X r) := by rw [hwr]; exact hn r hr
  have hb := bv_neg (z := z) (sg := sg) hwk hm hn hr
  obtain ⟨t, t1, t2, -, t4, -, t6, t7⟩ := mo_sto (r := r) (b := 0) (mLoadZ_ok hok) hm hn hr hb
  obtain ⟨k1, k2⟩ := gTurn_is hcr
  refine step_acc (by refine ⟨rfl, rfl, ?_, ?_⟩ <;> decide) (by decide) (by decide) (c_L_negate_ok (qx := 5) (qo := 7) lW_5 (fun _ h9 => by subst h9; rfl) (c_X1_negate (qx := 5) (qa := 6) rs_5 rs_6 hw hr)) (fun w1 h9 => ⟨la, cap, wd, _, h9, hw, fun Rs => ?_⟩)
  refine ⟨_, _, _, _, _, _, c_X2_negate hok hr t1, ?_, t4, hwd, t6, ?_, t7⟩
  · have e := rTurn_is hr1.1 hcr hnr
    rw [hwr] at e
    have e := fit_eq e t2
    show (if nI _ = 0 then (0 : Int64) else 1) = _
    rw [hwr, e]
  · rw [← hwr]; exact hc.up (fun _ _ => rfl) k1 k2
set_option maxHeartbeats 800000 in
set_option maxRecDepth 100000 in
theorem st_left {l : Launch} (hst : l.stackTraces = false) {D : va_G} {cA cR cL : ClassId} {h xo ou : Nat} {w0 : va_W} (hLI : LI cA cR cL h xo ou w0) (x : Int32) (y : Int32) : stepOk Value.int (fun v : Int32 => v.toInt64) l D cA cR cL y_L_left w_L_left [.ref xo, .int x, .int y, .ref ou] y_X2_left w_X2_left ({ frames := 5, cells := 0, slots := 0, locals := 115 }) [.ref h, .int x, .int y] h ou w0 (LI cA cR cL h xo ou) := by
  obtain ⟨aw, ar, ag, az, cd, w, g, sg, z, ra, fo, ro, la, cap, wd, F, X, rfl, hok, hw, hwd, hm, hc, hn⟩ := hLI
  rcases row_or x with hx | ⟨r, hr, rfl⟩
  · exact step_no (k := 1) (Or.inl rfl) (by refine ⟨rfl, rfl, ?_, ?_⟩ <;> decide) hok hw hwd hm hc hn (c_L_left_IO (qx := 5) lW_5 (c_X1_left_no (qx := 5) (qa := 6) hst rs_5 rs_6 hw hx y)) (fun _ => c_X2_left_no hok hx y)
  have hr1 := hw.w hr
  have hwr := hwd r hr
  have hwk := hok.1
  have hcr := hc r hr
  have hnr : cN bB (wd r) (X r) := by rw [hwr]; exact hn r hr
  by_cases hy1 : y < 0
  · exact step_no (k := 2) (Or.inr rfl) (by refine ⟨rfl, rfl, ?_, ?_⟩ <;> decide) hok hw hwd hm hc hn (c_L_left_IA (qx := 5) lW_5 (c_X1_left_no2 (qx := 5) (qa := 6) hst rs_5 rs_6 hw hr hy1)) (fun _ => c_X2_left_no2 hok hr hy1)
  by_cases hy2 : y ≤ nI 8192
  case neg => exact step_no (k := 2) (Or.inr rfl) (by refine ⟨rfl, rfl, ?_, ?_⟩ <;> decide) hok hw hwd hm hc hn (c_L_left_IA (qx := 5) lW_5 (c_X1_left_no3 (qx := 5) (qa := 6) hst rs_5 rs_6 hw hr hy1 hy2)) (fun _ => c_X2_left_no3 hok hr hy1 hy2)
  obtain ⟨k, hk8, rfl⟩ : ∃ k : Nat, k ≤ 8192 ∧ y = nI k := nI_of2 (M := nI 8192) rfl hy1 hy2
  obtain ⟨hN, hb⟩ := bv_lef (z := z) (sg := sg) hwk hm hn hr hk8
  obtain ⟨t, t1, -, t3, -, t5, t6, t7⟩ := mo_sto (r := r) (b := 1) (mLfZ_ok (k := k) _ _ _ (mClr_ok _ _ _ (mLoadZ_ok hok))) hm hn hr hb
  obtain ⟨k1, k2⟩ := gShu_is hr1 hk8 hcr hnr
  refine step_acc (by refine ⟨rfl, rfl, ?_, ?_⟩ <;> decide) (by decide) (by decide) (c_L_left_ok (qx := 5) (qo := 7) lW_5 (fun _ h9 => by subst h9; rfl) (c_X1_left (qx := 5) (qa := 6) rs_5 rs_6 hw hr hk8)) (fun w1 h9 => ⟨la, cap, wd, _, h9, hw, fun Rs => ?_⟩)
  refine ⟨_, _, _, _, _, _, c_X2_left hok hr hk8 hN t1, ?_, t5, hwd, t6, ?_, t7⟩
  · show Int32.toInt64 _ = Int32.toInt64 _
    rw [t3, rSg_is hr1.1 k2.cM (cM_c bB0 _ _), hwr]
  · rw [← hwr]; exact hc.up (fun _ _ => rfl) k1 k2
set_option maxHeartbeats 800000 in
set_option maxRecDepth 100000 in
theorem st_right {l : Launch} (hst : l.stackTraces = false) {D : va_G} {cA cR cL : ClassId} {h xo ou : Nat} {w0 : va_W} (hLI : LI cA cR cL h xo ou w0) (x : Int32) (y : Int32) : stepOk Value.int (fun v : Int32 => v.toInt64) l D cA cR cL y_L_right w_L_right [.ref xo, .int x, .int y, .ref ou] y_X2_right w_X2_right ({ frames := 5, cells := 0, slots := 0, locals := 115 }) [.ref h, .int x, .int y] h ou w0 (LI cA cR cL h xo ou) := by
  obtain ⟨aw, ar, ag, az, cd, w, g, sg, z, ra, fo, ro, la, cap, wd, F, X, rfl, hok, hw, hwd, hm, hc, hn⟩ := hLI
  rcases row_or x with hx | ⟨r, hr, rfl⟩
  · exact step_no (k := 1) (Or.inl rfl) (by refine ⟨rfl, rfl, ?_, ?_⟩ <;> decide) hok hw hwd hm hc hn (c_L_right_IO (qx := 5) lW_5 (c_X1_right_no (qx := 5) (qa := 6) hst rs_5 rs_6 hw hx y)) (fun _ => c_X2_right_no hok hx y)
  have hr1 := hw.w hr
  have hwr := hwd r hr
  have hwk := hok.1
  have hcr := hc r hr
  have hnr : cN bB (wd r) (X r) := by rw [hwr]; exact hn r hr
  by_cases hy1 : y < 0
  · exact step_no (k := 2) (Or.inr rfl) (by refine ⟨rfl, rfl, ?_, ?_⟩ <;> decide) hok hw hwd hm hc hn (c_L_right_IA (qx := 5) lW_5 (c_X1_right_no2 (qx := 5) (qa := 6) hst rs_5 rs_6 hw hr hy1)) (fun _ => c_X2_right_no2 hok hr hy1)
  by_cases hy2 : y ≤ nI 8192
  case neg => exact step_no (k := 2) (Or.inr rfl) (by refine ⟨rfl, rfl, ?_, ?_⟩ <;> decide) hok hw hwd hm hc hn (c_L_right_IA (qx := 5) lW_5 (c_X1_right_no3 (qx := 5) (qa := 6) hst rs_5 rs_6 hw hr hy1 hy2)) (fun _ => c_X2_right_no3 hok hr hy1 hy2)
  obtain ⟨k, hk8, rfl⟩ : ∃ k : Nat, k ≤ 8192 ∧ y = nI k := nI_of2 (M := nI 8192) rfl hy1 hy2
  obtain ⟨k1, k2⟩ := gShd_is hr1 hk8 hcr hnr
  have h0 := bV.ld (z := z) (sg := sg) hwk hm hn hr 0
  have key : ∀ f : Nat, hvI (X r) k + (if f = 0 then 0 else (sI (X r)).toInt) = X r / 2 ^ k → ∃ t, (¬ 0 ≤ (mHfS (mLoadG w g r 0 z sg) k f (mLoadZ w g r 0 z)) 1 → mLow (mHfZ (mLoadG w g r 0 z sg) k f (mLoadZ w g r 0 z)) 1 t) ∧ mKSg (mHfS (mLoadG w g r 0 z sg) k f (mLoadZ w g r 0 z)) w (mHfZ (mLoadG w g r 0 z sg) k f (mLoadZ w g r 0 z)) r 1 g 2 = sI (cM bB (w r) (X r / 2 ^ k)) ∧ mdOk w (mStore (mHfS (mLoadG w g r 0 z sg) k f (mLoadZ w g r 0 z)) w (mHfZ (mLoadG w g r 0 z sg) k f (mLoadZ w g r 0 z)) r 1 g) (mKZ (mHfS (mLoadG w g r 0 z sg) k f (mLoadZ w g r 0 z)) w (mHfZ (mLoadG w g r 0 z sg) k f (mLoadZ w g r 0 z)) r 1 g) ∧ mSt w (mStore (mHfS (mLoadG w g r 0 z sg) k f (mLoadZ w g r 0 z)) w (mHfZ (mLoadG w g r 0 z sg) k f (mLoadZ w g r 0 z)) r 1 g) (va_up X r (cM bB (w r) (X r / 2 ^ k))) ∧ nSt w (va_up X r (cM bB (w r) (X r / 2 ^ k))) := by
    intro f e
    have hb := bv_hlf (z := z) (sg := sg) hwk hm hn hr hk8 f
    rw [e] at hb
    obtain ⟨t, t1, -, t3, -, t5, t6, t7⟩ := mo_sto (r := r) (b := 1) (mHfZ_ok (mLoadZ_ok hok)) hm hn hr hb
    exact ⟨t, t1, t3, t5, t6, t7⟩
  refine step_acc (by refine ⟨rfl, rfl, ?_, ?_⟩ <;> decide) (by decide) (by decide) (c_L_right_ok (qx := 5) (qo := 7) lW_5 (fun _ h9 => by subst h9; rfl) (c_X1_right (qx := 5) (qa := 6) rs_5 rs_6 hw hr hk8)) (fun w1 h9 => ⟨la, cap, wd, _, h9, hw, fun Rs => ?_⟩)
  have hsg := sI_ge (X r)
  rw [← h0.2] at hsg
  by_cases hx0 : X r < 0
  · obtain ⟨t0, ht0⟩ := tzI_ex (M := X r) (by omega)
    have hlow := mLow_is h0.1 (tzI_abs.mpr ht0)
    have hmod := tz_mod (k := k) ht0
    have hv := hv_neg hx0 k
    have hs1 : (sI (X r)).toInt = -1 := by rw [sI_n hx0]; rfl
    by_cases htk : k ≤ t0
    · obtain ⟨t, t1, t3, t5, t6, t7⟩ := key 0 (by rw [hv, if_pos (hmod.mpr htk), if_pos rfl]; omega)
      refine ⟨_, _, _, _, _, _, c_X2_right_1 hok hr hk8 (fun q => hsg.mp q hx0) hlow.1 hlow.2.1 hlow.2.2.1 htk t1, ?_, t5, hwd, t6, ?_, t7⟩
      · show Int32.toInt64 _ = Int32.toInt64 _
        rw [t3, rSg_is hr1.1 k2.cM (cM_c bB0 _ _), hwr]
      · rw [← hwr]; exact hc.up (fun _ _ => rfl) k1 k2
    · obtain ⟨t, t1, t3, t5, t6, t7⟩ := key 1 (by rw [hv, if_neg (fun q => htk (hmod.mp q)), if_neg (by decide), hs1]; omega)
      refine ⟨_, _, _, _, _, _, c_X2_right_2 hok hr hk8 (fun q => hsg.mp q hx0) hlow.1 hlow.2.1 hlow.2.2.1 (by omega) t1, ?_, t5, hwd, t6, ?_, t7⟩
      · show Int32.toInt64 _ = Int32.toInt64 _
        rw [t3, rSg_is hr1.1 k2.cM (cM_c bB0 _ _), hwr]
      · rw [← hwr]; exact hc.up (fun _ _ => rfl) k1 k2
  · obtain ⟨t, t1, t3, t5, t6, t7⟩ := key 0 (by rw [hv_pos hx0, if_pos rfl]; omega)
    refine ⟨_, _, _, _, _, _, c_X2_right_0 hok hr hk8 (hsg.mpr hx0) t1, ?_, t5, hwd, t6, ?_, t7⟩
    · show Int32.toInt64 _ = Int32.toInt64 _
      rw [t3, rSg_is hr1.1 k2.cM (cM_c bB0 _ _), hwr]
    · rw [← hwr]; exact hc.up (fun _ _ => rfl) k1 k2
set_option maxHeartbeats 800000 in
set_option maxRecDepth 100000 in
theorem st_nearest {l : Launch} (hst : l.stackTraces = false) {D : va_G} {cA cR cL : ClassId} {h xo ou : Nat} {w0 : va_W} (hLI : LI cA cR cL h xo ou w0) (x : Int32) (y : Int32) : stepOk Value.int (fun v : Int32 => v.toInt64) l D cA cR cL y_L_nearest w_L_nearest [.ref xo, .int x, .int y, .ref ou] y_X2_nearest w_X2_nearest ({ frames := 5, cells := 0, slots := 0, locals := 115 }) [.ref h, .int x, .int y] h ou w0 (LI cA cR cL h xo ou) := by
  obtain ⟨aw, ar, ag, az, cd, w, g, sg, z, ra, fo, ro, la, cap, wd, F, X, rfl, hok, hw, hwd, hm, hc, hn⟩ := hLI
  rcases row_or x with hx | ⟨r, hr, rfl⟩
  · exact step_no (k := 1) (Or.inl rfl) (by refine ⟨rfl, rfl, ?_, ?_⟩ <;> decide) hok hw hwd hm hc hn (c_L_nearest_IO (qx := 5) lW_5 (c_X1_nearest_no (qx := 5) (qa := 6) hst rs_5 rs_6 hw hx y)) (fun _ => c_X2_nearest_no hok hx y)
  have hr1 := hw.w hr
  have hwr := hwd r hr
  have hwk := hok.1
  have hcr := hc r hr
  have hnr : cN bB (wd r) (X r) := by rw [hwr]; exact hn r hr
  by_cases hy1 : y < 0
  · exact step_no (k := 2) (Or.inr rfl) (by refine ⟨rfl, rfl, ?_, ?_⟩ <;> decide) hok hw hwd hm hc hn (c_L_nearest_IA (qx := 5) lW_5 (c_X1_nearest_no2 (qx := 5) (qa := 6) hst rs_5 rs_6 hw hr hy1)) (fun _ => c_X2_nearest_no2 hok hr hy1)
  by_cases hy2 : y ≤ nI 8192
  case neg => exact step_no (k := 2) (Or.inr rfl) (by refine ⟨rfl, rfl, ?_, ?_⟩ <;> decide) hok hw hwd hm hc hn (c_L_nearest_IA (qx := 5) lW_5 (c_X1_nearest_no3 (qx := 5) (qa := 6) hst rs_5 rs_6 hw hr hy1 hy2)) (fun _ => c_X2_nearest_no3 hok hr hy1 hy2)
  obtain ⟨k, hk8, rfl⟩ : ∃ k : Nat, k ≤ 8192 ∧ y = nI k := nI_of2 (M := nI 8192) rfl hy1 hy2
  have h0 := bV.ld (z := z) (sg := sg) hwk hm hn hr 0
  have key : ∀ f : Nat, hvI (X r) k + (if f = 0 then 0 else (sI (X r)).toInt) = (X r / 2 ^ k + upN (X r) k) → ∃ t, (¬ 0 ≤ (mHfS (mLoadG w g r 0 z sg) k f (mLoadZ w g r 0 z)) 1 → mLow (mHfZ (mLoadG w g r 0 z sg) k f (mLoadZ w g r 0 z)) 1 t) ∧ mKSg (mHfS (mLoadG w g r 0 z sg) k f (mLoadZ w g r 0 z)) w (mHfZ (mLoadG w g r 0 z sg) k f (mLoadZ w g r 0 z)) r 1 g 2 = sI (cM bB (w r) (X r / 2 ^ k + upN (X r) k)) ∧ mdOk w (mStore (mHfS (mLoadG w g r 0 z sg) k f (mLoadZ w g r 0 z)) w (mHfZ (mLoadG w g r 0 z sg) k f (mLoadZ w g r 0 z)) r 1 g) (mKZ (mHfS (mLoadG w g r 0 z sg) k f (mLoadZ w g r 0 z)) w (mHfZ (mLoadG w g r 0 z sg) k f (mLoadZ w g r 0 z)) r 1 g) ∧ mSt w (mStore (mHfS (mLoadG w g r 0 z sg) k f (mLoadZ w g r 0 z)) w (mHfZ (mLoadG w g r 0 z sg) k f (mLoadZ w g r 0 z)) r 1 g) (va_up X r (cM bB (w r) (X r / 2 ^ k + upN (X r) k))) ∧ nSt w (va_up X r (cM bB (w r) (X r / 2 ^ k + upN (X r) k))) := by
    intro f e
    have hb := bv_hlf (z := z) (sg := sg) hwk hm hn hr hk8 f
    rw [e] at hb
    obtain ⟨t, t1, -, t3, -, t5, t6, t7⟩ := mo_sto (r := r) (b := 1) (mHfZ_ok (mLoadZ_ok hok)) hm hn hr hb
    exact ⟨t, t1, t3, t5, t6, t7⟩
  have hsg0 : (mLoadG w g r 0 z sg) 0 = 0 ↔ X r = 0 := by rw [h0.2]; exact sI_0 _
  have hmod : ∀ Rs : va_W, ∃ (v2 : Int32) (w' g' : Nat → Nat) (sg' : Nat → Int32) (z' : Nat → Nat), xC l y_X2_nearest w_X2_nearest ({ frames := 5, cells := 0, slots := 0, locals := 115 }) D cls0 (ty3 cA cR cL) [.ref h, .int (nI r), .int (nI k)] (md cA h aw ar ag az cd w g sg z Rs) (some (.int v2)) (fun w1 => w1 = md cA h aw ar ag az (nI 0) w' g' sg' z' Rs) 0 0 ∧ v2 = sI (cM bB (w r) (X r / 2 ^ k + upN (X r) k)) ∧ mdOk w' g' z' ∧ w' = w ∧ mSt w g' (va_up X r (cM bB (w r) (X r / 2 ^ k + upN (X r) k))) ∧ nSt w (va_up X r (cM bB (w r) (X r / 2 ^ k + upN (X r) k))) := by
    intro Rs
    by_cases hk0 : k ≤ 0
    · have hk00 : k = 0 := by omega
      obtain ⟨t, t1, t3, t5, t6, t7⟩ := key 0 (by
        have hu0 : upN (X r) k = 0 := upN_0 (fun q => by have := q.1; omega)
        rw [hu0, if_pos rfl, hk00]
        by_cases hx0 : X r < 0
        · rw [hv_neg hx0, if_pos (by rw [Int.pow_zero, Int.emod_one])]
        · rw [hv_pos hx0])
      exact ⟨_, _, _, _, _, c_X2_nearest_0 hok hr hk8 hk0 t1, t3, t5, rfl, t6, t7⟩
    by_cases hx0 : X r = 0
    · obtain ⟨t, t1, t3, t5, t6, t7⟩ := key 0 (by
        have hu0 : upN (X r) k = 0 := upN_0 (fun q => by
          rw [hx0] at q
          have h1 := q.2
          rw [Int.zero_emod] at h1
          have := p2_0 (k - 1)
          omega)
        rw [hu0, if_pos rfl, hv_pos (by omega)])
      exact ⟨_, _, _, _, _, c_X2_nearest_1 hok hr hk8 (by omega) (hsg0.mpr hx0) t1, t3, t5, rfl, t6, t7⟩
    have hsgn : ¬ (mLoadG w g r 0 z sg) 0 = 0 := fun q => hx0 (hsg0.mp q)
    obtain ⟨t0, ht0⟩ := tzI_ex hx0
    have hlow := mLow_is h0.1 (tzI_abs.mpr ht0)
    obtain ⟨n1, n2⟩ := near_up (b := k) (by omega) ht0
    have b1 := mBit_is h0.1 (k := k - 1) (by omega)
    have b2 := mBit_is h0.1 (k := k) (by omega)
    rw [← b1, ← b2] at n1 n2
    by_cases hbt : mBit (mLoadZ w g r 0 z) 0 (k - 1) = 1
    · by_cases htk : t0 < k - 1
      · obtain ⟨t, t1, t3, t5, t6, t7⟩ := key 1 (by rw [if_neg (by decide)]; exact n1 ⟨by omega, Or.inl htk⟩)
        exact ⟨_, _, _, _, _, c_X2_nearest_3 hok hr hk8 (by omega) hsgn hbt hlow.1 hlow.2.1 hlow.2.2.1 htk t1, t3, t5, rfl, t6, t7⟩
      · by_cases hbk : mBit (mLoadZ w g r 0 z) 0 k = 1
        · obtain ⟨t, t1, t3, t5, t6, t7⟩ := key 1 (by rw [if_neg (by decide)]; exact n1 ⟨by omega, Or.inr (by omega)⟩)
          exact ⟨_, _, _, _, _, c_X2_nearest_4 hok hr hk8 (by omega) hsgn hbt hlow.1 hlow.2.1 hlow.2.2.1 (by omega) hbk t1, t3, t5, rfl, t6, t7⟩
        · obtain ⟨t, t1, t3, t5, t6, t7⟩ := key 0 (by rw [if_pos rfl, Int.add_zero]; exact n2 (Or.inr ⟨by omega, by omega⟩))
          exact ⟨_, _, _, _, _, c_X2_nearest_5 hok hr hk8 (by omega) hsgn hbt hlow.1 hlow.2.1 hlow.2.2.1 (by omega) hbk t1, t3, t5, rfl, t6, t7⟩
    · obtain ⟨t, t1, t3, t5, t6, t7⟩ := key 0 (by rw [if_pos rfl, Int.add_zero]; exact n2 (Or.inl (by omega)))
      exact ⟨_, _, _, _, _, c_X2_nearest_2 hok hr hk8 (by omega) hsgn hbt t1, t3, t5, rfl, t6, t7⟩
  obtain ⟨k1, k2⟩ := gShd_is hr1 hk8 hcr hnr
  have hupi := rUp_is hr1 hcr hnr hk8
  by_cases hup : rUp (wd r) (F r) k = 0
  · rw [upN_0 (hupi.mp hup), Int.add_zero] at hmod
    refine step_acc (by refine ⟨rfl, rfl, ?_, ?_⟩ <;> decide) (by decide) (by decide) (c_L_nearest_ok (qx := 5) (qo := 7) lW_5 (fun _ h9 => by subst h9; rfl) (c_X1_nearest_0 (qx := 5) (qa := 6) rs_5 rs_6 hw hr hk8 hup)) (fun w1 h9 => ⟨la, cap, wd, _, h9, hw, fun Rs => ?_⟩)
    obtain ⟨v2, w', g', sg', z', hC, hv2, hok2, rfl, hm2, hn2⟩ := hmod Rs
    refine ⟨v2, _, g', sg', z', _, hC, ?_, hok2, hwd, hm2, ?_, hn2⟩
    · show Int32.toInt64 _ = Int32.toInt64 _
      rw [hv2, rSg_is hr1.1 k2.cM (cM_c bB0 _ _), hwr]
    · rw [← hwr]; exact hc.up (fun _ _ => rfl) k1 k2
  · obtain ⟨k3, k4⟩ := gInc_is k2
    have hupt : upI (X r) k := Classical.byContradiction (fun q => hup (hupi.mpr q))
    rw [upN_1 hupt] at hmod
    refine step_acc (by refine ⟨rfl, rfl, ?_, ?_⟩ <;> decide) (by decide) (by decide) (c_L_nearest_ok (qx := 5) (qo := 7) lW_5 (fun _ h9 => by subst h9; rfl) (c_X1_nearest_1 (qx := 5) (qa := 6) rs_5 rs_6 hw hr hk8 hup)) (fun w1 h9 => ⟨la, cap, wd, _, h9, hw, fun Rs => ?_⟩)
    obtain ⟨v2, w', g', sg', z', hC, hv2, hok2, rfl, hm2, hn2⟩ := hmod Rs
    refine ⟨v2, _, g', sg', z', _, hC, ?_, hok2, hwd, hm2, ?_, hn2⟩
    · show Int32.toInt64 _ = Int32.toInt64 _
      rw [hv2, rSg_is hr1.1 k4.cM (cM_c bB0 _ _), hwr]
    · rw [← hwr]; exact hc.up (fun _ _ => rfl) (fun j hj => (k3 j hj).trans (k1 j hj)) k4
