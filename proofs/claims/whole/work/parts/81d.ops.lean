set_option maxHeartbeats 800000 in
set_option maxRecDepth 100000 in
theorem st_divide {l : Launch} (hst : l.stackTraces = false) {D : va_G} {cA cR cL : ClassId} {h xo ou : Nat} {w0 : va_W} (hLI : LI cA cR cL h xo ou w0) (x : Int32) (v : Int64) : stepOk Value.long (fun v : Int64 => v) l D cA cR cL y_L_divide w_L_divide [.ref xo, .int x, .long v, .ref ou] y_X2_divide w_X2_divide ({ frames := 4, cells := 0, slots := 0, locals := 93 }) [.ref h, .int x, .long v] h ou w0 (LI cA cR cL h xo ou) := by
  obtain ⟨aw, ar, ag, az, cd, w, g, sg, z, ra, fo, ro, la, cap, wd, F, X, rfl, hok, hw, hwd, hm, hc, hn⟩ := hLI
  rcases row_or x with hx | ⟨r, hr, rfl⟩
  · exact step_no (k := 1) (Or.inl rfl) (by refine ⟨rfl, rfl, ?_, ?_⟩ <;> decide) hok hw hwd hm hc hn (c_L_divide_IO (qx := 5) lW_5 (c_X1_divide_no (qx := 5) (qa := 6) hst rs_5 rs_6 hw hx v)) (fun _ => c_X2_divide_no hok hx v)
  have hr1 := hw.w hr
  have hwr := hwd r hr
  have hwk := hok.1
  have hcr := hc r hr
  have hnr : cN bB (wd r) (X r) := by rw [hwr]; exact hn r hr
  by_cases hy1 : lg_cmp v 1 < 0
  · exact step_no (k := 2) (Or.inr rfl) (by refine ⟨rfl, rfl, ?_, ?_⟩ <;> decide) hok hw hwd hm hc hn (c_L_divide_IA (qx := 5) lW_5 (c_X1_divide_no2 (qx := 5) (qa := 6) hst rs_5 rs_6 hw hr hy1)) (fun _ => c_X2_divide_no2 hok hr hy1)
  by_cases hy2 : lg_cmp v 4611686018427387903 ≤ 0
  case neg => exact step_no (k := 2) (Or.inr rfl) (by refine ⟨rfl, rfl, ?_, ?_⟩ <;> decide) hok hw hwd hm hc hn (c_L_divide_IA (qx := 5) lW_5 (c_X1_divide_no3 (qx := 5) (qa := 6) hst rs_5 rs_6 hw hr hy1 hy2)) (fun _ => c_X2_divide_no3 hok hr hy1 hy2)
  have hd1 : 1 ≤ v.toInt := by
    have q := hy1
    rw [lg_cmp_lt, Int64.lt_iff_toInt_lt] at q
    have e : (1 : Int64).toInt = 1 := rfl
    omega
  have hd2 : v.toInt < 4611686018427387904 := by
    have q := hy2
    rw [lg_cmp_le, Int64.le_iff_toInt_le] at q
    have e : (4611686018427387903 : Int64).toInt = 4611686018427387903 := rfl
    omega
  obtain ⟨k1, k2, k3⟩ := gDivB_is hr1 hd1 hd2 hcr hnr
  have h0 := bV.ld (z := z) (sg := sg) hwk hm hn hr 0
  obtain ⟨q1, q2, q3⟩ := dv_is hd1 hd2 h0
  have hokq : mdOk w g (mDvZ v (mBits (mClr 1 cZ 0 (mLoadZ w g r 0 z)) 0) 0 (mClr 1 cZ 0 (mLoadZ w g r 0 z))) := mDvZ_ok _ _ _ (mClr_ok _ _ _ (mLoadZ_ok hok))
  have hs0 : (upd (mLoadG w g r 0 z sg) 1 (nI 0)) 0 = sI (X r) := by rw [pk_un (by decide)]; exact h0.2
  have hsg := sI_ge (X r)
  rw [← hs0] at hsg
  have hbd : ((X r).natAbs : Int) / v.toInt ≤ ((X r).natAbs : Int) := Int.ediv_le_self _ (by omega)
  have hb0 : 0 ≤ ((X r).natAbs : Int) / v.toInt := Int.ediv_nonneg (by omega) (by omega)
  have hX5 := (hn.in hwk hr).1
  have hmod : ∀ Rs : va_W, ∃ (v2 : Int64) (w' g' : Nat → Nat) (sg' : Nat → Int32) (z' : Nat → Nat), xC l y_X2_divide w_X2_divide ({ frames := 4, cells := 0, slots := 0, locals := 93 }) D cls0 (ty3 cA cR cL) [.ref h, .int (nI r), .long v] (md cA h aw ar ag az cd w g sg z Rs) (some (.long v2)) (fun w1 => w1 = md cA h aw ar ag az (nI 0) w' g' sg' z' Rs) 0 0 ∧ v2.toInt = X r % v.toInt ∧ mdOk w' g' z' ∧ w' = w ∧ mSt w g' (va_up X r (cM bB (w r) (X r / v.toInt))) ∧ nSt w (va_up X r (cM bB (w r) (X r / v.toInt))) := by
    intro Rs
    by_cases hx0 : X r < 0
    · obtain ⟨f1, f2⟩ := fl_neg hx0 (show 0 < v.toInt by omega)
      have hsn : ¬ 0 ≤ (upd (mLoadG w g r 0 z sg) 1 (nI 0)) 0 := fun q => hsg.mp q hx0
      have zr : ∀ q : Int64, lg_cmp q 0 ≤ 0 ↔ q.toInt ≤ 0 := fun q => by rw [lg_cmp_le, Int64.le_iff_toInt_le]; exact Iff.rfl
      have hr0' := Int.emod_nonneg ((X r).natAbs : Int) (show v.toInt ≠ 0 by omega)
      have hr1' := Int.emod_lt_of_pos ((X r).natAbs : Int) (show 0 < v.toInt by omega)
      by_cases hrz : lg_cmp (mDvR v (mBits (mClr 1 cZ 0 (mLoadZ w g r 0 z)) 0) 0 (mClr 1 cZ 0 (mLoadZ w g r 0 z))) 0 ≤ 0
      · have hrz0 : ((X r).natAbs : Int) % v.toInt = 0 := by
          have q := (zr _).mp hrz
          rw [q2] at q
          omega
        obtain ⟨e1, e2⟩ := f1 hrz0
        by_cases hb1 : mBits (mDvZ v (mBits (mClr 1 cZ 0 (mLoadZ w g r 0 z)) 0) 0 (mClr 1 cZ 0 (mLoadZ w g r 0 z))) 1 = 0
        · exfalso
          have q := q3.mp hb1
          have e := lm_dm ((X r).natAbs : Int) v.toInt
          rw [q, hrz0, Int.mul_zero] at e
          omega
        · have q := mt q3.mpr hb1
          have hb : bV (upd (upd (mLoadG w g r 0 z sg) 1 (nI 0)) 1 ((upd (mLoadG w g r 0 z sg) 1 (nI 0)) 0)) (mDvZ v (mBits (mClr 1 cZ 0 (mLoadZ w g r 0 z)) 0) 0 (mClr 1 cZ 0 (mLoadZ w g r 0 z))) 1 (X r / v.toInt) := by
            rw [e1]
            refine ⟨?_, ?_⟩
            · rw [Int.natAbs_neg, Int.natAbs_of_nonneg hb0]; exact q1
            · rw [pk_us, hs0, sI_n hx0, sI_n (by omega)]
          obtain ⟨t, t1, -, -, t4, -, t6, t7⟩ := mo_sto (r := r) (b := 1) hokq hm hn hr hb
          exact ⟨_, _, _, _, _, c_X2_divide_11 hok hr v hy1 hy2 hsn hb1 hrz t1, by rw [q2, hrz0, e2], t4, rfl, t6, t7⟩
      · have hrz0 : ¬ ((X r).natAbs : Int) % v.toInt = 0 := by
          have q := mt (zr _).mpr hrz
          rw [q2] at q
          omega
        obtain ⟨e1, e2⟩ := f2 hrz0
        have hrem : (v - (mDvR v (mBits (mClr 1 cZ 0 (mLoadZ w g r 0 z)) 0) 0 (mClr 1 cZ 0 (mLoadZ w g r 0 z)))).toInt = X r % v.toInt := by
          rw [Int64.toInt_sub, q2, e2]
          exact Int.bmod_eq_of_le (by omega) (by omega)
        have m1 : (-1 : Int64).toInt = -1 := rfl
        by_cases hb1 : mBits (mDvZ v (mBits (mClr 1 cZ 0 (mLoadZ w g r 0 z)) 0) 0 (mClr 1 cZ 0 (mLoadZ w g r 0 z))) 1 = 0
        · have q := q3.mp hb1
          have hb : bV (upd (upd (mLoadG w g r 0 z sg) 1 (nI 0)) 1 (nI 0)) (mDvZ v (mBits (mClr 1 cZ 0 (mLoadZ w g r 0 z)) 0) 0 (mClr 1 cZ 0 (mLoadZ w g r 0 z))) 1 0 := ⟨by rw [q] at q1; exact q1, by rw [pk_us]; rfl⟩
          have hb := addLong (-1) hb (lm_pw bH0 600)
          rw [m1, show (0 : Int) + -1 = X r / v.toInt by omega] at hb
          obtain ⟨t, t1, -, -, t4, -, t6, t7⟩ := mo_sto (r := r) (b := 1) (mCombZ_ok (mLongZ_ok hokq)) hm hn hr hb
          exact ⟨_, _, _, _, _, c_X2_divide_12 hok hr v hy1 hy2 hsn hb1 hrz t1, hrem, t4, rfl, t6, t7⟩
        · have q := mt q3.mpr hb1
          have hb : bV (upd (upd (mLoadG w g r 0 z sg) 1 (nI 0)) 1 ((upd (mLoadG w g r 0 z sg) 1 (nI 0)) 0)) (mDvZ v (mBits (mClr 1 cZ 0 (mLoadZ w g r 0 z)) 0) 0 (mClr 1 cZ 0 (mLoadZ w g r 0 z))) 1 (-(((X r).natAbs : Int) / v.toInt)) := by
            refine ⟨?_, ?_⟩
            · rw [Int.natAbs_neg, Int.natAbs_of_nonneg hb0]; exact q1
            · rw [pk_us, hs0, sI_n hx0, sI_n (by omega)]
          have hb := addLong (-1) hb (by
            rw [Int.natAbs_neg, Int.natAbs_of_nonneg hb0]
            have := bH_le (m := 512) (n := 600) (by decide)
            omega)
          rw [m1, show -(((X r).natAbs : Int) / v.toInt) + -1 = X r / v.toInt by omega] at hb
          obtain ⟨t, t1, -, -, t4, -, t6, t7⟩ := mo_sto (r := r) (b := 1) (mCombZ_ok (mLongZ_ok hokq)) hm hn hr hb
          exact ⟨_, _, _, _, _, c_X2_divide_13 hok hr v hy1 hy2 hsn hb1 hrz t1, hrem, t4, rfl, t6, t7⟩
    · obtain ⟨e1, e2⟩ := fl_pos (X := X r) (d := v.toInt) (by omega)
      have hsp : 0 ≤ (upd (mLoadG w g r 0 z sg) 1 (nI 0)) 0 := hsg.mpr hx0
      by_cases hb1 : mBits (mDvZ v (mBits (mClr 1 cZ 0 (mLoadZ w g r 0 z)) 0) 0 (mClr 1 cZ 0 (mLoadZ w g r 0 z))) 1 = 0
      · have q := q3.mp hb1
        have hb : bV (upd (upd (mLoadG w g r 0 z sg) 1 (nI 0)) 1 (nI 0)) (mDvZ v (mBits (mClr 1 cZ 0 (mLoadZ w g r 0 z)) 0) 0 (mClr 1 cZ 0 (mLoadZ w g r 0 z))) 1 (X r / v.toInt) := by
          rw [← e1, q]
          exact ⟨by rw [q] at q1; exact q1, by rw [pk_us]; rfl⟩
        obtain ⟨t, t1, -, -, t4, -, t6, t7⟩ := mo_sto (r := r) (b := 1) hokq hm hn hr hb
        exact ⟨_, _, _, _, _, c_X2_divide_00 hok hr v hy1 hy2 hsp hb1 t1, by rw [q2, e2], t4, rfl, t6, t7⟩
      · have q := mt q3.mpr hb1
        have hb : bV (upd (upd (mLoadG w g r 0 z sg) 1 (nI 0)) 1 ((upd (mLoadG w g r 0 z sg) 1 (nI 0)) 0)) (mDvZ v (mBits (mClr 1 cZ 0 (mLoadZ w g r 0 z)) 0) 0 (mClr 1 cZ 0 (mLoadZ w g r 0 z))) 1 (X r / v.toInt) := by
          have hXp : 0 < X r := by
            rcases Int.lt_or_eq_of_le (show 0 ≤ X r by omega) with z1 | z1
            · exact z1
            · exfalso
              apply q
              rw [e1, ← z1, Int.zero_ediv]
          rw [← e1]
          refine ⟨?_, ?_⟩
          · rw [Int.natAbs_of_nonneg hb0]; exact q1
          · rw [pk_us, hs0, sI_p hXp, sI_p (by omega)]
        obtain ⟨t, t1, -, -, t4, -, t6, t7⟩ := mo_sto (r := r) (b := 1) hokq hm hn hr hb
        exact ⟨_, _, _, _, _, c_X2_divide_01 hok hr v hy1 hy2 hsp hb1 t1, by rw [q2, e2], t4, rfl, t6, t7⟩
  refine step_acc (by refine ⟨rfl, rfl, ?_, ?_⟩ <;> decide) (by decide) (by decide) (c_L_divide_ok (qx := 5) (qo := 7) lW_5 (fun _ h9 => by subst h9; rfl) (c_X1_divide (qx := 5) (qa := 6) rs_5 rs_6 hw hr v hy1 hy2)) (fun w1 h9 => ⟨la, cap, wd, _, h9, hw, fun Rs => ?_⟩)
  obtain ⟨v2, w', g', sg', z', hC, hv2, hok2, rfl, hm2, hn2⟩ := hmod Rs
  refine ⟨v2, _, g', sg', z', _, hC, ?_, hok2, hwd, hm2, ?_, hn2⟩
  · show v2 = rDivB r (wd r) v F
    rw [← Int64.toInt_inj, hv2, k3]
  · rw [← hwr]; exact hc.up (fun _ _ => rfl) k1 k2
set_option maxHeartbeats 800000 in
set_option maxRecDepth 100000 in
theorem st_zeros {l : Launch} (hst : l.stackTraces = false) {D : va_G} {cA cR cL : ClassId} {h xo ou : Nat} {w0 : va_W} (hLI : LI cA cR cL h xo ou w0) (x : Int32) : stepOk Value.int (fun v : Int32 => v.toInt64) l D cA cR cL y_L_zeros w_L_zeros [.ref xo, .int x, .ref ou] y_X2_zeros w_X2_zeros ({ frames := 2, cells := 0, slots := 0, locals := 50 }) [.ref h, .int x] h ou w0 (LI cA cR cL h xo ou) := by
  obtain ⟨aw, ar, ag, az, cd, w, g, sg, z, ra, fo, ro, la, cap, wd, F, X, rfl, hok, hw, hwd, hm, hc, hn⟩ := hLI
  rcases row_or x with hx | ⟨r, hr, rfl⟩
  · exact step_no (k := 1) (Or.inl rfl) (by refine ⟨rfl, rfl, ?_, ?_⟩ <;> decide) hok hw hwd hm hc hn (c_L_zeros_IO (qx := 5) lW_5 (c_X1_zeros_no (qx := 5) (qa := 6) hst rs_5 rs_6 hw hx)) (fun _ => c_X2_zeros_no hok hx)
  have hr1 := hw.w hr
  have hwr := hwd r hr
  have hwk := hok.1
  have hcr := hc r hr
  have hnr : cN bB (wd r) (X r) := by rw [hwr]; exact hn r hr
  have h0 := bV.ld (z := z) (sg := sg) hwk hm hn hr 0
  have hsg0 : (mLoadG w g r 0 z sg) 0 = 0 ↔ X r = 0 := by rw [h0.2]; exact sI_0 _
  refine step_acc (by refine ⟨rfl, rfl, ?_, ?_⟩ <;> decide) (by decide) (by decide) (c_L_zeros_ok (qx := 5) (qo := 7) lW_5 (fun _ h9 => by subst h9; rfl) (c_X1_zeros (qx := 5) (qa := 6) rs_5 rs_6 hw hr)) (fun w1 h9 => ⟨la, cap, wd, _, h9, hw, fun Rs => ?_⟩)
  rcases rTz_is hr1 hcr hnr with ⟨e1, e2⟩ | ⟨t, ht, e1, e2⟩
  · refine ⟨_, _, _, _, _, X, c_X2_zeros_0 hok hr (hsg0.mpr e1), ?_, mLoadZ_ok hok, hwd, hm, hc, hn⟩
    show Int32.toInt64 _ = Int32.toInt64 _
    rw [e2, hwr]
  · have hlow := mLow_is h0.1 (tzI_abs.mpr e1)
    refine ⟨_, _, _, _, _, X, c_X2_zeros_1 hok hr (fun q => tzI_nz e1 (hsg0.mp q)) hlow.1 hlow.2.1 hlow.2.2.1, ?_, mLoadZ_ok hok, hwd, hm, hc, hn⟩
    show Int32.toInt64 _ = Int32.toInt64 _
    rw [e2]
set_option maxHeartbeats 800000 in
set_option maxRecDepth 100000 in
theorem st_length {l : Launch} (hst : l.stackTraces = false) {D : va_G} {cA cR cL : ClassId} {h xo ou : Nat} {w0 : va_W} (hLI : LI cA cR cL h xo ou w0) (x : Int32) : stepOk Value.int (fun v : Int32 => v.toInt64) l D cA cR cL y_L_length w_L_length [.ref xo, .int x, .ref ou] y_X2_length w_X2_length ({ frames := 3, cells := 0, slots := 0, locals := 66 }) [.ref h, .int x] h ou w0 (LI cA cR cL h xo ou) := by
  obtain ⟨aw, ar, ag, az, cd, w, g, sg, z, ra, fo, ro, la, cap, wd, F, X, rfl, hok, hw, hwd, hm, hc, hn⟩ := hLI
  rcases row_or x with hx | ⟨r, hr, rfl⟩
  · exact step_no (k := 1) (Or.inl rfl) (by refine ⟨rfl, rfl, ?_, ?_⟩ <;> decide) hok hw hwd hm hc hn (c_L_length_IO (qx := 5) lW_5 (c_X1_length_no (qx := 5) (qa := 6) hst rs_5 rs_6 hw hx)) (fun _ => c_X2_length_no hok hx)
  have hr1 := hw.w hr
  have hwr := hwd r hr
  have hwk := hok.1
  have hcr := hc r hr
  have hnr : cN bB (wd r) (X r) := by rw [hwr]; exact hn r hr
  have h0 := bV.ld (z := z) (sg := sg) hwk hm hn hr 0
  obtain ⟨t, ht⟩ := tz_pick (X r)
  obtain ⟨q, q1, -, q3⟩ := rBl_is hr1 hcr hnr
  have hl := mLenO_is h0 (t := t) (fun z => ht (by omega))
  refine step_acc (by refine ⟨rfl, rfl, ?_, ?_⟩ <;> decide) (by decide) (by decide) (c_L_length_ok (qx := 5) (qo := 7) lW_5 (fun _ h9 => by subst h9; rfl) (c_X1_length (qx := 5) (qa := 6) rs_5 rs_6 hw hr)) (fun w1 h9 => ⟨la, cap, wd, _, h9, hw, fun Rs => ?_⟩)
  refine ⟨_, _, _, _, _, X, c_X2_length hok hr (lowB h0 ht), ?_, mLoadZ_ok hok, hwd, hm, hc, hn⟩
  show Int32.toInt64 _ = Int32.toInt64 _
  rw [q1, isL_uq hl q3]
set_option maxHeartbeats 800000 in
set_option maxRecDepth 100000 in
theorem st_sign {l : Launch} (hst : l.stackTraces = false) {D : va_G} {cA cR cL : ClassId} {h xo ou : Nat} {w0 : va_W} (hLI : LI cA cR cL h xo ou w0) (x : Int32) : stepOk Value.int (fun v : Int32 => v.toInt64) l D cA cR cL y_L_sign w_L_sign [.ref xo, .int x, .ref ou] y_X2_sign w_X2_sign ({ frames := 3, cells := 0, slots := 0, locals := 71 }) [.ref h, .int x] h ou w0 (LI cA cR cL h xo ou) := by
  obtain ⟨aw, ar, ag, az, cd, w, g, sg, z, ra, fo, ro, la, cap, wd, F, X, rfl, hok, hw, hwd, hm, hc, hn⟩ := hLI
  rcases row_or x with hx | ⟨r, hr, rfl⟩
  · exact step_no (k := 1) (Or.inl rfl) (by refine ⟨rfl, rfl, ?_, ?_⟩ <;> decide) hok hw hwd hm hc hn (c_L_sign_IO (qx := 5) lW_5 (c_X1_sign_no (qx := 5) (qa := 6) hst rs_5 rs_6 hw hx)) (fun _ => c_X2_sign_no hok hx)
  have hr1 := hw.w hr
  have hwr := hwd r hr
  have hwk := hok.1
  have hcr := hc r hr
  have hnr : cN bB (wd r) (X r) := by rw [hwr]; exact hn r hr
  have h2 := bV.ld (z := z) (sg := sg) hwk hm hn hr 2
  refine step_acc (by refine ⟨rfl, rfl, ?_, ?_⟩ <;> decide) (by decide) (by decide) (c_L_sign_ok (qx := 5) (qo := 7) lW_5 (fun _ h9 => by subst h9; rfl) (c_X1_sign (qx := 5) (qa := 6) rs_5 rs_6 hw hr)) (fun w1 h9 => ⟨la, cap, wd, _, h9, hw, fun Rs => ?_⟩)
  refine ⟨_, _, _, _, _, X, c_X2_sign hok hr, ?_, mLoadZ_ok hok, hwd, hm, hc, hn⟩
  show Int32.toInt64 _ = Int32.toInt64 _
  rw [h2.2, rSg_is hr1.1 hcr hnr]
set_option maxHeartbeats 800000 in
set_option maxRecDepth 100000 in
theorem st_compare {l : Launch} (hst : l.stackTraces = false) {D : va_G} {cA cR cL : ClassId} {h xo ou : Nat} {w0 : va_W} (hLI : LI cA cR cL h xo ou w0) (x : Int32) (y : Int32) : stepOk Value.int (fun v : Int32 => v.toInt64) l D cA cR cL y_L_compare w_L_compare [.ref xo, .int x, .int y, .ref ou] y_X2_compare w_X2_compare ({ frames := 2, cells := 0, slots := 0, locals := 54 }) [.ref h, .int x, .int y] h ou w0 (LI cA cR cL h xo ou) := by
  obtain ⟨aw, ar, ag, az, cd, w, g, sg, z, ra, fo, ro, la, cap, wd, F, X, rfl, hok, hw, hwd, hm, hc, hn⟩ := hLI
  rcases row_or x with hx | ⟨r, hr, rfl⟩
  · exact step_no (k := 1) (Or.inl rfl) (by refine ⟨rfl, rfl, ?_, ?_⟩ <;> decide) hok hw hwd hm hc hn (c_L_compare_IO (qx := 5) lW_5 (c_X1_compare_no (qx := 5) (qa := 6) hst rs_5 rs_6 hw hx y)) (fun _ => c_X2_compare_no hok hx y)
  have hr1 := hw.w hr
  have hwr := hwd r hr
  have hwk := hok.1
  have hcr := hc r hr
  have hnr : cN bB (wd r) (X r) := by rw [hwr]; exact hn r hr
  rcases row_or y with hy | ⟨a, ha, rfl⟩
  · exact step_no (k := 1) (Or.inl rfl) (by refine ⟨rfl, rfl, ?_, ?_⟩ <;> decide) hok hw hwd hm hc hn (c_L_compare_IO (qx := 5) lW_5 (c_X1_compare_no2 (qx := 5) (qa := 6) hst rs_5 rs_6 hw hr hy)) (fun _ => c_X2_compare_no2 hok hr hy)
  have ha1 := hw.w ha
  have hwa := hwd a ha
  have hca := hc a ha
  have hna : cN bB (wd a) (X a) := by rw [hwa]; exact hn a ha
  have hb := bv_two (z := z) (sg := sg) hwk hm hn hr ha (f := 1) (by decide)
  rw [if_neg (by decide)] at hb
  refine step_acc (by refine ⟨rfl, rfl, ?_, ?_⟩ <;> decide) (by decide) (by decide) (c_L_compare_ok (qx := 5) (qo := 7) lW_5 (fun _ h9 => by subst h9; rfl) (c_X1_compare (qx := 5) (qa := 6) rs_5 rs_6 hw hr ha)) (fun w1 h9 => ⟨la, cap, wd, _, h9, hw, fun Rs => ?_⟩)
  refine ⟨_, _, _, _, _, X, c_X2_compare hok hr ha, ?_, mCombZ_ok (mLoadZ_ok (mLoadZ_ok hok)), hwd, hm, hc, hn⟩
  show Int32.toInt64 _ = Int32.toInt64 _
  rw [hb.2, rOrd_is hr1 ha1 hcr hca hnr hna]
