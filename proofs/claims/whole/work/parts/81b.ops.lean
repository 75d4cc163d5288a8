set_option maxHeartbeats 800000 in
set_option maxRecDepth 100000 in
theorem st_copy {l : Launch} (hst : l.stackTraces = false) {D : va_G} {cA cR cL : ClassId} {h xo ou : Nat} {w0 : va_W} (hLI : LI cA cR cL h xo ou w0) (x : Int32) (y : Int32) : stepOk Value.int (fun v : Int32 => if v = 0 then 0 else 1) l D cA cR cL y_L_copy w_L_copy [.ref xo, .int x, .int y, .ref ou] y_X2_copy w_X2_copy ({ frames := 4, cells := 0, slots := 0, locals := 93 }) [.ref h, .int x, .int y] h ou w0 (LI cA cR cL h xo ou) := by
  obtain ⟨aw, ar, ag, az, cd, w, g, sg, z, ra, fo, ro, la, cap, wd, F, X, rfl, hok, hw, hwd, hm, hc, hn⟩ := hLI
  rcases row_or x with hx | ⟨r, hr, rfl⟩
  · exact step_no (k := 1) (Or.inl rfl) (by refine ⟨rfl, rfl, ?_, ?_⟩ <;> decide) hok hw hwd hm hc hn (c_L_copy_IO (qx := 5) lW_5 (c_X1_copy_no (qx := 5) (qa := 6) hst rs_5 rs_6 hw hx y)) (fun _ => c_X2_copy_no hok hx y)
  have hr1 := hw.w hr
  have hwr := hwd r hr
  have hwk := hok.1
  have hcr := hc r hr
  have hnr : cN bB (wd r) (X r) := by rw [hwr]; exact hn r hr
  rcases row_or y with hy | ⟨a, ha, rfl⟩
  · exact step_no (k := 1) (Or.inl rfl) (by refine ⟨rfl, rfl, ?_, ?_⟩ <;> decide) hok hw hwd hm hc hn (c_L_copy_IO (qx := 5) lW_5 (c_X1_copy_no2 (qx := 5) (qa := 6) hst rs_5 rs_6 hw hr hy)) (fun _ => c_X2_copy_no2 hok hr hy)
  have ha1 := hw.w ha
  have hwa := hwd a ha
  have hca := hc a ha
  have hna : cN bB (wd a) (X a) := by rw [hwa]; exact hn a ha
  have hb := bV.ld (z := z) (sg := sg) hwk hm hn ha 0
  obtain ⟨t, t1, t2, -, t4, -, t6, t7⟩ := mo_sto (r := r) (b := 0) (mLoadZ_ok hok) hm hn hr hb
  obtain ⟨k1, k2⟩ := gCopy_is (r := r) (a := a) (wr := wd r) (wa := wd a) hr1 ha1 (fun q => by rw [q]) hca hna
  refine step_acc (by refine ⟨rfl, rfl, ?_, ?_⟩ <;> decide) (by decide) (by decide) (c_L_copy_ok (qx := 5) (qo := 7) lW_5 (fun _ h9 => by subst h9; rfl) (c_X1_copy (qx := 5) (qa := 6) rs_5 rs_6 hw hr ha)) (fun w1 h9 => ⟨la, cap, wd, _, h9, hw, fun Rs => ?_⟩)
  refine ⟨_, _, _, _, _, _, c_X2_copy hok hr ha t1, ?_, t4, hwd, t6, ?_, t7⟩
  · have e := rFit_is ha1 hr1 hca hna
    rw [hwr] at e
    have e := fit_eq e t2
    show (if nI _ = 0 then (0 : Int64) else 1) = _
    rw [hwr, e]
  · rw [← hwr]; exact hc.up (fun _ _ => rfl) k1 k2
set_option maxHeartbeats 800000 in
set_option maxRecDepth 100000 in
theorem st_add {l : Launch} (hst : l.stackTraces = false) {D : va_G} {cA cR cL : ClassId} {h xo ou : Nat} {w0 : va_W} (hLI : LI cA cR cL h xo ou w0) (x : Int32) (y : Int32) : stepOk Value.int (fun v : Int32 => v.toInt64) l D cA cR cL y_L_add w_L_add [.ref xo, .int x, .int y, .ref ou] y_X2_add w_X2_add ({ frames := 6, cells := 0, slots := 0, locals := 138 }) [.ref h, .int x, .int y] h ou w0 (LI cA cR cL h xo ou) := by
  obtain ⟨aw, ar, ag, az, cd, w, g, sg, z, ra, fo, ro, la, cap, wd, F, X, rfl, hok, hw, hwd, hm, hc, hn⟩ := hLI
  rcases row_or x with hx | ⟨r, hr, rfl⟩
  · exact step_no (k := 1) (Or.inl rfl) (by refine ⟨rfl, rfl, ?_, ?_⟩ <;> decide) hok hw hwd hm hc hn (c_L_add_IO (qx := 5) lW_5 (c_X1_add_no (qx := 5) (qa := 6) hst rs_5 rs_6 hw hx y)) (fun _ => c_X2_add_no hok hx y)
  have hr1 := hw.w hr
  have hwr := hwd r hr
  have hwk := hok.1
  have hcr := hc r hr
  have hnr : cN bB (wd r) (X r) := by rw [hwr]; exact hn r hr
  rcases row_or y with hy | ⟨a, ha, rfl⟩
  · exact step_no (k := 1) (Or.inl rfl) (by refine ⟨rfl, rfl, ?_, ?_⟩ <;> decide) hok hw hwd hm hc hn (c_L_add_IO (qx := 5) lW_5 (c_X1_add_no2 (qx := 5) (qa := 6) hst rs_5 rs_6 hw hr hy)) (fun _ => c_X2_add_no2 hok hr hy)
  have ha1 := hw.w ha
  have hwa := hwd a ha
  have hca := hc a ha
  have hna : cN bB (wd a) (X a) := by rw [hwa]; exact hn a ha
  have hb := bv_two (z := z) (sg := sg) hwk hm hn hr ha (f := 0) (by decide)
  rw [if_pos rfl] at hb
  obtain ⟨t, t1, -, t3, -, t5, t6, t7⟩ := mo_sto (r := r) (b := 0) (mCombZ_ok (mLoadZ_ok (mLoadZ_ok hok))) hm hn hr hb
  obtain ⟨k1, k2⟩ := rAdd_is (r := r) (a := a) (wr := wd r) (wa := wd a) hr1 ha1 (fun q => by rw [q]) hcr hca hna
  refine step_acc (by refine ⟨rfl, rfl, ?_, ?_⟩ <;> decide) (by decide) (by decide) (c_L_add_ok (qx := 5) (qo := 7) lW_5 (fun _ h9 => by subst h9; rfl) (c_X1_add (qx := 5) (qa := 6) rs_5 rs_6 hw hr ha)) (fun w1 h9 => ⟨la, cap, wd, _, h9, hw, fun Rs => ?_⟩)
  refine ⟨_, _, _, _, _, _, c_X2_add hok hr ha t1, ?_, t5, hwd, t6, ?_, t7⟩
  · show Int32.toInt64 _ = Int32.toInt64 _
    rw [t3, rSg_is hr1.1 k2.cM (cM_c bB0 _ _), hwr]
  · rw [← hwr]; exact hc.up (fun _ _ => rfl) k1 k2
set_option maxHeartbeats 800000 in
set_option maxRecDepth 100000 in
theorem st_subtract {l : Launch} (hst : l.stackTraces = false) {D : va_G} {cA cR cL : ClassId} {h xo ou : Nat} {w0 : va_W} (hLI : LI cA cR cL h xo ou w0) (x : Int32) (y : Int32) : stepOk Value.int (fun v : Int32 => v.toInt64) l D cA cR cL y_L_subtract w_L_subtract [.ref xo, .int x, .int y, .ref ou] y_X2_subtract w_X2_subtract ({ frames := 6, cells := 0, slots := 0, locals := 138 }) [.ref h, .int x, .int y] h ou w0 (LI cA cR cL h xo ou) := by
  obtain ⟨aw, ar, ag, az, cd, w, g, sg, z, ra, fo, ro, la, cap, wd, F, X, rfl, hok, hw, hwd, hm, hc, hn⟩ := hLI
  rcases row_or x with hx | ⟨r, hr, rfl⟩
  · exact step_no (k := 1) (Or.inl rfl) (by refine ⟨rfl, rfl, ?_, ?_⟩ <;> decide) hok hw hwd hm hc hn (c_L_subtract_IO (qx := 5) lW_5 (c_X1_subtract_no (qx := 5) (qa := 6) hst rs_5 rs_6 hw hx y)) (fun _ => c_X2_subtract_no hok hx y)
  have hr1 := hw.w hr
  have hwr := hwd r hr
  have hwk := hok.1
  have hcr := hc r hr
  have hnr : cN bB (wd r) (X r) := by rw [hwr]; exact hn r hr
  rcases row_or y with hy | ⟨a, ha, rfl⟩
  · exact step_no (k := 1) (Or.inl rfl) (by refine ⟨rfl, rfl, ?_, ?_⟩ <;> decide) hok hw hwd hm hc hn (c_L_subtract_IO (qx := 5) lW_5 (c_X1_subtract_no2 (qx := 5) (qa := 6) hst rs_5 rs_6 hw hr hy)) (fun _ => c_X2_subtract_no2 hok hr hy)
  have ha1 := hw.w ha
  have hwa := hwd a ha
  have hca := hc a ha
  have hna : cN bB (wd a) (X a) := by rw [hwa]; exact hn a ha
  have hb := bv_two (z := z) (sg := sg) hwk hm hn hr ha (f := 1) (by decide)
  rw [if_neg (by decide)] at hb
  obtain ⟨t, t1, -, t3, -, t5, t6, t7⟩ := mo_sto (r := r) (b := 0) (mCombZ_ok (mLoadZ_ok (mLoadZ_ok hok))) hm hn hr hb
  obtain ⟨k1, k2⟩ := rSub_is (r := r) (a := a) (wr := wd r) (wa := wd a) hr1 ha1 (fun q => by rw [q]) hcr hca hna
  refine step_acc (by refine ⟨rfl, rfl, ?_, ?_⟩ <;> decide) (by decide) (by decide) (c_L_subtract_ok (qx := 5) (qo := 7) lW_5 (fun _ h9 => by subst h9; rfl) (c_X1_subtract (qx := 5) (qa := 6) rs_5 rs_6 hw hr ha)) (fun w1 h9 => ⟨la, cap, wd, _, h9, hw, fun Rs => ?_⟩)
  refine ⟨_, _, _, _, _, _, c_X2_subtract hok hr ha t1, ?_, t5, hwd, t6, ?_, t7⟩
  · show Int32.toInt64 _ = Int32.toInt64 _
    rw [t3, rSg_is hr1.1 k2.cM (cM_c bB0 _ _), hwr]
  · rw [← hwr]; exact hc.up (fun _ _ => rfl) k1 k2
set_option maxHeartbeats 800000 in
set_option maxRecDepth 100000 in
theorem st_addProduct {l : Launch} (hst : l.stackTraces = false) {D : va_G} {cA cR cL : ClassId} {h xo ou : Nat} {w0 : va_W} (hLI : LI cA cR cL h xo ou w0) (x : Int32) (y : Int32) (u : Int32) : stepOk Value.int (fun v : Int32 => v.toInt64) l D cA cR cL y_L_addProduct w_L_addProduct [.ref xo, .int x, .int y, .int u, .ref ou] y_X2_addProduct w_X2_addProduct ({ frames := 6, cells := 0, slots := 0, locals := 139 }) [.ref h, .int x, .int y, .int u] h ou w0 (LI cA cR cL h xo ou) := by
  obtain ⟨aw, ar, ag, az, cd, w, g, sg, z, ra, fo, ro, la, cap, wd, F, X, rfl, hok, hw, hwd, hm, hc, hn⟩ := hLI
  rcases row_or x with hx | ⟨r, hr, rfl⟩
  · exact step_no (k := 1) (Or.inl rfl) (by refine ⟨rfl, rfl, ?_, ?_⟩ <;> decide) hok hw hwd hm hc hn (c_L_addProduct_IO (qx := 5) lW_5 (c_X1_addProduct_no (qx := 5) (qa := 6) hst rs_5 rs_6 hw hx y u)) (fun _ => c_X2_addProduct_no hok hx y u)
  have hr1 := hw.w hr
  have hwr := hwd r hr
  have hwk := hok.1
  have hcr := hc r hr
  have hnr : cN bB (wd r) (X r) := by rw [hwr]; exact hn r hr
  rcases row_or y with hy | ⟨a, ha, rfl⟩
  · exact step_no (k := 1) (Or.inl rfl) (by refine ⟨rfl, rfl, ?_, ?_⟩ <;> decide) hok hw hwd hm hc hn (c_L_addProduct_IO (qx := 5) lW_5 (c_X1_addProduct_no2 (qx := 5) (qa := 6) hst rs_5 rs_6 hw hr hy u)) (fun _ => c_X2_addProduct_no2 hok hr hy u)
  have ha1 := hw.w ha
  have hwa := hwd a ha
  have hca := hc a ha
  have hna : cN bB (wd a) (X a) := by rw [hwa]; exact hn a ha
  rcases row_or u with hu | ⟨u, hu, rfl⟩
  · exact step_no (k := 1) (Or.inl rfl) (by refine ⟨rfl, rfl, ?_, ?_⟩ <;> decide) hok hw hwd hm hc hn (c_L_addProduct_IO (qx := 5) lW_5 (c_X1_addProduct_no3 (qx := 5) (qa := 6) hst rs_5 rs_6 hw hr ha hu)) (fun _ => c_X2_addProduct_no3 hok hr ha hu)
  by_cases hra : r = a
  · exact step_no (k := 2) (Or.inr rfl) (by refine ⟨rfl, rfl, ?_, ?_⟩ <;> decide) hok hw hwd hm hc hn (c_L_addProduct_IA (qx := 5) lW_5 (c_X1_addProduct_no4 (qx := 5) (qa := 6) hst rs_5 rs_6 hw hr ha hu hra)) (fun _ => c_X2_addProduct_no4 hok hr ha hu hra)
  by_cases hru : r = u
  · exact step_no (k := 2) (Or.inr rfl) (by refine ⟨rfl, rfl, ?_, ?_⟩ <;> decide) hok hw hwd hm hc hn (c_L_addProduct_IA (qx := 5) lW_5 (c_X1_addProduct_no5 (qx := 5) (qa := 6) hst rs_5 rs_6 hw hr ha hu hra hru)) (fun _ => c_X2_addProduct_no5 hok hr ha hu hra hru)
  have hu1 := hw.w hu
  have hwu := hwd u hu
  have hcu := hc u hu
  have hnu : cN bB (wd u) (X u) := by rw [hwu]; exact hn u hu
  have hb := bv_pro (z := z) (sg := sg) hwk hm hn hr ha hu (f := 0) (by decide)
  rw [if_pos rfl] at hb
  have hf := (bv_mul (z := z) (sg := sg) hwk hm hn ha hu).1
  obtain ⟨t, t1, -, t3, -, t5, t6, t7⟩ := mo_sto (r := r) (b := 0) (mCombZ_ok (mLoadZ_ok (mMulZ_ok (mLoadZ_ok (mLoadZ_ok hok))))) hm hn hr hb
  obtain ⟨q, q1, q2, q3⟩ := rBl_is ha1 hca hna
  obtain ⟨k1, k2⟩ := gPr_is (i := r) (j := a) (u := u) (wi := wd r) (wj := wd a) (wu := wd u) (t := q) hr1 ha1 hu1 (fun z => hra z.symm) (fun z => hru z.symm) hcr hcu hnu hca hna q2 (isL_in q3)
  refine step_acc (by refine ⟨rfl, rfl, ?_, ?_⟩ <;> decide) (by decide) (by decide) (c_L_addProduct_ok (qx := 5) (qo := 7) lW_5 (fun _ h9 => by subst h9; rfl) (c_X1_addProduct (qx := 5) (qa := 6) rs_5 rs_6 hw hr ha hu hra hru q1 q2)) (fun w1 h9 => ⟨la, cap, wd, _, h9, hw, fun Rs => ?_⟩)
  refine ⟨_, _, _, _, _, _, c_X2_addProduct hok hr ha hu hra hru hf t1, ?_, t5, hwd, t6, ?_, t7⟩
  · show Int32.toInt64 _ = Int32.toInt64 _
    rw [t3, rSg_is hr1.1 k2.cM (cM_c bB0 _ _), hwr]
  · rw [← hwr]; exact hc.up (fun _ _ => rfl) k1 k2
set_option maxHeartbeats 800000 in
set_option maxRecDepth 100000 in
theorem st_subtractProduct {l : Launch} (hst : l.stackTraces = false) {D : va_G} {cA cR cL : ClassId} {h xo ou : Nat} {w0 : va_W} (hLI : LI cA cR cL h xo ou w0) (x : Int32) (y : Int32) (u : Int32) : stepOk Value.int (fun v : Int32 => v.toInt64) l D cA cR cL y_L_subtractProduct w_L_subtractProduct [.ref xo, .int x, .int y, .int u, .ref ou] y_X2_subtractProduct w_X2_subtractProduct ({ frames := 6, cells := 0, slots := 0, locals := 139 }) [.ref h, .int x, .int y, .int u] h ou w0 (LI cA cR cL h xo ou) := by
  obtain ⟨aw, ar, ag, az, cd, w, g, sg, z, ra, fo, ro, la, cap, wd, F, X, rfl, hok, hw, hwd, hm, hc, hn⟩ := hLI
  rcases row_or x with hx | ⟨r, hr, rfl⟩
  · exact step_no (k := 1) (Or.inl rfl) (by refine ⟨rfl, rfl, ?_, ?_⟩ <;> decide) hok hw hwd hm hc hn (c_L_subtractProduct_IO (qx := 5) lW_5 (c_X1_subtractProduct_no (qx := 5) (qa := 6) hst rs_5 rs_6 hw hx y u)) (fun _ => c_X2_subtractProduct_no hok hx y u)
  have hr1 := hw.w hr
  have hwr := hwd r hr
  have hwk := hok.1
  have hcr := hc r hr
  have hnr : cN bB (wd r) (X r) := by rw [hwr]; exact hn r hr
  rcases row_or y with hy | ⟨a, ha, rfl⟩
  · exact step_no (k := 1) (Or.inl rfl) (by refine ⟨rfl, rfl, ?_, ?_⟩ <;> decide) hok hw hwd hm hc hn (c_L_subtractProduct_IO (qx := 5) lW_5 (c_X1_subtractProduct_no2 (qx := 5) (qa := 6) hst rs_5 rs_6 hw hr hy u)) (fun _ => c_X2_subtractProduct_no2 hok hr hy u)
  have ha1 := hw.w ha
  have hwa := hwd a ha
  have hca := hc a ha
  have hna : cN bB (wd a) (X a) := by rw [hwa]; exact hn a ha
  rcases row_or u with hu | ⟨u, hu, rfl⟩
  · exact step_no (k := 1) (Or.inl rfl) (by refine ⟨rfl, rfl, ?_, ?_⟩ <;> decide) hok hw hwd hm hc hn (c_L_subtractProduct_IO (qx := 5) lW_5 (c_X1_subtractProduct_no3 (qx := 5) (qa := 6) hst rs_5 rs_6 hw hr ha hu)) (fun _ => c_X2_subtractProduct_no3 hok hr ha hu)
  by_cases hra : r = a
  · exact step_no (k := 2) (Or.inr rfl) (by refine ⟨rfl, rfl, ?_, ?_⟩ <;> decide) hok hw hwd hm hc hn (c_L_subtractProduct_IA (qx := 5) lW_5 (c_X1_subtractProduct_no4 (qx := 5) (qa := 6) hst rs_5 rs_6 hw hr ha hu hra)) (fun _ => c_X2_subtractProduct_no4 hok hr ha hu hra)
  by_cases hru : r = u
  · exact step_no (k := 2) (Or.inr rfl) (by refine ⟨rfl, rfl, ?_, ?_⟩ <;> decide) hok hw hwd hm hc hn (c_L_subtractProduct_IA (qx := 5) lW_5 (c_X1_subtractProduct_no5 (qx := 5) (qa := 6) hst rs_5 rs_6 hw hr ha hu hra hru)) (fun _ => c_X2_subtractProduct_no5 hok hr ha hu hra hru)
  have hu1 := hw.w hu
  have hwu := hwd u hu
  have hcu := hc u hu
  have hnu : cN bB (wd u) (X u) := by rw [hwu]; exact hn u hu
  have hb := bv_pro (z := z) (sg := sg) hwk hm hn hr ha hu (f := 1) (by decide)
  rw [if_neg (by decide)] at hb
  have hf := (bv_mul (z := z) (sg := sg) hwk hm hn ha hu).1
  obtain ⟨t, t1, -, t3, -, t5, t6, t7⟩ := mo_sto (r := r) (b := 0) (mCombZ_ok (mLoadZ_ok (mMulZ_ok (mLoadZ_ok (mLoadZ_ok hok))))) hm hn hr hb
  obtain ⟨q, q1, q2, q3⟩ := rBl_is ha1 hca hna
  obtain ⟨k1, k2⟩ := gSPr_is (i := r) (j := a) (u := u) (wi := wd r) (wj := wd a) (wu := wd u) (t := q) hr1 ha1 hu1 (fun z => hra z.symm) (fun z => hru z.symm) hcr hcu hnu hca hna q2 (isL_in q3)
  have q1' : rBl (wd a) (gCpl r (wd r) 0 F a) = nI q := by rw [(gCpl_is r (wd r) F hcr).1 a (fun z => hra z.symm)]; exact q1
  refine step_acc (by refine ⟨rfl, rfl, ?_, ?_⟩ <;> decide) (by decide) (by decide) (c_L_subtractProduct_ok (qx := 5) (qo := 7) lW_5 (fun _ h9 => by subst h9; rfl) (c_X1_subtractProduct (qx := 5) (qa := 6) rs_5 rs_6 hw hr ha hu hra hru q1' q2)) (fun w1 h9 => ⟨la, cap, wd, _, h9, hw, fun Rs => ?_⟩)
  refine ⟨_, _, _, _, _, _, c_X2_subtractProduct hok hr ha hu hra hru hf t1, ?_, t5, hwd, t6, ?_, t7⟩
  · show Int32.toInt64 _ = Int32.toInt64 _
    rw [t3, rSg_is hr1.1 k2.cM (cM_c bB0 _ _), hwr]
  · rw [← hwr]; exact hc.up (fun _ _ => rfl) k1 k2
set_option maxHeartbeats 800000 in
set_option maxRecDepth 100000 in
theorem st_times {l : Launch} (hst : l.stackTraces = false) {D : va_G} {cA cR cL : ClassId} {h xo ou : Nat} {w0 : va_W} (hLI : LI cA cR cL h xo ou w0) (x : Int32) (v : Int64) : stepOk Value.int (fun v : Int32 => v.toInt64) l D cA cR cL y_L_times w_L_times [.ref xo, .int x, .long v, .ref ou] y_X2_times w_X2_times ({ frames := 5, cells := 0, slots := 0, locals := 115 }) [.ref h, .int x, .long v] h ou w0 (LI cA cR cL h xo ou) := by
  obtain ⟨aw, ar, ag, az, cd, w, g, sg, z, ra, fo, ro, la, cap, wd, F, X, rfl, hok, hw, hwd, hm, hc, hn⟩ := hLI
  rcases row_or x with hx | ⟨r, hr, rfl⟩
  · exact step_no (k := 1) (Or.inl rfl) (by refine ⟨rfl, rfl, ?_, ?_⟩ <;> decide) hok hw hwd hm hc hn (c_L_times_IO (qx := 5) lW_5 (c_X1_times_no (qx := 5) (qa := 6) hst rs_5 rs_6 hw hx v)) (fun _ => c_X2_times_no hok hx v)
  have hr1 := hw.w hr
  have hwr := hwd r hr
  have hwk := hok.1
  have hcr := hc r hr
  have hnr : cN bB (wd r) (X r) := by rw [hwr]; exact hn r hr
  obtain ⟨hf, hb⟩ := bv_tim (z := z) (sg := sg) hwk hm hn hr v
  obtain ⟨t, t1, -, t3, -, t5, t6, t7⟩ := mo_sto (r := r) (b := 2) (mMulZ_ok (mLongZ_ok (mLoadZ_ok hok))) hm hn hr hb
  obtain ⟨k1, k2⟩ := gTim_is v hcr
  refine step_acc (by refine ⟨rfl, rfl, ?_, ?_⟩ <;> decide) (by decide) (by decide) (c_L_times_ok (qx := 5) (qo := 7) lW_5 (fun _ h9 => by subst h9; rfl) (c_X1_times (qx := 5) (qa := 6) rs_5 rs_6 hw hr v)) (fun w1 h9 => ⟨la, cap, wd, _, h9, hw, fun Rs => ?_⟩)
  refine ⟨_, _, _, _, _, _, c_X2_times hok hr v hf t1, ?_, t5, hwd, t6, ?_, t7⟩
  · show Int32.toInt64 _ = Int32.toInt64 _
    rw [t3, rSg_is hr1.1 k2.cM (cM_c bB0 _ _), hwr]
  · rw [← hwr]; exact hc.up (fun _ _ => rfl) k1 k2
