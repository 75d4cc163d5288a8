/-! One step of the law: both sides keep the same numbers. -/
def X3 (cR cL : ClassId) (xo ra ou : Nat) (fo : Nat → Int64) (ro : Nat → Nat) : va_W :=
  [(xo, .inr (1, [.ref ra])), (ra, .inl (cR, 64, .inr (.inr (.inr (.inr (fun i => if i < 64 then some (ro i) else none)))))), (ou, .inl (cL, 1, .inr (.inl fo)))]
def lW (cA cR cL : ClassId) (h aw ar ag az : Nat) (cd : Int32) (w g : Nat → Nat) (sg : Nat → Int32) (z : Nat → Nat) (xo ra ou : Nat) (fo : Nat → Int64) (ro la cap wd : Nat → Nat) (F : Nat → Nat → Int32) : va_W :=
  rw (md cA h aw ar ag az cd w g sg z (X3 cR cL xo ra ou fo ro)) cA ro la cap wd F
section ST
variable {cA cR cL : ClassId} {h aw ar ag az : Nat} {cd : Int32} {w g : Nat → Nat} {sg : Nat → Int32} {z : Nat → Nat} {xo ra ou : Nat} {fo : Nat → Int64} {ro la cap wd : Nat → Nat} {F : Nat → Nat → Int32}
theorem lW_md : lW cA cR cL h aw ar ag az cd w g sg z xo ra ou fo ro la cap wd F = md cA h aw ar ag az cd w g sg z (rw (X3 cR cL xo ra ou fo ro) cA ro la cap wd F) := rfl
theorem lW_set {v : Int64} : (rw (md cA h aw ar ag az cd w g sg z (X3 cR cL xo ra ou fo ro)) cA ro la cap wd F).set 7 (ou, .inl (cL, 1, .inr (.inl (vp_updL fo 0 v)))) = lW cA cR cL h aw ar ag az cd w g sg z xo ra ou (vp_updL fo 0 v) ro la cap wd F := rfl
theorem lW_5 : (lW cA cR cL h aw ar ag az cd w g sg z xo ra ou fo ro la cap wd F)[5]? = some (xo, .inr (1, [.ref ra])) := rfl
theorem lW_7 : (lW cA cR cL h aw ar ag az cd w g sg z xo ra ou fo ro la cap wd F)[7]? = some (ou, .inl (cL, 1, .inr (.inl fo))) := rfl
theorem rs_5 : (md cA h aw ar ag az cd w g sg z (X3 cR cL xo ra ou fo ro))[5]? = some (xo, .inr (1, [.ref ra])) := rfl
theorem rs_6 : (md cA h aw ar ag az cd w g sg z (X3 cR cL xo ra ou fo ro))[6]? = some (ra, .inl (cR, 64, .inr (.inr (.inr (.inr (fun i => if i < 64 then some (ro i) else none)))))) := rfl
end ST
/-- what holds between the steps: both sides keep the numbers x -/
def LI (cA cR cL : ClassId) (h xo ou : Nat) (W : va_W) : Prop :=
  ∃ (aw ar ag az : Nat) (cd : Int32) (w g : Nat → Nat) (sg : Nat → Int32) (z : Nat → Nat) (ra : Nat) (fo : Nat → Int64) (ro la cap wd : Nat → Nat) (F : Nat → Nat → Int32) (x : Nat → Int), W = lW cA cR cL h aw ar ag az cd w g sg z xo ra ou fo ro la cap wd F ∧ mdOk w g z ∧ rwOk cap wd ∧ (∀ r, r < 64 → wd r = w r) ∧ mSt w g x ∧ cSt wd F x ∧ nSt w x
def stepOk {α : Type} (mk : α → Value) (conv : α → Int64) (l : Launch) (D : va_G) (cA cR cL : ClassId) (yL : MethodName) (wL : List Cond) (AC : List Value) (y2 : MethodName) (w2s : List Cond) (rm2 : Room) (AM : List Value) (h ou : Nat) (w0 : va_W) (Z : va_W → Prop) : Prop :=
  ∃ (k mc ms : Nat) (rm : Room) (Y1 : va_W → Prop), k ≤ 2 ∧ (rm.cells = mc ∧ rm.slots = ms ∧ rm.frames ≤ 10 ∧ rm.locals ≤ 300) ∧ mc ≤ 1 ∧ ms ≤ 256 ∧ xCW l yL wL rm D cls0 (ty3 cA cR cL) AC w0 (some (.int (nI k))) Y1 mc ms ∧
    ∀ w1, Y1 w1 → (∃ cd, isMd cA h cd w1) ∧ ∃ (v2 : α) (Y2 : va_W → Prop), xC l y2 w2s rm2 D cls0 (ty3 cA cR cL) AM w1 (some (mk v2)) Y2 0 0 ∧ ∀ w2, Y2 w2 → isMd cA h (nI k) w2 ∧ (k = 0 → ∃ fo : Nat → Int64, w2[7]? = some (ou, .inl (cL, 1, .inr (.inl fo))) ∧ fo 0 = conv v2) ∧ Z w2
section ST2
variable {α : Type} {mk : α → Value} {conv : α → Int64} {l : Launch} {D : va_G} {yL : MethodName} {wL : List Cond} {AC : List Value} {y2 : MethodName} {w2s : List Cond} {rm2 rm : Room} {AM : List Value}
variable {cA cR cL : ClassId} {h aw ar ag az : Nat} {cd : Int32} {w g : Nat → Nat} {sg : Nat → Int32} {z : Nat → Nat} {xo ra ou : Nat} {fo : Nat → Int64} {ro la cap wd : Nat → Nat} {F : Nat → Nat → Int32} {x : Nat → Int}
/-- refused on both sides -/
theorem step_no {k : Nat} (hk : k = 1 ∨ k = 2) (hrm : rm.cells = 1 ∧ rm.slots = 6 ∧ rm.frames ≤ 10 ∧ rm.locals ≤ 300) (hok : mdOk w g z) (hw : rwOk cap wd) (hwd : ∀ r, r < 64 → wd r = w r) (hm : mSt w g x) (hc : cSt wd F x) (hn : nSt w x) {v2 : α}
    (hW : xCW l yL wL rm D cls0 (ty3 cA cR cL) AC (lW cA cR cL h aw ar ag az cd w g sg z xo ra ou fo ro la cap wd F) (some (.int (nI k))) (fun W => W = lW cA cR cL h aw ar ag az cd w g sg z xo ra ou fo ro la cap wd F) 1 6)
    (hM : ∀ Rs : va_W, xC l y2 w2s rm2 D cls0 (ty3 cA cR cL) AM (md cA h aw ar ag az cd w g sg z Rs) (some (mk v2)) (fun w1 => w1 = md cA h aw ar ag az (nI k) w g sg z Rs) 0 0) :
    stepOk mk conv l D cA cR cL yL wL AC y2 w2s rm2 AM h ou (lW cA cR cL h aw ar ag az cd w g sg z xo ra ou fo ro la cap wd F) (LI cA cR cL h xo ou) := by
  refine ⟨k, 1, 6, rm, _, by omega, hrm, by decide, by decide, hW, ?_⟩
  rintro _ rfl
  refine ⟨⟨cd, aw, ar, ag, az, w, g, sg, z, _, lW_md⟩, v2, _, hM (rw (X3 cR cL xo ra ou fo ro) cA ro la cap wd F), ?_⟩
  rintro _ rfl
  exact ⟨⟨aw, ar, ag, az, w, g, sg, z, _, rfl⟩, fun h0 => by omega, ⟨aw, ar, ag, az, nI k, w, g, sg, z, ra, fo, ro, la, cap, wd, F, x, lW_md.symm, hok, hw, hwd, hm, hc, hn⟩⟩
/-- done on both sides -/
theorem step_acc {mc ms : Nat} {res : Int64} {Y : va_W → Prop} (hrm : rm.cells = mc ∧ rm.slots = ms ∧ rm.frames ≤ 10 ∧ rm.locals ≤ 300) (hmc : mc ≤ 1) (hms : ms ≤ 256)
    (hW : xCW l yL wL rm D cls0 (ty3 cA cR cL) AC (lW cA cR cL h aw ar ag az cd w g sg z xo ra ou fo ro la cap wd F) (some (.int (nI 0))) (fun W => ∃ w1, Y w1 ∧ W = w1.set 7 (ou, .inl (cL, 1, .inr (.inl (vp_updL fo 0 res))))) mc ms)
    (hM : ∀ w1, Y w1 → ∃ (la' cap' wd' : Nat → Nat) (F' : Nat → Nat → Int32), w1 = rw (md cA h aw ar ag az cd w g sg z (X3 cR cL xo ra ou fo ro)) cA ro la' cap' wd' F' ∧ rwOk cap' wd' ∧ ∀ Rs : va_W, ∃ (v2 : α) (w' g' : Nat → Nat) (sg' : Nat → Int32) (z' : Nat → Nat) (x' : Nat → Int), xC l y2 w2s rm2 D cls0 (ty3 cA cR cL) AM (md cA h aw ar ag az cd w g sg z Rs) (some (mk v2)) (fun w1 => w1 = md cA h aw ar ag az (nI 0) w' g' sg' z' Rs) 0 0 ∧ conv v2 = res ∧ mdOk w' g' z' ∧ (∀ r, r < 64 → wd' r = w' r) ∧ mSt w' g' x' ∧ cSt wd' F' x' ∧ nSt w' x') :
    stepOk mk conv l D cA cR cL yL wL AC y2 w2s rm2 AM h ou (lW cA cR cL h aw ar ag az cd w g sg z xo ra ou fo ro la cap wd F) (LI cA cR cL h xo ou) := by
  refine ⟨0, mc, ms, rm, _, by decide, hrm, hmc, hms, hW, ?_⟩
  rintro _ ⟨w1, hY, rfl⟩
  obtain ⟨la', cap', wd', F', rfl, hw', hM⟩ := hM w1 hY
  rw [lW_set, lW_md]
  obtain ⟨v2, w', g', sg', z', x', hC, hcv, hok, hwd, hm, hc, hn⟩ := hM (rw (X3 cR cL xo ra ou (vp_updL fo 0 res) ro) cA ro la' cap' wd' F')
  refine ⟨⟨cd, aw, ar, ag, az, w, g, sg, z, _, rfl⟩, v2, _, hC, ?_⟩
  rintro _ rfl
  exact ⟨⟨aw, ar, ag, az, w', g', sg', z', _, rfl⟩, fun _ => ⟨vp_updL fo 0 res, rfl, pk_uLs.trans hcv.symm⟩, ⟨aw, ar, ag, az, nI 0, w', g', sg', z', ra, vp_updL fo 0 res, ro, la', cap', wd', F', x', lW_md.symm, hok, hw', hwd, hm, hc, hn⟩⟩
end ST2
theorem row_or (x : Int32) : mIsRow x = nI 0 ∨ ∃ r, r < 64 ∧ x = nI r := by
  rcases pk_ix x (n := 64) (by decide) with q | q | ⟨r, h1, h2⟩
  · left; unfold mIsRow; rw [if_pos q]
  · left
    unfold mIsRow
    by_cases q2 : x < 0
    · rw [if_pos q2]
    · rw [if_neg q2, if_pos q]
  · exact Or.inr ⟨r, h1, h2⟩
theorem rwOk.w {cap wd : Nat → Nat} (hw : rwOk cap wd) {r : Nat} (hr : r < 64) : 1 ≤ wd r ∧ wd r ≤ 256 := by
  have := hw r hr
  omega
