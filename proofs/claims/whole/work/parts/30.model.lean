/-! The model's cells: widths and halves and buffers as numbers. -/
def md (cA : ClassId) (h aw ar ag az : Nat) (cd : Int32) (w g : Nat → Nat) (sg : Nat → Int32) (z : Nat → Nat) (Rs : va_W) : va_W :=
  (h, .inr (2, [.int cd, .ref aw, .ref ar, .ref ag, .ref az])) :: (aw, .inl (cA, 64, .inl (fun j => nI (w j)))) :: (ar, .inl (cA, 32768, .inl (fun j => nI (g j)))) :: (ag, .inl (cA, 3, .inl sg)) :: (az, .inl (cA, 3300, .inl (fun j => nI (z j)))) :: Rs
theorem md_upd (g : Nat → Nat) (j v : Nat) : upd (fun t => nI (g t)) j (nI v) = fun t => nI (va_up g j v t) := by
  funext t
  unfold upd va_up
  split <;> rfl
def mdOk (w g z : Nat → Nat) : Prop := (∀ r, r < 64 → 1 ≤ w r ∧ w r ≤ 256) ∧ (∀ j, g j < 65536) ∧ ∀ j, z j < 65536
theorem mdOk.z {w g z : Nat → Nat} {j v : Nat} (h : mdOk w g z) (hv : v < 65536) : mdOk w g (va_up z j v) := ⟨h.1, h.2.1, fun t => by unfold va_up; split; exact hv; exact h.2.2 t⟩
theorem mdOk.g {w g z : Nat → Nat} {j v : Nat} (h : mdOk w g z) (hv : v < 65536) : mdOk w (va_up g j v) z := ⟨h.1, fun t => by unfold va_up; split; exact hv; exact h.2.1 t, h.2.2⟩
theorem n_sm : ∀ n, n < 32 → ((nI n &&& 31).toBitVec.smod 32).toNat = n := by decide
section MD
variable {cA cR cL : ClassId} {h aw ar ag az : Nat} {cd : Int32} {w g : Nat → Nat} {sg : Nat → Int32} {z : Nat → Nat} {Rs : va_W}
variable {p : Program} {l : Launch} {e : Env} {R : Room} {s : State} {m : MethodId} {args : Array Value} {below : List Frame} {meth : Method} {c : Code} {H : Heap} {locs : List Loc} {cells slots : Nat} {Q : State → Prop}
variable {cc : ByteArray} {pc : Nat} {ls : Array Slot} {rest : List Value} {D : va_G} {A : Nat → Prop} {H0 : Heap}
theorem m_getC (hx : p.tables.exec = Jvm.exec) (hb : c.code = cc) (hts : ∀ w ∈ gw, w.before args s = true) (hown : s.vm.findClass R_Md = some m.cls) (hK : va_K D cls0 (ty3 cA cR cL) s) (hP : va_P D cls0 (md cA h aw ar ag az cd w g sg z Rs) H) (hdg : decode cc pc = .ok (.getfield 23, 3))
    (kk : W p l e R s m args below meth c H locs cells slots Q (F0 m (pc + 3) ls (.int cd :: rest))) : W p l e R s m args below meth c H locs cells slots Q (F0 m pc ls (.ref h :: rest)) :=
  va_get (D := D) (ci := 2) (v := .int cd) (C := R_Md) (T := T_Md) (N := 5) (own := R_Md) (ref := "LimbRowsModel") hx hb hts i_Md hown hK hP 0 rfl rfl 0 (by decide) (hts (.fieldLink R_Md 23 "LimbRowsModel" "code" "I") k_487) (fun _ h9 => h9) rfl hdg kk
theorem m_getW (hx : p.tables.exec = Jvm.exec) (hb : c.code = cc) (hts : ∀ w ∈ gw, w.before args s = true) (hown : s.vm.findClass R_Md = some m.cls) (hK : va_K D cls0 (ty3 cA cR cL) s) (hP : va_P D cls0 (md cA h aw ar ag az cd w g sg z Rs) H) (hdg : decode cc pc = .ok (.getfield 7, 3))
    (kk : W p l e R s m args below meth c H locs cells slots Q (F0 m (pc + 3) ls (.ref aw :: rest))) : W p l e R s m args below meth c H locs cells slots Q (F0 m pc ls (.ref h :: rest)) :=
  va_get (D := D) (ci := 2) (v := .ref aw) (C := R_Md) (T := T_Md) (N := 5) (own := R_Md) (ref := "LimbRowsModel") hx hb hts i_Md hown hK hP 0 rfl rfl 1 (by decide) (hts (.fieldLink R_Md 7 "LimbRowsModel" "widths" "[I") k_488) (fun _ h9 => h9) rfl hdg kk
theorem m_getR (hx : p.tables.exec = Jvm.exec) (hb : c.code = cc) (hts : ∀ w ∈ gw, w.before args s = true) (hown : s.vm.findClass R_Md = some m.cls) (hK : va_K D cls0 (ty3 cA cR cL) s) (hP : va_P D cls0 (md cA h aw ar ag az cd w g sg z Rs) H) (hdg : decode cc pc = .ok (.getfield 14, 3))
    (kk : W p l e R s m args below meth c H locs cells slots Q (F0 m (pc + 3) ls (.ref ar :: rest))) : W p l e R s m args below meth c H locs cells slots Q (F0 m pc ls (.ref h :: rest)) :=
  va_get (D := D) (ci := 2) (v := .ref ar) (C := R_Md) (T := T_Md) (N := 5) (own := R_Md) (ref := "LimbRowsModel") hx hb hts i_Md hown hK hP 0 rfl rfl 2 (by decide) (hts (.fieldLink R_Md 14 "LimbRowsModel" "rows" "[I") k_489) (fun _ h9 => h9) rfl hdg kk
theorem m_getG (hx : p.tables.exec = Jvm.exec) (hb : c.code = cc) (hts : ∀ w ∈ gw, w.before args s = true) (hown : s.vm.findClass R_Md = some m.cls) (hK : va_K D cls0 (ty3 cA cR cL) s) (hP : va_P D cls0 (md cA h aw ar ag az cd w g sg z Rs) H) (hdg : decode cc pc = .ok (.getfield 17, 3))
    (kk : W p l e R s m args below meth c H locs cells slots Q (F0 m (pc + 3) ls (.ref ag :: rest))) : W p l e R s m args below meth c H locs cells slots Q (F0 m pc ls (.ref h :: rest)) :=
  va_get (D := D) (ci := 2) (v := .ref ag) (C := R_Md) (T := T_Md) (N := 5) (own := R_Md) (ref := "LimbRowsModel") hx hb hts i_Md hown hK hP 0 rfl rfl 3 (by decide) (hts (.fieldLink R_Md 17 "LimbRowsModel" "signs" "[I") k_490) (fun _ h9 => h9) rfl hdg kk
theorem m_getZ (hx : p.tables.exec = Jvm.exec) (hb : c.code = cc) (hts : ∀ w ∈ gw, w.before args s = true) (hown : s.vm.findClass R_Md = some m.cls) (hK : va_K D cls0 (ty3 cA cR cL) s) (hP : va_P D cls0 (md cA h aw ar ag az cd w g sg z Rs) H) (hdg : decode cc pc = .ok (.getfield 20, 3))
    (kk : W p l e R s m args below meth c H locs cells slots Q (F0 m (pc + 3) ls (.ref az :: rest))) : W p l e R s m args below meth c H locs cells slots Q (F0 m pc ls (.ref h :: rest)) :=
  va_get (D := D) (ci := 2) (v := .ref az) (C := R_Md) (T := T_Md) (N := 5) (own := R_Md) (ref := "LimbRowsModel") hx hb hts i_Md hown hK hP 0 rfl rfl 4 (by decide) (hts (.fieldLink R_Md 20 "LimbRowsModel" "sizes" "[I") k_491) (fun _ h9 => h9) rfl hdg kk
theorem m_putC (hx : p.tables.exec = Jvm.exec) (hb : c.code = cc) (hts : ∀ w ∈ gw, w.before args s = true) (hown : s.vm.findClass R_Md = some m.cls) (hK : va_K D cls0 (ty3 cA cR cL) s) (hP : va_P D cls0 (md cA h aw ar ag az cd w g sg z Rs) H) (hD : va_D A (md cA h aw ar ag az cd w g sg z Rs)) (hS : va_S A H0 H locs) {x : Int32} (hdg : decode cc pc = .ok (.putfield 23, 3))
    (kk : ∀ (H1 : Heap) (locs1 : List Loc), va_P D cls0 (md cA h aw ar ag az x w g sg z Rs) H1 → va_D A (md cA h aw ar ag az x w g sg z Rs) → va_S A H0 H1 locs1 → W p l e R s m args below meth c H1 locs1 cells slots Q (F0 m (pc + 3) ls rest)) : W p l e R s m args below meth c H locs cells slots Q (F0 m pc ls (.int x :: .ref h :: rest)) :=
  va_put (D := D) (ci := 2) (v := .int x) (ty := .int) (C := R_Md) (T := T_Md) (N := 5) (own := R_Md) (ref := "LimbRowsModel") hx hb hts i_Md t_Md t_Md_ok n_Md hown hK hP hD hS 0 rfl rfl 0 (by decide) (hts (.fieldLink R_Md 23 "LimbRowsModel" "code" "I") k_487) (fun _ h9 => h9) rfl (by decide +kernel) rfl rfl (Nat.le_of_ble_eq_true rfl) hdg (fun H1 locs1 hP hD hS => kk H1 locs1 hP hD hS)
theorem m_aldW (hx : p.tables.exec = Jvm.exec) (hb : c.code = cc) (hK : va_K D cls0 (ty3 cA cR cL) s) (hP : va_P D cls0 (md cA h aw ar ag az cd w g sg z Rs) H) {j : Nat} (hj : j < 64) (hdg : decode cc pc = .ok (.iaload, 1))
    (kk : W p l e R s m args below meth c H locs cells slots Q (F0 m (pc + 1) ls (.int (nI (w j)) :: rest))) : W p l e R s m args below meth c H locs cells slots Q (F0 m pc ls (.int (nI j) :: .ref aw :: rest)) :=
  va_iald hx hb hK hP 1 0 rfl rfl (vp_in_nI hj (by decide)) hdg (by rw [nI_clamp (by omega)]; exact kk)
theorem m_astW (hx : p.tables.exec = Jvm.exec) (hb : c.code = cc) (hK : va_K D cls0 (ty3 cA cR cL) s) (hP : va_P D cls0 (md cA h aw ar ag az cd w g sg z Rs) H) (hD : va_D A (md cA h aw ar ag az cd w g sg z Rs)) (hS : va_S A H0 H locs) {j v : Nat} (hj : j < 64) (hdg : decode cc pc = .ok (.iastore, 1))
    (kk : ∀ (H1 : Heap) (locs1 : List Loc), va_P D cls0 (md cA h aw ar ag az cd (va_up w j v) g sg z Rs) H1 → va_D A (md cA h aw ar ag az cd (va_up w j v) g sg z Rs) → va_S A H0 H1 locs1 → W p l e R s m args below meth c H1 locs1 cells slots Q (F0 m (pc + 1) ls rest)) : W p l e R s m args below meth c H locs cells slots Q (F0 m pc ls (.int (nI v) :: .int (nI j) :: .ref aw :: rest)) :=
  va_iast hx hb hK hP hD hS 1 0 rfl rfl (vp_in_nI hj (by decide)) hdg (fun H1 locs1 hP hD hS => by
    rw [nI_clamp (by omega), md_upd] at hP hD
    exact kk H1 locs1 hP hD hS)
theorem m_aldR (hx : p.tables.exec = Jvm.exec) (hb : c.code = cc) (hK : va_K D cls0 (ty3 cA cR cL) s) (hP : va_P D cls0 (md cA h aw ar ag az cd w g sg z Rs) H) {j : Nat} (hj : j < 32768) (hdg : decode cc pc = .ok (.iaload, 1))
    (kk : W p l e R s m args below meth c H locs cells slots Q (F0 m (pc + 1) ls (.int (nI (g j)) :: rest))) : W p l e R s m args below meth c H locs cells slots Q (F0 m pc ls (.int (nI j) :: .ref ar :: rest)) :=
  va_iald hx hb hK hP 2 0 rfl rfl (vp_in_nI hj (by decide)) hdg (by rw [nI_clamp (by omega)]; exact kk)
theorem m_astR (hx : p.tables.exec = Jvm.exec) (hb : c.code = cc) (hK : va_K D cls0 (ty3 cA cR cL) s) (hP : va_P D cls0 (md cA h aw ar ag az cd w g sg z Rs) H) (hD : va_D A (md cA h aw ar ag az cd w g sg z Rs)) (hS : va_S A H0 H locs) {j v : Nat} (hj : j < 32768) (hdg : decode cc pc = .ok (.iastore, 1))
    (kk : ∀ (H1 : Heap) (locs1 : List Loc), va_P D cls0 (md cA h aw ar ag az cd w (va_up g j v) sg z Rs) H1 → va_D A (md cA h aw ar ag az cd w (va_up g j v) sg z Rs) → va_S A H0 H1 locs1 → W p l e R s m args below meth c H1 locs1 cells slots Q (F0 m (pc + 1) ls rest)) : W p l e R s m args below meth c H locs cells slots Q (F0 m pc ls (.int (nI v) :: .int (nI j) :: .ref ar :: rest)) :=
  va_iast hx hb hK hP hD hS 2 0 rfl rfl (vp_in_nI hj (by decide)) hdg (fun H1 locs1 hP hD hS => by
    rw [nI_clamp (by omega), md_upd] at hP hD
    exact kk H1 locs1 hP hD hS)
theorem m_aldZ (hx : p.tables.exec = Jvm.exec) (hb : c.code = cc) (hK : va_K D cls0 (ty3 cA cR cL) s) (hP : va_P D cls0 (md cA h aw ar ag az cd w g sg z Rs) H) {j : Nat} (hj : j < 3300) (hdg : decode cc pc = .ok (.iaload, 1))
    (kk : W p l e R s m args below meth c H locs cells slots Q (F0 m (pc + 1) ls (.int (nI (z j)) :: rest))) : W p l e R s m args below meth c H locs cells slots Q (F0 m pc ls (.int (nI j) :: .ref az :: rest)) :=
  va_iald hx hb hK hP 4 0 rfl rfl (vp_in_nI hj (by decide)) hdg (by rw [nI_clamp (by omega)]; exact kk)
theorem m_astZ (hx : p.tables.exec = Jvm.exec) (hb : c.code = cc) (hK : va_K D cls0 (ty3 cA cR cL) s) (hP : va_P D cls0 (md cA h aw ar ag az cd w g sg z Rs) H) (hD : va_D A (md cA h aw ar ag az cd w g sg z Rs)) (hS : va_S A H0 H locs) {j v : Nat} (hj : j < 3300) (hdg : decode cc pc = .ok (.iastore, 1))
    (kk : ∀ (H1 : Heap) (locs1 : List Loc), va_P D cls0 (md cA h aw ar ag az cd w g sg (va_up z j v) Rs) H1 → va_D A (md cA h aw ar ag az cd w g sg (va_up z j v) Rs) → va_S A H0 H1 locs1 → W p l e R s m args below meth c H1 locs1 cells slots Q (F0 m (pc + 1) ls rest)) : W p l e R s m args below meth c H locs cells slots Q (F0 m pc ls (.int (nI v) :: .int (nI j) :: .ref az :: rest)) :=
  va_iast hx hb hK hP hD hS 4 0 rfl rfl (vp_in_nI hj (by decide)) hdg (fun H1 locs1 hP hD hS => by
    rw [nI_clamp (by omega), md_upd] at hP hD
    exact kk H1 locs1 hP hD hS)
theorem m_aldG (hx : p.tables.exec = Jvm.exec) (hb : c.code = cc) (hK : va_K D cls0 (ty3 cA cR cL) s) (hP : va_P D cls0 (md cA h aw ar ag az cd w g sg z Rs) H) {j : Nat} (hj : j < 3) (hdg : decode cc pc = .ok (.iaload, 1))
    (kk : W p l e R s m args below meth c H locs cells slots Q (F0 m (pc + 1) ls (.int (sg j) :: rest))) : W p l e R s m args below meth c H locs cells slots Q (F0 m pc ls (.int (nI j) :: .ref ag :: rest)) :=
  va_iald hx hb hK hP 3 0 rfl rfl (vp_in_nI hj (by decide)) hdg (by rw [nI_clamp (by omega)]; exact kk)
theorem m_astG (hx : p.tables.exec = Jvm.exec) (hb : c.code = cc) (hK : va_K D cls0 (ty3 cA cR cL) s) (hP : va_P D cls0 (md cA h aw ar ag az cd w g sg z Rs) H) (hD : va_D A (md cA h aw ar ag az cd w g sg z Rs)) (hS : va_S A H0 H locs) {j : Nat} {x : Int32} (hj : j < 3) (hdg : decode cc pc = .ok (.iastore, 1))
    (kk : ∀ (H1 : Heap) (locs1 : List Loc), va_P D cls0 (md cA h aw ar ag az cd w g (upd sg j x) z Rs) H1 → va_D A (md cA h aw ar ag az cd w g (upd sg j x) z Rs) → va_S A H0 H1 locs1 → W p l e R s m args below meth c H1 locs1 cells slots Q (F0 m (pc + 1) ls rest)) : W p l e R s m args below meth c H locs cells slots Q (F0 m pc ls (.int x :: .int (nI j) :: .ref ag :: rest)) :=
  va_iast hx hb hK hP hD hS 3 0 rfl rfl (vp_in_nI hj (by decide)) hdg (fun H1 locs1 hP hD hS => by
    rw [nI_clamp (by omega)] at hP hD
    exact kk H1 locs1 hP hD hS)
theorem n_ishr (hx : p.tables.exec = Jvm.exec) (hb : c.code = cc) {a t : Nat} (ha : a < 2 ^ 31) (ht : t < 32) (hdg : decode cc pc = .ok (.ishr, 1)) (k : W p l e R s m args below meth c H locs cells slots Q (F0 m (pc + 1) ls (.int (nI (a / 2 ^ t)) :: rest))) : W p l e R s m args below meth c H locs cells slots Q (F0 m pc ls (.int (nI t) :: .int (nI a) :: rest)) :=
  lv_ishr hx hb hdg (by rw [pk_shrN ha _ t (n_sm t ht)]; exact k)
theorem n_iand1 (hx : p.tables.exec = Jvm.exec) (hb : c.code = cc) {a : Nat} (ha : a < 2 ^ 31) (hdg : decode cc pc = .ok (.iand, 1)) (k : W p l e R s m args below meth c H locs cells slots Q (F0 m (pc + 1) ls (.int (nI (a % 2)) :: rest))) : W p l e R s m args below meth c H locs cells slots Q (F0 m pc ls (.int (nI 1) :: .int (nI a) :: rest)) :=
  lv_iand hx hb hdg (by rw [pk_andN (by omega) 1 (by decide)]; exact k)
end MD
