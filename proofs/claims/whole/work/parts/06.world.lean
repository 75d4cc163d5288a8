/-! The classes, and the cells of the 64 rows. -/
def R_Row : String := "LimbRows$Row"
def T_Row : u_T := fun k => match k with
  | 0 => ("LimbRows$Row", "limbs", "[I", false)
  | _ => ("LimbRows$Row", "width", "I", false)
def t_Row : Nat → FieldType := fun k => match k with
  | 0 => .array .int
  | _ => .int
def R_LR : String := "LimbRows"
def T_LR : u_T := fun _ => ("LimbRows", "rows", "[LLimbRows$Row;", true)
def t_LR : Nat → FieldType := fun _ => .array (.object "LimbRows$Row")
def R_Md : String := "LimbRowsModel"
def T_Md : u_T := fun k => match k with
  | 0 => ("LimbRowsModel", "code", "I", false)
  | 1 => ("LimbRowsModel", "widths", "[I", true)
  | 2 => ("LimbRowsModel", "rows", "[I", true)
  | 3 => ("LimbRowsModel", "signs", "[I", true)
  | _ => ("LimbRowsModel", "sizes", "[I", true)
def t_Md : Nat → FieldType := fun k => match k with
  | 0 => .int
  | _ => .array .int
abbrev cls0 : List vw_C := [(R_Row, T_Row, 2), (R_LR, T_LR, 1), (R_Md, T_Md, 5)]
abbrev ty3 (cA cR cL : ClassId) : List (ClassId × FieldType) := [(cA, .int), (cR, .object "LimbRows$Row"), (cL, .long)]
theorem n_Row : ∀ a, a < 2 → ∀ b, b < 2 → a ≠ b → (T_Row a).2.1 ≠ (T_Row b).2.1 := by decide +kernel
theorem t_Row_ok : ∀ k, k < 2 → parseFieldDescriptor (T_Row k).2.2.1 = some (t_Row k) := by decide +kernel
theorem n_LR : ∀ a, a < 1 → ∀ b, b < 1 → a ≠ b → (T_LR a).2.1 ≠ (T_LR b).2.1 := by decide +kernel
theorem t_LR_ok : ∀ k, k < 1 → parseFieldDescriptor (T_LR k).2.2.1 = some (t_LR k) := by decide +kernel
theorem n_Md : ∀ a, a < 5 → ∀ b, b < 5 → a ≠ b → (T_Md a).2.1 ≠ (T_Md b).2.1 := by decide +kernel
theorem t_Md_ok : ∀ k, k < 5 → parseFieldDescriptor (T_Md k).2.2.1 = some (t_Md k) := by decide +kernel
/-- the rows and their limbs, behind any other cells -/
def rw (Rs : va_W) (cA : ClassId) (ro la cap wd : Nat → Nat) (F : Nat → Nat → Int32) : va_W :=
  Rs ++ ((List.range 64).map (fun i => (ro i, (.inr (0, [.ref (la i), .int (nI (wd i))]) : va_E))) ++ (List.range 64).map (fun i => (la i, (.inl (cA, cap i, .inl (F i)) : va_E))))
def rwOk (cap wd : Nat → Nat) : Prop := ∀ i, i < 64 → 1 ≤ wd i ∧ wd i ≤ cap i ∧ cap i ≤ 256
section RW
variable {Rs : va_W} {cA cR cL : ClassId} {ro la cap wd : Nat → Nat} {F : Nat → Nat → Int32}
theorem rw_row {i : Nat} (hi : i < 64) : (rw Rs cA ro la cap wd F)[Rs.length + i]? = some (ro i, .inr (0, [.ref (la i), .int (nI (wd i))])) := by
  unfold rw
  rw [List.getElem?_append_right (by omega), show Rs.length + i - Rs.length = i by omega, List.getElem?_append_left (by simpa using hi)]
  simp [hi]
theorem rw_lim {i : Nat} (hi : i < 64) : (rw Rs cA ro la cap wd F)[Rs.length + 64 + i]? = some (la i, .inl (cA, cap i, .inl (F i))) := by
  unfold rw
  rw [List.getElem?_append_right (by omega), show Rs.length + 64 + i - Rs.length = 64 + i by omega, List.getElem?_append_right (by simp)]
  simp [hi]
theorem rw_setF {i : Nat} (hi : i < 64) (g : Nat → Int32) : (rw Rs cA ro la cap wd F).set (Rs.length + 64 + i) (la i, .inl (cA, cap i, .inl g)) = rw Rs cA ro la cap wd (va_up F i g) := by
  unfold rw
  rw [List.set_append_right _ _ (by omega), show Rs.length + 64 + i - Rs.length = 64 + i by omega, List.set_append_right _ _ (by simp)]
  congr 2
  apply List.ext_getElem?
  intro j
  simp only [List.length_map, List.length_range, show 64 + i - 64 = i by omega, List.getElem?_set, List.getElem?_map]
  by_cases hj : i = j
  · subst hj
    simp [hi, va_up]
  · have hj' : j ≠ i := fun e => hj e.symm
    by_cases h6 : j < 64
    · simp [hj, va_up, hj', h6]
    · simp [hj, h6]
theorem rw_setW {i : Nat} (hi : i < 64) (n : Nat) : (rw Rs cA ro la cap wd F).set (Rs.length + i) (ro i, .inr (0, [.ref (la i), .int (nI n)])) = rw Rs cA ro la cap (va_up wd i n) F := by
  unfold rw
  rw [List.set_append_right _ _ (by omega), show Rs.length + i - Rs.length = i by omega, List.set_append_left _ _ (by simpa using hi)]
  congr 2
  apply List.ext_getElem?
  intro j
  simp only [List.getElem?_set, List.getElem?_map, List.length_map, List.length_range]
  by_cases hj : i = j
  · subst hj
    simp [hi, va_up]
  · have hj' : j ≠ i := fun e => hj e.symm
    by_cases h6 : j < 64
    · simp [hj, va_up, hj', h6]
    · simp [hj, h6]
variable {p : Program} {l : Launch} {e : Env} {R : Room} {s : State} {m : MethodId} {args : Array Value} {below : List Frame} {meth : Method} {c : Code} {H : Heap} {locs : List Loc} {cells slots : Nat} {Q : State → Prop}
variable {cc : ByteArray} {pc : Nat} {ls : Array Slot} {rest : List Value} {D : va_G} {A : Nat → Prop} {H0 : Heap}
theorem i_Row : ∀ w ∈ u_ws R_Row T_Row 2, w ∈ gw := List.forall_mem_cons.mpr ⟨k_81, List.forall_mem_cons.mpr ⟨k_83, fun _ h => absurd h List.not_mem_nil⟩⟩
theorem i_LR : ∀ w ∈ u_ws R_LR T_LR 1, w ∈ gw := List.forall_mem_cons.mpr ⟨k_88, fun _ h => absurd h List.not_mem_nil⟩
theorem i_Md : ∀ w ∈ u_ws R_Md T_Md 5, w ∈ gw := List.forall_mem_cons.mpr ⟨k_492, List.forall_mem_cons.mpr ⟨k_494, List.forall_mem_cons.mpr ⟨k_496, List.forall_mem_cons.mpr ⟨k_498, List.forall_mem_cons.mpr ⟨k_500, fun _ h => absurd h List.not_mem_nil⟩⟩⟩⟩⟩
/-- row i's limbs and width, read in its own class -/
theorem c_getL (hx : p.tables.exec = Jvm.exec) (hb : c.code = cc) (hts : ∀ w ∈ gw, w.before args s = true) (hown : s.vm.findClass R_Row = some m.cls) (hK : va_K D cls0 (ty3 cA cR cL) s) (hP : va_P D cls0 (rw Rs cA ro la cap wd F) H) {i : Nat} (hi : i < 64) (hdg : decode cc pc = .ok (.getfield 9, 3))
    (kk : W p l e R s m args below meth c H locs cells slots Q (F0 m (pc + 3) ls (.ref (la i) :: rest))) : W p l e R s m args below meth c H locs cells slots Q (F0 m pc ls (.ref (ro i) :: rest)) :=
  va_get (D := D) (ci := 0) (v := .ref (la i)) (C := R_Row) (T := T_Row) (N := 2) (own := R_Row) (ref := "LimbRows$Row") hx hb hts i_Row hown hK hP _ (rw_row hi) rfl 0 (by decide) (hts (.fieldLink R_Row 9 "LimbRows$Row" "limbs" "[I") k_77) (fun _ h9 => h9) rfl hdg kk
theorem c_getW (hx : p.tables.exec = Jvm.exec) (hb : c.code = cc) (hts : ∀ w ∈ gw, w.before args s = true) (hown : s.vm.findClass R_Row = some m.cls) (hK : va_K D cls0 (ty3 cA cR cL) s) (hP : va_P D cls0 (rw Rs cA ro la cap wd F) H) {i : Nat} (hi : i < 64) (hdg : decode cc pc = .ok (.getfield 15, 3))
    (kk : W p l e R s m args below meth c H locs cells slots Q (F0 m (pc + 3) ls (.int (nI (wd i)) :: rest))) : W p l e R s m args below meth c H locs cells slots Q (F0 m pc ls (.ref (ro i) :: rest)) :=
  va_get (D := D) (ci := 0) (v := .int (nI (wd i))) (C := R_Row) (T := T_Row) (N := 2) (own := R_Row) (ref := "LimbRows$Row") hx hb hts i_Row hown hK hP _ (rw_row hi) rfl 1 (by decide) (hts (.fieldLink R_Row 15 "LimbRows$Row" "width" "I") k_79) (fun _ h9 => h9) rfl hdg kk
theorem c_ald (hx : p.tables.exec = Jvm.exec) (hb : c.code = cc) (hK : va_K D cls0 (ty3 cA cR cL) s) (hP : va_P D cls0 (rw Rs cA ro la cap wd F) H) {i k : Nat} (hi : i < 64) (hk : k < cap i) (hc : cap i ≤ 256) (hdg : decode cc pc = .ok (.iaload, 1))
    (kk : W p l e R s m args below meth c H locs cells slots Q (F0 m (pc + 1) ls (.int (F i k) :: rest))) : W p l e R s m args below meth c H locs cells slots Q (F0 m pc ls (.int (nI k) :: .ref (la i) :: rest)) :=
  va_iald hx hb hK hP _ 0 (rw_lim hi) rfl (vp_in_nI hk (by omega)) hdg (by rw [nI_clamp (by omega)]; exact kk)
theorem c_ast (hx : p.tables.exec = Jvm.exec) (hb : c.code = cc) (hK : va_K D cls0 (ty3 cA cR cL) s) (hP : va_P D cls0 (rw Rs cA ro la cap wd F) H) (hD : va_D A (rw Rs cA ro la cap wd F)) (hS : va_S A H0 H locs) {i k : Nat} {x : Int32} (hi : i < 64) (hk : k < cap i) (hc : cap i ≤ 256) (hdg : decode cc pc = .ok (.iastore, 1))
    (kk : ∀ (H1 : Heap) (locs1 : List Loc), va_P D cls0 (rw Rs cA ro la cap wd (va_up F i (upd (F i) k x))) H1 → va_D A (rw Rs cA ro la cap wd (va_up F i (upd (F i) k x))) → va_S A H0 H1 locs1 → W p l e R s m args below meth c H1 locs1 cells slots Q (F0 m (pc + 1) ls rest)) : W p l e R s m args below meth c H locs cells slots Q (F0 m pc ls (.int x :: .int (nI k) :: .ref (la i) :: rest)) :=
  va_iast hx hb hK hP hD hS _ 0 (rw_lim hi) rfl (vp_in_nI hk (by omega)) hdg (fun H1 locs1 hP hD hS => by
    rw [nI_clamp (by omega), rw_setF hi] at hP hD
    exact kk H1 locs1 hP hD hS)
end RW
