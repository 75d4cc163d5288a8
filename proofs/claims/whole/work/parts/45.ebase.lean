/-! What the class's own methods need of the start beside the cells: words of nest mates and of throws, texts, Throwable's statics. -/
def fw : Cond → Bool
  | .methodLinkNest _ _ _ _ => true
  | .fieldLinkNest _ _ _ _ _ _ => true
  | w => w.onTables && w.keepsFace
theorem fw_tab {w : Cond} (h : fw w = true) : w.onTables = true := by
  unfold fw at h
  split at h
  · rfl
  · rfl
  · simp only [Bool.and_eq_true] at h
    exact h.1
theorem fw_warm {s U : State} (hW : s.WarmedH U.vm) {w : Cond} (hf : fw w = true) (h : w.before #[] s = true) : w.before #[] U = true := by
  unfold fw at hf
  split at hf
  · exact va_Nw.warmM hW h
  · exact va_Nw.warmF hW h
  · exact Cond.onTables_atFace hW hf h
def xN (U : State) : Prop := ∀ w ∈ lw_tbl, fw w = true → w.before #[] U = true
theorem xN.warm {s U : State} (hW : s.WarmedH U.vm) (h : xN s) : xN U := fun w hw hf => fw_warm hW hf (h w hw hf)
theorem xN.same {s U : State} (hv : s.vm = U.vm) (h : xN s) : xN U := fun w hw hf => va_tabs (fw_tab hf) hv (h w hw hf)
theorem xN.use {U : State} (h : xN U) {w : Cond} {k : Nat} (hw : lw_tbl[k]? = some w) (hf : fw w = true) (args : Array Value) : w.before args U = true := va_tabs (fw_tab hf) rfl (h w (List.mem_of_getElem? hw) hf)
theorem xN.nw {U : State} (h : xN U) {w : Cond} {k : Nat} (hw : lw_tbl[k]? = some w) (hf : fw w = true) : va_Nw w U := h w (List.mem_of_getElem? hw) hf
def xT (U : State) : Prop := (∀ (k : Nat) (tx : String), Cond.stringRef "LimbRows" k tx ∈ lw_tbl → ∃ a, vk_R "LimbRows" k tx a U) ∧ va_AO "LimbRows$Row" U ∧ va_Nc "java/lang/IllegalArgumentException" "java/lang/IndexOutOfBoundsException" U
theorem xT.warm {s U : State} (hW : s.WarmedH U.vm) (h : xT s) : xT U := ⟨fun k tx hm => by
  obtain ⟨a, ha⟩ := h.1 k tx hm
  exact ⟨a, vk_R.warm hW ha⟩, va_AO.moved hW.alike h.2.1, va_Nc.moved hW.alike h.2.2⟩
theorem xT.same {s U : State} (hv : s.vm = U.vm) (h : xT s) : xT U := ⟨fun k tx hm => by
  obtain ⟨a, ha⟩ := h.1 k tx hm
  exact ⟨a, vk_R.same hv.symm ha⟩, va_AO.moved (by rw [hv]; exact Vm.Alike.refl _) h.2.1, va_Nc.moved (by rw [hv]; exact Vm.Alike.refl _) h.2.2⟩
def xZ (A : Nat → Prop) (U : State) (H : Heap) : Prop := vx_Zq Bundle.tN "UNASSIGNED_STACK" Bundle.steD A U H ∧ vx_Zq Bundle.tN "SUPPRESSED_SENTINEL" Bundle.listD A U H
theorem xZ.moved {A : Nat → Prop} {u U : State} {H : Heap} (hvm : u.vm.Alike U.vm) (h : xZ A u H) : xZ A U H := ⟨h.1.moved hvm, h.2.moved hvm⟩
theorem xZ.kept {A : Nat → Prop} {U : State} {H H1 : Heap} (h : xZ A U H) (hq : ∀ a : Nat, a < H.size → ¬ A a → H1[a]? = H[a]?) : xZ A U H1 := ⟨h.1.kept hq, h.2.kept hq⟩
theorem xZ.narrow {A B : Nat → Prop} {U : State} {H : Heap} (h : xZ A U H) (hAB : ∀ q, B q → A q) : xZ B U H := ⟨h.1.narrow hAB, h.2.narrow hAB⟩
def xPE (D : va_G) (cl : List vw_C) (tys : List (ClassId × FieldType)) (w0 : va_W) (sz : Nat) (U : State) : Prop := xP D cl tys w0 sz U ∧ xN U ∧ xT U ∧ xZ (va_A w0 sz) U U.heap
def xCE (l : Launch) (y : MethodName) (ws : List Cond) (rm : Room) (D : va_G) (cl : List vw_C) (tys : List (ClassId × FieldType)) (as : List Value) (w0 : va_W) (r : Option Value) (Y : va_W → Prop) (mc ms : Nat) : Prop :=
  ∀ sz : Nat, Met l y ws rm (va_Pc as (xPE D cl tys w0 sz)) (xQ r (xB D cl (va_A w0 sz) Y) (va_A w0 sz)) mc ms (va_A w0 sz)
/-- it has thrown E, and the world is as it was -/
def xXC (E : String) (D : va_G) (cl : List vw_C) (A : Nat → Prop) (w0 : va_W) : String → State → State → Prop := fun E' st t => E' = E ∧ (va_P D cl w0 t.heap ∧ va_D A w0) ∧ va_F A st t
def xNo : Array Value → State → Outcome → State → Prop := fun _ _ _ _ => False
def xTE (l : Launch) (y : MethodName) (ws : List Cond) (rm : Room) (D : va_G) (cl : List vw_C) (tys : List (ClassId × FieldType)) (as : List Value) (w0 : va_W) (E : String) (mc ms : Nat) : Prop :=
  ∀ sz : Nat, vx_Met l y ws rm (va_Pc as (xPE D cl tys w0 sz)) xNo (xXC E D cl (va_A w0 sz) w0) mc ms (va_A w0 sz)
theorem xCE.ofW {l : Launch} {y : MethodName} {ws ws' : List Cond} {rm : Room} {D : va_G} {cl : List vw_C} {tys : List (ClassId × FieldType)} {as : List Value} {w0 : va_W} {r : Option Value} {Y : va_W → Prop} {mc ms : Nat} {cc : ByteArray} {maxL : Nat} {ret : Option FieldType}
    (hy : plainName y.cls = true) (hw : ws = Cond.code y cc maxL ret :: ws') (hlen : (lg_sl as).length ≤ maxL)
    (body : ∀ (p : Program) (e : Env) (s : State) (m : MethodId) (below : List Frame) (meth : Method) (c : Code) (A : Nat → Prop) (ls : Array Slot), meth.name = y.name →
      p.tables.exec = Jvm.exec → c.code = cc → meth.sig.returnType = ret → c.maxLocals = maxL → s.vm.findClass y.cls = some m.cls → (∀ w ∈ ws, w.before as.toArray s = true) → meth.locks = false → (∀ q : Nat, s.heap.size ≤ q → A q) →
      va_K D cl tys s → xN s → xT s → xZ A s s.heap → va_P D cl w0 s.heap → va_D A w0 → va_S A s.heap s.heap [] → lv_has ls maxL (lv_args 0 as) →
      W p l e rm s m as.toArray below meth c s.heap [] 0 0 (MQ below (xQ r (xB D cl A Y) A) as.toArray s mc ms A) (F0 m 0 ls [])) : xCE l y ws rm D cl tys as w0 r Y mc ms := by
  intro sz
  refine Met.ofW (cc := cc) (maxL := maxL) (ret := ret) hy hw ?_
  intro p e s m args below meth c s₁ B hml hv
  obtain ⟨rfl, ⟨rfl, hP, hK, hD0⟩, hN, hT, hZ⟩ := hv
  have hl := lv_entry as (n := maxL) hlen
  rw [lg_entry_eq]
  generalize (lg_sl as ++ List.replicate (maxL - (lg_sl as).length) Slot.unset).toArray = ls at hl ⊢
  exact body p e s m below meth c (va_A w0 s.heap.size) ls (name_of_methodNamed B.named B.method).1 B.exec B.bytes B.returns hml (findClass_of_methodNamed B.named) (atoms_spec (ws := ws) B.pre) B.notSynchronized (fun q h => Or.inr h) hK hN hT hZ hP hD0.self va_S.rf hl
theorem xTE.ofW {l : Launch} {y : MethodName} {ws ws' : List Cond} {rm : Room} {D : va_G} {cl : List vw_C} {tys : List (ClassId × FieldType)} {as : List Value} {w0 : va_W} {E : String} {mc ms : Nat} {cc : ByteArray} {maxL : Nat} {ret : Option FieldType}
    (hy : plainName y.cls = true) (hw : ws = Cond.code y cc maxL ret :: ws') (hlen : (lg_sl as).length ≤ maxL)
    (body : ∀ (p : Program) (e : Env) (s : State) (m : MethodId) (below : List Frame) (meth : Method) (c : Code) (A : Nat → Prop) (ls : Array Slot),
      p.tables.exec = Jvm.exec → c.code = cc → meth.sig.returnType = ret → c.maxLocals = maxL → s.vm.findClass y.cls = some m.cls → (∀ w ∈ ws, w.before as.toArray s = true) → meth.locks = false → (∀ q : Nat, s.heap.size ≤ q → A q) →
      va_K D cl tys s → xN s → xT s → xZ A s s.heap → va_P D cl w0 s.heap → va_D A w0 → va_S A s.heap s.heap [] → lv_has ls maxL (lv_args 0 as) → (∀ x ∈ c.exceptionTable.toList, False) →
      W p l e rm s m as.toArray below meth c s.heap [] 0 0 (vx_MQ below xNo (xXC E D cl A w0) as.toArray s mc ms A) (F0 m 0 ls [])) : xTE l y ws rm D cl tys as w0 E mc ms := by
  intro sz
  refine vx_ofW (cc := cc) (maxL := maxL) (ret := ret) hy hw ?_
  intro p e s m args below meth c s₁ B hml htb hv
  obtain ⟨rfl, ⟨rfl, hP, hK, hD0⟩, hN, hT, hZ⟩ := hv
  have hl := lv_entry as (n := maxL) hlen
  rw [lg_entry_eq]
  generalize (lg_sl as ++ List.replicate (maxL - (lg_sl as).length) Slot.unset).toArray = ls at hl ⊢
  exact body p e s m below meth c (va_A w0 s.heap.size) ls B.exec B.bytes B.returns hml (findClass_of_methodNamed B.named) (atoms_spec (ws := ws) B.pre) B.notSynchronized (fun q h => Or.inr h) hK hN hT hZ hP hD0.self va_S.rf hl htb
section XE
variable {p : Program} {l : Launch} {e : Env} {R : Room} {s : State} {m : MethodId} {args : Array Value} {below : List Frame} {meth : Method} {c : Code} {H : Heap} {locs : List Loc} {cells slots : Nat} {Q : State → Prop}
variable {cc : ByteArray} {pc : Nat} {ls : Array Slot} {rest st0 : List Value} {D : va_G} {cl : List vw_C} {tys : List (ClassId × FieldType)} {A : Nat → Prop} {w0 : va_W} {Y : va_W → Prop} {r : Option Value}
variable {y : MethodName} {bytes : ByteArray} {maxL nL mc ms n index : Nat} {ret : Option FieldType} {ws : List Cond} {rm : Room} {Qc : Array Value → State → Outcome → State → Prop} {XC : String → State → State → Prop} {free : Addr → Prop} {Ts : List Cond} {own C : String} {b : Nat} {As : List Value} {E : String}
theorem xe_blind {as : List Value} {sz : Nat} : FrameBlind (va_Pc as (xPE D cl tys w0 sz)) := fun a U g mk q => by
  obtain ⟨q0, ⟨q1, qP, qK, qD⟩, qN, qT, qZ⟩ := q
  exact ⟨q0, ⟨q1, qP, va_K.moved (u := U) (U := U.calling g mk a) (Vm.Alike.refl U.vm) qK, qD⟩, xN.same (s := U) (U := U.calling g mk a) rfl qN, xT.same (s := U) (U := U.calling g mk a) rfl qT, xZ.moved (u := U) (U := U.calling g mk a) (Vm.Alike.refl U.vm) qZ⟩
theorem xe_pre (hK : va_K D cl tys s) (hN : xN s) (hT : xT s) (hZ : xZ A s s.heap) (hP : va_P D cl w0 H) (hD : va_D A w0) (hS : va_S A s.heap H locs) (hA : ∀ q, va_A w0 H.size q → A q) {as : List Value} : ∀ U : State, U.heap = H → s.WarmedH U.vm → va_Pc as (xPE D cl tys w0 H.size) as.toArray U := fun U hU hW =>
  ⟨rfl, ⟨by rw [hU], by rw [hU]; exact hP, va_K.moved hW.alike hK, hD.weaken (fun _ _ _ _ => trivial)⟩, hN.warm hW, hT.warm hW, by rw [hU]; exact ((hZ.kept hS.2.1).narrow hA).moved hW.alike⟩
theorem xe_runV (S : CallFix p m c cc nL s args Ts own) (hM : Met l y ws rm (va_Pc (.ref b :: As) (xPE D cl tys w0 H.size)) Qc mc ms free) (cw : CallW R s args own C index y bytes maxL ret ws rm mc ms n) (hK : va_K D cl tys s) (hN : xN s) (hT : xT s) (hZ : xZ A s s.heap) (hP : va_P D cl w0 H) (hD : va_D A w0) (hS : va_S A s.heap H locs) (hA : ∀ q, va_A w0 H.size q → A q)
    (q0 ci : Nat) {fs : List Value} {T : u_T} {NN : Nat} (he : w0[q0]? = some (b, .inr (ci, fs))) (hc : cl[ci]? = some (C, T, NN))
    (hn : As.length = n) (hsize : ls.size = nL) (hst : st0 = As.reverse ++ .ref b :: rest) (hW : (rest.map fun v => v.category).sum ≤ 8) (hdg : decode cc pc = .ok (.invokevirtual index, 3)) (hf : cells + mc ≤ R.cells ∧ slots + ms ≤ R.slots) :
    va_Run p l e R s m args below meth c H locs cells slots mc ms (F0 m pc ls st0) rest (Qc (Value.ref b :: As).toArray) free :=
  va_runV S hM cw ⟨xe_blind, va_recv hK hP hc he, xe_pre hK hN hT hZ hP hD hS hA⟩ rfl hn hsize hst (lv_room hW) hdg hf
theorem xt_runV (S : CallFix p m c cc nL s args Ts own) (hM : vx_Met l y ws rm (va_Pc (.ref b :: As) (xPE D cl tys w0 H.size)) Qc XC mc ms free) (cw : CallW R s args own C index y bytes maxL ret ws rm mc ms n) (hK : va_K D cl tys s) (hN : xN s) (hT : xT s) (hZ : xZ A s s.heap) (hP : va_P D cl w0 H) (hD : va_D A w0) (hS : va_S A s.heap H locs) (hA : ∀ q, va_A w0 H.size q → A q)
    (q0 ci : Nat) {fs : List Value} {T : u_T} {NN : Nat} (he : w0[q0]? = some (b, .inr (ci, fs))) (hc : cl[ci]? = some (C, T, NN))
    (hn : As.length = n) (hsize : ls.size = nL) (hst : st0 = As.reverse ++ .ref b :: rest) (hW : (rest.map fun v => v.category).sum ≤ 8) (hdg : decode cc pc = .ok (.invokevirtual index, 3)) (hf : cells + mc ≤ R.cells ∧ slots + ms ≤ R.slots) :
    vx_Run p l e R s m args below meth c H locs cells slots mc ms (F0 m pc ls st0) rest (Qc (Value.ref b :: As).toArray) XC free :=
  vx_runV S hM cw ⟨xe_blind, va_recv hK hP hc he, xe_pre hK hN hT hZ hP hD hS hA⟩ rfl hn hsize hst (lv_room hW) hdg hf
theorem xe_runS (S : CallFix p m c cc nL s args Ts own) (hM : Met l y ws rm (va_Pc As (xPE D cl tys w0 H.size)) Qc mc ms free) (cw : CallB R s args own index y bytes maxL ret ws rm mc ms n ∧ (Cond.static y).before args s = true) (hK : va_K D cl tys s) (hN : xN s) (hT : xT s) (hZ : xZ A s s.heap) (hP : va_P D cl w0 H) (hD : va_D A w0) (hS : va_S A s.heap H locs) (hA : ∀ q, va_A w0 H.size q → A q)
    (hn : As.length = n) (hsize : ls.size = nL) (hst : st0 = As.reverse ++ rest) (hW : (rest.map fun v => v.category).sum ≤ 8) (hdg : decode cc pc = .ok (.invokestatic index, 3)) (hf : cells + mc ≤ R.cells ∧ slots + ms ≤ R.slots) :
    va_Run p l e R s m args below meth c H locs cells slots mc ms (F0 m pc ls st0) rest (Qc As.toArray) free :=
  va_runS S hM cw ⟨xe_blind, xe_pre hK hN hT hZ hP hD hS hA⟩ rfl hn hsize hst (lv_room hW) hdg hf
theorem xt_runS (S : CallFix p m c cc nL s args Ts own) (hM : vx_Met l y ws rm (va_Pc As (xPE D cl tys w0 H.size)) Qc XC mc ms free) (cw : CallB R s args own index y bytes maxL ret ws rm mc ms n ∧ (Cond.static y).before args s = true) (hK : va_K D cl tys s) (hN : xN s) (hT : xT s) (hZ : xZ A s s.heap) (hP : va_P D cl w0 H) (hD : va_D A w0) (hS : va_S A s.heap H locs) (hA : ∀ q, va_A w0 H.size q → A q)
    (hn : As.length = n) (hsize : ls.size = nL) (hst : st0 = As.reverse ++ rest) (hW : (rest.map fun v => v.category).sum ≤ 8) (hdg : decode cc pc = .ok (.invokestatic index, 3)) (hf : cells + mc ≤ R.cells ∧ slots + ms ≤ R.slots) :
    vx_Run p l e R s m args below meth c H locs cells slots mc ms (F0 m pc ls st0) rest (Qc As.toArray) XC free :=
  vx_runS S hM cw ⟨xe_blind, xe_pre hK hN hT hZ hP hD hS hA⟩ rfl hn hsize hst (lv_room hW) hdg hf
/-- a nest mate's method, of the Row's kind -/
theorem xn_runV {host : String} (S : CallFix p m c cc nL s args Ts own) (hM : Met l y ws rm (va_Pc (.ref b :: As) (xP D cl tys w0 H.size)) Qc mc ms free) (cw : va_CN R s args own index y host bytes maxL ret ws rm mc ms n ∧ (Cond.instanceMethod y).before args s = true ∧ (Cond.selects C y y).before args s = true) (hK : va_K D cl tys s) (hP : va_P D cl w0 H) (hD : va_D A w0)
    (q0 ci : Nat) {fs : List Value} {T : u_T} {NN : Nat} (he : w0[q0]? = some (b, .inr (ci, fs))) (hc : cl[ci]? = some (C, T, NN))
    (hn : As.length = n) (hsize : ls.size = nL) (hst : st0 = As.reverse ++ .ref b :: rest) (hW : (rest.map fun v => v.category).sum ≤ 8) (hdg : decode cc pc = .ok (.invokevirtual index, 3)) (hf : cells + mc ≤ R.cells ∧ slots + ms ≤ R.slots) :
    va_Run p l e R s m args below meth c H locs cells slots mc ms (F0 m pc ls st0) rest (Qc (Value.ref b :: As).toArray) free :=
  va_runVN S hM cw ⟨x_blind, va_recv hK hP hc he, x_pre hK hP hD⟩ rfl hn hsize hst (lv_room hW) hdg hf
/-- the call has thrown: on it goes -/
theorem xt_call {a : Array Value} {A1 A0 : Nat → Prop} {H0 : Heap} (hr : vx_Run p l e R s m args below meth c H locs cells slots mc ms (F0 m pc ls st0) rest (xNo a) (xXC E D cl A1 w0) A1) (hS : va_S A0 H0 H locs) (hA : ∀ q, A1 q → A0 q)
    (kk : ∀ (q9 : Addr) (ce : Cell) (H1 : Heap) (locs1 : List Loc), va_P D cl w0 H1 → va_D A0 w0 → va_S A0 H0 H1 locs1 → H1[q9]? = some ce → ce.vm = .none → s.vm.findClass E = some ce.cls → vx_W p l e R s m args below meth c H1 locs1 (cells + mc) (slots + ms) Q (F0 m pc ls rest) q9) : W p l e R s m args below meth c H locs cells slots Q (F0 m pc ls st0) := by
  intro T hT X
  rcases hr T hT X with ⟨v, st₀, t, T', L, h0, X', hL, e1, e2, hno, st⟩ | ⟨q, st₀, t, T', L, E', ce, h0, X', hL, e1, e2, ⟨rfl, ⟨hP1, hD1⟩, hF⟩, hce, hcv, hcl, st⟩
  · exact hno.elim
  · obtain ⟨k1, k2, k3⟩ := vx_keep h0 e1 hS (fun q _ h => hA q h) hA hL hF
    obtain ⟨t2, a1, b1⟩ := kk q ce T'.heap (locs ++ L) (by rw [e1]; exact hP1) (hD1.weaken (fun _ q _ h => hA q.1 h)) k3 (by rw [e1]; exact hce) hcv hcl T' rfl X'
    exact ⟨t2, st.trans a1, b1⟩
/-- not caught: out of the method -/
theorem xt_out {q : Addr} {ce : Cell} (htb : ∀ x ∈ c.exceptionTable.toList, False) (hlocks : meth.locks = false) (hP : va_P D cl w0 H) (hD : va_D A w0) (hS : va_S A s.heap H locs) (hcell : H[q]? = some ce) (hv : ce.vm = .none) (hcl : s.vm.findClass E = some ce.cls) (hc : cells ≤ mc) (hs : slots ≤ ms) :
    vx_W p l e R s m args below meth c H locs cells slots (vx_MQ below xNo (xXC E D cl A w0) args s mc ms A) (F0 m pc ls rest) q :=
  vx_out (fun x hx => (htb x hx).elim) hlocks hcell hv hcl (fun t ht _ => ⟨rfl, ⟨by rw [ht]; exact hP, hD⟩, hS.F ht⟩) hS.2.2 hc hs
theorem xt_throw {ik is ic k1 : Nat} {text : String} {names : List String} (hx : p.tables.exec = Jvm.exec) (hb : c.code = cc) (hl : l.stackTraces = false) (hown : s.vm.findClass "LimbRows" = some m.cls) (hcls : Bundle.fit E = true) (hnames : ∀ n ∈ names, Bundle.fit n = true)
    (hat : ∀ w ∈ Cond.classLink "LimbRows" ik E :: Cond.initialized E :: vx_atS "LimbRows" ic E names, w ∈ lw_tbl ∧ fw w = true) (hstr : lw_tbl[k1]? = some (.stringRef "LimbRows" is text))
    (hN : xN s) (hT : xT s) (hZ : xZ A s s.heap) (hP : va_P D cl w0 H) (hD : va_D A w0) (hS : va_S A s.heap H locs) (hsize : ls.size = c.maxLocals)
    (d0 : decode cc pc = .ok (.new ik, 3)) (d3 : decode cc (pc + 3) = .ok (.dup, 1)) (d4 : decode cc (pc + 4) = .ok (.ldc is, 2)) (d6 : decode cc (pc + 6) = .ok (.invokespecial ic, 3)) (d9 : decode cc (pc + 9) = .ok (.athrow, 1))
    (htb : ∀ x ∈ c.exceptionTable.toList, False)
    (hR : names.length + 3 < R.frames ∧ (rest.map fun v => v.category).sum + (13 * (names.length + 1) + 43) ≤ R.locals ∧ cells + 1 ≤ R.cells ∧ slots + 6 ≤ R.slots) (hlocks : meth.locks = false) (hc : cells + 1 ≤ mc) (hs : slots + 6 ≤ ms) :
    W p l e R s m args below meth c H locs cells slots (vx_MQ below xNo (xXC E D cl A w0) args s mc ms A) (F0 m pc ls rest) := by
  obtain ⟨sa, hsa⟩ := hT.1 is text (List.mem_of_getElem? hstr)
  have hat' : ∀ w ∈ Cond.classLink "LimbRows" ik E :: Cond.initialized E :: vx_atS "LimbRows" ic E names, w.before args s = true := fun w hw => va_tabs (fw_tab (hat w hw).2) rfl (hN w (hat w hw).1 (hat w hw).2)
  refine vx_throwS hx hb hl hown hcls hnames (hat' _ List.mem_cons_self) (hat' _ (List.mem_cons_of_mem _ List.mem_cons_self)) hsa (fun w hw => hat' w (List.mem_cons_of_mem _ (List.mem_cons_of_mem _ hw)))
    (fun w hw => by unfold vx_ot; rw [fw_tab (hat w hw).2]; rfl) hZ.1 hZ.2 hS hsize d0 d3 d4 d6 d9 (fun x hx => (htb x hx).elim) hR.1 hR.2.1 hR.2.2.1 hR.2.2.2 hlocks ?_ hS.2.2 hc hs
  intro t _ h1 h2
  refine ⟨rfl, ⟨hP.kept (fun k q hk => h2 q.1 (vx_lt hP hk)), hD⟩, Nat.le_trans hS.1 h1, fun q hq hn => ?_⟩
  rw [h2 q (Nat.lt_of_lt_of_le hq hS.1), hS.2.1 q hq hn]
end XE
