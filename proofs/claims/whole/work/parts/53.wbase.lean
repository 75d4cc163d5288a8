/-! The law's own methods, each with a table: their contracts' form. -/
def xCW (l : Launch) (y : MethodName) (ws : List Cond) (rm : Room) (D : va_G) (cl : List vw_C) (tys : List (ClassId × FieldType)) (as : List Value) (w0 : va_W) (r : Option Value) (Y : va_W → Prop) (mc ms : Nat) : Prop :=
  ∀ sz : Nat, Met l y ws rm (va_Pc as (xPE D cl tys w0 sz)) (xQ r (xB D cl (va_A w0 sz) Y) (va_A w0 sz)) mc ms (va_A w0 sz)
theorem xCW.ofW {l : Launch} {y : MethodName} {ws ws' : List Cond} {rm : Room} {D : va_G} {cl : List vw_C} {tys : List (ClassId × FieldType)} {as : List Value} {w0 : va_W} {r : Option Value} {Y : va_W → Prop} {mc ms : Nat} {cc : ByteArray} {maxL : Nat} {ret : Option FieldType} {hh : List (Nat × Nat × Nat × Nat)}
    (hy : plainName y.cls = true) (hw : ws = Cond.codeWith y cc maxL ret hh :: ws') (hlen : (lg_sl as).length ≤ maxL)
    (body : ∀ (p : Program) (e : Env) (s : State) (m : MethodId) (below : List Frame) (meth : Method) (c : Code) (A : Nat → Prop) (ls : Array Slot),
      p.tables.exec = Jvm.exec → c.code = cc → meth.sig.returnType = ret → c.maxLocals = maxL → s.vm.findClass y.cls = some m.cls → (∀ w ∈ ws, w.before as.toArray s = true) → meth.locks = false → (∀ q : Nat, s.heap.size ≤ q → A q) →
      va_K D cl tys s → xN s → xT s → xZ A s s.heap → va_P D cl w0 s.heap → va_D A w0 → va_S A s.heap s.heap [] → lv_has ls maxL (lv_args 0 as) → c.exceptionTable.toList = tableOf hh →
      W p l e rm s m as.toArray below meth c s.heap [] 0 0 (MQ below (xQ r (xB D cl A Y) A) as.toArray s mc ms A) (F0 m 0 ls [])) : xCW l y ws rm D cl tys as w0 r Y mc ms := by
  intro sz
  have h9 : vx_Met l y ws rm (va_Pc as (xPE D cl tys w0 sz)) (xQ r (xB D cl (va_A w0 sz) Y) (va_A w0 sz)) (fun _ _ _ => False) mc ms (va_A w0 sz) := by
    refine vx_ofWH (cc := cc) (maxL := maxL) (ret := ret) (hh := hh) hy hw ?_
    intro p e s m args below meth c s₁ B hml hv
    have htab := vx_table (x := y) B (atoms_spec (ws := ws) B.pre _ (by rw [hw]; exact List.mem_cons_self))
    obtain ⟨rfl, ⟨rfl, hP, hK, hD0⟩, hN, hT, hZ⟩ := hv
    have hl := lv_entry as (n := maxL) hlen
    rw [lg_entry_eq]
    generalize (lg_sl as ++ List.replicate (maxL - (lg_sl as).length) Slot.unset).toArray = ls at hl ⊢
    exact vx_ret (body p e s m below meth c (va_A w0 s.heap.size) ls B.exec B.bytes B.returns hml (findClass_of_methodNamed B.named) (atoms_spec (ws := ws) B.pre) B.notSynchronized (fun q h => Or.inr h) hK hN hT hZ hP hD0.self va_S.rf hl htab)
  intro p e ha hc hk s m args below hf happ hP tr
  obtain ⟨k, o, h1, h2, h3, hQ⟩ := h9 p e ha hc hk s m args below hf happ hP tr
  rcases hQ with hq | ⟨q, _, E, ce, L, hx, _⟩
  · exact ⟨k, o, h1, h2, h3, hq⟩
  · exact hx.elim
theorem gw_callW {y : MethodName} {b : ByteArray} {n : Nat} {ret : Option FieldType} {hh : List (Nat × Nat × Nat × Nat)} (h5 : Cond.codeWith y b n ret hh ∈ gw) : GoodIn gw (.codeWith y b n ret hh :: gw) := fun w hw => by
  rcases List.mem_cons.mp hw with rfl | h
  · exact gw_good _ h5
  · exact gw_good _ h
theorem gw_SC {own : String} {idx : Nat} {y : MethodName} {b : ByteArray} {n : Nat} {ret : Option FieldType} {hh : List (Nat × Nat × Nat × Nat)} (h1 : Cond.methodLink own idx y ∈ gw) (h2 : Cond.static y ∈ gw) (h4 : Cond.initialized y.cls ∈ gw) (h5 : Cond.codeWith y b n ret hh ∈ gw) : GoodIn gw (va_wsS own idx y (.codeWith y b n ret hh :: gw)) := fun w hw => by
  unfold va_wsS at hw
  rcases List.mem_append.mp hw with h | h
  · simp only [List.mem_cons, List.not_mem_nil, or_false] at h
    rcases h with rfl | rfl | rfl
    · exact gw_good _ h1
    · exact gw_good _ h2
    · exact gw_good _ h4
  · exact gw_callW h5 w h
section XW1
variable {p : Program} {l : Launch} {e : Env} {R : Room} {s : State} {m : MethodId} {args : Array Value} {below : List Frame} {meth : Method} {c : Code} {H : Heap} {locs : List Loc} {cells slots : Nat} {Q : State → Prop}
variable {cc : ByteArray} {pc : Nat} {ls : Array Slot} {rest st0 : List Value} {D : va_G} {cl : List vw_C} {tys : List (ClassId × FieldType)} {A : Nat → Prop} {w0 : va_W} {Y : va_W → Prop} {r : Option Value}
variable {y : MethodName} {bytes : ByteArray} {maxL nL mc ms n index : Nat} {ret : Option FieldType} {hh : List (Nat × Nat × Nat × Nat)} {ws : List Cond} {rm : Room} {Qc : Array Value → State → Outcome → State → Prop} {free : Addr → Prop} {Ts : List Cond} {own : String} {As : List Value}
theorem xw_runS (S : CallFix p m c cc nL s args Ts own) (hM : Met l y ws rm (va_Pc As (xPE D cl tys w0 H.size)) Qc mc ms free) (cw : vx_CSW R s args own index y bytes maxL ret hh ws rm mc ms n) (hK : va_K D cl tys s) (hN : xN s) (hT : xT s) (hZ : xZ A s s.heap) (hP : va_P D cl w0 H) (hD : va_D A w0) (hS : va_S A s.heap H locs) (hA : ∀ q, va_A w0 H.size q → A q)
    (hn : As.length = n) (hsize : ls.size = nL) (hst : st0 = As.reverse ++ rest) (hW : (rest.map fun v => v.category).sum ≤ 8) (hdg : decode cc pc = .ok (.invokestatic index, 3)) (hf : cells + mc ≤ R.cells ∧ slots + ms ≤ R.slots) :
    va_Run p l e R s m args below meth c H locs cells slots mc ms (F0 m pc ls st0) rest (Qc As.toArray) free :=
  vx_runSW S hM cw ⟨xe_blind, xe_pre hK hN hT hZ hP hD hS hA⟩ rfl hn hsize hst (lv_room hW) hdg hf
/-- caught by the first row -/
theorem xt_catch1 {q : Addr} {ce : Cell} {h0 hp : Nat} {suf : List (Nat × Nat × Nat × Nat)} (hown : s.vm.findClass "LimbRowsLaw" = some m.cls) (hts : ∀ w ∈ gw, w.before args s = true) (hN : xN s) (htab : c.exceptionTable.toList = tableOf ((0, h0, hp, 13) :: suf)) (hpc : pc < h0) (hcell : H[q]? = some ce) (hv : ce.vm = .none) (hcl : s.vm.findClass R_IO = some ce.cls)
    (kk : W p l e R s m args below meth c H locs cells slots Q (F0 m hp ls [.ref q])) : vx_W p l e R s m args below meth c H locs cells slots Q (F0 m pc ls rest) q :=
  vx_catch (own := "LimbRowsLaw") (name := R_IO) (E := R_IO) hown [] ⟨0, h0, hp, 13⟩ (tableOf suf) htab (fun z hz => by cases hz) (by unfold covers; simp [hpc]) (show (13 : Nat) ≠ 0 by decide) (hts _ k_94) (hN.use kt_106 rfl args) hcell hv hcl kk
/-- caught by the second row, past the first -/
theorem xt_catch2 {q : Addr} {ce : Cell} {h0 hp1 h1 hp : Nat} (hown : s.vm.findClass "LimbRowsLaw" = some m.cls) (hts : ∀ w ∈ gw, w.before args s = true) (hN : xN s) (hT : xT s) (htab : c.exceptionTable.toList = tableOf [(0, h0, hp1, 13), (0, h1, hp, 15)]) (hpc : pc < h1) (hcell : H[q]? = some ce) (hv : ce.vm = .none) (hcl : s.vm.findClass R_IA = some ce.cls)
    (kk : W p l e R s m args below meth c H locs cells slots Q (F0 m hp ls [.ref q])) : vx_W p l e R s m args below meth c H locs cells slots Q (F0 m pc ls rest) q :=
  vx_catch (own := "LimbRowsLaw") (name := R_IA) (E := R_IA) hown [⟨0, h0, hp1, 13⟩] ⟨0, h1, hp, 15⟩ [] htab (fun z hz => by
    rw [List.mem_singleton.mp hz]
    exact Or.inr ⟨show (13 : Nat) ≠ 0 by decide, R_IO, hts _ k_94, hT.2.2⟩) (by unfold covers; simp [hpc]) (show (15 : Nat) ≠ 0 by decide) (hts _ k_95) (hN.use kt_173 rfl args) hcell hv hcl kk
end XW1
