/-! Cells put in another's place; contracts with a new address for an answer; Arrays.copyOf; Row.changeWidth. -/
theorem va_P_mem {D : va_G} {cl : List vw_C} {ws ws' : va_W} {H : Heap} (h : va_P D cl ws H) (hm : ∀ q ∈ ws', q ∈ ws) : va_P D cl ws' H := fun k q hk => by
  obtain ⟨j, hj⟩ := List.mem_iff_getElem?.mp (hm q (List.mem_of_getElem? hk))
  exact h j q hj
theorem va_P_put {D : va_G} {cl : List vw_C} {L : va_W} {x : Nat × va_E} {k : Nat} {H : Heap} (h : va_P D cl (L ++ [x]) H) : va_P D cl (L.set k x) H := va_P_mem h (fun q hq => by
  rcases List.mem_or_eq_of_mem_set hq with h | h
  · exact List.mem_append_left _ h
  · rw [h]; simp)
theorem va_D_put {A : Nat → Prop} {L : va_W} {x : Nat × va_E} {k : Nat} (h : va_D A (L ++ [x])) : va_D A (L.set k x) := by
  refine h.by (fun j => if j = k then L.length else j) ?_ ?_
  · intro j q hj
    have hl : j < L.length := by simpa using (List.getElem?_eq_some_iff.mp hj).1
    by_cases e : j = k
    · subst e
      rw [List.getElem?_set_self hl] at hj
      cases hj
      simp
    · rw [List.getElem?_set_ne (fun z => e z.symm)] at hj
      simp only [e, if_false]
      rw [List.getElem?_append_left hl]
      exact hj
  · intro i j hi hj
    have hi' : i < L.length := by simpa using hi
    have hj' : j < L.length := by simpa using hj
    intro e
    split at e <;> split at e <;> omega
theorem set3 {α : Type} {R A B : List α} {i : Nat} (hA : A.length = 64) (hi : i < 64) (x y : α) : ((R ++ (A ++ B)).set (R.length + i) x).set (R.length + 64 + i) y = R ++ (A.set i x ++ B.set i y) := by
  have e1 : (R ++ (A ++ B)).set (R.length + i) x = R ++ (A.set i x ++ B) := by
    rw [List.set_append_right _ _ (by omega), show R.length + i - R.length = i by omega, List.set_append_left _ _ (by omega)]
  have hl : (A.set i x).length = 64 := by rw [List.length_set]; exact hA
  rw [e1, List.set_append_right _ _ (by omega), show R.length + 64 + i - R.length = 64 + i by omega, List.set_append_right _ _ (by omega), hl, show 64 + i - 64 = i by omega]
theorem rw_setA {Rs : va_W} {cA : ClassId} {ro la cap wd : Nat → Nat} {F : Nat → Nat → Int32} {i : Nat} (hi : i < 64) (a n : Nat) (f : Nat → Int32) :
    ((rw Rs cA ro la cap wd F).set (Rs.length + i) (ro i, .inr (0, [.ref a, .int (nI (wd i))]))).set (Rs.length + 64 + i) (a, .inl (cA, n, .inl f)) = rw Rs cA ro (va_up la i a) (va_up cap i n) wd (va_up F i f) := by
  unfold rw
  rw [set3 (by simp) hi]
  congr 1
  congr 1
  · apply List.ext_getElem?
    intro j
    simp only [List.getElem?_set, List.getElem?_map, List.length_map, List.length_range]
    by_cases hj : i = j
    · subst hj
      simp [hi, va_up]
    · have hj' : j ≠ i := fun e => hj e.symm
      by_cases h6 : j < 64
      · simp [hj, va_up, hj', h6]
      · simp [hj, h6]
  · apply List.ext_getElem?
    intro j
    simp only [List.length_map, List.length_range, List.getElem?_set, List.getElem?_map]
    by_cases hj : i = j
    · subst hj
      simp [hi, va_up]
    · have hj' : j ≠ i := fun e => hj e.symm
      by_cases h6 : j < 64
      · simp [hj, va_up, hj', h6]
      · simp [hj, h6]
def xQX (B : Nat → State → Prop) (A : Nat → Prop) : Array Value → State → Outcome → State → Prop := fun _ st oc t => ∃ q : Nat, oc = .returned (some (.ref q)) ∧ B q t ∧ va_F A st t
theorem xG.ofW {l : Launch} {y : MethodName} {ws ws' : List Cond} {rm : Room} {D : va_G} {cl : List vw_C} {tys : List (ClassId × FieldType)} {as : List Value} {w0 : va_W} {Qc : (Nat → Prop) → Array Value → State → Outcome → State → Prop} {mc ms : Nat} {cc : ByteArray} {maxL : Nat} {ret : Option FieldType}
    (hy : plainName y.cls = true) (hw : ws = Cond.code y cc maxL ret :: ws') (hlen : (lg_sl as).length ≤ maxL)
    (body : ∀ (p : Program) (e : Env) (s : State) (m : MethodId) (below : List Frame) (meth : Method) (c : Code) (A : Nat → Prop) (ls : Array Slot), l.admits e → meth.name = y.name →
      p.tables.exec = Jvm.exec → c.code = cc → meth.sig.returnType = ret → c.maxLocals = maxL → s.vm.findClass y.cls = some m.cls → (∀ w ∈ ws, w.before as.toArray s = true) → meth.locks = false → (∀ q : Nat, s.heap.size ≤ q → A q) →
      va_K D cl tys s → va_P D cl w0 s.heap → va_D A w0 → va_S A s.heap s.heap [] → lv_has ls maxL (lv_args 0 as) →
      W p l e rm s m as.toArray below meth c s.heap [] 0 0 (MQ below (Qc A) as.toArray s mc ms A) (F0 m 0 ls [])) : ∀ sz : Nat, Met l y ws rm (va_Pc as (xP D cl tys w0 sz)) (Qc (va_A w0 sz)) mc ms (va_A w0 sz) := by
  intro sz
  refine Met.ofW (cc := cc) (maxL := maxL) (ret := ret) hy hw ?_
  intro p e s m args below meth c s₁ B hml hv
  obtain ⟨rfl, rfl, hP, hK, hD0⟩ := hv
  have hl := lv_entry as (n := maxL) hlen
  rw [lg_entry_eq]
  generalize (lg_sl as ++ List.replicate (maxL - (lg_sl as).length) Slot.unset).toArray = ls at hl ⊢
  exact body p e s m below meth c (va_A w0 s.heap.size) ls (Stand.of_body B).admits (name_of_methodNamed B.named B.method).1 B.exec B.bytes B.returns hml (findClass_of_methodNamed B.named) (atoms_spec (ws := ws) B.pre) B.notSynchronized (fun q h => Or.inr h) hK hP hD0.self va_S.rf hl
section XGX
variable {p : Program} {l : Launch} {e : Env} {R : Room} {s : State} {m : MethodId} {args : Array Value} {below : List Frame} {meth : Method} {c : Code} {H : Heap} {locs : List Loc} {cells slots : Nat} {Q : State → Prop}
variable {cc : ByteArray} {pc : Nat} {ls : Array Slot} {rest st0 : List Value} {D : va_G} {cl : List vw_C} {tys : List (ClassId × FieldType)} {A : Nat → Prop} {w : va_W} {Y : Nat → va_W → Prop}
variable {mc ms : Nat} {a : Array Value} {free : Addr → Prop} {A0 A1 : Nat → Prop} {H0 : Heap}
theorem x_callX (hr : va_Run p l e R s m args below meth c H locs cells slots mc ms (F0 m pc ls st0) rest (xQX (fun q => xB D cl A1 (Y q)) A1 a) free) (hS : va_S A0 H0 H locs) (hA : ∀ q, A1 q → A0 q) (hf : ∀ q, free q → A0 q)
    (kk : ∀ (q : Nat) (w1 : va_W) (H1 : Heap) (locs1 : List Loc), Y q w1 → va_P D cl w1 H1 → va_D A0 w1 → va_S A0 H0 H1 locs1 → W p l e R s m args below meth c H1 locs1 (cells + mc) (slots + ms) Q (F0 m (pc + 3) ls (.ref q :: rest))) : W p l e R s m args below meth c H locs cells slots Q (F0 m pc ls st0) := by
  intro T hT X
  obtain ⟨v, st₀, t, T', L, h0, X', hL, e1, e2, ⟨q, hv, ⟨w1, hY, hP1, hD1⟩, hz, hk⟩, st⟩ := hr T hT X
  cases hv
  rw [h0] at hz hk
  obtain ⟨t2, a1, b1⟩ := kk q w1 T'.heap (locs ++ L) hY (by rw [e1]; exact hP1) (hD1.weaken (fun _ q _ h => hA q.1 h))
    ⟨Nat.le_trans hS.1 (by rw [e1]; exact hz), fun q h1 h2 => by rw [e1, hk q (Nat.lt_of_lt_of_le h1 hS.1) (fun z => h2 (hA q z))]; exact hS.2.1 q h1 h2, fun q hq => by
      rcases List.mem_append.mp hq with h | h
      · exact hS.2.2 q h
      · exact hf _ (hL q h)⟩ T' rfl X'
  exact ⟨t2, st t2 a1, b1⟩
theorem x_aretX {v : Nat} {rt : FieldType} (hx : p.tables.exec = Jvm.exec) (hb : c.code = cc) (hr : meth.sig.returnType = some rt) (hrt : (∃ n, rt = .object n) ∨ ∃ t, rt = .array t) (hlocks : meth.locks = false) (hP : va_P D cl w H) (hD : va_D A w) (hS : va_S A s.heap H locs) (hdg : decode cc pc = .ok (.areturn, 1)) (hY : Y v w) :
    W p l e R s m args below meth c H locs cells slots (MQ below (xQX (fun q => xB D cl A (Y q)) A) args s cells slots A) (F0 m pc ls [.ref v]) :=
  W.aret hx hb hr hrt (Or.inr ⟨v, rfl⟩) (fun t ht hW => ⟨v, rfl, ⟨w, hY, by rw [ht]; exact hP, hD⟩, hS.F ht⟩) hS.2.2 hdg hlocks
/-- a new int array: its class is the one that the world's have -/
theorem x_newi {cA cR cL : ClassId} (hx : p.tables.exec = Jvm.exec) (hb : c.code = cc) (hts : ∀ w ∈ gw, w.before args s = true) (hK : va_K D cls0 (ty3 cA cR cL) s) (hP : va_P D cls0 w H) (hD : va_D A w) (hS : va_S A H0 H locs) (hA : ∀ q, H0.size ≤ q → A q) {N : Nat} (hN : N < 2 ^ 20) (hcells : cells + 1 ≤ R.cells) (hslots : slots + N ≤ R.slots) (hdg : decode cc pc = .ok (.newarray .int, 2))
    (kk : ∀ (q : Nat) (H1 : Heap), va_P D cls0 (w ++ [(q, .inl (cA, N, .inl (fun _ => 0)))]) H1 → va_D A (w ++ [(q, .inl (cA, N, .inl (fun _ => 0)))]) → va_S A H0 H1 locs →
      W p l e R s m args below meth c H1 locs (cells + 1) (slots + N) Q (F0 m (pc + 2) ls (.ref q :: rest))) : W p l e R s m args below meth c H locs cells slots Q (F0 m pc ls (.int (nI N) :: rest)) := by
  refine va_newa (atype := .int) (ty := .int) (a0 := (N, .inl (fun _ => 0))) hx hb (hts _ k_86) rfl hK hP hD hS hA (fun cA => rfl) (nI_pos (by omega)) (nI_clamp (by omega)) (by show N * 4 ≤ _; omega) hcells hslots hdg (fun q cA' H1 hK' hP hD hS => ?_)
  have e1 := va_nm_int (hK.2 0 _ rfl).2
  have e2 := va_nm_int (hK'.2 3 (cA', .int) rfl).2
  cases Option.some.inj (e1.symm.trans e2)
  exact kk q H1 hP hD hS
end XGX
abbrev w_JA_copyOf : List Cond := .code y_JA_copyOf b_JA_copyOf 3 (some (.array .int)) :: gw
theorem d_JA_copyOf_0 : decode b_JA_copyOf 0 = .ok (.iload_n 1, 1) := by decide +kernel
theorem d_JA_copyOf_1 : decode b_JA_copyOf 1 = .ok (.aload_n 0, 1) := by decide +kernel
theorem d_JA_copyOf_2 : decode b_JA_copyOf 2 = .ok (.arraylength, 1) := by decide +kernel
theorem d_JA_copyOf_3 : decode b_JA_copyOf 3 = .ok (.if_icmp .ne 11, 3) := by decide +kernel
theorem d_JA_copyOf_14 : decode b_JA_copyOf 14 = .ok (.iload_n 1, 1) := by decide +kernel
theorem d_JA_copyOf_15 : decode b_JA_copyOf 15 = .ok (.newarray .int, 2) := by decide +kernel
theorem d_JA_copyOf_17 : decode b_JA_copyOf 17 = .ok (.astore_n 2, 1) := by decide +kernel
theorem d_JA_copyOf_18 : decode b_JA_copyOf 18 = .ok (.aload_n 0, 1) := by decide +kernel
theorem d_JA_copyOf_19 : decode b_JA_copyOf 19 = .ok (.iconst 0, 1) := by decide +kernel
theorem d_JA_copyOf_20 : decode b_JA_copyOf 20 = .ok (.aload_n 2, 1) := by decide +kernel
theorem d_JA_copyOf_21 : decode b_JA_copyOf 21 = .ok (.iconst 0, 1) := by decide +kernel
theorem d_JA_copyOf_22 : decode b_JA_copyOf 22 = .ok (.aload_n 0, 1) := by decide +kernel
theorem d_JA_copyOf_23 : decode b_JA_copyOf 23 = .ok (.arraylength, 1) := by decide +kernel
theorem d_JA_copyOf_24 : decode b_JA_copyOf 24 = .ok (.iload_n 1, 1) := by decide +kernel
theorem d_JA_copyOf_25 : decode b_JA_copyOf 25 = .ok (.invokestatic 304, 3) := by decide +kernel
theorem d_JA_copyOf_28 : decode b_JA_copyOf 28 = .ok (.invokestatic 150, 3) := by decide +kernel
theorem d_JA_copyOf_31 : decode b_JA_copyOf 31 = .ok (.aload_n 2, 1) := by decide +kernel
theorem d_JA_copyOf_32 : decode b_JA_copyOf 32 = .ok (.areturn, 1) := by decide +kernel
set_option maxHeartbeats 800000 in
set_option maxRecDepth 100000 in
theorem c_JA_copyOf {l : Launch} {D : va_G} {cA cR cL : ClassId} {w0 : va_W} {q0 a0 n0 : Nat} {f : Nat → Int32} (he : w0[q0]? = some (a0, .inl (cA, n0, .inl f))) (hn0 : n0 < 256) :
    ∀ sz : Nat, Met l y_JA_copyOf w_JA_copyOf { frames := 1, cells := 1, slots := 256, locals := 40 } (va_Pc [.ref a0, .int (nI 256)] (xP D cls0 (ty3 cA cR cL) w0 sz)) (xQX (fun q => xB D cls0 (va_A w0 sz) (fun w => w = w0 ++ [(q, .inl (cA, 256, .inl (fun j => if j < n0 then f j else 0)))])) (va_A w0 sz)) 1 256 (va_A w0 sz) := by
  refine xG.ofW (y := y_JA_copyOf) (ws := w_JA_copyOf) (as := [.ref a0, .int (nI 256)]) (Qc := fun A => xQX (fun q => xB D cls0 A (fun w => w = w0 ++ [(q, .inl (cA, 256, .inl (fun j => if j < n0 then f j else 0)))])) A) (cc := b_JA_copyOf) (maxL := 3) (ret := some (.array .int)) (by decide) rfl (Nat.le_of_ble_eq_true rfl) ?_
  intro p e s m below meth c A ls _ hin hx hb hr hml hown hts hlocks hA hK hP hD hS hl
  have hts : ∀ w ∈ gw, w.before ([.ref a0, .int (nI 256)]).toArray s = true := fun w h => hts w (List.mem_cons_of_mem _ h)
  have hl : lv_has ls 3 [(0, .ref a0), (1, .int (nI 256))] := hl
  have hq0 : q0 < w0.length := (List.getElem?_eq_some_iff.mp he).1
  refine lv_iload_n hx hb d_JA_copyOf_0 rfl (lv_at hl 1 rfl) ?_
  refine lv_aload_n hx hb d_JA_copyOf_1 rfl (lv_at hl 0 rfl) ?_
  refine va_alen (v := nI n0) hx hb hK hP q0 0 he rfl rfl d_JA_copyOf_2 ?_
  refine n_icmp_ne (a := 256) (b := n0) (tgt := 14) hx hb d_JA_copyOf_3 (by decide) (by omega) (by omega) (fun _ => ?_) (fun c9 => absurd c9 (by omega))
  refine lv_iload_n hx hb d_JA_copyOf_14 rfl (lv_at hl 1 rfl) ?_
  refine x_newi hx hb hts hK hP hD hS hA (N := 256) (by decide) (Nat.le_of_ble_eq_true rfl) (Nat.le_of_ble_eq_true rfl) d_JA_copyOf_15 (fun q H1 hP hD hS => ?_)
  refine lv_astore_n (lv' := [(2, .ref q), (0, .ref a0), (1, .int (nI 256))]) hx hb d_JA_copyOf_17 rfl hl (by decide) rfl (fun ls hl => ?_)
  refine lv_aload_n hx hb d_JA_copyOf_18 rfl (lv_at hl 1 rfl) ?_
  refine lv_iconst (v := nI 0) hx hb d_JA_copyOf_19 (by decide) ?_
  refine lv_aload_n hx hb d_JA_copyOf_20 rfl (lv_at hl 0 rfl) ?_
  refine lv_iconst (v := nI 0) hx hb d_JA_copyOf_21 (by decide) ?_
  refine lv_aload_n hx hb d_JA_copyOf_22 rfl (lv_at hl 1 rfl) ?_
  refine va_alen (v := nI n0) hx hb hK hP q0 0 (by rw [List.getElem?_append_left hq0]; exact he) rfl rfl d_JA_copyOf_23 ?_
  refine lv_iload_n hx hb d_JA_copyOf_24 rfl (lv_at hl 2 rfl) ?_
  refine va_mmin hx hb (hml.trans hl.1.symm) hown (hts _ (show Cond.methodLink "java/util/Arrays" 304 Lib.Math.min.name ∈ gw from k_209)) (hts _ (show Cond.static Lib.Math.min.name ∈ gw from k_210)) (hts _ k_59) (hts _ (show Cond.code Lib.Math.min.name Lib.Math.min.code 2 (some .int) ∈ gw from k_211)) (Nat.le_of_ble_eq_true rfl) (Nat.le_of_ble_eq_true rfl) (Nat.le_of_ble_eq_true rfl) (Nat.le_of_ble_eq_true rfl) d_JA_copyOf_25 ?_
  rw [n_min (by omega) (by omega), Nat.min_eq_left (by omega)]
  refine va_copyi (ty := .int) (a := q) (c1 := cA) (n1 := 256) (g := fun _ => 0) (n0 := n0) (f := f) hx hb (hml.trans hl.1.symm) hown (hts _ k_212) (hts _ k_214) (hts _ k_213) (hts _ k_60) hK hP hD hS q0 w0.length 0 0 (by rw [List.getElem?_append_left hq0]; exact he) (by rw [List.getElem?_append_right (Nat.le_refl _)]; simp) rfl rfl rfl (by decide) (by decide) (nI_pos (by omega))
    (by rw [nI_clamp (by omega), nI_clamp (by omega)]; omega) (by rw [nI_clamp (by omega), nI_clamp (by omega)]; omega) (fun _ _ => rfl) (Nat.le_of_ble_eq_true rfl) (Nat.le_of_ble_eq_true rfl) d_JA_copyOf_28 (fun H locs hP hD hS => ?_)
  rw [nI_clamp (by omega), nI_clamp (by omega), List.set_append_right _ _ (Nat.le_refl _), Nat.sub_self] at hP hD
  refine lv_aload_n hx hb d_JA_copyOf_31 rfl (lv_at hl 0 rfl) ?_
  refine x_aretX (Y := fun q w => w = w0 ++ [(q, .inl (cA, 256, .inl (fun j => if j < n0 then f j else 0)))]) hx hb hr (Or.inr ⟨_, rfl⟩) hlocks hP hD hS d_JA_copyOf_32 ?_
  show w0 ++ [_] = w0 ++ [_]
  congr 7
  funext j
  unfold va_cpy
  by_cases h : j < n0
  · rw [if_pos ⟨Nat.zero_le _, by omega⟩, if_pos h]
    congr 1
    omega
  · rw [if_neg (by omega), if_neg h]
