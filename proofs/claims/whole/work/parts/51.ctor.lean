abbrev oI : MethodName := ⟨"java/lang/Object", "<init>", "()V"⟩
abbrev w_X0_init : List Cond := .code y_X0_init b_X0_init 1 none :: gw
set_option maxHeartbeats 800000 in
set_option maxRecDepth 100000 in
theorem c_X0_init {l : Launch} {D : va_G} {Rs : va_W} {cA cR cL : ClassId} {h : Nat} : xC l y_X0_init w_X0_init ({ frames := 1, cells := 1, slots := 1, locals := 12 }) D cls0 (ty3 cA cR cL) [.ref h] (Rs ++ [(h, .inr (0, [.null, .int (nI 0)]))]) none (fun w => ∃ a : Nat, w = Rs ++ [(h, .inr (0, [.ref a, .int (nI 1)])), (a, .inl (cA, 1, .inl (fun _ => 0)))]) 1 1 := by
  refine xC.ofW (cc := b_X0_init) (maxL := 1) (ret := none) (by decide) rfl (Nat.le_of_ble_eq_true rfl) ?_
  intro p e s m below meth c A ls _ hin hx hb hr hml hown hts hlocks hA hK hP hD hS hl
  have hts : ∀ w ∈ gw, w.before ([.ref h]).toArray s = true := fun w h => hts w (List.mem_cons_of_mem _ h)
  have hl : lv_has ls 1 [(0, .ref h)] := hl
  have hown : s.vm.findClass R_Row = some m.cls := hown
  refine lv_aload_n hx hb d_X0_init_0 rfl (lv_at hl 0 rfl) ?_
  refine W.objInit hx hb hown (hts (.methodLink "LimbRows$Row" 3 oI) k_76) (hts (.instanceMethod oI) k_68) (hts _ k_69) rfl (by rw [hml]; exact hl.1) rfl d_X0_init_1 (Nat.le_of_ble_eq_true rfl) (Nat.le_of_ble_eq_true rfl) ?_
  refine W.eq (g2 := F0 m 4 ls []) rfl ?_
  refine lv_aload_n hx hb d_X0_init_4 rfl (lv_at hl 0 rfl) ?_
  refine lv_iconst (v := nI 1) hx hb d_X0_init_5 (by decide) ?_
  refine x_newi hx hb hts hK hP hD hS hA (N := 1) (by decide) (Nat.le_of_ble_eq_true rfl) (Nat.le_of_ble_eq_true rfl) d_X0_init_6 (fun a H hP hD hS => ?_)
  have hg : (Rs ++ [(h, .inr (0, [.null, .int (nI 0)]))] ++ [(a, (.inl (cA, 1, .inl (fun _ => 0)) : va_E))])[Rs.length]? = some (h, .inr (0, [.null, .int (nI 0)])) := by
    rw [List.append_assoc, List.getElem?_append_right (Nat.le_refl _), Nat.sub_self]
    rfl
  refine va_put (D := D) (ci := 0) (v := .ref a) (ty := .array .int) (C := R_Row) (T := T_Row) (N := 2) (own := R_Row) (ref := "LimbRows$Row") hx hb hts i_Row t_Row t_Row_ok n_Row hown hK hP hD hS Rs.length hg rfl 0 (by decide) (hts (.fieldLink R_Row 9 "LimbRows$Row" "limbs" "[I") k_77) (fun _ h9 => h9) rfl (by decide +kernel) rfl rfl (Nat.le_of_ble_eq_true rfl) d_X0_init_8 (fun H locs hP hD hS => ?_)
  rw [List.append_assoc, List.set_append_right _ _ (Nat.le_refl _), Nat.sub_self, show ([(h, (.inr (0, [.null, .int (nI 0)]) : va_E))] ++ [(a, (.inl (cA, 1, .inl (fun _ => 0)) : va_E))]).set 0 (h, .inr (0, ([.null, .int (nI 0)] : List Value).set 0 (.ref a))) = [(h, .inr (0, [.ref a, .int (nI 0)])), (a, .inl (cA, 1, .inl (fun _ => 0)))] from rfl] at hP hD
  refine lv_aload_n hx hb d_X0_init_11 rfl (lv_at hl 0 rfl) ?_
  refine lv_iconst (v := nI 1) hx hb d_X0_init_12 (by decide) ?_
  have hg : (Rs ++ [(h, (.inr (0, [.ref a, .int (nI 0)]) : va_E)), (a, .inl (cA, 1, .inl (fun _ => 0)))])[Rs.length]? = some (h, .inr (0, [.ref a, .int (nI 0)])) := by
    rw [List.getElem?_append_right (Nat.le_refl _), Nat.sub_self]
    rfl
  refine va_put (D := D) (ci := 0) (v := .int (nI 1)) (ty := .int) (C := R_Row) (T := T_Row) (N := 2) (own := R_Row) (ref := "LimbRows$Row") hx hb hts i_Row t_Row t_Row_ok n_Row hown hK hP hD hS Rs.length hg rfl 1 (by decide) (hts (.fieldLink R_Row 15 "LimbRows$Row" "width" "I") k_79) (fun _ h9 => h9) rfl (by decide +kernel) rfl rfl (Nat.le_of_ble_eq_true rfl) d_X0_init_13 (fun H locs hP hD hS => ?_)
  rw [List.set_append_right _ _ (Nat.le_refl _), Nat.sub_self, show ([(h, (.inr (0, [.ref a, .int (nI 0)]) : va_E)), (a, .inl (cA, 1, .inl (fun _ => 0)))]).set 0 (h, .inr (0, ([.ref a, .int (nI 0)] : List Value).set 1 (.int (nI 1)))) = [(h, .inr (0, [.ref a, .int (nI 1)])), (a, .inl (cA, 1, .inl (fun _ => 0)))] from rfl] at hP hD
  exact x_vret hx hb hr hlocks hP hD hS d_X0_init_16 rfl ⟨a, rfl⟩
abbrev w_X1_init : List Cond := .code y_X1_init b_X1_init 2 none :: gw
def xw (Rs : va_W) (cA cR : ClassId) (h ra : Nat) (ro la : Nat → Nat) (k : Nat) : va_W := Rs ++ ((h, .inr (1, [.ref ra])) :: (ra, .inl (cR, 64, (.inr (.inr (.inr (.inr (fun i => if i < k then some (ro i) else none))))))) :: pool cA ro la k)
theorem xw_h {Rs : va_W} {cA cR : ClassId} {h ra : Nat} {ro la : Nat → Nat} {k : Nat} : (xw Rs cA cR h ra ro la k)[Rs.length]? = some (h, .inr (1, [.ref ra])) := by
  unfold xw
  rw [List.getElem?_append_right (Nat.le_refl _), Nat.sub_self]
  rfl
theorem xw_up {Rs : va_W} {cA cR : ClassId} {h ra : Nat} {ro la : Nat → Nat} {k q a : Nat} : (xw Rs cA cR h ra ro la k ++ ([(q, .inr (0, [.ref a, .int (nI 1)])), (a, .inl (cA, 1, .inl (fun _ => 0)))] : va_W)).set (Rs.length + 1) (ra, .inl (cR, 64, .inr (.inr (.inr (.inr (va_up (fun i => if i < k then some (ro i) else none) k (some q))))))) = xw Rs cA cR h ra (va_up ro k q) (va_up la k a) (k + 1) := by
  unfold xw
  rw [pool_up, List.append_assoc, List.set_append_right _ _ (by omega), show Rs.length + 1 - Rs.length = 1 by omega]
  congr 1
  simp only [List.cons_append, List.set_cons_succ, List.set_cons_zero, List.cons.injEq, Prod.mk.injEq, true_and, and_true, Sum.inl.injEq, Sum.inr.injEq]
  funext i
  unfold va_up
  by_cases e : i = k
  · simp [e]
  · by_cases h : i < k
    · simp [e, h, show i < k + 1 by omega]
    · simp [e, h, show ¬ i < k + 1 by omega]
set_option maxHeartbeats 800000 in
set_option maxRecDepth 100000 in
theorem lp_X1_init {p : Program} {l : Launch} {e : Env} {s : State} {m : MethodId} {args : Array Value} {below : List Frame} {meth : Method} {c : Code} {D : va_G} {Rs : va_W} {cA cR cL : ClassId} {A : Nat → Prop} (hx : p.tables.exec = Jvm.exec) (hb : c.code = b_X1_init) (hr : meth.sig.returnType = none) (hml : c.maxLocals = 2) (hown : s.vm.findClass R_LR = some m.cls) (hts : ∀ w ∈ gw, w.before args s = true) (hlocks : meth.locks = false) (hA : ∀ q : Nat, s.heap.size ≤ q → A q) (hK : va_K D cls0 (ty3 cA cR cL) s) (hN : xN s) {h ra : Nat} : ∀ (n k : Nat) (ro la : Nat → Nat), n = 64 - k → k ≤ 64 → ∀ (H : Heap) (locs : List Loc), va_P D cls0 (xw Rs cA cR h ra ro la k) H → va_D A (xw Rs cA cR h ra ro la k) → va_S A s.heap H locs → ∀ (ls : Array Slot), lv_has ls 2 [(0, .ref h), (1, .int (nI k))] → W p l e ({ frames := 2, cells := 129, slots := 256, locals := 32 }) s m args below meth c H locs (1 + 2 * k) (64 + 3 * k) (MQ below (xQ none (xB D cls0 A (fun w => ∃ (ra : Nat) (ro la : Nat → Nat), w = rw (Rs ++ [(h, .inr (1, [.ref ra])), (ra, .inl (cR, 64, (.inr (.inr (.inr (.inr (fun i => if i < 64 then some (ro i) else none)))))))]) cA ro la (fun _ => 1) (fun _ => 1) (fun _ _ => 0))) A) args s 129 256 A) (F0 m 15 ls []) := by
  intro n
  induction n with
  | zero =>
    intro k ro la hn hk H locs hP hD hS ls hl
    have hk64 : k = 64 := by omega
    subst hk64
    refine lv_iload_n hx hb d_X1_init_15 rfl (lv_at hl 1 rfl) ?_
    refine lv_bipush (v := nI 64) hx hb d_X1_init_16 (by decide) ?_
    refine n_icmp_ge (tgt := 40) hx hb d_X1_init_18 (by decide) (by omega) (by omega) (fun _ => ?_) (fun c9 => absurd c9 (by omega))
    have hp : (xw Rs cA cR h ra ro la 64).Perm (rw (Rs ++ [(h, .inr (1, [.ref ra])), (ra, .inl (cR, 64, .inr (.inr (.inr (.inr (fun i => if i < 64 then some (ro i) else none))))))]) cA ro la (fun _ => 1) (fun _ => 1) (fun _ _ => 0)) := by
      unfold xw rw
      rw [List.append_assoc]
      refine List.Perm.append_left _ ?_
      refine List.Perm.cons _ (List.Perm.cons _ ?_)
      exact pool_perm cA ro la 64
    exact x_vret hx hb hr hlocks (va_P_perm hP hp) (va_D_perm hD hp) hS d_X1_init_40 rfl ⟨ra, ro, la, rfl⟩
  | succ n ih =>
    intro k ro la hn hk H locs hP hD hS ls hl
    refine lv_iload_n hx hb d_X1_init_15 rfl (lv_at hl 1 rfl) ?_
    refine lv_bipush (v := nI 64) hx hb d_X1_init_16 (by decide) ?_
    refine n_icmp_ge (tgt := 40) hx hb d_X1_init_18 (by decide) (by omega) (by omega) (fun c9 => absurd c9 (by omega)) (fun _ => ?_)
    refine lv_aload_n hx hb d_X1_init_21 rfl (lv_at hl 0 rfl) ?_
    refine va_get (D := D) (ci := 1) (v := .ref ra) (C := R_LR) (T := T_LR) (N := 1) (own := R_LR) (ref := "LimbRows") hx hb hts i_LR hown hK hP Rs.length xw_h rfl 0 (by decide) (hts (.fieldLink R_LR 11 "LimbRows" "rows" "[LLimbRows$Row;") k_87) (fun _ h9 => h9) rfl d_X1_init_22 ?_
    refine lv_iload_n hx hb d_X1_init_25 rfl (lv_at hl 1 rfl) ?_
    refine va_new (D := D) (ci := 0) (C := R_Row) (T := T_Row) (N := 2) (own := R_LR) (fs := [.null, .int (nI 0)]) hx hb hts i_Row t_Row t_Row_ok hown (hts _ k_70) (hts _ k_72) (hts _ k_51) hK hP hD hS hA rfl (fun j hj => by rcases (show j = 0 ∨ j = 1 by omega) with rfl | rfl <;> rfl) (by show _ ≤ 129; omega) (by show _ ≤ 256; omega) d_X1_init_26 (fun q H hP hD hS => ?_)
    refine lv_dup hx hb d_X1_init_29 rfl ?_
    refine x_call (st1 := [.ref q, .int (nI k), .ref ra]) (va_runIN (host := "LimbRows") (As := []) (rest := [.ref q, .int (nI k), .ref ra]) (nL := 2) ⟨hx, hb, hml, hown, hts⟩ (c_X0_init (Rs := xw Rs cA cR h ra ro la k) (h := q) _) ⟨va_cnB 0 hts (gw_call k_75) rfl rfl rfl (hN.nw kt_73 rfl) (hts _ k_51) (by decide +kernel) ⟨Nat.le_of_ble_eq_true rfl, Nat.le_of_ble_eq_true rfl⟩, rfl, hts _ k_74⟩ ⟨x_blind, x_pre hK hP hD⟩ rfl rfl hl.1 rfl (lv_room (Nat.le_of_ble_eq_true rfl)) d_X1_init_30 ⟨by show _ ≤ 129; omega, by show _ ≤ 256; omega⟩) hS (x_sub hD hS hA) (x_sub hD hS hA) rfl (fun w1 H locs hY hP hD hS => ?_)
    obtain ⟨a, rfl⟩ := hY
    have hl2 : (xw Rs cA cR h ra ro la k).length = Rs.length + 2 + (pool cA ro la k).length := by unfold xw; simp only [List.length_append, List.length_cons]; omega
    refine va_astq (r := (R_Row, T_Row, 2)) hx hb hK hP hD hS (Rs.length + 1) 1 (xw Rs cA cR h ra ro la k).length 0 (n := 64) (f := fun i => if i < k then some (ro i) else none) (by
      rw [List.getElem?_append_left (by omega)]
      unfold xw
      rw [List.getElem?_append_right (by omega), show Rs.length + 1 - Rs.length = 1 by omega]
      rfl) rfl (vs := [.ref a, .int (nI 1)]) (by
      rw [List.getElem?_append_right (Nat.le_refl _), Nat.sub_self]
      rfl) rfl (vp_in_nI (by omega) (by decide)) d_X1_init_33 (fun H locs hP hD hS => ?_)
    rw [nI_clamp (by omega), xw_up] at hP hD
    refine n_iinc (lv' := [(1, .int (nI (k + 1))), (0, .ref h)]) hx hb d_X1_init_34 hl (k := 1) rfl (by decide) rfl (fun ls hl => ?_)
    refine lv_goto (tgt := 15) hx hb d_X1_init_37 (by decide) ?_
    exact ih (k + 1) _ _ (by omega) (by omega) H locs hP hD hS ls (lv_sub hl [1, 0] rfl)
theorem x_cR {D : va_G} {cA cR cL cR' : ClassId} {s : State} (hK : va_K D cls0 (ty3 cA cR cL) s) (hK' : va_K D cls0 (ty3 cA cR cL ++ [(cR', .object "LimbRows$Row")]) s) : cR' = cR := by
  obtain ⟨_, _, _, _, _, e1⟩ := (hK.2 1 _ rfl).2
  obtain ⟨_, _, _, _, _, e2⟩ := (hK'.2 3 (cR', .object "LimbRows$Row") rfl).2
  exact Option.some.inj (e2.symm.trans e1)
set_option maxHeartbeats 800000 in
set_option maxRecDepth 100000 in
theorem c_X1_init {l : Launch} {D : va_G} {Rs : va_W} {cA cR cL : ClassId} {h : Nat} : xCE l y_X1_init w_X1_init ({ frames := 2, cells := 129, slots := 256, locals := 32 }) D cls0 (ty3 cA cR cL) [.ref h] (Rs ++ [(h, .inr (1, [.null]))]) none (fun w => ∃ (ra : Nat) (ro la : Nat → Nat), w = rw (Rs ++ [(h, .inr (1, [.ref ra])), (ra, .inl (cR, 64, (.inr (.inr (.inr (.inr (fun i => if i < 64 then some (ro i) else none)))))))]) cA ro la (fun _ => 1) (fun _ => 1) (fun _ _ => 0)) 129 256 := by
  refine xCE.ofW (cc := b_X1_init) (maxL := 2) (ret := none) (by decide) rfl (Nat.le_of_ble_eq_true rfl) ?_
  intro p e s m below meth c A ls hin hx hb hr hml hown hts hlocks hA hK hN hT hZ hP hD hS hl
  have hts : ∀ w ∈ gw, w.before ([.ref h]).toArray s = true := fun w h => hts w (List.mem_cons_of_mem _ h)
  have hl : lv_has ls 2 [(0, .ref h)] := hl
  have hown : s.vm.findClass R_LR = some m.cls := hown
  refine lv_aload_n hx hb d_X1_init_0 rfl (lv_at hl 0 rfl) ?_
  refine W.objInit hx hb hown (hts (.methodLink "LimbRows" 1 oI) k_67) (hts (.instanceMethod oI) k_68) (hts _ k_69) rfl (by rw [hml]; exact hl.1) rfl d_X1_init_1 (Nat.le_of_ble_eq_true rfl) (Nat.le_of_ble_eq_true rfl) ?_
  refine W.eq (g2 := F0 m 4 ls []) rfl ?_
  refine lv_aload_n hx hb d_X1_init_4 rfl (lv_at hl 0 rfl) ?_
  refine lv_bipush (v := nI 64) hx hb d_X1_init_5 (by decide) ?_
  refine va_newq (C := "LimbRows$Row") hx hb hown (hts _ k_70) hT.2.1 hK hP hD hS hA (n := nI 64) (N' := 64) (by decide) (by decide) (by decide) (Nat.le_of_ble_eq_true rfl) (Nat.le_of_ble_eq_true rfl) d_X1_init_7 (fun ra cR' H hK' hP hD hS => ?_)
  have hcc : cR' = cR := x_cR hK hK'
  subst hcc
  have hg : (Rs ++ [(h, .inr (1, [.null]))] ++ [(ra, (.inl (cR', 64, .inr (.inr (.inr (.inr (fun _ => none))))) : va_E))])[Rs.length]? = some (h, .inr (1, [.null])) := by
    rw [List.append_assoc, List.getElem?_append_right (Nat.le_refl _), Nat.sub_self]
    rfl
  refine va_putF (D := D) (ci := 1) (v := .ref ra) (ty := .array (.object "LimbRows$Row")) (C := R_LR) (T := T_LR) (N := 1) (own := R_LR) (ref := "LimbRows") hx hb hts i_LR t_LR t_LR_ok n_LR hown hK hP hD hS Rs.length hg rfl 0 (by decide) (hts (.fieldLink R_LR 11 "LimbRows" "rows" "[LLimbRows$Row;") k_87) (fun _ h9 => h9) rfl hin rfl (by decide +kernel) rfl rfl (Nat.le_of_ble_eq_true rfl) d_X1_init_10 (fun H locs hP hD hS => ?_)
  have hw0 : (Rs ++ [(h, (.inr (1, [.null]) : va_E))] ++ [(ra, (.inl (cR', 64, .inr (.inr (.inr (.inr (fun _ => none))))) : va_E))]).set Rs.length (h, .inr (1, ([.null] : List Value).set 0 (.ref ra))) = xw Rs cA cR' h ra (fun _ => 0) (fun _ => 0) 0 := by
    unfold xw
    rw [List.append_assoc, List.set_append_right _ _ (Nat.le_refl _), Nat.sub_self]
    congr 1
  rw [hw0] at hP hD
  refine lv_iconst (v := nI 0) hx hb d_X1_init_13 (by decide) ?_
  refine lv_istore_n (lv' := [(1, .int (nI 0)), (0, .ref h)]) hx hb d_X1_init_14 rfl hl (by decide) rfl (fun ls hl => ?_)
  exact lp_X1_init hx hb hr hml hown hts hlocks hA hK hN 64 0 _ _ rfl (by decide) H locs hP hD hS ls (lv_sub hl [1, 0] rfl)
