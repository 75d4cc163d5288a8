theorem rFitsL_b (w : Nat) (v : Int64) : narrow .boolean (.int (rFitsL w v)) = .int (rFitsL w v) := by unfold rFitsL; split; rfl; split <;> rfl
theorem rFit_b (w : Nat) (f : Nat → Int32) (n : Nat) : narrow .boolean (.int (rFit w f n)) = .int (rFit w f n) := rFitL_b _ _ _ _
theorem rTurn_b (i w : Nat) (F : Nat → Nat → Int32) : narrow .boolean (.int (rTurn i w F)) = .int (rTurn i w F) := by unfold rTurn; split; rfl; split <;> rfl
theorem rw_in {Rs : va_W} {cA : ClassId} {ro la cap wd : Nat → Nat} {F : Nat → Nat → Int32} {k : Nat} {q : Nat × va_E} (h : Rs[k]? = some q) : (rw Rs cA ro la cap wd F)[k]? = some q := by
  unfold rw
  rw [List.getElem?_append_left (List.getElem?_eq_some_iff.mp h).1]
  exact h
section XX
variable {Rs : va_W} {cA cR cL : ClassId} {ro la cap wd : Nat → Nat} {F : Nat → Nat → Int32} {xo ra qx qa : Nat}
variable {p : Program} {l : Launch} {e : Env} {R : Room} {s : State} {m : MethodId} {args : Array Value} {below : List Frame} {meth : Method} {c : Code} {H : Heap} {locs : List Loc} {cells slots : Nat} {Q : State → Prop}
variable {cc : ByteArray} {pc : Nat} {ls : Array Slot} {rest : List Value} {D : va_G} {A : Nat → Prop} {H0 : Heap}
theorem q_getR (hxo : Rs[qx]? = some (xo, .inr (1, [.ref ra]))) (hx : p.tables.exec = Jvm.exec) (hb : c.code = cc) (hts : ∀ w ∈ gw, w.before args s = true) (hown : s.vm.findClass R_LR = some m.cls) (hK : va_K D cls0 (ty3 cA cR cL) s) (hP : va_P D cls0 (rw Rs cA ro la cap wd F) H) (hdg : decode cc pc = .ok (.getfield 11, 3))
    (kk : W p l e R s m args below meth c H locs cells slots Q (F0 m (pc + 3) ls (.ref ra :: rest))) : W p l e R s m args below meth c H locs cells slots Q (F0 m pc ls (.ref xo :: rest)) :=
  va_get (D := D) (ci := 1) (v := .ref ra) (C := R_LR) (T := T_LR) (N := 1) (own := R_LR) (ref := "LimbRows") hx hb hts i_LR hown hK hP _ (rw_in hxo) rfl 0 (by decide) (hts (.fieldLink R_LR 11 "LimbRows" "rows" "[LLimbRows$Row;") k_87) (fun _ h9 => h9) rfl hdg kk
theorem q_aald (hra : Rs[qa]? = some (ra, .inl (cR, 64, .inr (.inr (.inr (.inr (fun i => if i < 64 then some (ro i) else none))))))) (hx : p.tables.exec = Jvm.exec) (hb : c.code = cc) (hK : va_K D cls0 (ty3 cA cR cL) s) (hP : va_P D cls0 (rw Rs cA ro la cap wd F) H) {i : Nat} (hi : i < 64) (hdg : decode cc pc = .ok (.aaload, 1))
    (kk : W p l e R s m args below meth c H locs cells slots Q (F0 m (pc + 1) ls (.ref (ro i) :: rest))) : W p l e R s m args below meth c H locs cells slots Q (F0 m pc ls (.int (nI i) :: .ref ra :: rest)) :=
  va_aldq hx hb hK hP _ 1 (rw_in hra) rfl (vp_in_nI hi (by decide)) hdg (by rw [nI_clamp (by omega)]; rw [if_pos hi]; exact kk)
theorem q_getL (hN : xN s) (hx : p.tables.exec = Jvm.exec) (hb : c.code = cc) (hts : ∀ w ∈ gw, w.before args s = true) (hown : s.vm.findClass R_LR = some m.cls) (hK : va_K D cls0 (ty3 cA cR cL) s) (hP : va_P D cls0 (rw Rs cA ro la cap wd F) H) {i : Nat} (hi : i < 64) (hdg : decode cc pc = .ok (.getfield 44, 3))
    (kk : W p l e R s m args below meth c H locs cells slots Q (F0 m (pc + 3) ls (.ref (la i) :: rest))) : W p l e R s m args below meth c H locs cells slots Q (F0 m pc ls (.ref (ro i) :: rest)) :=
  va_getN (D := D) (ci := 0) (v := .ref (la i)) (C := R_Row) (T := T_Row) (N := 2) (own := R_LR) (ref := "LimbRows$Row") (host := "LimbRows") hx hb hts i_Row hown hK hP _ (rw_row hi) rfl 0 (by decide) (hN.use kt_78 rfl args) (fun _ h9 => h9) rfl hdg kk
theorem q_getW (hN : xN s) (hx : p.tables.exec = Jvm.exec) (hb : c.code = cc) (hts : ∀ w ∈ gw, w.before args s = true) (hown : s.vm.findClass R_LR = some m.cls) (hK : va_K D cls0 (ty3 cA cR cL) s) (hP : va_P D cls0 (rw Rs cA ro la cap wd F) H) {i : Nat} (hi : i < 64) (hdg : decode cc pc = .ok (.getfield 31, 3))
    (kk : W p l e R s m args below meth c H locs cells slots Q (F0 m (pc + 3) ls (.int (nI (wd i)) :: rest))) : W p l e R s m args below meth c H locs cells slots Q (F0 m pc ls (.ref (ro i) :: rest)) :=
  va_getN (D := D) (ci := 0) (v := .int (nI (wd i))) (C := R_Row) (T := T_Row) (N := 2) (own := R_LR) (ref := "LimbRows$Row") (host := "LimbRows") hx hb hts i_Row hown hK hP _ (rw_row hi) rfl 1 (by decide) (hN.use kt_80 rfl args) (fun _ h9 => h9) rfl hdg kk
end XX
abbrev w_X1_rowAt : List Cond := .code y_X1_rowAt b_X1_rowAt 2 (some (.object "LimbRows$Row")) :: gw
set_option maxHeartbeats 800000 in
set_option maxRecDepth 100000 in
theorem c_X1_rowAt {l : Launch} {D : va_G} {Rs : va_W} {cA cR cL : ClassId} {ro la cap wd : Nat → Nat} {F : Nat → Nat → Int32} {xo ra qx qa : Nat} (hxo : Rs[qx]? = some (xo, .inr (1, [.ref ra]))) (hra : Rs[qa]? = some (ra, .inl (cR, 64, .inr (.inr (.inr (.inr (fun i => if i < 64 then some (ro i) else none))))))) {r : Nat} (hr64 : r < 64) : xR l y_X1_rowAt w_X1_rowAt ({ frames := 0, cells := 0, slots := 0, locals := 0 }) D cls0 (ty3 cA cR cL) [.ref xo, .int (nI r)] (rw Rs cA ro la cap wd F) (some (.ref (ro r))) := by
  refine xR.ofW (cc := b_X1_rowAt) (maxL := 2) (ret := some (.object "LimbRows$Row")) (by decide) rfl (Nat.le_of_ble_eq_true rfl) ?_
  intro p e s m below meth c A ls _ hin hx hb hr hml hown hts hlocks hA hK hP hD hS hl
  have hts : ∀ w ∈ gw, w.before ([.ref xo, .int (nI r)]).toArray s = true := fun w h => hts w (List.mem_cons_of_mem _ h)
  have hown : s.vm.findClass R_LR = some m.cls := hown
  have hl : lv_has ls 2 [(0, .ref xo), (1, .int (nI r))] := hl
  refine lv_iload_n hx hb d_X1_rowAt_0 rfl (lv_at hl 1 rfl) ?_
  refine n_if_lt (tgt := 10) hx hb d_X1_rowAt_1 (by decide) (by omega) ?_
  refine lv_iload_n hx hb d_X1_rowAt_4 rfl (lv_at hl 1 rfl) ?_
  refine lv_bipush (v := nI 64) hx hb d_X1_rowAt_5 (by decide) ?_
  refine n_icmp_lt (tgt := 20) hx hb d_X1_rowAt_7 (by decide) (by omega) (by omega) (fun _ => ?_) (fun c9 => absurd c9 (by omega))
  refine lv_aload_n hx hb d_X1_rowAt_20 rfl (lv_at hl 0 rfl) ?_
  refine q_getR hxo hx hb hts hown hK hP d_X1_rowAt_21 ?_
  refine lv_iload_n hx hb d_X1_rowAt_24 rfl (lv_at hl 1 rfl) ?_
  refine q_aald hra hx hb hK hP (i := r) (by omega) d_X1_rowAt_25 ?_
  exact xr_aret hx hb hr (Or.inl ⟨_, rfl⟩) hlocks d_X1_rowAt_26 rfl
abbrev w_X1_refuseShift : List Cond := .code y_X1_refuseShift b_X1_refuseShift 1 (none) :: gw
set_option maxHeartbeats 800000 in
set_option maxRecDepth 100000 in
theorem c_X1_refuseShift {l : Launch} {D : va_G} {Rs : va_W} {cA cR cL : ClassId} {ro la cap wd : Nat → Nat} {F : Nat → Nat → Int32} {k : Nat} (hk8 : k ≤ 8192) : xR l y_X1_refuseShift w_X1_refuseShift ({ frames := 0, cells := 0, slots := 0, locals := 0 }) D cls0 (ty3 cA cR cL) [.int (nI k)] (rw Rs cA ro la cap wd F) (none) := by
  refine xR.ofW (cc := b_X1_refuseShift) (maxL := 1) (ret := none) (by decide) rfl (Nat.le_of_ble_eq_true rfl) ?_
  intro p e s m below meth c A ls _ hin hx hb hr hml hown hts hlocks hA hK hP hD hS hl
  have hts : ∀ w ∈ gw, w.before ([.int (nI k)]).toArray s = true := fun w h => hts w (List.mem_cons_of_mem _ h)
  have hown : s.vm.findClass R_LR = some m.cls := hown
  have hl : lv_has ls 1 [(0, .int (nI k))] := hl
  refine lv_iload_n hx hb d_X1_refuseShift_0 rfl (lv_at hl 0 rfl) ?_
  refine n_if_lt (tgt := 11) hx hb d_X1_refuseShift_1 (by decide) (by omega) ?_
  refine lv_iload_n hx hb d_X1_refuseShift_4 rfl (lv_at hl 0 rfl) ?_
  refine lv_sipush (v := nI 8192) hx hb d_X1_refuseShift_5 (by decide) ?_
  refine n_icmp_le (tgt := 21) hx hb d_X1_refuseShift_8 (by decide) (by omega) (by omega) (fun _ => ?_) (fun c9 => absurd c9 (by omega))
  exact xr_vret hx hb hr hlocks d_X1_refuseShift_21 rfl
abbrev w_X1_refuseOwnFactor : List Cond := .code y_X1_refuseOwnFactor b_X1_refuseOwnFactor 3 (none) :: gw
set_option maxHeartbeats 800000 in
set_option maxRecDepth 100000 in
theorem c_X1_refuseOwnFactor {l : Launch} {D : va_G} {Rs : va_W} {cA cR cL : ClassId} {ro la cap wd : Nat → Nat} {F : Nat → Nat → Int32} {r a u : Nat} (hr64 : r < 64) (ha64 : a < 64) (hu64 : u < 64) (hra1 : r ≠ a) (hru : r ≠ u) : xR l y_X1_refuseOwnFactor w_X1_refuseOwnFactor ({ frames := 0, cells := 0, slots := 0, locals := 0 }) D cls0 (ty3 cA cR cL) [.int (nI r), .int (nI a), .int (nI u)] (rw Rs cA ro la cap wd F) (none) := by
  refine xR.ofW (cc := b_X1_refuseOwnFactor) (maxL := 3) (ret := none) (by decide) rfl (Nat.le_of_ble_eq_true rfl) ?_
  intro p e s m below meth c A ls _ hin hx hb hr hml hown hts hlocks hA hK hP hD hS hl
  have hts : ∀ w ∈ gw, w.before ([.int (nI r), .int (nI a), .int (nI u)]).toArray s = true := fun w h => hts w (List.mem_cons_of_mem _ h)
  have hown : s.vm.findClass R_LR = some m.cls := hown
  have hl : lv_has ls 3 [(0, .int (nI r)), (1, .int (nI a)), (2, .int (nI u))] := hl
  refine lv_iload_n hx hb d_X1_refuseOwnFactor_0 rfl (lv_at hl 0 rfl) ?_
  refine lv_iload_n hx hb d_X1_refuseOwnFactor_1 rfl (lv_at hl 1 rfl) ?_
  refine n_icmp_eq (tgt := 10) hx hb d_X1_refuseOwnFactor_2 (by decide) (by omega) (by omega) (fun c9 => absurd c9 (by omega)) (fun _ => ?_)
  refine lv_iload_n hx hb d_X1_refuseOwnFactor_5 rfl (lv_at hl 0 rfl) ?_
  refine lv_iload_n hx hb d_X1_refuseOwnFactor_6 rfl (lv_at hl 2 rfl) ?_
  refine n_icmp_ne (tgt := 20) hx hb d_X1_refuseOwnFactor_7 (by decide) (by omega) (by omega) (fun _ => ?_) (fun c9 => absurd c9 (by omega))
  exact xr_vret hx hb hr hlocks d_X1_refuseOwnFactor_20 rfl
abbrev w_X1_width : List Cond := .code y_X1_width b_X1_width 2 (some .int) :: gw
set_option maxHeartbeats 800000 in
set_option maxRecDepth 100000 in
theorem c_X1_width {l : Launch} {D : va_G} {Rs : va_W} {cA cR cL : ClassId} {ro la cap wd : Nat → Nat} {F : Nat → Nat → Int32} {xo ra qx qa : Nat} (hxo : Rs[qx]? = some (xo, .inr (1, [.ref ra]))) (hra : Rs[qa]? = some (ra, .inl (cR, 64, .inr (.inr (.inr (.inr (fun i => if i < 64 then some (ro i) else none))))))) (hw : rwOk cap wd) {r : Nat} (hr64 : r < 64) : xCE l y_X1_width w_X1_width ({ frames := 1, cells := 0, slots := 0, locals := 21 }) D cls0 (ty3 cA cR cL) [.ref xo, .int (nI r)] (rw Rs cA ro la cap wd F) (some (.int (nI (wd r)))) (fun w => w = rw Rs cA ro la cap wd (F)) 0 0 := by
  refine xCE.ofW (cc := b_X1_width) (maxL := 2) (ret := some .int) (by decide) rfl (Nat.le_of_ble_eq_true rfl) ?_
  intro p e s m below meth c A ls _ hx hb hr hml hown hts hlocks hA hK hN hT hZ hP hD hS hl
  have hts : ∀ w ∈ gw, w.before ([.ref xo, .int (nI r)]).toArray s = true := fun w h => hts w (List.mem_cons_of_mem _ h)
  have hown : s.vm.findClass R_LR = some m.cls := hown
  have hl : lv_has ls 2 [(0, .ref xo), (1, .int (nI r))] := hl
  refine lv_aload_n hx hb d_X1_width_0 rfl (lv_at hl 0 rfl) ?_
  refine lv_iload_n hx hb d_X1_width_1 rfl (lv_at hl 1 rfl) ?_
  refine x_callR (st1 := [.ref (ro r)]) (x_runV (As := [.int (nI r)]) (rest := []) (nL := 2) ⟨hx, hb, hml, hown, hts⟩ (c_X1_rowAt hxo hra (r := r) hr64 _) (cwV 1 hts (gw_V k_100 k_102 k_0 k_50 k_103) rfl rfl rfl (by decide +kernel) ⟨Nat.le_of_ble_eq_true rfl, Nat.le_of_ble_eq_true rfl⟩) hK hP hD _ 1 (rw_in hxo) rfl rfl hl.1 rfl (Nat.le_of_ble_eq_true rfl) d_X1_width_2 ⟨Nat.zero_le _, Nat.zero_le _⟩) rfl ?_
  refine q_getW hN hx hb hts hown hK hP (i := r) hr64 d_X1_width_5 ?_
  have hq_5 := hw r hr64
  exact x_iret hx hb hr hlocks hP hD hS d_X1_width_8 rfl rfl
abbrev w_X1_set : List Cond := .code y_X1_set b_X1_set 4 (some .boolean) :: gw
set_option maxHeartbeats 800000 in
set_option maxRecDepth 100000 in
theorem c_X1_set {l : Launch} {D : va_G} {Rs : va_W} {cA cR cL : ClassId} {ro la cap wd : Nat → Nat} {F : Nat → Nat → Int32} {xo ra qx qa : Nat} (hxo : Rs[qx]? = some (xo, .inr (1, [.ref ra]))) (hra : Rs[qa]? = some (ra, .inl (cR, 64, .inr (.inr (.inr (.inr (fun i => if i < 64 then some (ro i) else none))))))) (hw : rwOk cap wd) {r : Nat} (hr64 : r < 64) (v : Int64) : xCE l y_X1_set w_X1_set ({ frames := 1, cells := 0, slots := 0, locals := 25 }) D cls0 (ty3 cA cR cL) [.ref xo, .int (nI r), .long v] (rw Rs cA ro la cap wd F) (some (.int (rFitsL (wd r) v))) (fun w => w = rw Rs cA ro la cap wd (gSet r (wd r) 0 v F)) 0 0 := by
  refine xCE.ofW (cc := b_X1_set) (maxL := 4) (ret := some .boolean) (by decide) rfl (Nat.le_of_ble_eq_true rfl) ?_
  intro p e s m below meth c A ls _ hx hb hr hml hown hts hlocks hA hK hN hT hZ hP hD hS hl
  have hts : ∀ w ∈ gw, w.before ([.ref xo, .int (nI r), .long v]).toArray s = true := fun w h => hts w (List.mem_cons_of_mem _ h)
  have hown : s.vm.findClass R_LR = some m.cls := hown
  have hl : lv_has ls 4 [(0, .ref xo), (1, .int (nI r)), (2, .long v)] := hl
  refine lv_aload_n hx hb d_X1_set_0 rfl (lv_at hl 0 rfl) ?_
  refine lv_iload_n hx hb d_X1_set_1 rfl (lv_at hl 1 rfl) ?_
  refine x_callR (st1 := [.ref (ro r)]) (x_runV (As := [.int (nI r)]) (rest := []) (nL := 4) ⟨hx, hb, hml, hown, hts⟩ (c_X1_rowAt hxo hra (r := r) hr64 _) (cwV 1 hts (gw_V k_100 k_102 k_0 k_50 k_103) rfl rfl rfl (by decide +kernel) ⟨Nat.le_of_ble_eq_true rfl, Nat.le_of_ble_eq_true rfl⟩) hK hP hD _ 1 (rw_in hxo) rfl rfl hl.1 rfl (Nat.le_of_ble_eq_true rfl) d_X1_set_2 ⟨Nat.zero_le _, Nat.zero_le _⟩) rfl ?_
  refine lv_lload_n hx hb d_X1_set_5 rfl (lv_at hl 2 rfl) ?_
  refine x_call (st1 := [.int (rFitsL (wd r) v)]) (xn_runV (host := "LimbRows") (As := [.long v]) (rest := []) (nL := 4) ⟨hx, hb, hml, hown, hts⟩ (c_X0_keepLong hw hr64 v _) ⟨va_cnB 1 hts (gw_call k_232) rfl rfl rfl (hN.nw kt_229 rfl) (hts _ k_51) (by decide +kernel) ⟨Nat.le_of_ble_eq_true rfl, Nat.le_of_ble_eq_true rfl⟩, hts _ k_231, hts _ k_5⟩ hK hP hD _ 0 (rw_row hr64) rfl rfl hl.1 rfl (Nat.le_of_ble_eq_true rfl) d_X1_set_6 ⟨Nat.le_of_ble_eq_true rfl, Nat.le_of_ble_eq_true rfl⟩) hS (x_sub hD hS hA) (x_sub hD hS hA) rfl (fun w1 H locs hY hP hD hS => ?_)
  subst hY
  exact x_zret hx hb hr hlocks hP hD hS d_X1_set_9 (by first | exact rFitsL_b _ _ | exact rFit_b _ _ _ | exact rTurn_b _ _ _) rfl rfl
abbrev w_X1_put : List Cond := .code y_X1_put b_X1_put 6 (some .int) :: gw
set_option maxHeartbeats 800000 in
set_option maxRecDepth 100000 in
theorem c_X1_put {l : Launch} {D : va_G} {Rs : va_W} {cA cR cL : ClassId} {ro la cap wd : Nat → Nat} {F : Nat → Nat → Int32} {xo ra qx qa : Nat} (hxo : Rs[qx]? = some (xo, .inr (1, [.ref ra]))) (hra : Rs[qa]? = some (ra, .inl (cR, 64, .inr (.inr (.inr (.inr (fun i => if i < 64 then some (ro i) else none))))))) (hw : rwOk cap wd) {r : Nat} (hr64 : r < 64) {k : Nat} (hk : k < wd r) (v : Int32) : xCE l y_X1_put w_X1_put ({ frames := 1, cells := 0, slots := 0, locals := 21 }) D cls0 (ty3 cA cR cL) [.ref xo, .int (nI r), .int (nI k), .int v] (rw Rs cA ro la cap wd F) (some (.int (F r k))) (fun w => w = rw Rs cA ro la cap wd (va_up F r (upd (F r) k v))) 0 0 := by
  refine xCE.ofW (cc := b_X1_put) (maxL := 6) (ret := some .int) (by decide) rfl (Nat.le_of_ble_eq_true rfl) ?_
  intro p e s m below meth c A ls _ hx hb hr hml hown hts hlocks hA hK hN hT hZ hP hD hS hl
  have hts : ∀ w ∈ gw, w.before ([.ref xo, .int (nI r), .int (nI k), .int v]).toArray s = true := fun w h => hts w (List.mem_cons_of_mem _ h)
  have hown : s.vm.findClass R_LR = some m.cls := hown
  have hl : lv_has ls 6 [(0, .ref xo), (1, .int (nI r)), (2, .int (nI k)), (3, .int v)] := hl
  have hwr := hw r hr64
  refine lv_aload_n hx hb d_X1_put_0 rfl (lv_at hl 0 rfl) ?_
  refine lv_iload_n hx hb d_X1_put_1 rfl (lv_at hl 1 rfl) ?_
  refine x_callR (st1 := [.ref (ro r)]) (x_runV (As := [.int (nI r)]) (rest := []) (nL := 6) ⟨hx, hb, hml, hown, hts⟩ (c_X1_rowAt hxo hra (r := r) hr64 _) (cwV 1 hts (gw_V k_100 k_102 k_0 k_50 k_103) rfl rfl rfl (by decide +kernel) ⟨Nat.le_of_ble_eq_true rfl, Nat.le_of_ble_eq_true rfl⟩) hK hP hD _ 1 (rw_in hxo) rfl rfl hl.1 rfl (Nat.le_of_ble_eq_true rfl) d_X1_put_2 ⟨Nat.zero_le _, Nat.zero_le _⟩) rfl ?_
  refine lv_astore (lv' := [(4, .ref (ro r)), (0, .ref xo), (1, .int (nI r)), (2, .int (nI k)), (3, .int v)]) hx hb d_X1_put_5 hl (by decide) rfl (fun ls hl => ?_)
  refine lv_iload_n hx hb d_X1_put_7 rfl (lv_at hl 3 rfl) ?_
  refine n_if_lt (tgt := 20) hx hb d_X1_put_8 (by decide) (by omega) ?_
  refine lv_iload_n hx hb d_X1_put_11 rfl (lv_at hl 3 rfl) ?_
  refine lv_aload hx hb d_X1_put_12 (lv_at hl 0 rfl) ?_
  refine q_getW hN hx hb hts hown hK hP (i := r) hr64 d_X1_put_14 ?_
  have hq_14 := hw r hr64
  refine n_icmp_lt (tgt := 30) hx hb d_X1_put_17 (by decide) (by omega) (by omega) (fun _ => ?_) (fun c9 => absurd c9 (by omega))
  refine lv_aload hx hb d_X1_put_30 (lv_at hl 0 rfl) ?_
  refine q_getL hN hx hb hts hown hK hP (i := r) hr64 d_X1_put_32 ?_
  refine lv_iload_n hx hb d_X1_put_35 rfl (lv_at hl 3 rfl) ?_
  have hq_36 := hw r hr64
  refine c_ald hx hb hK hP (i := r) (k := k) hr64 (by omega) (by omega) d_X1_put_36 ?_
  refine lv_istore (lv' := [(5, .int (F r k)), (4, .ref (ro r)), (0, .ref xo), (1, .int (nI r)), (2, .int (nI k)), (3, .int v)]) hx hb d_X1_put_37 hl (by decide) rfl (fun ls hl => ?_)
  refine lv_aload hx hb d_X1_put_39 (lv_at hl 1 rfl) ?_
  refine q_getL hN hx hb hts hown hK hP (i := r) hr64 d_X1_put_41 ?_
  refine lv_iload_n hx hb d_X1_put_44 rfl (lv_at hl 4 rfl) ?_
  refine lv_iload_n hx hb d_X1_put_45 rfl (lv_at hl 5 rfl) ?_
  have hq_46 := hw r hr64
  refine c_ast hx hb hK hP hD hS (i := r) (k := k) (x := v) hr64 (by omega) (by omega) d_X1_put_46 (fun H locs hP hD hS => ?_)
  refine lv_iload hx hb d_X1_put_47 (lv_at hl 0 rfl) ?_
  exact x_iret hx hb hr hlocks hP hD hS d_X1_put_49 rfl rfl
abbrev w_X1_limb : List Cond := .code y_X1_limb b_X1_limb 4 (some .int) :: gw
set_option maxHeartbeats 800000 in
set_option maxRecDepth 100000 in
theorem c_X1_limb {l : Launch} {D : va_G} {Rs : va_W} {cA cR cL : ClassId} {ro la cap wd : Nat → Nat} {F : Nat → Nat → Int32} {xo ra qx qa : Nat} (hxo : Rs[qx]? = some (xo, .inr (1, [.ref ra]))) (hra : Rs[qa]? = some (ra, .inl (cR, 64, .inr (.inr (.inr (.inr (fun i => if i < 64 then some (ro i) else none))))))) (hw : rwOk cap wd) {r : Nat} (hr64 : r < 64) {k : Nat} (hk31 : k < 2 ^ 31) : xCE l y_X1_limb w_X1_limb ({ frames := 1, cells := 0, slots := 0, locals := 21 }) D cls0 (ty3 cA cR cL) [.ref xo, .int (nI r), .int (nI k)] (rw Rs cA ro la cap wd F) (some (.int (rAt (wd r) (F r) (nI k)))) (fun w => w = rw Rs cA ro la cap wd (F)) 0 0 := by
  refine xCE.ofW (cc := b_X1_limb) (maxL := 4) (ret := some .int) (by decide) rfl (Nat.le_of_ble_eq_true rfl) ?_
  intro p e s m below meth c A ls _ hx hb hr hml hown hts hlocks hA hK hN hT hZ hP hD hS hl
  have hts : ∀ w ∈ gw, w.before ([.ref xo, .int (nI r), .int (nI k)]).toArray s = true := fun w h => hts w (List.mem_cons_of_mem _ h)
  have hown : s.vm.findClass R_LR = some m.cls := hown
  have hl : lv_has ls 4 [(0, .ref xo), (1, .int (nI r)), (2, .int (nI k))] := hl
  refine lv_aload_n hx hb d_X1_limb_0 rfl (lv_at hl 0 rfl) ?_
  refine lv_iload_n hx hb d_X1_limb_1 rfl (lv_at hl 1 rfl) ?_
  refine x_callR (st1 := [.ref (ro r)]) (x_runV (As := [.int (nI r)]) (rest := []) (nL := 4) ⟨hx, hb, hml, hown, hts⟩ (c_X1_rowAt hxo hra (r := r) hr64 _) (cwV 1 hts (gw_V k_100 k_102 k_0 k_50 k_103) rfl rfl rfl (by decide +kernel) ⟨Nat.le_of_ble_eq_true rfl, Nat.le_of_ble_eq_true rfl⟩) hK hP hD _ 1 (rw_in hxo) rfl rfl hl.1 rfl (Nat.le_of_ble_eq_true rfl) d_X1_limb_2 ⟨Nat.zero_le _, Nat.zero_le _⟩) rfl ?_
  refine lv_astore_n (lv' := [(3, .ref (ro r)), (0, .ref xo), (1, .int (nI r)), (2, .int (nI k))]) hx hb d_X1_limb_5 rfl hl (by decide) rfl (fun ls hl => ?_)
  refine lv_iload_n hx hb d_X1_limb_6 rfl (lv_at hl 3 rfl) ?_
  refine n_if_ge (tgt := 20) hx hb d_X1_limb_7 (by decide) (by omega) ?_
  refine lv_aload_n hx hb d_X1_limb_20 rfl (lv_at hl 0 rfl) ?_
  refine lv_iload_n hx hb d_X1_limb_21 rfl (lv_at hl 3 rfl) ?_
  refine x_callR (st1 := [.int (rAt (wd r) (F r) (nI k))]) (xn_runV (host := "LimbRows") (As := [.int (nI k)]) (rest := []) (nL := 4) ⟨hx, hb, hml, hown, hts⟩ (c_X0_limbAt hw hr64 (nI k) _) ⟨va_cnB 1 hts (gw_call k_198) rfl rfl rfl (hN.nw kt_248 rfl) (hts _ k_51) (by decide +kernel) ⟨Nat.le_of_ble_eq_true rfl, Nat.le_of_ble_eq_true rfl⟩, hts _ k_197, hts _ k_4⟩ hK hP hD _ 0 (rw_row hr64) rfl rfl hl.1 rfl (Nat.le_of_ble_eq_true rfl) d_X1_limb_22 ⟨Nat.le_of_ble_eq_true rfl, Nat.le_of_ble_eq_true rfl⟩) rfl ?_
  exact x_iret hx hb hr hlocks hP hD hS d_X1_limb_25 rfl rfl
abbrev w_X1_copy : List Cond := .code y_X1_copy b_X1_copy 5 (some .boolean) :: gw
set_option maxHeartbeats 800000 in
set_option maxRecDepth 100000 in
theorem c_X1_copy {l : Launch} {D : va_G} {Rs : va_W} {cA cR cL : ClassId} {ro la cap wd : Nat → Nat} {F : Nat → Nat → Int32} {xo ra qx qa : Nat} (hxo : Rs[qx]? = some (xo, .inr (1, [.ref ra]))) (hra : Rs[qa]? = some (ra, .inl (cR, 64, .inr (.inr (.inr (.inr (fun i => if i < 64 then some (ro i) else none))))))) (hw : rwOk cap wd) {r a : Nat} (hr64 : r < 64) (ha64 : a < 64) : xCE l y_X1_copy w_X1_copy ({ frames := 3, cells := 0, slots := 0, locals := 67 }) D cls0 (ty3 cA cR cL) [.ref xo, .int (nI r), .int (nI a)] (rw Rs cA ro la cap wd F) (some (.int (rFit (wd a) (F a) (wd r)))) (fun w => w = rw Rs cA ro la cap wd (gCopy r a (wd a) (wd r) 0 F)) 0 0 := by
  refine xCE.ofW (cc := b_X1_copy) (maxL := 5) (ret := some .boolean) (by decide) rfl (Nat.le_of_ble_eq_true rfl) ?_
  intro p e s m below meth c A ls _ hx hb hr hml hown hts hlocks hA hK hN hT hZ hP hD hS hl
  have hts : ∀ w ∈ gw, w.before ([.ref xo, .int (nI r), .int (nI a)]).toArray s = true := fun w h => hts w (List.mem_cons_of_mem _ h)
  have hown : s.vm.findClass R_LR = some m.cls := hown
  have hl : lv_has ls 5 [(0, .ref xo), (1, .int (nI r)), (2, .int (nI a))] := hl
  refine lv_aload_n hx hb d_X1_copy_0 rfl (lv_at hl 0 rfl) ?_
  refine lv_iload_n hx hb d_X1_copy_1 rfl (lv_at hl 1 rfl) ?_
  refine x_callR (st1 := [.ref (ro r)]) (x_runV (As := [.int (nI r)]) (rest := []) (nL := 5) ⟨hx, hb, hml, hown, hts⟩ (c_X1_rowAt hxo hra (r := r) hr64 _) (cwV 1 hts (gw_V k_100 k_102 k_0 k_50 k_103) rfl rfl rfl (by decide +kernel) ⟨Nat.le_of_ble_eq_true rfl, Nat.le_of_ble_eq_true rfl⟩) hK hP hD _ 1 (rw_in hxo) rfl rfl hl.1 rfl (Nat.le_of_ble_eq_true rfl) d_X1_copy_2 ⟨Nat.zero_le _, Nat.zero_le _⟩) rfl ?_
  refine lv_astore_n (lv' := [(3, .ref (ro r)), (0, .ref xo), (1, .int (nI r)), (2, .int (nI a))]) hx hb d_X1_copy_5 rfl hl (by decide) rfl (fun ls hl => ?_)
  refine lv_aload_n hx hb d_X1_copy_6 rfl (lv_at hl 1 rfl) ?_
  refine lv_iload_n hx hb d_X1_copy_7 rfl (lv_at hl 3 rfl) ?_
  refine x_callR (st1 := [.ref (ro a)]) (x_runV (As := [.int (nI a)]) (rest := []) (nL := 5) ⟨hx, hb, hml, hown, hts⟩ (c_X1_rowAt hxo hra (r := a) ha64 _) (cwV 1 hts (gw_V k_100 k_102 k_0 k_50 k_103) rfl rfl rfl (by decide +kernel) ⟨Nat.le_of_ble_eq_true rfl, Nat.le_of_ble_eq_true rfl⟩) hK hP hD _ 1 (rw_in hxo) rfl rfl hl.1 rfl (Nat.le_of_ble_eq_true rfl) d_X1_copy_8 ⟨Nat.zero_le _, Nat.zero_le _⟩) rfl ?_
  refine lv_astore (lv' := [(4, .ref (ro a)), (3, .ref (ro r)), (0, .ref xo), (1, .int (nI r)), (2, .int (nI a))]) hx hb d_X1_copy_11 hl (by decide) rfl (fun ls hl => ?_)
  refine lv_aload_n hx hb d_X1_copy_13 rfl (lv_at hl 1 rfl) ?_
  refine lv_aload hx hb d_X1_copy_14 (lv_at hl 0 rfl) ?_
  refine x_call (st1 := [.int (rFit (wd a) (F a) (wd r))]) (xn_runV (host := "LimbRows") (As := [.ref (ro a)]) (rest := []) (nL := 5) ⟨hx, hb, hml, hown, hts⟩ (c_X0_keepRow hw hr64 ha64 _) ⟨va_cnB 1 hts (gw_call k_259) rfl rfl rfl (hN.nw kt_256 rfl) (hts _ k_51) (by decide +kernel) ⟨Nat.le_of_ble_eq_true rfl, Nat.le_of_ble_eq_true rfl⟩, hts _ k_258, hts _ k_6⟩ hK hP hD _ 0 (rw_row hr64) rfl rfl hl.1 rfl (Nat.le_of_ble_eq_true rfl) d_X1_copy_16 ⟨Nat.le_of_ble_eq_true rfl, Nat.le_of_ble_eq_true rfl⟩) hS (x_sub hD hS hA) (x_sub hD hS hA) rfl (fun w1 H locs hY hP hD hS => ?_)
  subst hY
  exact x_zret hx hb hr hlocks hP hD hS d_X1_copy_19 (by first | exact rFitsL_b _ _ | exact rFit_b _ _ _ | exact rTurn_b _ _ _) rfl rfl
abbrev w_X1_add : List Cond := .code y_X1_add b_X1_add 5 (some .int) :: gw
set_option maxHeartbeats 800000 in
set_option maxRecDepth 100000 in
theorem c_X1_add {l : Launch} {D : va_G} {Rs : va_W} {cA cR cL : ClassId} {ro la cap wd : Nat → Nat} {F : Nat → Nat → Int32} {xo ra qx qa : Nat} (hxo : Rs[qx]? = some (xo, .inr (1, [.ref ra]))) (hra : Rs[qa]? = some (ra, .inl (cR, 64, .inr (.inr (.inr (.inr (fun i => if i < 64 then some (ro i) else none))))))) (hw : rwOk cap wd) {r a : Nat} (hr64 : r < 64) (ha64 : a < 64) : xCE l y_X1_add w_X1_add ({ frames := 3, cells := 0, slots := 0, locals := 71 }) D cls0 (ty3 cA cR cL) [.ref xo, .int (nI r), .int (nI a)] (rw Rs cA ro la cap wd F) (some (.int (rSg (wd r) ((gAdd r a (wd a) 0 (nI 0) (wd r - 0) 0 (nI 0 &&& nI 1).toInt64 F) r)))) (fun w => w = rw Rs cA ro la cap wd (gAdd r a (wd a) 0 (nI 0) (wd r - 0) 0 (nI 0 &&& nI 1).toInt64 F)) 0 0 := by
  refine xCE.ofW (cc := b_X1_add) (maxL := 5) (ret := some .int) (by decide) rfl (Nat.le_of_ble_eq_true rfl) ?_
  intro p e s m below meth c A ls _ hx hb hr hml hown hts hlocks hA hK hN hT hZ hP hD hS hl
  have hts : ∀ w ∈ gw, w.before ([.ref xo, .int (nI r), .int (nI a)]).toArray s = true := fun w h => hts w (List.mem_cons_of_mem _ h)
  have hown : s.vm.findClass R_LR = some m.cls := hown
  have hl : lv_has ls 5 [(0, .ref xo), (1, .int (nI r)), (2, .int (nI a))] := hl
  refine lv_aload_n hx hb d_X1_add_0 rfl (lv_at hl 0 rfl) ?_
  refine lv_iload_n hx hb d_X1_add_1 rfl (lv_at hl 1 rfl) ?_
  refine x_callR (st1 := [.ref (ro r)]) (x_runV (As := [.int (nI r)]) (rest := []) (nL := 5) ⟨hx, hb, hml, hown, hts⟩ (c_X1_rowAt hxo hra (r := r) hr64 _) (cwV 1 hts (gw_V k_100 k_102 k_0 k_50 k_103) rfl rfl rfl (by decide +kernel) ⟨Nat.le_of_ble_eq_true rfl, Nat.le_of_ble_eq_true rfl⟩) hK hP hD _ 1 (rw_in hxo) rfl rfl hl.1 rfl (Nat.le_of_ble_eq_true rfl) d_X1_add_2 ⟨Nat.zero_le _, Nat.zero_le _⟩) rfl ?_
  refine lv_astore_n (lv' := [(3, .ref (ro r)), (0, .ref xo), (1, .int (nI r)), (2, .int (nI a))]) hx hb d_X1_add_5 rfl hl (by decide) rfl (fun ls hl => ?_)
  refine lv_aload_n hx hb d_X1_add_6 rfl (lv_at hl 1 rfl) ?_
  refine lv_iload_n hx hb d_X1_add_7 rfl (lv_at hl 3 rfl) ?_
  refine x_callR (st1 := [.ref (ro a)]) (x_runV (As := [.int (nI a)]) (rest := []) (nL := 5) ⟨hx, hb, hml, hown, hts⟩ (c_X1_rowAt hxo hra (r := a) ha64 _) (cwV 1 hts (gw_V k_100 k_102 k_0 k_50 k_103) rfl rfl rfl (by decide +kernel) ⟨Nat.le_of_ble_eq_true rfl, Nat.le_of_ble_eq_true rfl⟩) hK hP hD _ 1 (rw_in hxo) rfl rfl hl.1 rfl (Nat.le_of_ble_eq_true rfl) d_X1_add_8 ⟨Nat.zero_le _, Nat.zero_le _⟩) rfl ?_
  refine lv_astore (lv' := [(4, .ref (ro a)), (3, .ref (ro r)), (0, .ref xo), (1, .int (nI r)), (2, .int (nI a))]) hx hb d_X1_add_11 hl (by decide) rfl (fun ls hl => ?_)
  refine lv_aload_n hx hb d_X1_add_13 rfl (lv_at hl 1 rfl) ?_
  refine lv_iconst (v := nI 0) hx hb d_X1_add_14 (by decide) ?_
  refine lv_aload hx hb d_X1_add_15 (lv_at hl 0 rfl) ?_
  refine x_call (st1 := []) (xn_runV (host := "LimbRows") (As := [.int (nI 0), .ref (ro a)]) (rest := []) (nL := 5) ⟨hx, hb, hml, hown, hts⟩ (c_X0_addFrom hw hr64 ha64 (st := 0) (by decide) _) ⟨va_cnB 2 hts (gw_call k_270) rfl rfl rfl (hN.nw kt_267 rfl) (hts _ k_51) (by decide +kernel) ⟨Nat.le_of_ble_eq_true rfl, Nat.le_of_ble_eq_true rfl⟩, hts _ k_269, hts _ k_7⟩ hK hP hD _ 0 (rw_row hr64) rfl rfl hl.1 rfl (Nat.le_of_ble_eq_true rfl) d_X1_add_17 ⟨Nat.le_of_ble_eq_true rfl, Nat.le_of_ble_eq_true rfl⟩) hS (x_sub hD hS hA) (x_sub hD hS hA) rfl (fun w1 H locs hY hP hD hS => ?_)
  subst hY
  refine lv_aload_n hx hb d_X1_add_20 rfl (lv_at hl 1 rfl) ?_
  refine x_callR (st1 := [.int (rSg (wd r) ((gAdd r a (wd a) 0 (nI 0) (wd r - 0) 0 (nI 0 &&& nI 1).toInt64 F) r))]) (xn_runV (host := "LimbRows") (As := []) (rest := []) (nL := 5) ⟨hx, hb, hml, hown, hts⟩ (c_X0_signum hw hr64 _) ⟨va_cnB 0 hts (gw_call k_282) rfl rfl rfl (hN.nw kt_279 rfl) (hts _ k_51) (by decide +kernel) ⟨Nat.le_of_ble_eq_true rfl, Nat.le_of_ble_eq_true rfl⟩, hts _ k_281, hts _ k_9⟩ hK hP hD _ 0 (rw_row hr64) rfl rfl hl.1 rfl (Nat.le_of_ble_eq_true rfl) d_X1_add_21 ⟨Nat.le_of_ble_eq_true rfl, Nat.le_of_ble_eq_true rfl⟩) rfl ?_
  exact x_iret hx hb hr hlocks hP hD hS d_X1_add_24 rfl rfl
abbrev w_X1_subtract : List Cond := .code y_X1_subtract b_X1_subtract 5 (some .int) :: gw
set_option maxHeartbeats 800000 in
set_option maxRecDepth 100000 in
theorem c_X1_subtract {l : Launch} {D : va_G} {Rs : va_W} {cA cR cL : ClassId} {ro la cap wd : Nat → Nat} {F : Nat → Nat → Int32} {xo ra qx qa : Nat} (hxo : Rs[qx]? = some (xo, .inr (1, [.ref ra]))) (hra : Rs[qa]? = some (ra, .inl (cR, 64, .inr (.inr (.inr (.inr (fun i => if i < 64 then some (ro i) else none))))))) (hw : rwOk cap wd) {r a : Nat} (hr64 : r < 64) (ha64 : a < 64) : xCE l y_X1_subtract w_X1_subtract ({ frames := 3, cells := 0, slots := 0, locals := 71 }) D cls0 (ty3 cA cR cL) [.ref xo, .int (nI r), .int (nI a)] (rw Rs cA ro la cap wd F) (some (.int (rSg (wd r) ((gAdd r a (wd a) 0 ((-1)) (wd r - 0) 0 ((-1) &&& nI 1).toInt64 F) r)))) (fun w => w = rw Rs cA ro la cap wd (gAdd r a (wd a) 0 ((-1)) (wd r - 0) 0 ((-1) &&& nI 1).toInt64 F)) 0 0 := by
  refine xCE.ofW (cc := b_X1_subtract) (maxL := 5) (ret := some .int) (by decide) rfl (Nat.le_of_ble_eq_true rfl) ?_
  intro p e s m below meth c A ls _ hx hb hr hml hown hts hlocks hA hK hN hT hZ hP hD hS hl
  have hts : ∀ w ∈ gw, w.before ([.ref xo, .int (nI r), .int (nI a)]).toArray s = true := fun w h => hts w (List.mem_cons_of_mem _ h)
  have hown : s.vm.findClass R_LR = some m.cls := hown
  have hl : lv_has ls 5 [(0, .ref xo), (1, .int (nI r)), (2, .int (nI a))] := hl
  refine lv_aload_n hx hb d_X1_subtract_0 rfl (lv_at hl 0 rfl) ?_
  refine lv_iload_n hx hb d_X1_subtract_1 rfl (lv_at hl 1 rfl) ?_
  refine x_callR (st1 := [.ref (ro r)]) (x_runV (As := [.int (nI r)]) (rest := []) (nL := 5) ⟨hx, hb, hml, hown, hts⟩ (c_X1_rowAt hxo hra (r := r) hr64 _) (cwV 1 hts (gw_V k_100 k_102 k_0 k_50 k_103) rfl rfl rfl (by decide +kernel) ⟨Nat.le_of_ble_eq_true rfl, Nat.le_of_ble_eq_true rfl⟩) hK hP hD _ 1 (rw_in hxo) rfl rfl hl.1 rfl (Nat.le_of_ble_eq_true rfl) d_X1_subtract_2 ⟨Nat.zero_le _, Nat.zero_le _⟩) rfl ?_
  refine lv_astore_n (lv' := [(3, .ref (ro r)), (0, .ref xo), (1, .int (nI r)), (2, .int (nI a))]) hx hb d_X1_subtract_5 rfl hl (by decide) rfl (fun ls hl => ?_)
  refine lv_aload_n hx hb d_X1_subtract_6 rfl (lv_at hl 1 rfl) ?_
  refine lv_iload_n hx hb d_X1_subtract_7 rfl (lv_at hl 3 rfl) ?_
  refine x_callR (st1 := [.ref (ro a)]) (x_runV (As := [.int (nI a)]) (rest := []) (nL := 5) ⟨hx, hb, hml, hown, hts⟩ (c_X1_rowAt hxo hra (r := a) ha64 _) (cwV 1 hts (gw_V k_100 k_102 k_0 k_50 k_103) rfl rfl rfl (by decide +kernel) ⟨Nat.le_of_ble_eq_true rfl, Nat.le_of_ble_eq_true rfl⟩) hK hP hD _ 1 (rw_in hxo) rfl rfl hl.1 rfl (Nat.le_of_ble_eq_true rfl) d_X1_subtract_8 ⟨Nat.zero_le _, Nat.zero_le _⟩) rfl ?_
  refine lv_astore (lv' := [(4, .ref (ro a)), (3, .ref (ro r)), (0, .ref xo), (1, .int (nI r)), (2, .int (nI a))]) hx hb d_X1_subtract_11 hl (by decide) rfl (fun ls hl => ?_)
  refine lv_aload_n hx hb d_X1_subtract_13 rfl (lv_at hl 1 rfl) ?_
  refine lv_iconst (v := nI 0) hx hb d_X1_subtract_14 (by decide) ?_
  refine lv_aload hx hb d_X1_subtract_15 (lv_at hl 0 rfl) ?_
  refine x_call (st1 := []) (xn_runV (host := "LimbRows") (As := [.int (nI 0), .ref (ro a)]) (rest := []) (nL := 5) ⟨hx, hb, hml, hown, hts⟩ (c_X0_subtractFrom hw hr64 ha64 (st := 0) (by decide) _) ⟨va_cnB 2 hts (gw_call k_297) rfl rfl rfl (hN.nw kt_294 rfl) (hts _ k_51) (by decide +kernel) ⟨Nat.le_of_ble_eq_true rfl, Nat.le_of_ble_eq_true rfl⟩, hts _ k_296, hts _ k_11⟩ hK hP hD _ 0 (rw_row hr64) rfl rfl hl.1 rfl (Nat.le_of_ble_eq_true rfl) d_X1_subtract_17 ⟨Nat.le_of_ble_eq_true rfl, Nat.le_of_ble_eq_true rfl⟩) hS (x_sub hD hS hA) (x_sub hD hS hA) rfl (fun w1 H locs hY hP hD hS => ?_)
  subst hY
  refine lv_aload_n hx hb d_X1_subtract_20 rfl (lv_at hl 1 rfl) ?_
  refine x_callR (st1 := [.int (rSg (wd r) ((gAdd r a (wd a) 0 ((-1)) (wd r - 0) 0 ((-1) &&& nI 1).toInt64 F) r))]) (xn_runV (host := "LimbRows") (As := []) (rest := []) (nL := 5) ⟨hx, hb, hml, hown, hts⟩ (c_X0_signum hw hr64 _) ⟨va_cnB 0 hts (gw_call k_282) rfl rfl rfl (hN.nw kt_279 rfl) (hts _ k_51) (by decide +kernel) ⟨Nat.le_of_ble_eq_true rfl, Nat.le_of_ble_eq_true rfl⟩, hts _ k_281, hts _ k_9⟩ hK hP hD _ 0 (rw_row hr64) rfl rfl hl.1 rfl (Nat.le_of_ble_eq_true rfl) d_X1_subtract_21 ⟨Nat.le_of_ble_eq_true rfl, Nat.le_of_ble_eq_true rfl⟩) rfl ?_
  exact x_iret hx hb hr hlocks hP hD hS d_X1_subtract_24 rfl rfl
abbrev w_X1_addProduct : List Cond := .code y_X1_addProduct b_X1_addProduct 7 (some .int) :: gw
set_option maxHeartbeats 800000 in
set_option maxRecDepth 100000 in
theorem c_X1_addProduct {l : Launch} {D : va_G} {Rs : va_W} {cA cR cL : ClassId} {ro la cap wd : Nat → Nat} {F : Nat → Nat → Int32} {xo ra qx qa : Nat} (hxo : Rs[qx]? = some (xo, .inr (1, [.ref ra]))) (hra : Rs[qa]? = some (ra, .inl (cR, 64, .inr (.inr (.inr (.inr (fun i => if i < 64 then some (ro i) else none))))))) (hw : rwOk cap wd) {r a u : Nat} (hr64 : r < 64) (ha64 : a < 64) (hu64 : u < 64) (hra1 : r ≠ a) (hru : r ≠ u) {t : Nat} (ht : rBl (wd a) (F a) = nI t) (htw : t < 32 * wd a) : xCE l y_X1_addProduct w_X1_addProduct ({ frames := 4, cells := 0, slots := 0, locals := 96 }) D cls0 (ty3 cA cR cL) [.ref xo, .int (nI r), .int (nI a), .int (nI u)] (rw Rs cA ro la cap wd F) (some (.int (rSg (wd r) ((gPr r a u (wd r) (wd a) (wd u) t F) r)))) (fun w => w = rw Rs cA ro la cap wd (gPr r a u (wd r) (wd a) (wd u) t F)) 0 0 := by
  refine xCE.ofW (cc := b_X1_addProduct) (maxL := 7) (ret := some .int) (by decide) rfl (Nat.le_of_ble_eq_true rfl) ?_
  intro p e s m below meth c A ls _ hx hb hr hml hown hts hlocks hA hK hN hT hZ hP hD hS hl
  have hts : ∀ w ∈ gw, w.before ([.ref xo, .int (nI r), .int (nI a), .int (nI u)]).toArray s = true := fun w h => hts w (List.mem_cons_of_mem _ h)
  have hown : s.vm.findClass R_LR = some m.cls := hown
  have hl : lv_has ls 7 [(0, .ref xo), (1, .int (nI r)), (2, .int (nI a)), (3, .int (nI u))] := hl
  refine lv_aload_n hx hb d_X1_addProduct_0 rfl (lv_at hl 0 rfl) ?_
  refine lv_iload_n hx hb d_X1_addProduct_1 rfl (lv_at hl 1 rfl) ?_
  refine x_callR (st1 := [.ref (ro r)]) (x_runV (As := [.int (nI r)]) (rest := []) (nL := 7) ⟨hx, hb, hml, hown, hts⟩ (c_X1_rowAt hxo hra (r := r) hr64 _) (cwV 1 hts (gw_V k_100 k_102 k_0 k_50 k_103) rfl rfl rfl (by decide +kernel) ⟨Nat.le_of_ble_eq_true rfl, Nat.le_of_ble_eq_true rfl⟩) hK hP hD _ 1 (rw_in hxo) rfl rfl hl.1 rfl (Nat.le_of_ble_eq_true rfl) d_X1_addProduct_2 ⟨Nat.zero_le _, Nat.zero_le _⟩) rfl ?_
  refine lv_astore (lv' := [(4, .ref (ro r)), (0, .ref xo), (1, .int (nI r)), (2, .int (nI a)), (3, .int (nI u))]) hx hb d_X1_addProduct_5 hl (by decide) rfl (fun ls hl => ?_)
  refine lv_aload_n hx hb d_X1_addProduct_7 rfl (lv_at hl 1 rfl) ?_
  refine lv_iload_n hx hb d_X1_addProduct_8 rfl (lv_at hl 3 rfl) ?_
  refine x_callR (st1 := [.ref (ro a)]) (x_runV (As := [.int (nI a)]) (rest := []) (nL := 7) ⟨hx, hb, hml, hown, hts⟩ (c_X1_rowAt hxo hra (r := a) ha64 _) (cwV 1 hts (gw_V k_100 k_102 k_0 k_50 k_103) rfl rfl rfl (by decide +kernel) ⟨Nat.le_of_ble_eq_true rfl, Nat.le_of_ble_eq_true rfl⟩) hK hP hD _ 1 (rw_in hxo) rfl rfl hl.1 rfl (Nat.le_of_ble_eq_true rfl) d_X1_addProduct_9 ⟨Nat.zero_le _, Nat.zero_le _⟩) rfl ?_
  refine lv_astore (lv' := [(5, .ref (ro a)), (4, .ref (ro r)), (0, .ref xo), (1, .int (nI r)), (2, .int (nI a)), (3, .int (nI u))]) hx hb d_X1_addProduct_12 hl (by decide) rfl (fun ls hl => ?_)
  refine lv_aload_n hx hb d_X1_addProduct_14 rfl (lv_at hl 2 rfl) ?_
  refine lv_iload_n hx hb d_X1_addProduct_15 rfl (lv_at hl 5 rfl) ?_
  refine x_callR (st1 := [.ref (ro u)]) (x_runV (As := [.int (nI u)]) (rest := []) (nL := 7) ⟨hx, hb, hml, hown, hts⟩ (c_X1_rowAt hxo hra (r := u) hu64 _) (cwV 1 hts (gw_V k_100 k_102 k_0 k_50 k_103) rfl rfl rfl (by decide +kernel) ⟨Nat.le_of_ble_eq_true rfl, Nat.le_of_ble_eq_true rfl⟩) hK hP hD _ 1 (rw_in hxo) rfl rfl hl.1 rfl (Nat.le_of_ble_eq_true rfl) d_X1_addProduct_16 ⟨Nat.zero_le _, Nat.zero_le _⟩) rfl ?_
  refine lv_astore (lv' := [(6, .ref (ro u)), (5, .ref (ro a)), (4, .ref (ro r)), (0, .ref xo), (1, .int (nI r)), (2, .int (nI a)), (3, .int (nI u))]) hx hb d_X1_addProduct_19 hl (by decide) rfl (fun ls hl => ?_)
  refine lv_iload_n hx hb d_X1_addProduct_21 rfl (lv_at hl 4 rfl) ?_
  refine lv_iload_n hx hb d_X1_addProduct_22 rfl (lv_at hl 5 rfl) ?_
  refine lv_iload_n hx hb d_X1_addProduct_23 rfl (lv_at hl 6 rfl) ?_
  refine x_callR (st1 := []) (x_runS (As := [.int (nI r), .int (nI a), .int (nI u)]) (rest := []) (nL := 7) ⟨hx, hb, hml, hown, hts⟩ (c_X1_refuseOwnFactor hr64 ha64 hu64 hra1 hru _) (cwS 3 hts (gw_S k_305 k_306 k_50 k_307) rfl rfl rfl (by decide +kernel) ⟨Nat.le_of_ble_eq_true rfl, Nat.le_of_ble_eq_true rfl⟩) hK hP hD rfl hl.1 rfl (Nat.le_of_ble_eq_true rfl) d_X1_addProduct_24 ⟨Nat.zero_le _, Nat.zero_le _⟩) rfl ?_
  refine lv_aload hx hb d_X1_addProduct_27 (lv_at hl 2 rfl) ?_
  refine lv_aload hx hb d_X1_addProduct_29 (lv_at hl 1 rfl) ?_
  refine lv_aload hx hb d_X1_addProduct_31 (lv_at hl 0 rfl) ?_
  refine x_call (st1 := []) (xn_runV (host := "LimbRows") (As := [.ref (ro a), .ref (ro u)]) (rest := []) (nL := 7) ⟨hx, hb, hml, hown, hts⟩ (c_X0_addProductOf hw hr64 ha64 hu64 ht htw _) ⟨va_cnB 2 hts (gw_call k_312) rfl rfl rfl (hN.nw kt_309 rfl) (hts _ k_51) (by decide +kernel) ⟨Nat.le_of_ble_eq_true rfl, Nat.le_of_ble_eq_true rfl⟩, hts _ k_311, hts _ k_12⟩ hK hP hD _ 0 (rw_row hr64) rfl rfl hl.1 rfl (Nat.le_of_ble_eq_true rfl) d_X1_addProduct_33 ⟨Nat.le_of_ble_eq_true rfl, Nat.le_of_ble_eq_true rfl⟩) hS (x_sub hD hS hA) (x_sub hD hS hA) rfl (fun w1 H locs hY hP hD hS => ?_)
  subst hY
  refine lv_aload hx hb d_X1_addProduct_36 (lv_at hl 2 rfl) ?_
  refine x_callR (st1 := [.int (rSg (wd r) ((gPr r a u (wd r) (wd a) (wd u) t F) r))]) (xn_runV (host := "LimbRows") (As := []) (rest := []) (nL := 7) ⟨hx, hb, hml, hown, hts⟩ (c_X0_signum hw hr64 _) ⟨va_cnB 0 hts (gw_call k_282) rfl rfl rfl (hN.nw kt_279 rfl) (hts _ k_51) (by decide +kernel) ⟨Nat.le_of_ble_eq_true rfl, Nat.le_of_ble_eq_true rfl⟩, hts _ k_281, hts _ k_9⟩ hK hP hD _ 0 (rw_row hr64) rfl rfl hl.1 rfl (Nat.le_of_ble_eq_true rfl) d_X1_addProduct_38 ⟨Nat.le_of_ble_eq_true rfl, Nat.le_of_ble_eq_true rfl⟩) rfl ?_
  exact x_iret hx hb hr hlocks hP hD hS d_X1_addProduct_41 rfl rfl
abbrev w_X1_subtractProduct : List Cond := .code y_X1_subtractProduct b_X1_subtractProduct 7 (some .int) :: gw
set_option maxHeartbeats 800000 in
set_option maxRecDepth 100000 in
theorem c_X1_subtractProduct {l : Launch} {D : va_G} {Rs : va_W} {cA cR cL : ClassId} {ro la cap wd : Nat → Nat} {F : Nat → Nat → Int32} {xo ra qx qa : Nat} (hxo : Rs[qx]? = some (xo, .inr (1, [.ref ra]))) (hra : Rs[qa]? = some (ra, .inl (cR, 64, .inr (.inr (.inr (.inr (fun i => if i < 64 then some (ro i) else none))))))) (hw : rwOk cap wd) {r a u : Nat} (hr64 : r < 64) (ha64 : a < 64) (hu64 : u < 64) (hra1 : r ≠ a) (hru : r ≠ u) {t : Nat} (ht : rBl (wd a) (gCpl r (wd r) 0 F a) = nI t) (htw : t < 32 * wd a) : xCE l y_X1_subtractProduct w_X1_subtractProduct ({ frames := 5, cells := 0, slots := 0, locals := 118 }) D cls0 (ty3 cA cR cL) [.ref xo, .int (nI r), .int (nI a), .int (nI u)] (rw Rs cA ro la cap wd F) (some (.int (rSg (wd r) ((gSPr r a u (wd r) (wd a) (wd u) t F) r)))) (fun w => w = rw Rs cA ro la cap wd (gSPr r a u (wd r) (wd a) (wd u) t F)) 0 0 := by
  refine xCE.ofW (cc := b_X1_subtractProduct) (maxL := 7) (ret := some .int) (by decide) rfl (Nat.le_of_ble_eq_true rfl) ?_
  intro p e s m below meth c A ls _ hx hb hr hml hown hts hlocks hA hK hN hT hZ hP hD hS hl
  have hts : ∀ w ∈ gw, w.before ([.ref xo, .int (nI r), .int (nI a), .int (nI u)]).toArray s = true := fun w h => hts w (List.mem_cons_of_mem _ h)
  have hown : s.vm.findClass R_LR = some m.cls := hown
  have hl : lv_has ls 7 [(0, .ref xo), (1, .int (nI r)), (2, .int (nI a)), (3, .int (nI u))] := hl
  refine lv_aload_n hx hb d_X1_subtractProduct_0 rfl (lv_at hl 0 rfl) ?_
  refine lv_iload_n hx hb d_X1_subtractProduct_1 rfl (lv_at hl 1 rfl) ?_
  refine x_callR (st1 := [.ref (ro r)]) (x_runV (As := [.int (nI r)]) (rest := []) (nL := 7) ⟨hx, hb, hml, hown, hts⟩ (c_X1_rowAt hxo hra (r := r) hr64 _) (cwV 1 hts (gw_V k_100 k_102 k_0 k_50 k_103) rfl rfl rfl (by decide +kernel) ⟨Nat.le_of_ble_eq_true rfl, Nat.le_of_ble_eq_true rfl⟩) hK hP hD _ 1 (rw_in hxo) rfl rfl hl.1 rfl (Nat.le_of_ble_eq_true rfl) d_X1_subtractProduct_2 ⟨Nat.zero_le _, Nat.zero_le _⟩) rfl ?_
  refine lv_astore (lv' := [(4, .ref (ro r)), (0, .ref xo), (1, .int (nI r)), (2, .int (nI a)), (3, .int (nI u))]) hx hb d_X1_subtractProduct_5 hl (by decide) rfl (fun ls hl => ?_)
  refine lv_aload_n hx hb d_X1_subtractProduct_7 rfl (lv_at hl 1 rfl) ?_
  refine lv_iload_n hx hb d_X1_subtractProduct_8 rfl (lv_at hl 3 rfl) ?_
  refine x_callR (st1 := [.ref (ro a)]) (x_runV (As := [.int (nI a)]) (rest := []) (nL := 7) ⟨hx, hb, hml, hown, hts⟩ (c_X1_rowAt hxo hra (r := a) ha64 _) (cwV 1 hts (gw_V k_100 k_102 k_0 k_50 k_103) rfl rfl rfl (by decide +kernel) ⟨Nat.le_of_ble_eq_true rfl, Nat.le_of_ble_eq_true rfl⟩) hK hP hD _ 1 (rw_in hxo) rfl rfl hl.1 rfl (Nat.le_of_ble_eq_true rfl) d_X1_subtractProduct_9 ⟨Nat.zero_le _, Nat.zero_le _⟩) rfl ?_
  refine lv_astore (lv' := [(5, .ref (ro a)), (4, .ref (ro r)), (0, .ref xo), (1, .int (nI r)), (2, .int (nI a)), (3, .int (nI u))]) hx hb d_X1_subtractProduct_12 hl (by decide) rfl (fun ls hl => ?_)
  refine lv_aload_n hx hb d_X1_subtractProduct_14 rfl (lv_at hl 2 rfl) ?_
  refine lv_iload_n hx hb d_X1_subtractProduct_15 rfl (lv_at hl 5 rfl) ?_
  refine x_callR (st1 := [.ref (ro u)]) (x_runV (As := [.int (nI u)]) (rest := []) (nL := 7) ⟨hx, hb, hml, hown, hts⟩ (c_X1_rowAt hxo hra (r := u) hu64 _) (cwV 1 hts (gw_V k_100 k_102 k_0 k_50 k_103) rfl rfl rfl (by decide +kernel) ⟨Nat.le_of_ble_eq_true rfl, Nat.le_of_ble_eq_true rfl⟩) hK hP hD _ 1 (rw_in hxo) rfl rfl hl.1 rfl (Nat.le_of_ble_eq_true rfl) d_X1_subtractProduct_16 ⟨Nat.zero_le _, Nat.zero_le _⟩) rfl ?_
  refine lv_astore (lv' := [(6, .ref (ro u)), (5, .ref (ro a)), (4, .ref (ro r)), (0, .ref xo), (1, .int (nI r)), (2, .int (nI a)), (3, .int (nI u))]) hx hb d_X1_subtractProduct_19 hl (by decide) rfl (fun ls hl => ?_)
  refine lv_iload_n hx hb d_X1_subtractProduct_21 rfl (lv_at hl 4 rfl) ?_
  refine lv_iload_n hx hb d_X1_subtractProduct_22 rfl (lv_at hl 5 rfl) ?_
  refine lv_iload_n hx hb d_X1_subtractProduct_23 rfl (lv_at hl 6 rfl) ?_
  refine x_callR (st1 := []) (x_runS (As := [.int (nI r), .int (nI a), .int (nI u)]) (rest := []) (nL := 7) ⟨hx, hb, hml, hown, hts⟩ (c_X1_refuseOwnFactor hr64 ha64 hu64 hra1 hru _) (cwS 3 hts (gw_S k_305 k_306 k_50 k_307) rfl rfl rfl (by decide +kernel) ⟨Nat.le_of_ble_eq_true rfl, Nat.le_of_ble_eq_true rfl⟩) hK hP hD rfl hl.1 rfl (Nat.le_of_ble_eq_true rfl) d_X1_subtractProduct_24 ⟨Nat.zero_le _, Nat.zero_le _⟩) rfl ?_
  refine lv_aload hx hb d_X1_subtractProduct_27 (lv_at hl 2 rfl) ?_
  refine lv_aload hx hb d_X1_subtractProduct_29 (lv_at hl 1 rfl) ?_
  refine lv_aload hx hb d_X1_subtractProduct_31 (lv_at hl 0 rfl) ?_
  refine x_call (st1 := []) (xn_runV (host := "LimbRows") (As := [.ref (ro a), .ref (ro u)]) (rest := []) (nL := 7) ⟨hx, hb, hml, hown, hts⟩ (c_X0_subtractProductOf hw hr64 ha64 hu64 ht htw _) ⟨va_cnB 2 hts (gw_call k_337) rfl rfl rfl (hN.nw kt_334 rfl) (hts _ k_51) (by decide +kernel) ⟨Nat.le_of_ble_eq_true rfl, Nat.le_of_ble_eq_true rfl⟩, hts _ k_336, hts _ k_15⟩ hK hP hD _ 0 (rw_row hr64) rfl rfl hl.1 rfl (Nat.le_of_ble_eq_true rfl) d_X1_subtractProduct_33 ⟨Nat.le_of_ble_eq_true rfl, Nat.le_of_ble_eq_true rfl⟩) hS (x_sub hD hS hA) (x_sub hD hS hA) rfl (fun w1 H locs hY hP hD hS => ?_)
  subst hY
  refine lv_aload hx hb d_X1_subtractProduct_36 (lv_at hl 2 rfl) ?_
  refine x_callR (st1 := [.int (rSg (wd r) ((gSPr r a u (wd r) (wd a) (wd u) t F) r))]) (xn_runV (host := "LimbRows") (As := []) (rest := []) (nL := 7) ⟨hx, hb, hml, hown, hts⟩ (c_X0_signum hw hr64 _) ⟨va_cnB 0 hts (gw_call k_282) rfl rfl rfl (hN.nw kt_279 rfl) (hts _ k_51) (by decide +kernel) ⟨Nat.le_of_ble_eq_true rfl, Nat.le_of_ble_eq_true rfl⟩, hts _ k_281, hts _ k_9⟩ hK hP hD _ 0 (rw_row hr64) rfl rfl hl.1 rfl (Nat.le_of_ble_eq_true rfl) d_X1_subtractProduct_38 ⟨Nat.le_of_ble_eq_true rfl, Nat.le_of_ble_eq_true rfl⟩) rfl ?_
  exact x_iret hx hb hr hlocks hP hD hS d_X1_subtractProduct_41 rfl rfl
abbrev w_X1_times : List Cond := .code y_X1_times b_X1_times 5 (some .int) :: gw
set_option maxHeartbeats 800000 in
set_option maxRecDepth 100000 in
theorem c_X1_times {l : Launch} {D : va_G} {Rs : va_W} {cA cR cL : ClassId} {ro la cap wd : Nat → Nat} {F : Nat → Nat → Int32} {xo ra qx qa : Nat} (hxo : Rs[qx]? = some (xo, .inr (1, [.ref ra]))) (hra : Rs[qa]? = some (ra, .inl (cR, 64, .inr (.inr (.inr (.inr (fun i => if i < 64 then some (ro i) else none))))))) (hw : rwOk cap wd) {r : Nat} (hr64 : r < 64) (v : Int64) : xCE l y_X1_times w_X1_times ({ frames := 2, cells := 0, slots := 0, locals := 53 }) D cls0 (ty3 cA cR cL) [.ref xo, .int (nI r), .long v] (rw Rs cA ro la cap wd F) (some (.int (rSg (wd r) ((gTim r (v &&& 4294967295) (j_lr v (nI 32)) (wd r) 0 0 F) r)))) (fun w => w = rw Rs cA ro la cap wd (gTim r (v &&& 4294967295) (j_lr v (nI 32)) (wd r) 0 0 F)) 0 0 := by
  refine xCE.ofW (cc := b_X1_times) (maxL := 5) (ret := some .int) (by decide) rfl (Nat.le_of_ble_eq_true rfl) ?_
  intro p e s m below meth c A ls _ hx hb hr hml hown hts hlocks hA hK hN hT hZ hP hD hS hl
  have hts : ∀ w ∈ gw, w.before ([.ref xo, .int (nI r), .long v]).toArray s = true := fun w h => hts w (List.mem_cons_of_mem _ h)
  have hown : s.vm.findClass R_LR = some m.cls := hown
  have hl : lv_has ls 5 [(0, .ref xo), (1, .int (nI r)), (2, .long v)] := hl
  refine lv_aload_n hx hb d_X1_times_0 rfl (lv_at hl 0 rfl) ?_
  refine lv_iload_n hx hb d_X1_times_1 rfl (lv_at hl 1 rfl) ?_
  refine x_callR (st1 := [.ref (ro r)]) (x_runV (As := [.int (nI r)]) (rest := []) (nL := 5) ⟨hx, hb, hml, hown, hts⟩ (c_X1_rowAt hxo hra (r := r) hr64 _) (cwV 1 hts (gw_V k_100 k_102 k_0 k_50 k_103) rfl rfl rfl (by decide +kernel) ⟨Nat.le_of_ble_eq_true rfl, Nat.le_of_ble_eq_true rfl⟩) hK hP hD _ 1 (rw_in hxo) rfl rfl hl.1 rfl (Nat.le_of_ble_eq_true rfl) d_X1_times_2 ⟨Nat.zero_le _, Nat.zero_le _⟩) rfl ?_
  refine lv_astore (lv' := [(4, .ref (ro r)), (0, .ref xo), (1, .int (nI r)), (2, .long v)]) hx hb d_X1_times_5 hl (by decide) rfl (fun ls hl => ?_)
  refine lv_aload hx hb d_X1_times_7 (lv_at hl 0 rfl) ?_
  refine lv_lload_n hx hb d_X1_times_9 rfl (lv_at hl 3 rfl) ?_
  refine x_call (st1 := []) (xn_runV (host := "LimbRows") (As := [.long v]) (rest := []) (nL := 5) ⟨hx, hb, hml, hown, hts⟩ (c_X0_multiplyBy hw hr64 v _) ⟨va_cnB 1 hts (gw_call k_353) rfl rfl rfl (hN.nw kt_350 rfl) (hts _ k_51) (by decide +kernel) ⟨Nat.le_of_ble_eq_true rfl, Nat.le_of_ble_eq_true rfl⟩, hts _ k_352, hts _ k_17⟩ hK hP hD _ 0 (rw_row hr64) rfl rfl hl.1 rfl (Nat.le_of_ble_eq_true rfl) d_X1_times_10 ⟨Nat.le_of_ble_eq_true rfl, Nat.le_of_ble_eq_true rfl⟩) hS (x_sub hD hS hA) (x_sub hD hS hA) rfl (fun w1 H locs hY hP hD hS => ?_)
  subst hY
  refine lv_aload hx hb d_X1_times_13 (lv_at hl 0 rfl) ?_
  refine x_callR (st1 := [.int (rSg (wd r) ((gTim r (v &&& 4294967295) (j_lr v (nI 32)) (wd r) 0 0 F) r))]) (xn_runV (host := "LimbRows") (As := []) (rest := []) (nL := 5) ⟨hx, hb, hml, hown, hts⟩ (c_X0_signum hw hr64 _) ⟨va_cnB 0 hts (gw_call k_282) rfl rfl rfl (hN.nw kt_279 rfl) (hts _ k_51) (by decide +kernel) ⟨Nat.le_of_ble_eq_true rfl, Nat.le_of_ble_eq_true rfl⟩, hts _ k_281, hts _ k_9⟩ hK hP hD _ 0 (rw_row hr64) rfl rfl hl.1 rfl (Nat.le_of_ble_eq_true rfl) d_X1_times_15 ⟨Nat.le_of_ble_eq_true rfl, Nat.le_of_ble_eq_true rfl⟩) rfl ?_
  exact x_iret hx hb hr hlocks hP hD hS d_X1_times_18 rfl rfl
abbrev w_X1_negate : List Cond := .code y_X1_negate b_X1_negate 2 (some .boolean) :: gw
set_option maxHeartbeats 800000 in
set_option maxRecDepth 100000 in
theorem c_X1_negate {l : Launch} {D : va_G} {Rs : va_W} {cA cR cL : ClassId} {ro la cap wd : Nat → Nat} {F : Nat → Nat → Int32} {xo ra qx qa : Nat} (hxo : Rs[qx]? = some (xo, .inr (1, [.ref ra]))) (hra : Rs[qa]? = some (ra, .inl (cR, 64, .inr (.inr (.inr (.inr (fun i => if i < 64 then some (ro i) else none))))))) (hw : rwOk cap wd) {r : Nat} (hr64 : r < 64) : xCE l y_X1_negate w_X1_negate ({ frames := 2, cells := 0, slots := 0, locals := 42 }) D cls0 (ty3 cA cR cL) [.ref xo, .int (nI r)] (rw Rs cA ro la cap wd F) (some (.int (rTurn r (wd r) F))) (fun w => w = rw Rs cA ro la cap wd (gTurn r (wd r) F)) 0 0 := by
  refine xCE.ofW (cc := b_X1_negate) (maxL := 2) (ret := some .boolean) (by decide) rfl (Nat.le_of_ble_eq_true rfl) ?_
  intro p e s m below meth c A ls _ hx hb hr hml hown hts hlocks hA hK hN hT hZ hP hD hS hl
  have hts : ∀ w ∈ gw, w.before ([.ref xo, .int (nI r)]).toArray s = true := fun w h => hts w (List.mem_cons_of_mem _ h)
  have hown : s.vm.findClass R_LR = some m.cls := hown
  have hl : lv_has ls 2 [(0, .ref xo), (1, .int (nI r))] := hl
  refine lv_aload_n hx hb d_X1_negate_0 rfl (lv_at hl 0 rfl) ?_
  refine lv_iload_n hx hb d_X1_negate_1 rfl (lv_at hl 1 rfl) ?_
  refine x_callR (st1 := [.ref (ro r)]) (x_runV (As := [.int (nI r)]) (rest := []) (nL := 2) ⟨hx, hb, hml, hown, hts⟩ (c_X1_rowAt hxo hra (r := r) hr64 _) (cwV 1 hts (gw_V k_100 k_102 k_0 k_50 k_103) rfl rfl rfl (by decide +kernel) ⟨Nat.le_of_ble_eq_true rfl, Nat.le_of_ble_eq_true rfl⟩) hK hP hD _ 1 (rw_in hxo) rfl rfl hl.1 rfl (Nat.le_of_ble_eq_true rfl) d_X1_negate_2 ⟨Nat.zero_le _, Nat.zero_le _⟩) rfl ?_
  refine x_call (st1 := [.int (rTurn r (wd r) F)]) (xn_runV (host := "LimbRows") (As := []) (rest := []) (nL := 2) ⟨hx, hb, hml, hown, hts⟩ (c_X0_turnRound hw hr64 _) ⟨va_cnB 0 hts (gw_call k_364) rfl rfl rfl (hN.nw kt_361 rfl) (hts _ k_51) (by decide +kernel) ⟨Nat.le_of_ble_eq_true rfl, Nat.le_of_ble_eq_true rfl⟩, hts _ k_363, hts _ k_18⟩ hK hP hD _ 0 (rw_row hr64) rfl rfl hl.1 rfl (Nat.le_of_ble_eq_true rfl) d_X1_negate_5 ⟨Nat.le_of_ble_eq_true rfl, Nat.le_of_ble_eq_true rfl⟩) hS (x_sub hD hS hA) (x_sub hD hS hA) rfl (fun w1 H locs hY hP hD hS => ?_)
  subst hY
  exact x_zret hx hb hr hlocks hP hD hS d_X1_negate_8 (by first | exact rFitsL_b _ _ | exact rFit_b _ _ _ | exact rTurn_b _ _ _) rfl rfl
abbrev w_X1_left : List Cond := .code y_X1_left b_X1_left 4 (some .int) :: gw
set_option maxHeartbeats 800000 in
set_option maxRecDepth 100000 in
theorem c_X1_left {l : Launch} {D : va_G} {Rs : va_W} {cA cR cL : ClassId} {ro la cap wd : Nat → Nat} {F : Nat → Nat → Int32} {xo ra qx qa : Nat} (hxo : Rs[qx]? = some (xo, .inr (1, [.ref ra]))) (hra : Rs[qa]? = some (ra, .inl (cR, 64, .inr (.inr (.inr (.inr (fun i => if i < 64 then some (ro i) else none))))))) (hw : rwOk cap wd) {r : Nat} (hr64 : r < 64) {k : Nat} (hk8 : k ≤ 8192) : xCE l y_X1_left w_X1_left ({ frames := 3, cells := 0, slots := 0, locals := 66 }) D cls0 (ty3 cA cR cL) [.ref xo, .int (nI r), .int (nI k)] (rw Rs cA ro la cap wd F) (some (.int (rSg (wd r) ((gShu r (wd r) (k / 32) (k % 32) (wd r) F) r)))) (fun w => w = rw Rs cA ro la cap wd (gShu r (wd r) (k / 32) (k % 32) (wd r) F)) 0 0 := by
  refine xCE.ofW (cc := b_X1_left) (maxL := 4) (ret := some .int) (by decide) rfl (Nat.le_of_ble_eq_true rfl) ?_
  intro p e s m below meth c A ls _ hx hb hr hml hown hts hlocks hA hK hN hT hZ hP hD hS hl
  have hts : ∀ w ∈ gw, w.before ([.ref xo, .int (nI r), .int (nI k)]).toArray s = true := fun w h => hts w (List.mem_cons_of_mem _ h)
  have hown : s.vm.findClass R_LR = some m.cls := hown
  have hl : lv_has ls 4 [(0, .ref xo), (1, .int (nI r)), (2, .int (nI k))] := hl
  refine lv_aload_n hx hb d_X1_left_0 rfl (lv_at hl 0 rfl) ?_
  refine lv_iload_n hx hb d_X1_left_1 rfl (lv_at hl 1 rfl) ?_
  refine x_callR (st1 := [.ref (ro r)]) (x_runV (As := [.int (nI r)]) (rest := []) (nL := 4) ⟨hx, hb, hml, hown, hts⟩ (c_X1_rowAt hxo hra (r := r) hr64 _) (cwV 1 hts (gw_V k_100 k_102 k_0 k_50 k_103) rfl rfl rfl (by decide +kernel) ⟨Nat.le_of_ble_eq_true rfl, Nat.le_of_ble_eq_true rfl⟩) hK hP hD _ 1 (rw_in hxo) rfl rfl hl.1 rfl (Nat.le_of_ble_eq_true rfl) d_X1_left_2 ⟨Nat.zero_le _, Nat.zero_le _⟩) rfl ?_
  refine lv_astore_n (lv' := [(3, .ref (ro r)), (0, .ref xo), (1, .int (nI r)), (2, .int (nI k))]) hx hb d_X1_left_5 rfl hl (by decide) rfl (fun ls hl => ?_)
  refine lv_iload_n hx hb d_X1_left_6 rfl (lv_at hl 3 rfl) ?_
  refine x_callR (st1 := []) (x_runS (As := [.int (nI k)]) (rest := []) (nL := 4) ⟨hx, hb, hml, hown, hts⟩ (c_X1_refuseShift hk8 _) (cwS 1 hts (gw_S k_376 k_377 k_50 k_378) rfl rfl rfl (by decide +kernel) ⟨Nat.le_of_ble_eq_true rfl, Nat.le_of_ble_eq_true rfl⟩) hK hP hD rfl hl.1 rfl (Nat.le_of_ble_eq_true rfl) d_X1_left_7 ⟨Nat.zero_le _, Nat.zero_le _⟩) rfl ?_
  refine lv_aload_n hx hb d_X1_left_10 rfl (lv_at hl 0 rfl) ?_
  refine lv_iload_n hx hb d_X1_left_11 rfl (lv_at hl 3 rfl) ?_
  refine x_call (st1 := []) (xn_runV (host := "LimbRows") (As := [.int (nI k)]) (rest := []) (nL := 4) ⟨hx, hb, hml, hown, hts⟩ (c_X0_shiftUp hw hr64 hk8 _) ⟨va_cnB 1 hts (gw_call k_383) rfl rfl rfl (hN.nw kt_380 rfl) (hts _ k_51) (by decide +kernel) ⟨Nat.le_of_ble_eq_true rfl, Nat.le_of_ble_eq_true rfl⟩, hts _ k_382, hts _ k_20⟩ hK hP hD _ 0 (rw_row hr64) rfl rfl hl.1 rfl (Nat.le_of_ble_eq_true rfl) d_X1_left_12 ⟨Nat.le_of_ble_eq_true rfl, Nat.le_of_ble_eq_true rfl⟩) hS (x_sub hD hS hA) (x_sub hD hS hA) rfl (fun w1 H locs hY hP hD hS => ?_)
  subst hY
  refine lv_aload_n hx hb d_X1_left_15 rfl (lv_at hl 0 rfl) ?_
  refine x_callR (st1 := [.int (rSg (wd r) ((gShu r (wd r) (k / 32) (k % 32) (wd r) F) r))]) (xn_runV (host := "LimbRows") (As := []) (rest := []) (nL := 4) ⟨hx, hb, hml, hown, hts⟩ (c_X0_signum hw hr64 _) ⟨va_cnB 0 hts (gw_call k_282) rfl rfl rfl (hN.nw kt_279 rfl) (hts _ k_51) (by decide +kernel) ⟨Nat.le_of_ble_eq_true rfl, Nat.le_of_ble_eq_true rfl⟩, hts _ k_281, hts _ k_9⟩ hK hP hD _ 0 (rw_row hr64) rfl rfl hl.1 rfl (Nat.le_of_ble_eq_true rfl) d_X1_left_16 ⟨Nat.le_of_ble_eq_true rfl, Nat.le_of_ble_eq_true rfl⟩) rfl ?_
  exact x_iret hx hb hr hlocks hP hD hS d_X1_left_19 rfl rfl
abbrev w_X1_right : List Cond := .code y_X1_right b_X1_right 4 (some .int) :: gw
set_option maxHeartbeats 800000 in
set_option maxRecDepth 100000 in
theorem c_X1_right {l : Launch} {D : va_G} {Rs : va_W} {cA cR cL : ClassId} {ro la cap wd : Nat → Nat} {F : Nat → Nat → Int32} {xo ra qx qa : Nat} (hxo : Rs[qx]? = some (xo, .inr (1, [.ref ra]))) (hra : Rs[qa]? = some (ra, .inl (cR, 64, .inr (.inr (.inr (.inr (fun i => if i < 64 then some (ro i) else none))))))) (hw : rwOk cap wd) {r : Nat} (hr64 : r < 64) {k : Nat} (hk8 : k ≤ 8192) : xCE l y_X1_right w_X1_right ({ frames := 3, cells := 0, slots := 0, locals := 66 }) D cls0 (ty3 cA cR cL) [.ref xo, .int (nI r), .int (nI k)] (rw Rs cA ro la cap wd F) (some (.int (rSg (wd r) ((gShd r (wd r) (k / 32) (k % 32) (wd r) 0 F) r)))) (fun w => w = rw Rs cA ro la cap wd (gShd r (wd r) (k / 32) (k % 32) (wd r) 0 F)) 0 0 := by
  refine xCE.ofW (cc := b_X1_right) (maxL := 4) (ret := some .int) (by decide) rfl (Nat.le_of_ble_eq_true rfl) ?_
  intro p e s m below meth c A ls _ hx hb hr hml hown hts hlocks hA hK hN hT hZ hP hD hS hl
  have hts : ∀ w ∈ gw, w.before ([.ref xo, .int (nI r), .int (nI k)]).toArray s = true := fun w h => hts w (List.mem_cons_of_mem _ h)
  have hown : s.vm.findClass R_LR = some m.cls := hown
  have hl : lv_has ls 4 [(0, .ref xo), (1, .int (nI r)), (2, .int (nI k))] := hl
  refine lv_aload_n hx hb d_X1_right_0 rfl (lv_at hl 0 rfl) ?_
  refine lv_iload_n hx hb d_X1_right_1 rfl (lv_at hl 1 rfl) ?_
  refine x_callR (st1 := [.ref (ro r)]) (x_runV (As := [.int (nI r)]) (rest := []) (nL := 4) ⟨hx, hb, hml, hown, hts⟩ (c_X1_rowAt hxo hra (r := r) hr64 _) (cwV 1 hts (gw_V k_100 k_102 k_0 k_50 k_103) rfl rfl rfl (by decide +kernel) ⟨Nat.le_of_ble_eq_true rfl, Nat.le_of_ble_eq_true rfl⟩) hK hP hD _ 1 (rw_in hxo) rfl rfl hl.1 rfl (Nat.le_of_ble_eq_true rfl) d_X1_right_2 ⟨Nat.zero_le _, Nat.zero_le _⟩) rfl ?_
  refine lv_astore_n (lv' := [(3, .ref (ro r)), (0, .ref xo), (1, .int (nI r)), (2, .int (nI k))]) hx hb d_X1_right_5 rfl hl (by decide) rfl (fun ls hl => ?_)
  refine lv_iload_n hx hb d_X1_right_6 rfl (lv_at hl 3 rfl) ?_
  refine x_callR (st1 := []) (x_runS (As := [.int (nI k)]) (rest := []) (nL := 4) ⟨hx, hb, hml, hown, hts⟩ (c_X1_refuseShift hk8 _) (cwS 1 hts (gw_S k_376 k_377 k_50 k_378) rfl rfl rfl (by decide +kernel) ⟨Nat.le_of_ble_eq_true rfl, Nat.le_of_ble_eq_true rfl⟩) hK hP hD rfl hl.1 rfl (Nat.le_of_ble_eq_true rfl) d_X1_right_7 ⟨Nat.zero_le _, Nat.zero_le _⟩) rfl ?_
  refine lv_aload_n hx hb d_X1_right_10 rfl (lv_at hl 0 rfl) ?_
  refine lv_iload_n hx hb d_X1_right_11 rfl (lv_at hl 3 rfl) ?_
  refine x_call (st1 := []) (xn_runV (host := "LimbRows") (As := [.int (nI k)]) (rest := []) (nL := 4) ⟨hx, hb, hml, hown, hts⟩ (c_X0_shiftDown hw hr64 hk8 _) ⟨va_cnB 1 hts (gw_call k_398) rfl rfl rfl (hN.nw kt_395 rfl) (hts _ k_51) (by decide +kernel) ⟨Nat.le_of_ble_eq_true rfl, Nat.le_of_ble_eq_true rfl⟩, hts _ k_397, hts _ k_22⟩ hK hP hD _ 0 (rw_row hr64) rfl rfl hl.1 rfl (Nat.le_of_ble_eq_true rfl) d_X1_right_12 ⟨Nat.le_of_ble_eq_true rfl, Nat.le_of_ble_eq_true rfl⟩) hS (x_sub hD hS hA) (x_sub hD hS hA) rfl (fun w1 H locs hY hP hD hS => ?_)
  subst hY
  refine lv_aload_n hx hb d_X1_right_15 rfl (lv_at hl 0 rfl) ?_
  refine x_callR (st1 := [.int (rSg (wd r) ((gShd r (wd r) (k / 32) (k % 32) (wd r) 0 F) r))]) (xn_runV (host := "LimbRows") (As := []) (rest := []) (nL := 4) ⟨hx, hb, hml, hown, hts⟩ (c_X0_signum hw hr64 _) ⟨va_cnB 0 hts (gw_call k_282) rfl rfl rfl (hN.nw kt_279 rfl) (hts _ k_51) (by decide +kernel) ⟨Nat.le_of_ble_eq_true rfl, Nat.le_of_ble_eq_true rfl⟩, hts _ k_281, hts _ k_9⟩ hK hP hD _ 0 (rw_row hr64) rfl rfl hl.1 rfl (Nat.le_of_ble_eq_true rfl) d_X1_right_16 ⟨Nat.le_of_ble_eq_true rfl, Nat.le_of_ble_eq_true rfl⟩) rfl ?_
  exact x_iret hx hb hr hlocks hP hD hS d_X1_right_19 rfl rfl
abbrev w_X1_nearest : List Cond := .code y_X1_nearest b_X1_nearest 5 (some .int) :: gw
set_option maxHeartbeats 800000 in
set_option maxRecDepth 100000 in
theorem c_X1_nearest_0 {l : Launch} {D : va_G} {Rs : va_W} {cA cR cL : ClassId} {ro la cap wd : Nat → Nat} {F : Nat → Nat → Int32} {xo ra qx qa : Nat} (hxo : Rs[qx]? = some (xo, .inr (1, [.ref ra]))) (hra : Rs[qa]? = some (ra, .inl (cR, 64, .inr (.inr (.inr (.inr (fun i => if i < 64 then some (ro i) else none))))))) (hw : rwOk cap wd) {r : Nat} (hr64 : r < 64) {k : Nat} (hk8 : k ≤ 8192) (hup : (rUp (wd r) (F r) k) = 0) : xCE l y_X1_nearest w_X1_nearest ({ frames := 3, cells := 0, slots := 0, locals := 66 }) D cls0 (ty3 cA cR cL) [.ref xo, .int (nI r), .int (nI k)] (rw Rs cA ro la cap wd F) (some (.int (rSg (wd r) ((gShd r (wd r) (k / 32) (k % 32) (wd r) 0 F) r)))) (fun w => w = rw Rs cA ro la cap wd (gShd r (wd r) (k / 32) (k % 32) (wd r) 0 F)) 0 0 := by
  refine xCE.ofW (cc := b_X1_nearest) (maxL := 5) (ret := some .int) (by decide) rfl (Nat.le_of_ble_eq_true rfl) ?_
  intro p e s m below meth c A ls _ hx hb hr hml hown hts hlocks hA hK hN hT hZ hP hD hS hl
  have hts : ∀ w ∈ gw, w.before ([.ref xo, .int (nI r), .int (nI k)]).toArray s = true := fun w h => hts w (List.mem_cons_of_mem _ h)
  have hown : s.vm.findClass R_LR = some m.cls := hown
  have hl : lv_has ls 5 [(0, .ref xo), (1, .int (nI r)), (2, .int (nI k))] := hl
  refine lv_aload_n hx hb d_X1_nearest_0 rfl (lv_at hl 0 rfl) ?_
  refine lv_iload_n hx hb d_X1_nearest_1 rfl (lv_at hl 1 rfl) ?_
  refine x_callR (st1 := [.ref (ro r)]) (x_runV (As := [.int (nI r)]) (rest := []) (nL := 5) ⟨hx, hb, hml, hown, hts⟩ (c_X1_rowAt hxo hra (r := r) hr64 _) (cwV 1 hts (gw_V k_100 k_102 k_0 k_50 k_103) rfl rfl rfl (by decide +kernel) ⟨Nat.le_of_ble_eq_true rfl, Nat.le_of_ble_eq_true rfl⟩) hK hP hD _ 1 (rw_in hxo) rfl rfl hl.1 rfl (Nat.le_of_ble_eq_true rfl) d_X1_nearest_2 ⟨Nat.zero_le _, Nat.zero_le _⟩) rfl ?_
  refine lv_astore_n (lv' := [(3, .ref (ro r)), (0, .ref xo), (1, .int (nI r)), (2, .int (nI k))]) hx hb d_X1_nearest_5 rfl hl (by decide) rfl (fun ls hl => ?_)
  refine lv_iload_n hx hb d_X1_nearest_6 rfl (lv_at hl 3 rfl) ?_
  refine x_callR (st1 := []) (x_runS (As := [.int (nI k)]) (rest := []) (nL := 5) ⟨hx, hb, hml, hown, hts⟩ (c_X1_refuseShift hk8 _) (cwS 1 hts (gw_S k_376 k_377 k_50 k_378) rfl rfl rfl (by decide +kernel) ⟨Nat.le_of_ble_eq_true rfl, Nat.le_of_ble_eq_true rfl⟩) hK hP hD rfl hl.1 rfl (Nat.le_of_ble_eq_true rfl) d_X1_nearest_7 ⟨Nat.zero_le _, Nat.zero_le _⟩) rfl ?_
  refine lv_aload_n hx hb d_X1_nearest_10 rfl (lv_at hl 0 rfl) ?_
  refine lv_iload_n hx hb d_X1_nearest_11 rfl (lv_at hl 3 rfl) ?_
  refine x_callR (st1 := [.int (rUp (wd r) (F r) k)]) (xn_runV (host := "LimbRows") (As := [.int (nI k)]) (rest := []) (nL := 5) ⟨hx, hb, hml, hown, hts⟩ (c_X0_roundsUp hw hr64 hk8 _) ⟨va_cnB 1 hts (gw_call k_409) rfl rfl rfl (hN.nw kt_406 rfl) (hts _ k_51) (by decide +kernel) ⟨Nat.le_of_ble_eq_true rfl, Nat.le_of_ble_eq_true rfl⟩, hts _ k_408, hts _ k_23⟩ hK hP hD _ 0 (rw_row hr64) rfl rfl hl.1 rfl (Nat.le_of_ble_eq_true rfl) d_X1_nearest_12 ⟨Nat.le_of_ble_eq_true rfl, Nat.le_of_ble_eq_true rfl⟩) rfl ?_
  refine lv_istore (lv' := [(4, .int (rUp (wd r) (F r) k)), (3, .ref (ro r)), (0, .ref xo), (1, .int (nI r)), (2, .int (nI k))]) hx hb d_X1_nearest_15 hl (by decide) rfl (fun ls hl => ?_)
  refine lv_aload_n hx hb d_X1_nearest_17 rfl (lv_at hl 1 rfl) ?_
  refine lv_iload_n hx hb d_X1_nearest_18 rfl (lv_at hl 4 rfl) ?_
  refine x_call (st1 := []) (xn_runV (host := "LimbRows") (As := [.int (nI k)]) (rest := []) (nL := 5) ⟨hx, hb, hml, hown, hts⟩ (c_X0_shiftDown hw hr64 hk8 _) ⟨va_cnB 1 hts (gw_call k_398) rfl rfl rfl (hN.nw kt_395 rfl) (hts _ k_51) (by decide +kernel) ⟨Nat.le_of_ble_eq_true rfl, Nat.le_of_ble_eq_true rfl⟩, hts _ k_397, hts _ k_22⟩ hK hP hD _ 0 (rw_row hr64) rfl rfl hl.1 rfl (Nat.le_of_ble_eq_true rfl) d_X1_nearest_19 ⟨Nat.le_of_ble_eq_true rfl, Nat.le_of_ble_eq_true rfl⟩) hS (x_sub hD hS hA) (x_sub hD hS hA) rfl (fun w1 H locs hY hP hD hS => ?_)
  subst hY
  refine lv_iload hx hb d_X1_nearest_22 (lv_at hl 0 rfl) ?_
  refine lv_if_eq (tgt := 31) hx hb d_X1_nearest_24 (by decide) (fun _ => ?_) (fun c9 => absurd hup c9)
  refine lv_aload_n hx hb d_X1_nearest_31 rfl (lv_at hl 1 rfl) ?_
  refine x_callR (st1 := [.int (rSg (wd r) ((gShd r (wd r) (k / 32) (k % 32) (wd r) 0 F) r))]) (xn_runV (host := "LimbRows") (As := []) (rest := []) (nL := 5) ⟨hx, hb, hml, hown, hts⟩ (c_X0_signum hw hr64 _) ⟨va_cnB 0 hts (gw_call k_282) rfl rfl rfl (hN.nw kt_279 rfl) (hts _ k_51) (by decide +kernel) ⟨Nat.le_of_ble_eq_true rfl, Nat.le_of_ble_eq_true rfl⟩, hts _ k_281, hts _ k_9⟩ hK hP hD _ 0 (rw_row hr64) rfl rfl hl.1 rfl (Nat.le_of_ble_eq_true rfl) d_X1_nearest_32 ⟨Nat.le_of_ble_eq_true rfl, Nat.le_of_ble_eq_true rfl⟩) rfl ?_
  exact x_iret hx hb hr hlocks hP hD hS d_X1_nearest_35 rfl rfl
set_option maxHeartbeats 800000 in
set_option maxRecDepth 100000 in
theorem c_X1_nearest_1 {l : Launch} {D : va_G} {Rs : va_W} {cA cR cL : ClassId} {ro la cap wd : Nat → Nat} {F : Nat → Nat → Int32} {xo ra qx qa : Nat} (hxo : Rs[qx]? = some (xo, .inr (1, [.ref ra]))) (hra : Rs[qa]? = some (ra, .inl (cR, 64, .inr (.inr (.inr (.inr (fun i => if i < 64 then some (ro i) else none))))))) (hw : rwOk cap wd) {r : Nat} (hr64 : r < 64) {k : Nat} (hk8 : k ≤ 8192) (hup : ¬ (rUp (wd r) (F r) k) = 0) : xCE l y_X1_nearest w_X1_nearest ({ frames := 3, cells := 0, slots := 0, locals := 66 }) D cls0 (ty3 cA cR cL) [.ref xo, .int (nI r), .int (nI k)] (rw Rs cA ro la cap wd F) (some (.int (rSg (wd r) ((gInc r (wd r) 0 (gShd r (wd r) (k / 32) (k % 32) (wd r) 0 F)) r)))) (fun w => w = rw Rs cA ro la cap wd (gInc r (wd r) 0 (gShd r (wd r) (k / 32) (k % 32) (wd r) 0 F))) 0 0 := by
  refine xCE.ofW (cc := b_X1_nearest) (maxL := 5) (ret := some .int) (by decide) rfl (Nat.le_of_ble_eq_true rfl) ?_
  intro p e s m below meth c A ls _ hx hb hr hml hown hts hlocks hA hK hN hT hZ hP hD hS hl
  have hts : ∀ w ∈ gw, w.before ([.ref xo, .int (nI r), .int (nI k)]).toArray s = true := fun w h => hts w (List.mem_cons_of_mem _ h)
  have hown : s.vm.findClass R_LR = some m.cls := hown
  have hl : lv_has ls 5 [(0, .ref xo), (1, .int (nI r)), (2, .int (nI k))] := hl
  refine lv_aload_n hx hb d_X1_nearest_0 rfl (lv_at hl 0 rfl) ?_
  refine lv_iload_n hx hb d_X1_nearest_1 rfl (lv_at hl 1 rfl) ?_
  refine x_callR (st1 := [.ref (ro r)]) (x_runV (As := [.int (nI r)]) (rest := []) (nL := 5) ⟨hx, hb, hml, hown, hts⟩ (c_X1_rowAt hxo hra (r := r) hr64 _) (cwV 1 hts (gw_V k_100 k_102 k_0 k_50 k_103) rfl rfl rfl (by decide +kernel) ⟨Nat.le_of_ble_eq_true rfl, Nat.le_of_ble_eq_true rfl⟩) hK hP hD _ 1 (rw_in hxo) rfl rfl hl.1 rfl (Nat.le_of_ble_eq_true rfl) d_X1_nearest_2 ⟨Nat.zero_le _, Nat.zero_le _⟩) rfl ?_
  refine lv_astore_n (lv' := [(3, .ref (ro r)), (0, .ref xo), (1, .int (nI r)), (2, .int (nI k))]) hx hb d_X1_nearest_5 rfl hl (by decide) rfl (fun ls hl => ?_)
  refine lv_iload_n hx hb d_X1_nearest_6 rfl (lv_at hl 3 rfl) ?_
  refine x_callR (st1 := []) (x_runS (As := [.int (nI k)]) (rest := []) (nL := 5) ⟨hx, hb, hml, hown, hts⟩ (c_X1_refuseShift hk8 _) (cwS 1 hts (gw_S k_376 k_377 k_50 k_378) rfl rfl rfl (by decide +kernel) ⟨Nat.le_of_ble_eq_true rfl, Nat.le_of_ble_eq_true rfl⟩) hK hP hD rfl hl.1 rfl (Nat.le_of_ble_eq_true rfl) d_X1_nearest_7 ⟨Nat.zero_le _, Nat.zero_le _⟩) rfl ?_
  refine lv_aload_n hx hb d_X1_nearest_10 rfl (lv_at hl 0 rfl) ?_
  refine lv_iload_n hx hb d_X1_nearest_11 rfl (lv_at hl 3 rfl) ?_
  refine x_callR (st1 := [.int (rUp (wd r) (F r) k)]) (xn_runV (host := "LimbRows") (As := [.int (nI k)]) (rest := []) (nL := 5) ⟨hx, hb, hml, hown, hts⟩ (c_X0_roundsUp hw hr64 hk8 _) ⟨va_cnB 1 hts (gw_call k_409) rfl rfl rfl (hN.nw kt_406 rfl) (hts _ k_51) (by decide +kernel) ⟨Nat.le_of_ble_eq_true rfl, Nat.le_of_ble_eq_true rfl⟩, hts _ k_408, hts _ k_23⟩ hK hP hD _ 0 (rw_row hr64) rfl rfl hl.1 rfl (Nat.le_of_ble_eq_true rfl) d_X1_nearest_12 ⟨Nat.le_of_ble_eq_true rfl, Nat.le_of_ble_eq_true rfl⟩) rfl ?_
  refine lv_istore (lv' := [(4, .int (rUp (wd r) (F r) k)), (3, .ref (ro r)), (0, .ref xo), (1, .int (nI r)), (2, .int (nI k))]) hx hb d_X1_nearest_15 hl (by decide) rfl (fun ls hl => ?_)
  refine lv_aload_n hx hb d_X1_nearest_17 rfl (lv_at hl 1 rfl) ?_
  refine lv_iload_n hx hb d_X1_nearest_18 rfl (lv_at hl 4 rfl) ?_
  refine x_call (st1 := []) (xn_runV (host := "LimbRows") (As := [.int (nI k)]) (rest := []) (nL := 5) ⟨hx, hb, hml, hown, hts⟩ (c_X0_shiftDown hw hr64 hk8 _) ⟨va_cnB 1 hts (gw_call k_398) rfl rfl rfl (hN.nw kt_395 rfl) (hts _ k_51) (by decide +kernel) ⟨Nat.le_of_ble_eq_true rfl, Nat.le_of_ble_eq_true rfl⟩, hts _ k_397, hts _ k_22⟩ hK hP hD _ 0 (rw_row hr64) rfl rfl hl.1 rfl (Nat.le_of_ble_eq_true rfl) d_X1_nearest_19 ⟨Nat.le_of_ble_eq_true rfl, Nat.le_of_ble_eq_true rfl⟩) hS (x_sub hD hS hA) (x_sub hD hS hA) rfl (fun w1 H locs hY hP hD hS => ?_)
  subst hY
  refine lv_iload hx hb d_X1_nearest_22 (lv_at hl 0 rfl) ?_
  refine lv_if_eq (tgt := 31) hx hb d_X1_nearest_24 (by decide) (fun c9 => absurd c9 hup) (fun _ => ?_)
  refine lv_aload_n hx hb d_X1_nearest_27 rfl (lv_at hl 1 rfl) ?_
  refine x_call (st1 := []) (xn_runV (host := "LimbRows") (As := []) (rest := []) (nL := 5) ⟨hx, hb, hml, hown, hts⟩ (c_X0_increment hw hr64 _) ⟨va_cnB 0 hts (gw_call k_368) rfl rfl rfl (hN.nw kt_421 rfl) (hts _ k_51) (by decide +kernel) ⟨Nat.le_of_ble_eq_true rfl, Nat.le_of_ble_eq_true rfl⟩, hts _ k_367, hts _ k_19⟩ hK hP hD _ 0 (rw_row hr64) rfl rfl hl.1 rfl (Nat.le_of_ble_eq_true rfl) d_X1_nearest_28 ⟨Nat.le_of_ble_eq_true rfl, Nat.le_of_ble_eq_true rfl⟩) hS (x_sub hD hS hA) (x_sub hD hS hA) rfl (fun w1 H locs hY hP hD hS => ?_)
  subst hY
  refine lv_aload_n hx hb d_X1_nearest_31 rfl (lv_at hl 1 rfl) ?_
  refine x_callR (st1 := [.int (rSg (wd r) ((gInc r (wd r) 0 (gShd r (wd r) (k / 32) (k % 32) (wd r) 0 F)) r))]) (xn_runV (host := "LimbRows") (As := []) (rest := []) (nL := 5) ⟨hx, hb, hml, hown, hts⟩ (c_X0_signum hw hr64 _) ⟨va_cnB 0 hts (gw_call k_282) rfl rfl rfl (hN.nw kt_279 rfl) (hts _ k_51) (by decide +kernel) ⟨Nat.le_of_ble_eq_true rfl, Nat.le_of_ble_eq_true rfl⟩, hts _ k_281, hts _ k_9⟩ hK hP hD _ 0 (rw_row hr64) rfl rfl hl.1 rfl (Nat.le_of_ble_eq_true rfl) d_X1_nearest_32 ⟨Nat.le_of_ble_eq_true rfl, Nat.le_of_ble_eq_true rfl⟩) rfl ?_
  exact x_iret hx hb hr hlocks hP hD hS d_X1_nearest_35 rfl rfl
abbrev w_X1_divide : List Cond := .code y_X1_divide b_X1_divide 5 (some .long) :: gw
set_option maxHeartbeats 800000 in
set_option maxRecDepth 100000 in
theorem c_X1_divide {l : Launch} {D : va_G} {Rs : va_W} {cA cR cL : ClassId} {ro la cap wd : Nat → Nat} {F : Nat → Nat → Int32} {xo ra qx qa : Nat} (hxo : Rs[qx]? = some (xo, .inr (1, [.ref ra]))) (hra : Rs[qa]? = some (ra, .inl (cR, 64, .inr (.inr (.inr (.inr (fun i => if i < 64 then some (ro i) else none))))))) (hw : rwOk cap wd) {r : Nat} (hr64 : r < 64) (v : Int64) (hd1 : ¬ (lg_cmp v 1) < 0) (hd2 : (lg_cmp v 4611686018427387903) ≤ 0) : xCE l y_X1_divide w_X1_divide ({ frames := 3, cells := 0, slots := 0, locals := 78 }) D cls0 (ty3 cA cR cL) [.ref xo, .int (nI r), .long v] (rw Rs cA ro la cap wd F) (some (.long (rDivB r (wd r) v F))) (fun w => w = rw Rs cA ro la cap wd (gDivB r (wd r) v F)) 0 0 := by
  refine xCE.ofW (cc := b_X1_divide) (maxL := 5) (ret := some .long) (by decide) rfl (Nat.le_of_ble_eq_true rfl) ?_
  intro p e s m below meth c A ls _ hx hb hr hml hown hts hlocks hA hK hN hT hZ hP hD hS hl
  have hts : ∀ w ∈ gw, w.before ([.ref xo, .int (nI r), .long v]).toArray s = true := fun w h => hts w (List.mem_cons_of_mem _ h)
  have hown : s.vm.findClass R_LR = some m.cls := hown
  have hl : lv_has ls 5 [(0, .ref xo), (1, .int (nI r)), (2, .long v)] := hl
  refine lv_aload_n hx hb d_X1_divide_0 rfl (lv_at hl 0 rfl) ?_
  refine lv_iload_n hx hb d_X1_divide_1 rfl (lv_at hl 1 rfl) ?_
  refine x_callR (st1 := [.ref (ro r)]) (x_runV (As := [.int (nI r)]) (rest := []) (nL := 5) ⟨hx, hb, hml, hown, hts⟩ (c_X1_rowAt hxo hra (r := r) hr64 _) (cwV 1 hts (gw_V k_100 k_102 k_0 k_50 k_103) rfl rfl rfl (by decide +kernel) ⟨Nat.le_of_ble_eq_true rfl, Nat.le_of_ble_eq_true rfl⟩) hK hP hD _ 1 (rw_in hxo) rfl rfl hl.1 rfl (Nat.le_of_ble_eq_true rfl) d_X1_divide_2 ⟨Nat.zero_le _, Nat.zero_le _⟩) rfl ?_
  refine lv_astore (lv' := [(4, .ref (ro r)), (0, .ref xo), (1, .int (nI r)), (2, .long v)]) hx hb d_X1_divide_5 hl (by decide) rfl (fun ls hl => ?_)
  refine lv_lload_n hx hb d_X1_divide_7 rfl (lv_at hl 3 rfl) ?_
  refine lv_lconst (v := 1) hx hb d_X1_divide_8 (by decide) ?_
  refine W.lcmp hx hb d_X1_divide_9 ?_
  refine lv_if_lt (tgt := 21) hx hb d_X1_divide_10 (by decide) (fun c9 => absurd c9 hd1) (fun _ => ?_)
  refine lv_lload_n hx hb d_X1_divide_13 rfl (lv_at hl 3 rfl) ?_
  refine lv_ldc2 (v := 4611686018427387903) hx hb hown (hts (.constantLong "LimbRows" 102 4611686018427387903) k_429) d_X1_divide_14 ?_
  refine W.lcmp hx hb d_X1_divide_17 ?_
  refine lv_if_le (tgt := 31) hx hb d_X1_divide_18 (by decide) (fun _ => ?_) (fun c9 => absurd hd2 c9)
  refine lv_aload hx hb d_X1_divide_31 (lv_at hl 0 rfl) ?_
  refine lv_lload_n hx hb d_X1_divide_33 rfl (lv_at hl 3 rfl) ?_
  refine x_call (st1 := [.long (rDivB r (wd r) v F)]) (xn_runV (host := "LimbRows") (As := [.long v]) (rest := []) (nL := 5) ⟨hx, hb, hml, hown, hts⟩ (c_X0_divideBy hw hr64 v _) ⟨va_cnB 1 hts (gw_call k_434) rfl rfl rfl (hN.nw kt_431 rfl) (hts _ k_51) (by decide +kernel) ⟨Nat.le_of_ble_eq_true rfl, Nat.le_of_ble_eq_true rfl⟩, hts _ k_433, hts _ k_26⟩ hK hP hD _ 0 (rw_row hr64) rfl rfl hl.1 rfl (Nat.le_of_ble_eq_true rfl) d_X1_divide_34 ⟨Nat.le_of_ble_eq_true rfl, Nat.le_of_ble_eq_true rfl⟩) hS (x_sub hD hS hA) (x_sub hD hS hA) rfl (fun w1 H locs hY hP hD hS => ?_)
  subst hY
  exact x_lret hx hb hr hlocks hP hD hS d_X1_divide_37 rfl rfl
abbrev w_X1_zeros : List Cond := .code y_X1_zeros b_X1_zeros 2 (some .int) :: gw
set_option maxHeartbeats 800000 in
set_option maxRecDepth 100000 in
theorem c_X1_zeros {l : Launch} {D : va_G} {Rs : va_W} {cA cR cL : ClassId} {ro la cap wd : Nat → Nat} {F : Nat → Nat → Int32} {xo ra qx qa : Nat} (hxo : Rs[qx]? = some (xo, .inr (1, [.ref ra]))) (hra : Rs[qa]? = some (ra, .inl (cR, 64, .inr (.inr (.inr (.inr (fun i => if i < 64 then some (ro i) else none))))))) (hw : rwOk cap wd) {r : Nat} (hr64 : r < 64) : xCE l y_X1_zeros w_X1_zeros ({ frames := 2, cells := 0, slots := 0, locals := 42 }) D cls0 (ty3 cA cR cL) [.ref xo, .int (nI r)] (rw Rs cA ro la cap wd F) (some (.int (rTz (wd r) (F r)))) (fun w => w = rw Rs cA ro la cap wd (F)) 0 0 := by
  refine xCE.ofW (cc := b_X1_zeros) (maxL := 2) (ret := some .int) (by decide) rfl (Nat.le_of_ble_eq_true rfl) ?_
  intro p e s m below meth c A ls _ hx hb hr hml hown hts hlocks hA hK hN hT hZ hP hD hS hl
  have hts : ∀ w ∈ gw, w.before ([.ref xo, .int (nI r)]).toArray s = true := fun w h => hts w (List.mem_cons_of_mem _ h)
  have hown : s.vm.findClass R_LR = some m.cls := hown
  have hl : lv_has ls 2 [(0, .ref xo), (1, .int (nI r))] := hl
  refine lv_aload_n hx hb d_X1_zeros_0 rfl (lv_at hl 0 rfl) ?_
  refine lv_iload_n hx hb d_X1_zeros_1 rfl (lv_at hl 1 rfl) ?_
  refine x_callR (st1 := [.ref (ro r)]) (x_runV (As := [.int (nI r)]) (rest := []) (nL := 2) ⟨hx, hb, hml, hown, hts⟩ (c_X1_rowAt hxo hra (r := r) hr64 _) (cwV 1 hts (gw_V k_100 k_102 k_0 k_50 k_103) rfl rfl rfl (by decide +kernel) ⟨Nat.le_of_ble_eq_true rfl, Nat.le_of_ble_eq_true rfl⟩) hK hP hD _ 1 (rw_in hxo) rfl rfl hl.1 rfl (Nat.le_of_ble_eq_true rfl) d_X1_zeros_2 ⟨Nat.zero_le _, Nat.zero_le _⟩) rfl ?_
  refine x_callR (st1 := [.int (rTz (wd r) (F r))]) (xn_runV (host := "LimbRows") (As := []) (rest := []) (nL := 2) ⟨hx, hb, hml, hown, hts⟩ (c_X0_trailingZeros hw hr64 _) ⟨va_cnB 0 hts (gw_call k_417) rfl rfl rfl (hN.nw kt_450 rfl) (hts _ k_51) (by decide +kernel) ⟨Nat.le_of_ble_eq_true rfl, Nat.le_of_ble_eq_true rfl⟩, hts _ k_416, hts _ k_25⟩ hK hP hD _ 0 (rw_row hr64) rfl rfl hl.1 rfl (Nat.le_of_ble_eq_true rfl) d_X1_zeros_5 ⟨Nat.le_of_ble_eq_true rfl, Nat.le_of_ble_eq_true rfl⟩) rfl ?_
  exact x_iret hx hb hr hlocks hP hD hS d_X1_zeros_8 rfl rfl
abbrev w_X1_length : List Cond := .code y_X1_length b_X1_length 2 (some .int) :: gw
set_option maxHeartbeats 800000 in
set_option maxRecDepth 100000 in
theorem c_X1_length {l : Launch} {D : va_G} {Rs : va_W} {cA cR cL : ClassId} {ro la cap wd : Nat → Nat} {F : Nat → Nat → Int32} {xo ra qx qa : Nat} (hxo : Rs[qx]? = some (xo, .inr (1, [.ref ra]))) (hra : Rs[qa]? = some (ra, .inl (cR, 64, .inr (.inr (.inr (.inr (fun i => if i < 64 then some (ro i) else none))))))) (hw : rwOk cap wd) {r : Nat} (hr64 : r < 64) : xCE l y_X1_length w_X1_length ({ frames := 2, cells := 0, slots := 0, locals := 43 }) D cls0 (ty3 cA cR cL) [.ref xo, .int (nI r)] (rw Rs cA ro la cap wd F) (some (.int (rBl (wd r) (F r)))) (fun w => w = rw Rs cA ro la cap wd (F)) 0 0 := by
  refine xCE.ofW (cc := b_X1_length) (maxL := 2) (ret := some .int) (by decide) rfl (Nat.le_of_ble_eq_true rfl) ?_
  intro p e s m below meth c A ls _ hx hb hr hml hown hts hlocks hA hK hN hT hZ hP hD hS hl
  have hts : ∀ w ∈ gw, w.before ([.ref xo, .int (nI r)]).toArray s = true := fun w h => hts w (List.mem_cons_of_mem _ h)
  have hown : s.vm.findClass R_LR = some m.cls := hown
  have hl : lv_has ls 2 [(0, .ref xo), (1, .int (nI r))] := hl
  refine lv_aload_n hx hb d_X1_length_0 rfl (lv_at hl 0 rfl) ?_
  refine lv_iload_n hx hb d_X1_length_1 rfl (lv_at hl 1 rfl) ?_
  refine x_callR (st1 := [.ref (ro r)]) (x_runV (As := [.int (nI r)]) (rest := []) (nL := 2) ⟨hx, hb, hml, hown, hts⟩ (c_X1_rowAt hxo hra (r := r) hr64 _) (cwV 1 hts (gw_V k_100 k_102 k_0 k_50 k_103) rfl rfl rfl (by decide +kernel) ⟨Nat.le_of_ble_eq_true rfl, Nat.le_of_ble_eq_true rfl⟩) hK hP hD _ 1 (rw_in hxo) rfl rfl hl.1 rfl (Nat.le_of_ble_eq_true rfl) d_X1_length_2 ⟨Nat.zero_le _, Nat.zero_le _⟩) rfl ?_
  refine x_callR (st1 := [.int (rBl (wd r) (F r))]) (xn_runV (host := "LimbRows") (As := []) (rest := []) (nL := 2) ⟨hx, hb, hml, hown, hts⟩ (c_X0_bitLength hw hr64 _) ⟨va_cnB 0 hts (gw_call k_316) rfl rfl rfl (hN.nw kt_458 rfl) (hts _ k_51) (by decide +kernel) ⟨Nat.le_of_ble_eq_true rfl, Nat.le_of_ble_eq_true rfl⟩, hts _ k_315, hts _ k_13⟩ hK hP hD _ 0 (rw_row hr64) rfl rfl hl.1 rfl (Nat.le_of_ble_eq_true rfl) d_X1_length_5 ⟨Nat.le_of_ble_eq_true rfl, Nat.le_of_ble_eq_true rfl⟩) rfl ?_
  exact x_iret hx hb hr hlocks hP hD hS d_X1_length_8 rfl rfl
abbrev w_X1_sign : List Cond := .code y_X1_sign b_X1_sign 2 (some .int) :: gw
set_option maxHeartbeats 800000 in
set_option maxRecDepth 100000 in
theorem c_X1_sign {l : Launch} {D : va_G} {Rs : va_W} {cA cR cL : ClassId} {ro la cap wd : Nat → Nat} {F : Nat → Nat → Int32} {xo ra qx qa : Nat} (hxo : Rs[qx]? = some (xo, .inr (1, [.ref ra]))) (hra : Rs[qa]? = some (ra, .inl (cR, 64, .inr (.inr (.inr (.inr (fun i => if i < 64 then some (ro i) else none))))))) (hw : rwOk cap wd) {r : Nat} (hr64 : r < 64) : xCE l y_X1_sign w_X1_sign ({ frames := 2, cells := 0, slots := 0, locals := 41 }) D cls0 (ty3 cA cR cL) [.ref xo, .int (nI r)] (rw Rs cA ro la cap wd F) (some (.int (rSg (wd r) (F r)))) (fun w => w = rw Rs cA ro la cap wd (F)) 0 0 := by
  refine xCE.ofW (cc := b_X1_sign) (maxL := 2) (ret := some .int) (by decide) rfl (Nat.le_of_ble_eq_true rfl) ?_
  intro p e s m below meth c A ls _ hx hb hr hml hown hts hlocks hA hK hN hT hZ hP hD hS hl
  have hts : ∀ w ∈ gw, w.before ([.ref xo, .int (nI r)]).toArray s = true := fun w h => hts w (List.mem_cons_of_mem _ h)
  have hown : s.vm.findClass R_LR = some m.cls := hown
  have hl : lv_has ls 2 [(0, .ref xo), (1, .int (nI r))] := hl
  refine lv_aload_n hx hb d_X1_sign_0 rfl (lv_at hl 0 rfl) ?_
  refine lv_iload_n hx hb d_X1_sign_1 rfl (lv_at hl 1 rfl) ?_
  refine x_callR (st1 := [.ref (ro r)]) (x_runV (As := [.int (nI r)]) (rest := []) (nL := 2) ⟨hx, hb, hml, hown, hts⟩ (c_X1_rowAt hxo hra (r := r) hr64 _) (cwV 1 hts (gw_V k_100 k_102 k_0 k_50 k_103) rfl rfl rfl (by decide +kernel) ⟨Nat.le_of_ble_eq_true rfl, Nat.le_of_ble_eq_true rfl⟩) hK hP hD _ 1 (rw_in hxo) rfl rfl hl.1 rfl (Nat.le_of_ble_eq_true rfl) d_X1_sign_2 ⟨Nat.zero_le _, Nat.zero_le _⟩) rfl ?_
  refine x_callR (st1 := [.int (rSg (wd r) (F r))]) (xn_runV (host := "LimbRows") (As := []) (rest := []) (nL := 2) ⟨hx, hb, hml, hown, hts⟩ (c_X0_signum hw hr64 _) ⟨va_cnB 0 hts (gw_call k_282) rfl rfl rfl (hN.nw kt_279 rfl) (hts _ k_51) (by decide +kernel) ⟨Nat.le_of_ble_eq_true rfl, Nat.le_of_ble_eq_true rfl⟩, hts _ k_281, hts _ k_9⟩ hK hP hD _ 0 (rw_row hr64) rfl rfl hl.1 rfl (Nat.le_of_ble_eq_true rfl) d_X1_sign_5 ⟨Nat.le_of_ble_eq_true rfl, Nat.le_of_ble_eq_true rfl⟩) rfl ?_
  exact x_iret hx hb hr hlocks hP hD hS d_X1_sign_8 rfl rfl
abbrev w_X1_compare : List Cond := .code y_X1_compare b_X1_compare 5 (some .int) :: gw
set_option maxHeartbeats 800000 in
set_option maxRecDepth 100000 in
theorem c_X1_compare {l : Launch} {D : va_G} {Rs : va_W} {cA cR cL : ClassId} {ro la cap wd : Nat → Nat} {F : Nat → Nat → Int32} {xo ra qx qa : Nat} (hxo : Rs[qx]? = some (xo, .inr (1, [.ref ra]))) (hra : Rs[qa]? = some (ra, .inl (cR, 64, .inr (.inr (.inr (.inr (fun i => if i < 64 then some (ro i) else none))))))) (hw : rwOk cap wd) {r a : Nat} (hr64 : r < 64) (ha64 : a < 64) : xCE l y_X1_compare w_X1_compare ({ frames := 2, cells := 0, slots := 0, locals := 47 }) D cls0 (ty3 cA cR cL) [.ref xo, .int (nI r), .int (nI a)] (rw Rs cA ro la cap wd F) (some (.int (rOrd (wd r) (wd a) (F r) (F a)))) (fun w => w = rw Rs cA ro la cap wd (F)) 0 0 := by
  refine xCE.ofW (cc := b_X1_compare) (maxL := 5) (ret := some .int) (by decide) rfl (Nat.le_of_ble_eq_true rfl) ?_
  intro p e s m below meth c A ls _ hx hb hr hml hown hts hlocks hA hK hN hT hZ hP hD hS hl
  have hts : ∀ w ∈ gw, w.before ([.ref xo, .int (nI r), .int (nI a)]).toArray s = true := fun w h => hts w (List.mem_cons_of_mem _ h)
  have hown : s.vm.findClass R_LR = some m.cls := hown
  have hl : lv_has ls 5 [(0, .ref xo), (1, .int (nI r)), (2, .int (nI a))] := hl
  refine lv_aload_n hx hb d_X1_compare_0 rfl (lv_at hl 0 rfl) ?_
  refine lv_iload_n hx hb d_X1_compare_1 rfl (lv_at hl 1 rfl) ?_
  refine x_callR (st1 := [.ref (ro r)]) (x_runV (As := [.int (nI r)]) (rest := []) (nL := 5) ⟨hx, hb, hml, hown, hts⟩ (c_X1_rowAt hxo hra (r := r) hr64 _) (cwV 1 hts (gw_V k_100 k_102 k_0 k_50 k_103) rfl rfl rfl (by decide +kernel) ⟨Nat.le_of_ble_eq_true rfl, Nat.le_of_ble_eq_true rfl⟩) hK hP hD _ 1 (rw_in hxo) rfl rfl hl.1 rfl (Nat.le_of_ble_eq_true rfl) d_X1_compare_2 ⟨Nat.zero_le _, Nat.zero_le _⟩) rfl ?_
  refine lv_astore_n (lv' := [(3, .ref (ro r)), (0, .ref xo), (1, .int (nI r)), (2, .int (nI a))]) hx hb d_X1_compare_5 rfl hl (by decide) rfl (fun ls hl => ?_)
  refine lv_aload_n hx hb d_X1_compare_6 rfl (lv_at hl 1 rfl) ?_
  refine lv_iload_n hx hb d_X1_compare_7 rfl (lv_at hl 3 rfl) ?_
  refine x_callR (st1 := [.ref (ro a)]) (x_runV (As := [.int (nI a)]) (rest := []) (nL := 5) ⟨hx, hb, hml, hown, hts⟩ (c_X1_rowAt hxo hra (r := a) ha64 _) (cwV 1 hts (gw_V k_100 k_102 k_0 k_50 k_103) rfl rfl rfl (by decide +kernel) ⟨Nat.le_of_ble_eq_true rfl, Nat.le_of_ble_eq_true rfl⟩) hK hP hD _ 1 (rw_in hxo) rfl rfl hl.1 rfl (Nat.le_of_ble_eq_true rfl) d_X1_compare_8 ⟨Nat.zero_le _, Nat.zero_le _⟩) rfl ?_
  refine lv_astore (lv' := [(4, .ref (ro a)), (3, .ref (ro r)), (0, .ref xo), (1, .int (nI r)), (2, .int (nI a))]) hx hb d_X1_compare_11 hl (by decide) rfl (fun ls hl => ?_)
  refine lv_aload_n hx hb d_X1_compare_13 rfl (lv_at hl 1 rfl) ?_
  refine lv_aload hx hb d_X1_compare_14 (lv_at hl 0 rfl) ?_
  refine x_callR (st1 := [.int (rOrd (wd r) (wd a) (F r) (F a))]) (xn_runV (host := "LimbRows") (As := [.ref (ro a)]) (rest := []) (nL := 5) ⟨hx, hb, hml, hown, hts⟩ (c_X0_order hw hr64 ha64 _) ⟨va_cnB 1 hts (gw_call k_476) rfl rfl rfl (hN.nw kt_473 rfl) (hts _ k_51) (by decide +kernel) ⟨Nat.le_of_ble_eq_true rfl, Nat.le_of_ble_eq_true rfl⟩, hts _ k_475, hts _ k_29⟩ hK hP hD _ 0 (rw_row hr64) rfl rfl hl.1 rfl (Nat.le_of_ble_eq_true rfl) d_X1_compare_16 ⟨Nat.le_of_ble_eq_true rfl, Nat.le_of_ble_eq_true rfl⟩) rfl ?_
  exact x_iret hx hb hr hlocks hP hD hS d_X1_compare_19 rfl rfl
