/-! The law from its entry. -/
theorem x_cL {D : va_G} {cA cR cL cL' : ClassId} {s : State} (hK : va_K D cls0 (ty3 cA cR cL) s) (hK' : va_K D cls0 (ty3 cA cR cL ++ [(cL', .long)]) s) : cL' = cL := by
  have e1 : s.vm.findClass ("[" ++ FieldType.long.toString) = some cL := (hK.2 2 _ rfl).2
  have e2 : s.vm.findClass ("[" ++ FieldType.long.toString) = some cL' := (hK'.2 3 (cL', .long) rfl).2
  exact Option.some.inj (e2.symm.trans e1)
theorem st_env {s : State} {b : Nat} (hts : ∀ w ∈ lw_tbl, w.before #[Value.ref b] s = true) (hgv : (Jvm.Cond.and given_1 narrow_1).before #[Value.ref b] s = true) : xN s ∧ xT s ∧ xZ (fun q => s.heap.size ≤ q) s s.heap := by
  have hs := flat_of_before _ hgv
  have hno : ∀ a : Nat, a < s.heap.size → ¬ (fun q => s.heap.size ≤ q) a := fun a h q => absurd h (Nat.not_lt.mpr q)
  refine ⟨fun w hw hf => va_tabs (fw_tab hf) rfl (hts w hw), ⟨fun k tx hm => ?_, va_AO.of (hts _ (List.mem_of_getElem? kt_71)), va_Nc.of (hs _ (by decide +kernel))⟩, ?_, ?_⟩
  · obtain ⟨cC, kC, hfc, -⟩ := Cond.instantiable_spec (hts _ (gw_tbl k_63))
    obtain ⟨_, _, _, a, _, _, _, _, _, hev⟩ := Cond.stringRef_spec hfc (hts _ hm)
    exact ⟨a, vk_R.of (hts _ hm) hev⟩
  · exact vx_Zqof (hts _ (List.mem_of_getElem? kt_131)) (hts _ (gw_tbl k_53)) (hs _ (by decide +kernel)) hno
  · exact vx_Zqof (hts _ (List.mem_of_getElem? kt_133)) (hts _ (gw_tbl k_53)) (hs _ (by decide +kernel)) hno
theorem st_K {s : State} {args : Array Value} (hts : ∀ w ∈ gw, w.before args s = true) (hT : xT s) : ∃ (D : va_G) (cA cR cL : ClassId), va_K D cls0 (ty3 cA cR cL) s := by
  obtain ⟨c0, i0, h0⟩ := u_known (C := R_Row) (T := T_Row) (N := 2) hts i_Row (hts _ k_72)
  obtain ⟨c1, i1, h1⟩ := u_known (C := R_LR) (T := T_LR) (N := 1) hts i_LR (hts _ k_63)
  obtain ⟨c2, i2, h2⟩ := u_known (C := R_Md) (T := T_Md) (N := 5) hts i_Md (hts _ k_481)
  obtain ⟨cA, kA, pA, a1, a2, a3⟩ := Cond.arrayClass_spec (hts _ k_86)
  obtain ⟨cL, kL, pL, l1, l2, l3⟩ := Cond.arrayClass_spec (hts _ k_674)
  obtain ⟨pR, cR, kR, r1, -, r3, r4, r5⟩ := Cond.arrayOver_spec hT.2.1
  refine ⟨(fun c => if c = 0 then c0 else if c = 1 then c1 else c2, fun c => if c = 0 then i0 else if c = 1 then i1 else i2), cA, cR, cL, fun c q hq => ?_, fun k q hk => ?_⟩
  · have hc : c < 3 := (List.getElem?_eq_some_iff.mp hq).1
    rcases (show c = 0 ∨ c = 1 ∨ c = 2 by omega) with rfl | rfl | rfl <;> cases hq
    · exact h0
    · exact h1
    · exact h2
  · have hc : k < 3 := (List.getElem?_eq_some_iff.mp hk).1
    rcases (show k = 0 ∨ k = 1 ∨ k = 2 by omega) with rfl | rfl | rfl <;> cases hk
    · exact ⟨fun n z => ⟨fun k h => (by cases h), kA, a2, pA, a3⟩, a1⟩
    · exact ⟨fun n z => ⟨fun k h => (by cases h), kR, r3, pR, r4⟩, kR, pR, r3, r4, r1, r5⟩
    · exact ⟨fun n z => ⟨fun k h => (by cases h), kL, l2, pL, l3⟩, l1⟩
def X2c (cR : ClassId) (xo ra : Nat) (ro : Nat → Nat) : va_W := [(xo, .inr (1, [.ref ra])), (ra, .inl (cR, 64, .inr (.inr (.inr (.inr (fun i => if i < 64 then some (ro i) else none))))))]
def O1c (cL : ClassId) (ou : Nat) (fo : Nat → Int64) : va_W := [(ou, .inl (cL, 1, .inr (.inl fo)))]
theorem st_perm {cA cR cL : ClassId} {h aw ar ag az : Nat} {cd : Int32} {w g : Nat → Nat} {sg : Nat → Int32} {z : Nat → Nat} {xo ra ou : Nat} {fo : Nat → Int64} {ro la cap wd : Nat → Nat} {F : Nat → Nat → Int32} :
    (md cA h aw ar ag az cd w g sg z (rw (X2c cR xo ra ro) cA ro la cap wd F) ++ O1c cL ou fo).Perm (lW cA cR cL h aw ar ag az cd w g sg z xo ra ou fo ro la cap wd F) := by
  have key : ∀ R : va_W, (X2c cR xo ra ro ++ R ++ O1c cL ou fo).Perm (X3 cR cL xo ra ou fo ro ++ R) := by
    intro R
    rw [List.append_assoc]
    exact List.Perm.append_left (X2c cR xo ra ro) (List.perm_append_comm (l₂ := O1c cL ou fo))
  exact List.Perm.append_left (md cA h aw ar ag az cd w g sg z []) (key _)
theorem st_LI {cA cR cL : ClassId} {h aw ar ag az xo ra ou : Nat} {ro la : Nat → Nat} {fo : Nat → Int64} : LI cA cR cL h xo ou (lW cA cR cL h aw ar ag az (nI 0) (fun j => if j < 64 then 1 else 0) (fun _ => 0) (fun _ => nI 0) (fun _ => 0) xo ra ou fo ro la (fun _ => 1) (fun _ => 1) (fun _ _ => 0)) := by
  refine ⟨aw, ar, ag, az, nI 0, _, _, _, _, ra, fo, ro, la, _, _, _, fun _ => 0, rfl, ⟨fun r hr => ?_, fun _ => (show 0 < 65536 by decide), fun _ => (show 0 < 65536 by decide)⟩, fun _ _ => (show 1 ≤ 1 ∧ 1 ≤ 1 ∧ 1 ≤ 256 by decide), fun r hr => ?_, fun r hr j hj => ?_, fun r hr k hk => ?_, fun r hr => ?_⟩
  · show 1 ≤ (if r < 64 then 1 else 0) ∧ (if r < 64 then 1 else 0) ≤ 256
    rw [if_pos hr]; decide
  · show 1 = (if r < 64 then 1 else 0)
    rw [if_pos hr]
  · rw [lm_0]; rfl
  · rw [lm_0]; rfl
  · show cN bB (if r < 64 then 1 else 0) 0
    rw [if_pos hr]
    unfold cN
    have := lm_pw bB0 1
    omega
set_option maxHeartbeats 1600000 in
set_option maxRecDepth 100000 in
theorem law_start {p : Program} {l : Launch} {e : Env} {s : State} {m : MethodId} {below : List Frame} {meth : Method} {c : Code} {b L : Nat} {xs : Nat → Int32} (hst : l.stackTraces = false) (hx : p.tables.exec = Jvm.exec) (hb : c.code = code) (hr : meth.sig.returnType = ret) (hml : c.maxLocals = 8) (hown : s.vm.findClass "LimbRowsLaw" = some m.cls) (hts0 : ∀ w ∈ lw_tbl, w.before #[Value.ref b] s = true) (hlocks : meth.locks = false) (hX : va_X b L xs s s.heap) (hbl : b < s.heap.size) (hL : L ≤ 2048) (hgv : (Jvm.Cond.and given_1 narrow_1).before #[Value.ref b] s = true) {ls : Array Slot} (hl : lv_has ls 8 [(0, .ref b)]) :
    W p l e room_1 s m #[Value.ref b] below meth c s.heap [] 0 0 (lw_Z below #[Value.ref b] s) (F0 m 0 ls []) := by
  have hts : ∀ w ∈ gw, w.before #[Value.ref b] s = true := fun w hw => hts0 w (gw_tbl hw)
  obtain ⟨hN, hT, hZ⟩ := st_env hts0 hgv
  obtain ⟨D, cA, cR, cL, hK⟩ := st_K hts hT
  have hA : ∀ q : Nat, s.heap.size ≤ q → (fun q => s.heap.size ≤ q) q := fun _ h => h
  have hP : va_P D cls0 [] s.heap := fun k q hk => by cases hk
  have hD : va_D (fun q => s.heap.size ≤ q) [] := ⟨fun i j p q hi => (by cases hi), fun k q hk => (by cases hk)⟩
  have hS : va_S (fun q => s.heap.size ≤ q) s.heap s.heap [] := va_S.rf
  refine va_new (D := D) (ci := 1) (C := R_LR) (T := T_LR) (N := 1) (own := "LimbRowsLaw") (fs := [.null]) hx hb hts i_LR t_LR t_LR_ok hown (hts _ k_62) (hts _ k_63) (hts _ k_50) hK hP hD hS hA rfl (fun j hj => by rcases (show j = 0 by omega) with rfl; rfl) (Nat.le_of_ble_eq_true rfl) (Nat.le_of_ble_eq_true rfl) d_L_law_0 (fun xo H hP hD hS => ?_)
  refine lv_dup hx hb d_L_law_3 rfl ?_
  refine x_call (st1 := [.ref xo]) (va_runI (As := []) (rest := [.ref xo]) (nL := 8) ⟨hx, hb, hml, hown, hts⟩ (c_X1_init (Rs := []) (h := xo) _) (cwI 0 hts (gw_call k_66) rfl rfl rfl (hts _ k_50) (hts _ k_64) (hts _ k_65) rfl (by decide +kernel) ⟨Nat.le_of_ble_eq_true rfl, Nat.le_of_ble_eq_true rfl⟩) ⟨xe_blind, xe_pre hK hN hT hZ hP hD hS (x_sub hD hS hA)⟩ rfl rfl hl.1 rfl (lv_room (Nat.le_of_ble_eq_true rfl)) d_L_law_4 ⟨Nat.le_of_ble_eq_true rfl, Nat.le_of_ble_eq_true rfl⟩) hS (x_sub hD hS hA) (x_sub hD hS hA) rfl (fun w1 H locs hY hP hD hS => ?_)
  obtain ⟨ra, ro, la, rfl⟩ := hY
  refine lv_astore_n (lv' := [(1, .ref xo), (0, .ref b)]) hx hb d_L_law_7 rfl hl (by decide) rfl (fun ls hl => ?_)
  refine va_new (D := D) (ci := 2) (C := R_Md) (T := T_Md) (N := 5) (own := "LimbRowsLaw") (fs := [.int (nI 0), .null, .null, .null, .null]) hx hb hts i_Md t_Md t_Md_ok hown (hts _ k_480) (hts _ k_481) (hts _ k_52) hK hP hD hS hA rfl (fun j hj => by rcases (show j = 0 ∨ j = 1 ∨ j = 2 ∨ j = 3 ∨ j = 4 by omega) with rfl | rfl | rfl | rfl | rfl <;> rfl) (Nat.le_of_ble_eq_true rfl) (Nat.le_of_ble_eq_true rfl) d_L_law_8 (fun h H hP hD hS => ?_)
  refine lv_dup hx hb d_L_law_11 rfl ?_
  refine x_call (st1 := [.ref h]) (va_runI (As := []) (rest := [.ref h]) (nL := 8) ⟨hx, hb, hml, hown, hts⟩ (c_X2_init (cR := cR) (cL := cL) (h := h) _) (cwI 0 hts (gw_call k_484) rfl rfl rfl (hts _ k_52) (hts _ k_482) (hts _ k_483) rfl (by decide +kernel) ⟨Nat.le_of_ble_eq_true rfl, Nat.le_of_ble_eq_true rfl⟩) ⟨x_blind, x_pre hK hP hD⟩ rfl rfl hl.1 rfl (lv_room (Nat.le_of_ble_eq_true rfl)) d_L_law_12 ⟨Nat.le_of_ble_eq_true rfl, Nat.le_of_ble_eq_true rfl⟩) hS (x_sub hD hS hA) (x_sub hD hS hA) rfl (fun w1 H locs hY hP hD hS => ?_)
  obtain ⟨aw, ar, ag, az, rfl⟩ := hY
  refine lv_astore_n (lv' := [(2, .ref h), (1, .ref xo), (0, .ref b)]) hx hb d_L_law_15 rfl hl (by decide) rfl (fun ls hl => ?_)
  refine lv_iconst (v := nI 1) hx hb d_L_law_16 (by decide) ?_
  refine va_newa (atype := .long) (ty := .long) (a0 := (1, .inr (.inl (fun _ => 0)))) hx hb (hts _ k_674) rfl hK hP hD hS hA (fun cA => rfl) (by decide) (by decide) (by decide) (Nat.le_of_ble_eq_true rfl) (Nat.le_of_ble_eq_true rfl) d_L_law_17 (fun ou cL' H hK' hP hD hS => ?_)
  have hcc : cL' = cL := x_cL hK hK'
  subst hcc
  have hP : va_P D cls0 (lW cA cR cL' h aw ar ag az (nI 0) (fun j => if j < 64 then 1 else 0) (fun _ => 0) (fun _ => nI 0) (fun _ => 0) xo ra ou (fun _ => 0) ro la (fun _ => 1) (fun _ => 1) (fun _ _ => 0)) H := va_P_perm hP st_perm
  have hD : va_D (fun q => s.heap.size ≤ q) (lW cA cR cL' h aw ar ag az (nI 0) (fun j => if j < 64 then 1 else 0) (fun _ => 0) (fun _ => nI 0) (fun _ => 0) xo ra ou (fun _ => 0) ro la (fun _ => 1) (fun _ => 1) (fun _ _ => 0)) := va_D_perm hD st_perm
  refine lv_astore_n (lv' := [(3, .ref ou), (2, .ref h), (1, .ref xo), (0, .ref b)]) hx hb d_L_law_19 rfl hl (by decide) rfl (fun ls hl => ?_)
  refine lv_iconst (v := nI 0) hx hb d_L_law_20 (by decide) ?_
  refine lv_istore (lv' := [(4, .int (nI 0)), (3, .ref ou), (2, .ref h), (1, .ref xo), (0, .ref b)]) hx hb d_L_law_21 hl (by decide) rfl (fun ls hl => ?_)
  exact law_loop hst hx hb hr hml hown hts hlocks hK hN hT hZ hX hbl hL 512 0 _ _ _ _ ls _ (by omega) (by decide) (Nat.le_of_ble_eq_true rfl) (Nat.le_of_ble_eq_true rfl) st_LI hP hD hS (lv_sub hl [4, 3, 2, 1, 0] rfl)
