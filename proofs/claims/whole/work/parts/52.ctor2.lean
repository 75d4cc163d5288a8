abbrev w_X2_init : List Cond := .code y_X2_init b_X2_init 2 none :: gw
set_option maxHeartbeats 800000 in
set_option maxRecDepth 100000 in
theorem lp_X2_init {p : Program} {l : Launch} {e : Env} {s : State} {m : MethodId} {args : Array Value} {below : List Frame} {meth : Method} {c : Code} {D : va_G} {Rs : va_W} {cA cR cL : ClassId} {h aw ar ag az : Nat} {A : Nat → Prop} (hx : p.tables.exec = Jvm.exec) (hb : c.code = b_X2_init) (hr : meth.sig.returnType = none) (hml : c.maxLocals = 2) (hown : s.vm.findClass R_Md = some m.cls) (hts : ∀ w ∈ gw, w.before args s = true) (hlocks : meth.locks = false) (hA : ∀ q : Nat, s.heap.size ≤ q → A q) (hK : va_K D cls0 (ty3 cA cR cL) s) : ∀ (n k : Nat), n = 64 - k → k ≤ 64 → ∀ (H : Heap) (locs : List Loc), va_P D cls0 (md cA h aw ar ag az (nI 0) (fun j => if j < k then 1 else 0) (fun _ => 0) (fun _ => nI 0) (fun _ => 0) Rs) H → va_D A (md cA h aw ar ag az (nI 0) (fun j => if j < k then 1 else 0) (fun _ => 0) (fun _ => nI 0) (fun _ => 0) Rs) → va_S A s.heap H locs → ∀ (ls : Array Slot), lv_has ls 2 [(0, .ref h), (1, .int (nI k))] → W p l e ({ frames := 1, cells := 4, slots := 36135, locals := 12 }) s m args below meth c H locs 4 36135 (MQ below (xQ none (xB D cls0 A (fun w1 => ∃ aw ar ag az : Nat, w1 = md cA h aw ar ag az (nI 0) (fun j => if j < 64 then 1 else 0) (fun _ => 0) (fun _ => nI 0) (fun _ => 0) Rs)) A) args s 4 36135 A) (F0 m 38 ls []) := by
  intro n
  induction n with
  | zero =>
    intro k hn hk H locs hP hD hS ls hl
    have hk64 : k = 64 := by omega
    subst hk64
    refine lv_iload_n hx hb d_X2_init_38 rfl (lv_at hl 1 rfl) ?_
    refine lv_bipush (v := nI 64) hx hb d_X2_init_39 (by decide) ?_
    refine n_icmp_ge (tgt := 57) hx hb d_X2_init_41 (by decide) (by omega) (by omega) (fun _ => ?_) (fun c9 => absurd c9 (by omega))
    exact x_vret hx hb hr hlocks hP hD hS d_X2_init_57 rfl ⟨aw, ar, ag, az, rfl⟩
  | succ n ih =>
    intro k hn hk H locs hP hD hS ls hl
    refine lv_iload_n hx hb d_X2_init_38 rfl (lv_at hl 1 rfl) ?_
    refine lv_bipush (v := nI 64) hx hb d_X2_init_39 (by decide) ?_
    refine n_icmp_ge (tgt := 57) hx hb d_X2_init_41 (by decide) (by omega) (by omega) (fun c9 => absurd c9 (by omega)) (fun _ => ?_)
    refine lv_aload_n hx hb d_X2_init_44 rfl (lv_at hl 0 rfl) ?_
    refine m_getW hx hb hts hown hK hP d_X2_init_45 ?_
    refine lv_iload_n hx hb d_X2_init_48 rfl (lv_at hl 1 rfl) ?_
    refine lv_iconst (v := nI 1) hx hb d_X2_init_49 (by decide) ?_
    refine m_astW hx hb hK hP hD hS (j := k) (v := 1) (by omega) d_X2_init_50 (fun H locs hP hD hS => ?_)
    have e : va_up (fun j => if j < k then 1 else 0) k 1 = fun j => if j < k + 1 then 1 else 0 := by
      funext j
      unfold va_up
      by_cases e1 : j = k
      · simp [e1]
      · by_cases h1 : j < k
        · simp [e1, h1, show j < k + 1 by omega]
        · simp [e1, h1, show ¬ j < k + 1 by omega]
    rw [e] at hP hD
    refine n_iinc (lv' := [(1, .int (nI (k + 1))), (0, .ref h)]) hx hb d_X2_init_51 hl (k := 1) rfl (by decide) rfl (fun ls hl => ?_)
    refine lv_goto (tgt := 38) hx hb d_X2_init_54 (by decide) ?_
    exact ih (k + 1) (by omega) (by omega) H locs hP hD hS ls (lv_sub hl [1, 0] rfl)
set_option maxHeartbeats 800000 in
set_option maxRecDepth 100000 in
theorem c_X2_init {l : Launch} {D : va_G} {Rs : va_W} {cA cR cL : ClassId} {h : Nat} : xC l y_X2_init w_X2_init ({ frames := 1, cells := 4, slots := 36135, locals := 12 }) D cls0 (ty3 cA cR cL) [.ref h] (Rs ++ [(h, .inr (2, [.int (nI 0), .null, .null, .null, .null]))]) none (fun w1 => ∃ aw ar ag az : Nat, w1 = md cA h aw ar ag az (nI 0) (fun j => if j < 64 then 1 else 0) (fun _ => 0) (fun _ => nI 0) (fun _ => 0) Rs) 4 36135 := by
  refine xC.ofW (cc := b_X2_init) (maxL := 2) (ret := none) (by decide) rfl (Nat.le_of_ble_eq_true rfl) ?_
  intro p e s m below meth c A ls _ hin hx hb hr hml hown hts hlocks hA hK hP hD hS hl
  have hts : ∀ w ∈ gw, w.before ([.ref h]).toArray s = true := fun w h => hts w (List.mem_cons_of_mem _ h)
  have hl : lv_has ls 2 [(0, .ref h)] := hl
  have hown : s.vm.findClass R_Md = some m.cls := hown
  refine lv_aload_n hx hb d_X2_init_0 rfl (lv_at hl 0 rfl) ?_
  refine W.objInit hx hb hown (hts (.methodLink "LimbRowsModel" 1 oI) k_485) (hts (.instanceMethod oI) k_68) (hts _ k_69) rfl (by rw [hml]; exact hl.1) rfl d_X2_init_1 (Nat.le_of_ble_eq_true rfl) (Nat.le_of_ble_eq_true rfl) ?_
  refine W.eq (g2 := F0 m 4 ls []) rfl ?_
  refine lv_aload_n hx hb d_X2_init_4 rfl (lv_at hl 0 rfl) ?_
  refine lv_bipush (v := nI 64) hx hb d_X2_init_5 (by decide) ?_
  refine x_newi hx hb hts hK hP hD hS hA (N := 64) (by decide) (Nat.le_of_ble_eq_true rfl) (Nat.le_of_ble_eq_true rfl) d_X2_init_7 (fun aw H hP hD hS => ?_)
  have hP : va_P D cls0 (Rs ++ [(h, (.inr (2, [.int (nI 0), .null, .null, .null, .null]) : va_E)), (aw, (.inl (cA, 64, .inl (fun _ => 0)) : va_E))]) H := by have h9 := hP; rw [List.append_assoc] at h9; exact h9
  have hD : va_D A (Rs ++ [(h, (.inr (2, [.int (nI 0), .null, .null, .null, .null]) : va_E)), (aw, (.inl (cA, 64, .inl (fun _ => 0)) : va_E))]) := by have h9 := hD; rw [List.append_assoc] at h9; exact h9
  have hg : (Rs ++ [(h, (.inr (2, [.int (nI 0), .null, .null, .null, .null]) : va_E)), (aw, (.inl (cA, 64, .inl (fun _ => 0)) : va_E))])[Rs.length]? = some (h, .inr (2, [.int (nI 0), .null, .null, .null, .null])) := by
    rw [List.getElem?_append_right (Nat.le_refl _), Nat.sub_self]
    rfl
  refine va_putF (D := D) (ci := 2) (v := .ref aw) (ty := .array .int) (C := R_Md) (T := T_Md) (N := 5) (own := R_Md) (ref := "LimbRowsModel") hx hb hts i_Md t_Md t_Md_ok n_Md hown hK hP hD hS Rs.length hg rfl 1 (by decide) (hts (.fieldLink R_Md 7 "LimbRowsModel" "widths" "[I") k_488) (fun _ h9 => h9) rfl hin rfl (by decide +kernel) rfl rfl (Nat.le_of_ble_eq_true rfl) d_X2_init_9 (fun H locs hP hD hS => ?_)
  have hP : va_P D cls0 (Rs ++ [(h, (.inr (2, [.int (nI 0), .ref aw, .null, .null, .null]) : va_E)), (aw, (.inl (cA, 64, .inl (fun _ => 0)) : va_E))]) H := by have h9 := hP; rw [List.set_append_right _ _ (Nat.le_refl _), Nat.sub_self] at h9; exact h9
  have hD : va_D A (Rs ++ [(h, (.inr (2, [.int (nI 0), .ref aw, .null, .null, .null]) : va_E)), (aw, (.inl (cA, 64, .inl (fun _ => 0)) : va_E))]) := by have h9 := hD; rw [List.set_append_right _ _ (Nat.le_refl _), Nat.sub_self] at h9; exact h9
  refine lv_aload_n hx hb d_X2_init_12 rfl (lv_at hl 0 rfl) ?_
  refine lv_ldc (v := nI 32768) hx hb hown (hts (.constant "LimbRowsModel" 13 (nI 32768)) (show Cond.constant "LimbRowsModel" 13 32768 ∈ gw from k_486)) d_X2_init_13 ?_
  refine x_newi hx hb hts hK hP hD hS hA (N := 32768) (by decide) (Nat.le_of_ble_eq_true rfl) (Nat.le_of_ble_eq_true rfl) d_X2_init_15 (fun ar H hP hD hS => ?_)
  have hP : va_P D cls0 (Rs ++ [(h, (.inr (2, [.int (nI 0), .ref aw, .null, .null, .null]) : va_E)), (aw, (.inl (cA, 64, .inl (fun _ => 0)) : va_E)), (ar, (.inl (cA, 32768, .inl (fun _ => 0)) : va_E))]) H := by have h9 := hP; rw [List.append_assoc] at h9; exact h9
  have hD : va_D A (Rs ++ [(h, (.inr (2, [.int (nI 0), .ref aw, .null, .null, .null]) : va_E)), (aw, (.inl (cA, 64, .inl (fun _ => 0)) : va_E)), (ar, (.inl (cA, 32768, .inl (fun _ => 0)) : va_E))]) := by have h9 := hD; rw [List.append_assoc] at h9; exact h9
  have hg : (Rs ++ [(h, (.inr (2, [.int (nI 0), .ref aw, .null, .null, .null]) : va_E)), (aw, (.inl (cA, 64, .inl (fun _ => 0)) : va_E)), (ar, (.inl (cA, 32768, .inl (fun _ => 0)) : va_E))])[Rs.length]? = some (h, .inr (2, [.int (nI 0), .ref aw, .null, .null, .null])) := by
    rw [List.getElem?_append_right (Nat.le_refl _), Nat.sub_self]
    rfl
  refine va_putF (D := D) (ci := 2) (v := .ref ar) (ty := .array .int) (C := R_Md) (T := T_Md) (N := 5) (own := R_Md) (ref := "LimbRowsModel") hx hb hts i_Md t_Md t_Md_ok n_Md hown hK hP hD hS Rs.length hg rfl 2 (by decide) (hts (.fieldLink R_Md 14 "LimbRowsModel" "rows" "[I") k_489) (fun _ h9 => h9) rfl hin rfl (by decide +kernel) rfl rfl (Nat.le_of_ble_eq_true rfl) d_X2_init_17 (fun H locs hP hD hS => ?_)
  have hP : va_P D cls0 (Rs ++ [(h, (.inr (2, [.int (nI 0), .ref aw, .ref ar, .null, .null]) : va_E)), (aw, (.inl (cA, 64, .inl (fun _ => 0)) : va_E)), (ar, (.inl (cA, 32768, .inl (fun _ => 0)) : va_E))]) H := by have h9 := hP; rw [List.set_append_right _ _ (Nat.le_refl _), Nat.sub_self] at h9; exact h9
  have hD : va_D A (Rs ++ [(h, (.inr (2, [.int (nI 0), .ref aw, .ref ar, .null, .null]) : va_E)), (aw, (.inl (cA, 64, .inl (fun _ => 0)) : va_E)), (ar, (.inl (cA, 32768, .inl (fun _ => 0)) : va_E))]) := by have h9 := hD; rw [List.set_append_right _ _ (Nat.le_refl _), Nat.sub_self] at h9; exact h9
  refine lv_aload_n hx hb d_X2_init_20 rfl (lv_at hl 0 rfl) ?_
  refine lv_iconst (v := nI 3) hx hb d_X2_init_21 (by decide) ?_
  refine x_newi hx hb hts hK hP hD hS hA (N := 3) (by decide) (Nat.le_of_ble_eq_true rfl) (Nat.le_of_ble_eq_true rfl) d_X2_init_22 (fun ag H hP hD hS => ?_)
  have hP : va_P D cls0 (Rs ++ [(h, (.inr (2, [.int (nI 0), .ref aw, .ref ar, .null, .null]) : va_E)), (aw, (.inl (cA, 64, .inl (fun _ => 0)) : va_E)), (ar, (.inl (cA, 32768, .inl (fun _ => 0)) : va_E)), (ag, (.inl (cA, 3, .inl (fun _ => 0)) : va_E))]) H := by have h9 := hP; rw [List.append_assoc] at h9; exact h9
  have hD : va_D A (Rs ++ [(h, (.inr (2, [.int (nI 0), .ref aw, .ref ar, .null, .null]) : va_E)), (aw, (.inl (cA, 64, .inl (fun _ => 0)) : va_E)), (ar, (.inl (cA, 32768, .inl (fun _ => 0)) : va_E)), (ag, (.inl (cA, 3, .inl (fun _ => 0)) : va_E))]) := by have h9 := hD; rw [List.append_assoc] at h9; exact h9
  have hg : (Rs ++ [(h, (.inr (2, [.int (nI 0), .ref aw, .ref ar, .null, .null]) : va_E)), (aw, (.inl (cA, 64, .inl (fun _ => 0)) : va_E)), (ar, (.inl (cA, 32768, .inl (fun _ => 0)) : va_E)), (ag, (.inl (cA, 3, .inl (fun _ => 0)) : va_E))])[Rs.length]? = some (h, .inr (2, [.int (nI 0), .ref aw, .ref ar, .null, .null])) := by
    rw [List.getElem?_append_right (Nat.le_refl _), Nat.sub_self]
    rfl
  refine va_putF (D := D) (ci := 2) (v := .ref ag) (ty := .array .int) (C := R_Md) (T := T_Md) (N := 5) (own := R_Md) (ref := "LimbRowsModel") hx hb hts i_Md t_Md t_Md_ok n_Md hown hK hP hD hS Rs.length hg rfl 3 (by decide) (hts (.fieldLink R_Md 17 "LimbRowsModel" "signs" "[I") k_490) (fun _ h9 => h9) rfl hin rfl (by decide +kernel) rfl rfl (Nat.le_of_ble_eq_true rfl) d_X2_init_24 (fun H locs hP hD hS => ?_)
  have hP : va_P D cls0 (Rs ++ [(h, (.inr (2, [.int (nI 0), .ref aw, .ref ar, .ref ag, .null]) : va_E)), (aw, (.inl (cA, 64, .inl (fun _ => 0)) : va_E)), (ar, (.inl (cA, 32768, .inl (fun _ => 0)) : va_E)), (ag, (.inl (cA, 3, .inl (fun _ => 0)) : va_E))]) H := by have h9 := hP; rw [List.set_append_right _ _ (Nat.le_refl _), Nat.sub_self] at h9; exact h9
  have hD : va_D A (Rs ++ [(h, (.inr (2, [.int (nI 0), .ref aw, .ref ar, .ref ag, .null]) : va_E)), (aw, (.inl (cA, 64, .inl (fun _ => 0)) : va_E)), (ar, (.inl (cA, 32768, .inl (fun _ => 0)) : va_E)), (ag, (.inl (cA, 3, .inl (fun _ => 0)) : va_E))]) := by have h9 := hD; rw [List.set_append_right _ _ (Nat.le_refl _), Nat.sub_self] at h9; exact h9
  refine lv_aload_n hx hb d_X2_init_27 rfl (lv_at hl 0 rfl) ?_
  refine lv_sipush (v := nI 3300) hx hb d_X2_init_28 (by decide) ?_
  refine x_newi hx hb hts hK hP hD hS hA (N := 3300) (by decide) (Nat.le_of_ble_eq_true rfl) (Nat.le_of_ble_eq_true rfl) d_X2_init_31 (fun az H hP hD hS => ?_)
  have hP : va_P D cls0 (Rs ++ [(h, (.inr (2, [.int (nI 0), .ref aw, .ref ar, .ref ag, .null]) : va_E)), (aw, (.inl (cA, 64, .inl (fun _ => 0)) : va_E)), (ar, (.inl (cA, 32768, .inl (fun _ => 0)) : va_E)), (ag, (.inl (cA, 3, .inl (fun _ => 0)) : va_E)), (az, (.inl (cA, 3300, .inl (fun _ => 0)) : va_E))]) H := by have h9 := hP; rw [List.append_assoc] at h9; exact h9
  have hD : va_D A (Rs ++ [(h, (.inr (2, [.int (nI 0), .ref aw, .ref ar, .ref ag, .null]) : va_E)), (aw, (.inl (cA, 64, .inl (fun _ => 0)) : va_E)), (ar, (.inl (cA, 32768, .inl (fun _ => 0)) : va_E)), (ag, (.inl (cA, 3, .inl (fun _ => 0)) : va_E)), (az, (.inl (cA, 3300, .inl (fun _ => 0)) : va_E))]) := by have h9 := hD; rw [List.append_assoc] at h9; exact h9
  have hg : (Rs ++ [(h, (.inr (2, [.int (nI 0), .ref aw, .ref ar, .ref ag, .null]) : va_E)), (aw, (.inl (cA, 64, .inl (fun _ => 0)) : va_E)), (ar, (.inl (cA, 32768, .inl (fun _ => 0)) : va_E)), (ag, (.inl (cA, 3, .inl (fun _ => 0)) : va_E)), (az, (.inl (cA, 3300, .inl (fun _ => 0)) : va_E))])[Rs.length]? = some (h, .inr (2, [.int (nI 0), .ref aw, .ref ar, .ref ag, .null])) := by
    rw [List.getElem?_append_right (Nat.le_refl _), Nat.sub_self]
    rfl
  refine va_putF (D := D) (ci := 2) (v := .ref az) (ty := .array .int) (C := R_Md) (T := T_Md) (N := 5) (own := R_Md) (ref := "LimbRowsModel") hx hb hts i_Md t_Md t_Md_ok n_Md hown hK hP hD hS Rs.length hg rfl 4 (by decide) (hts (.fieldLink R_Md 20 "LimbRowsModel" "sizes" "[I") k_491) (fun _ h9 => h9) rfl hin rfl (by decide +kernel) rfl rfl (Nat.le_of_ble_eq_true rfl) d_X2_init_33 (fun H locs hP hD hS => ?_)
  have hP : va_P D cls0 (Rs ++ [(h, (.inr (2, [.int (nI 0), .ref aw, .ref ar, .ref ag, .ref az]) : va_E)), (aw, (.inl (cA, 64, .inl (fun _ => 0)) : va_E)), (ar, (.inl (cA, 32768, .inl (fun _ => 0)) : va_E)), (ag, (.inl (cA, 3, .inl (fun _ => 0)) : va_E)), (az, (.inl (cA, 3300, .inl (fun _ => 0)) : va_E))]) H := by have h9 := hP; rw [List.set_append_right _ _ (Nat.le_refl _), Nat.sub_self] at h9; exact h9
  have hD : va_D A (Rs ++ [(h, (.inr (2, [.int (nI 0), .ref aw, .ref ar, .ref ag, .ref az]) : va_E)), (aw, (.inl (cA, 64, .inl (fun _ => 0)) : va_E)), (ar, (.inl (cA, 32768, .inl (fun _ => 0)) : va_E)), (ag, (.inl (cA, 3, .inl (fun _ => 0)) : va_E)), (az, (.inl (cA, 3300, .inl (fun _ => 0)) : va_E))]) := by have h9 := hD; rw [List.set_append_right _ _ (Nat.le_refl _), Nat.sub_self] at h9; exact h9
  refine lv_iconst (v := nI 0) hx hb d_X2_init_36 (by decide) ?_
  refine lv_istore_n (lv' := [(1, .int (nI 0)), (0, .ref h)]) hx hb d_X2_init_37 rfl hl (by decide) rfl (fun ls hl => ?_)
  have hP := va_P_perm hP List.perm_append_comm
  have hD := va_D_perm hD List.perm_append_comm
  exact lp_X2_init hx hb hr hml hown hts hlocks hA hK 64 0 rfl (by decide) H locs hP hD hS ls (lv_sub hl [1, 0] rfl)
