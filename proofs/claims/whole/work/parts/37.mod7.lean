theorem mMuC_le {n2 k m2 : Nat} (h : n2 ≤ 1100) : mMuC n2 k m2 ≤ 1100 := by unfold mMuC; omega
set_option maxHeartbeats 800000 in
set_option maxRecDepth 100000 in
theorem lp_X2_multiply {p : Program} {l : Launch} {e : Env} {s : State} {m : MethodId} {args : Array Value} {below : List Frame} {meth : Method} {c : Code} {D : va_G} {Rs : va_W} {cA cR cL : ClassId} {h aw ar ag az : Nat} {A : Nat → Prop} {cd : Int32} {w g : Nat → Nat} {sg : Nat → Int32} (hx : p.tables.exec = Jvm.exec) (hb : c.code = b_X2_multiply) (hr : meth.sig.returnType = none) (hml : c.maxLocals = 9) (hown : s.vm.findClass R_Md = some m.cls) (hts : ∀ w ∈ gw, w.before args s = true) (hlocks : meth.locks = false) (hA : ∀ q : Nat, s.heap.size ≤ q → A q) (hK : va_K D cls0 (ty3 cA cR cL) s) {n2 m2 : Nat} (hn2 : n2 ≤ 1100) (hm2 : m2 ≤ 1100) : ∀ (n : Nat) (k r : Nat) (z : Nat → Nat), n = n2 + m2 - k → k ≤ n2 + m2 → r < 281474976710656 → mdOk w g z → n2 + m2 ≤ 1100 → ∀ (H : Heap) (locs : List Loc), va_P D cls0 (md cA h aw ar ag az cd w g sg z Rs) H → va_D A (md cA h aw ar ag az cd w g sg z Rs) → va_S A s.heap H locs → ∀ (ls : Array Slot), lv_has ls 9 [(0, .ref h), (1, .int (nI n2)), (2, .int (nI m2)), (3, .long (lN r)), (5, .int (nI k))] → W p l e ({ frames := 1, cells := 0, slots := 0, locals := 23 }) s m args below meth c H locs 0 0 (MQ below (xQ (none) (xB D cls0 A (fun w1 => w1 = md cA h aw ar ag az cd w g (upd sg 2 (sg 0 * sg 1)) (mMuZ n2 m2 n k r z) Rs)) A) args s 0 0 A) (F0 m 34 ls []) := by
  intro n
  induction n with
  | zero =>
    intro k r z hn hk hr48 hok hnm H locs hP hD hS ls hl
    refine lv_iload hx hb d_X2_multiply_34 (lv_at hl 4 rfl) ?_
    refine lv_iload_n hx hb d_X2_multiply_36 rfl (lv_at hl 1 rfl) ?_
    refine lv_iload_n hx hb d_X2_multiply_37 rfl (lv_at hl 2 rfl) ?_
    refine n_iadd hx hb d_X2_multiply_38 ?_
    refine n_icmp_ge (tgt := 161) hx hb d_X2_multiply_39 (by decide) (by omega) (by omega) (fun c_1 => ?_) (fun c_1 => ?_)
    rotate_left
    · exact absurd c_1 (by omega)
    refine lv_aload_n hx hb d_X2_multiply_161 rfl (lv_at hl 0 rfl) ?_
    refine m_getG hx hb hts hown hK hP d_X2_multiply_162 ?_
    refine lv_iconst (v := nI 2) hx hb d_X2_multiply_165 (by decide) ?_
    refine lv_aload_n hx hb d_X2_multiply_166 rfl (lv_at hl 0 rfl) ?_
    refine m_getG hx hb hts hown hK hP d_X2_multiply_167 ?_
    refine lv_iconst (v := nI 0) hx hb d_X2_multiply_170 (by decide) ?_
    refine m_aldG hx hb hK hP (j := 0) (by omega) d_X2_multiply_171 ?_
    refine lv_aload_n hx hb d_X2_multiply_172 rfl (lv_at hl 0 rfl) ?_
    refine m_getG hx hb hts hown hK hP d_X2_multiply_173 ?_
    refine lv_iconst (v := nI 1) hx hb d_X2_multiply_176 (by decide) ?_
    refine m_aldG hx hb hK hP (j := 1) (by omega) d_X2_multiply_177 ?_
    refine lv_imul hx hb d_X2_multiply_178 ?_
    refine m_astG hx hb hK hP hD hS (j := 2) (x := (sg 0) * (sg 1)) (by omega) d_X2_multiply_179 (fun H locs hP hD hS => ?_)
    exact x_vret hx hb hr hlocks hP hD hS d_X2_multiply_180 rfl rfl
  | succ n ih =>
    intro k r z hn hk hr48 hok hnm H locs hP hD hS ls hl
    have hC := mMuC_le (n2 := n2) (k := k) (m2 := m2) hn2
    have hR1 : mMuR1 z n2 m2 k r < 281474976710656 := mMuR_lt z k _ _ _ hr48
    have hH1 : mMuH1 z n2 m2 k r ≤ 0 + mMuC n2 k m2 := mMuH_le hok k _ _ _ _ hr48
    refine lv_iload hx hb d_X2_multiply_34 (lv_at hl 4 rfl) ?_
    refine lv_iload_n hx hb d_X2_multiply_36 rfl (lv_at hl 1 rfl) ?_
    refine lv_iload_n hx hb d_X2_multiply_37 rfl (lv_at hl 2 rfl) ?_
    refine n_iadd hx hb d_X2_multiply_38 ?_
    refine n_icmp_ge (tgt := 161) hx hb d_X2_multiply_39 (by decide) (by omega) (by omega) (fun c_1 => ?_) (fun c_1 => ?_)
    · exact absurd c_1 (by omega)
    refine lv_lconst (v := lN 0) hx hb d_X2_multiply_42 (by decide) ?_
    refine lv_lstore (lv' := [(6, .long (lN 0)), (0, .ref h), (1, .int (nI n2)), (2, .int (nI m2)), (3, .long (lN r)), (5, .int (nI k))]) hx hb d_X2_multiply_43 hl (by decide) rfl (fun ls hl => ?_)
    refine lv_iload hx hb d_X2_multiply_45 (lv_at hl 5 rfl) ?_
    refine lv_iload_n hx hb d_X2_multiply_47 rfl (lv_at hl 3 rfl) ?_
    refine lv_isub hx hb d_X2_multiply_48 ?_
    refine lv_iconst (v := nI 1) hx hb d_X2_multiply_49 (by decide) ?_
    refine lv_iadd hx hb d_X2_multiply_50 ?_
    rcases Nat.lt_or_ge (k + 1) m2 with hkm | hkm
    · refine lv_if_ge (tgt := 58) hx hb d_X2_multiply_51 (by decide) (fun c => absurd (n_kmn (by omega) hkm) (Int32.not_lt.mpr c)) (fun _ => ?_)
      refine lv_iconst (v := nI 0) hx hb d_X2_multiply_54 (by decide) ?_
      refine lv_goto (tgt := 64) hx hb d_X2_multiply_55 (by decide) ?_
      refine lv_istore (lv' := [(8, .int (nI 0)), (6, .long (lN 0)), (0, .ref h), (1, .int (nI n2)), (2, .int (nI m2)), (3, .long (lN r)), (5, .int (nI k))]) hx hb d_X2_multiply_64 hl (by decide) rfl (fun ls hl => ?_)
      rw [show nI 0 = nI (k + 1 - m2) from by rw [show k + 1 - m2 = 0 by omega]] at hl
      refine li_X2_multiply hx hb hr hml hown hts hlocks hA hK hok hn2 hm2 (by omega) hP hD (mMuC n2 k m2) (k + 1 - m2) r 0 rfl (Nat.le_refl _) (by omega) hr48 (by omega) (by omega) ?_ ls (lv_sub hl [2, 3, 4, 5, 6, 1, 0] rfl)
      intro ls hl
      have hl : lv_has ls 9 [(0, .ref h), (1, .int (nI n2)), (2, .int (nI m2)), (3, .long (lN (mMuR1 z n2 m2 k r))), (5, .int (nI k)), (6, .long (lN (mMuH1 z n2 m2 k r)))] := hl
      refine lv_aload_n hx hb d_X2_multiply_127 rfl (lv_at hl 0 rfl) ?_
      refine m_getZ hx hb hts hown hK hP d_X2_multiply_128 ?_
      refine lv_sipush (v := nI 2200) hx hb d_X2_multiply_131 (by decide) ?_
      refine lv_iload hx hb d_X2_multiply_134 (lv_at hl 4 rfl) ?_
      refine n_iadd hx hb d_X2_multiply_136 ?_
      refine lv_lload_n hx hb d_X2_multiply_137 rfl (lv_at hl 3 rfl) ?_
      refine lv_ldc2 (v := 65535) hx hb hown (hts (.constantLong "LimbRowsModel" 37 65535) k_564) d_X2_multiply_138 ?_
      refine lv_land hx hb d_X2_multiply_141 ?_
      refine lv_l2i (v := nI (mMuR1 z n2 m2 k r % 65536)) hx hb d_X2_multiply_142 (lN_16 (by omega)) ?_
      refine m_astZ hx hb hK hP hD hS (j := 2200 + k) (v := mMuR1 z n2 m2 k r % 65536) (by omega) d_X2_multiply_143 (fun H locs hP hD hS => ?_)
      have hok := hok.z (j := 2200 + k) (v := mMuR1 z n2 m2 k r % 65536) (by omega)
      refine lv_lload_n hx hb d_X2_multiply_144 rfl (lv_at hl 3 rfl) ?_
      refine lv_bipush (v := nI 16) hx hb d_X2_multiply_145 (by decide) ?_
      refine lv_lushr (v := lN (mMuR1 z n2 m2 k r / 2 ^ 16)) hx hb d_X2_multiply_147 (lN_lu (by omega) (by decide)) ?_
      refine lv_lload hx hb d_X2_multiply_148 (lv_at hl 5 rfl) ?_
      refine lv_bipush (v := nI 32) hx hb d_X2_multiply_150 (by decide) ?_
      refine lv_lshl (v := lN (mMuH1 z n2 m2 k r * 4294967296)) hx hb d_X2_multiply_152 lN_ll ?_
      refine lv_ladd hx hb d_X2_multiply_153 ?_
      rw [lN_add]
      refine lv_lstore_n (lv' := [(3, .long (lN (mMuR1 z n2 m2 k r / 2 ^ 16 + mMuH1 z n2 m2 k r * 4294967296))), (0, .ref h), (1, .int (nI n2)), (2, .int (nI m2)), (5, .int (nI k)), (6, .long (lN (mMuH1 z n2 m2 k r)))]) hx hb d_X2_multiply_154 rfl hl (by decide) rfl (fun ls hl => ?_)
      refine n_iinc (lv' := [(5, .int (nI (k + 1))), (3, .long (lN (mMuR1 z n2 m2 k r / 2 ^ 16 + mMuH1 z n2 m2 k r * 4294967296))), (0, .ref h), (1, .int (nI n2)), (2, .int (nI m2)), (6, .long (lN (mMuH1 z n2 m2 k r)))]) hx hb d_X2_multiply_155 hl (k := 4) rfl (by decide) rfl (fun ls hl => ?_)
      refine lv_goto (tgt := 34) hx hb d_X2_multiply_158 (by decide) ?_
      exact ih (k + 1) _ _ (by omega) (by omega) (by omega) hok hnm H locs hP hD hS ls (lv_sub hl [2, 3, 4, 1, 0] rfl)
    · rw [n_km hkm]
      refine n_if_ge (tgt := 58) hx hb d_X2_multiply_51 (by decide) (by omega) ?_
      refine lv_iload hx hb d_X2_multiply_58 (lv_at hl 5 rfl) ?_
      refine lv_iload_n hx hb d_X2_multiply_60 rfl (lv_at hl 3 rfl) ?_
      refine lv_isub hx hb d_X2_multiply_61 ?_
      refine lv_iconst (v := nI 1) hx hb d_X2_multiply_62 (by decide) ?_
      refine lv_iadd hx hb d_X2_multiply_63 ?_
      rw [n_km hkm]
      refine lv_istore (lv' := [(8, .int (nI (k + 1 - m2))), (6, .long (lN 0)), (0, .ref h), (1, .int (nI n2)), (2, .int (nI m2)), (3, .long (lN r)), (5, .int (nI k))]) hx hb d_X2_multiply_64 hl (by decide) rfl (fun ls hl => ?_)
      refine li_X2_multiply hx hb hr hml hown hts hlocks hA hK hok hn2 hm2 (by omega) hP hD (mMuC n2 k m2) (k + 1 - m2) r 0 rfl (Nat.le_refl _) (by omega) hr48 (by omega) (by omega) ?_ ls (lv_sub hl [2, 3, 4, 5, 6, 1, 0] rfl)
      intro ls hl
      have hl : lv_has ls 9 [(0, .ref h), (1, .int (nI n2)), (2, .int (nI m2)), (3, .long (lN (mMuR1 z n2 m2 k r))), (5, .int (nI k)), (6, .long (lN (mMuH1 z n2 m2 k r)))] := hl
      refine lv_aload_n hx hb d_X2_multiply_127 rfl (lv_at hl 0 rfl) ?_
      refine m_getZ hx hb hts hown hK hP d_X2_multiply_128 ?_
      refine lv_sipush (v := nI 2200) hx hb d_X2_multiply_131 (by decide) ?_
      refine lv_iload hx hb d_X2_multiply_134 (lv_at hl 4 rfl) ?_
      refine n_iadd hx hb d_X2_multiply_136 ?_
      refine lv_lload_n hx hb d_X2_multiply_137 rfl (lv_at hl 3 rfl) ?_
      refine lv_ldc2 (v := 65535) hx hb hown (hts (.constantLong "LimbRowsModel" 37 65535) k_564) d_X2_multiply_138 ?_
      refine lv_land hx hb d_X2_multiply_141 ?_
      refine lv_l2i (v := nI (mMuR1 z n2 m2 k r % 65536)) hx hb d_X2_multiply_142 (lN_16 (by omega)) ?_
      refine m_astZ hx hb hK hP hD hS (j := 2200 + k) (v := mMuR1 z n2 m2 k r % 65536) (by omega) d_X2_multiply_143 (fun H locs hP hD hS => ?_)
      have hok := hok.z (j := 2200 + k) (v := mMuR1 z n2 m2 k r % 65536) (by omega)
      refine lv_lload_n hx hb d_X2_multiply_144 rfl (lv_at hl 3 rfl) ?_
      refine lv_bipush (v := nI 16) hx hb d_X2_multiply_145 (by decide) ?_
      refine lv_lushr (v := lN (mMuR1 z n2 m2 k r / 2 ^ 16)) hx hb d_X2_multiply_147 (lN_lu (by omega) (by decide)) ?_
      refine lv_lload hx hb d_X2_multiply_148 (lv_at hl 5 rfl) ?_
      refine lv_bipush (v := nI 32) hx hb d_X2_multiply_150 (by decide) ?_
      refine lv_lshl (v := lN (mMuH1 z n2 m2 k r * 4294967296)) hx hb d_X2_multiply_152 lN_ll ?_
      refine lv_ladd hx hb d_X2_multiply_153 ?_
      rw [lN_add]
      refine lv_lstore_n (lv' := [(3, .long (lN (mMuR1 z n2 m2 k r / 2 ^ 16 + mMuH1 z n2 m2 k r * 4294967296))), (0, .ref h), (1, .int (nI n2)), (2, .int (nI m2)), (5, .int (nI k)), (6, .long (lN (mMuH1 z n2 m2 k r)))]) hx hb d_X2_multiply_154 rfl hl (by decide) rfl (fun ls hl => ?_)
      refine n_iinc (lv' := [(5, .int (nI (k + 1))), (3, .long (lN (mMuR1 z n2 m2 k r / 2 ^ 16 + mMuH1 z n2 m2 k r * 4294967296))), (0, .ref h), (1, .int (nI n2)), (2, .int (nI m2)), (6, .long (lN (mMuH1 z n2 m2 k r)))]) hx hb d_X2_multiply_155 hl (k := 4) rfl (by decide) rfl (fun ls hl => ?_)
      refine lv_goto (tgt := 34) hx hb d_X2_multiply_158 (by decide) ?_
      exact ih (k + 1) _ _ (by omega) (by omega) (by omega) hok hnm H locs hP hD hS ls (lv_sub hl [2, 3, 4, 1, 0] rfl)
noncomputable def mMulN (z : Nat → Nat) (b : Nat) : Nat := (mBits z b + 15) / 16
noncomputable def mMulZ (z : Nat → Nat) : Nat → Nat := mMuZ (mMulN (mClr 2 cZ 0 z) 0) (mMulN (mClr 2 cZ 0 z) 1) (mMulN (mClr 2 cZ 0 z) 0 + mMulN (mClr 2 cZ 0 z) 1) 0 0 (mClr 2 cZ 0 z)
def mMulG (sg : Nat → Int32) : Nat → Int32 := upd (upd sg 2 (nI 0)) 2 (upd sg 2 (nI 0) 0 * upd sg 2 (nI 0) 1)
theorem mMuZ_ok {w g : Nat → Nat} {n2 m2 : Nat} : ∀ (n k r : Nat) (z : Nat → Nat), mdOk w g z → mdOk w g (mMuZ n2 m2 n k r z)
  | 0, _, _, _, h => h
  | n + 1, k, r, z, h => mMuZ_ok n (k + 1) _ _ (h.z (Nat.mod_lt _ (by decide)))
theorem mMulZ_ok {w g z : Nat → Nat} (h : mdOk w g z) : mdOk w g (mMulZ z) := mMuZ_ok _ _ _ _ (mClr_ok _ _ _ h)
abbrev w_X2_multiply : List Cond := .code y_X2_multiply b_X2_multiply 9 (none) :: gw
set_option maxHeartbeats 800000 in
set_option maxRecDepth 100000 in
theorem c_X2_multiply {l : Launch} {D : va_G} {Rs : va_W} {cA cR cL : ClassId} {h aw ar ag az : Nat} {cd : Int32} {w g : Nat → Nat} {sg : Nat → Int32} {z : Nat → Nat} (hok : mdOk w g z) (hfit : mMulN (mClr 2 cZ 0 z) 0 + mMulN (mClr 2 cZ 0 z) 1 ≤ 1100) : xC l y_X2_multiply w_X2_multiply ({ frames := 1, cells := 0, slots := 0, locals := 23 }) D cls0 (ty3 cA cR cL) [.ref h] (md cA h aw ar ag az cd w g sg z Rs) (none) (fun w1 => w1 = md cA h aw ar ag az cd w g (mMulG sg) (mMulZ z) Rs) 0 0 := by
  refine xC.ofW (cc := b_X2_multiply) (maxL := 9) (ret := none) (by decide) rfl (Nat.le_of_ble_eq_true rfl) ?_
  intro p e s m below meth c A ls _ hin hx hb hr hml hown hts hlocks hA hK hP hD hS hl
  have hts : ∀ w ∈ gw, w.before ([.ref h]).toArray s = true := fun w h => hts w (List.mem_cons_of_mem _ h)
  have hown : s.vm.findClass R_Md = some m.cls := hown
  have hl : lv_has ls 9 [(0, .ref h)] := hl
  have hb0 := mBits_le (mClr 2 cZ 0 z) 0
  have hb1 := mBits_le (mClr 2 cZ 0 z) 1
  unfold mMulN at hfit
  refine lv_aload_n hx hb d_X2_multiply_0 rfl (lv_at hl 0 rfl) ?_
  refine lv_iconst (v := nI 2) hx hb d_X2_multiply_1 (by decide) ?_
  refine x_call (st1 := []) (x_runV (As := [.int (nI 2)]) (rest := []) (nL := 9) ⟨hx, hb, hml, hown, hts⟩ (c_X2_clear (b := 2) (by omega) _) (cwV 1 hts (gw_V k_522 k_524 k_32 k_52 k_525) rfl rfl rfl (by decide +kernel) ⟨Nat.le_of_ble_eq_true rfl, Nat.le_of_ble_eq_true rfl⟩) hK hP hD 0 2 rfl rfl rfl hl.1 rfl (Nat.le_of_ble_eq_true rfl) d_X2_multiply_2 ⟨Nat.zero_le _, Nat.zero_le _⟩) hS (x_sub hD hS hA) (x_sub hD hS hA) rfl (fun w1 H locs hY hP hD hS => ?_)
  subst hY
  have hok := mClr_ok (b := 2) cZ 0 _ hok
  refine lv_aload_n hx hb d_X2_multiply_5 rfl (lv_at hl 0 rfl) ?_
  refine lv_iconst (v := nI 0) hx hb d_X2_multiply_6 (by decide) ?_
  refine x_callR (st1 := [.int (nI (mBits (mClr 2 cZ 0 z) 0))]) (x_runV (As := [.int (nI 0)]) (rest := []) (nL := 9) ⟨hx, hb, hml, hown, hts⟩ (c_X2_bits hok (b := 0) (by omega) _) (cwV 1 hts (gw_V k_540 k_542 k_36 k_52 k_543) rfl rfl rfl (by decide +kernel) ⟨Nat.le_of_ble_eq_true rfl, Nat.le_of_ble_eq_true rfl⟩) hK hP hD 0 2 rfl rfl rfl hl.1 rfl (Nat.le_of_ble_eq_true rfl) d_X2_multiply_7 ⟨Nat.zero_le _, Nat.zero_le _⟩) rfl ?_
  refine lv_bipush (v := nI 15) hx hb d_X2_multiply_10 (by decide) ?_
  refine n_iadd hx hb d_X2_multiply_12 ?_
  refine lv_bipush (v := nI 16) hx hb d_X2_multiply_13 (by decide) ?_
  refine n_idiv hx hb d_X2_multiply_15 (by omega) (by omega) (by omega) ?_
  refine lv_istore_n (lv' := [(1, .int (nI (((mBits (mClr 2 cZ 0 z) 0) + 15) / 16))), (0, .ref h)]) hx hb d_X2_multiply_16 rfl hl (by decide) rfl (fun ls hl => ?_)
  refine lv_aload_n hx hb d_X2_multiply_17 rfl (lv_at hl 1 rfl) ?_
  refine lv_iconst (v := nI 1) hx hb d_X2_multiply_18 (by decide) ?_
  refine x_callR (st1 := [.int (nI (mBits (mClr 2 cZ 0 z) 1))]) (x_runV (As := [.int (nI 1)]) (rest := []) (nL := 9) ⟨hx, hb, hml, hown, hts⟩ (c_X2_bits hok (b := 1) (by omega) _) (cwV 1 hts (gw_V k_540 k_542 k_36 k_52 k_543) rfl rfl rfl (by decide +kernel) ⟨Nat.le_of_ble_eq_true rfl, Nat.le_of_ble_eq_true rfl⟩) hK hP hD 0 2 rfl rfl rfl hl.1 rfl (Nat.le_of_ble_eq_true rfl) d_X2_multiply_19 ⟨Nat.zero_le _, Nat.zero_le _⟩) rfl ?_
  refine lv_bipush (v := nI 15) hx hb d_X2_multiply_22 (by decide) ?_
  refine n_iadd hx hb d_X2_multiply_24 ?_
  refine lv_bipush (v := nI 16) hx hb d_X2_multiply_25 (by decide) ?_
  refine n_idiv hx hb d_X2_multiply_27 (by omega) (by omega) (by omega) ?_
  refine lv_istore_n (lv' := [(2, .int (nI (((mBits (mClr 2 cZ 0 z) 1) + 15) / 16))), (1, .int (nI (((mBits (mClr 2 cZ 0 z) 0) + 15) / 16))), (0, .ref h)]) hx hb d_X2_multiply_28 rfl hl (by decide) rfl (fun ls hl => ?_)
  refine lv_lconst (v := lN 0) hx hb d_X2_multiply_29 (by decide) ?_
  refine lv_lstore_n (lv' := [(3, .long (lN 0)), (2, .int (nI (((mBits (mClr 2 cZ 0 z) 1) + 15) / 16))), (1, .int (nI (((mBits (mClr 2 cZ 0 z) 0) + 15) / 16))), (0, .ref h)]) hx hb d_X2_multiply_30 rfl hl (by decide) rfl (fun ls hl => ?_)
  refine lv_iconst (v := nI 0) hx hb d_X2_multiply_31 (by decide) ?_
  refine lv_istore (lv' := [(5, .int (nI 0)), (3, .long (lN 0)), (2, .int (nI (((mBits (mClr 2 cZ 0 z) 1) + 15) / 16))), (1, .int (nI (((mBits (mClr 2 cZ 0 z) 0) + 15) / 16))), (0, .ref h)]) hx hb d_X2_multiply_32 hl (by decide) rfl (fun ls hl => ?_)
  exact lp_X2_multiply (n2 := mMulN (mClr 2 cZ 0 z) 0) (m2 := mMulN (mClr 2 cZ 0 z) 1) hx hb hr hml hown hts hlocks hA hK (by unfold mMulN; omega) (by unfold mMulN; omega) _ 0 0 _ rfl (by omega) (by omega) hok (by unfold mMulN; omega) _ _ hP hD hS ls (lv_sub hl [4, 3, 2, 1, 0] rfl)
