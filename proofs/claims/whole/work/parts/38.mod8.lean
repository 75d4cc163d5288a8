theorem n_or (a b : Nat) : nI a ||| nI b = nI (a ||| b) := by
  apply Int32.toBitVec_inj.mp
  show BitVec.ofNat 32 a ||| BitVec.ofNat 32 b = BitVec.ofNat 32 (a ||| b)
  rw [BitVec.ofNat_or]
theorem n_shl {a t : Nat} (ht : t < 32) (h : a * 2 ^ t < 4294967296) : nI a <<< (nI t &&& 31) = nI (a * 2 ^ t) := pk_shlN _ t (n_sm t ht) (by omega)
theorem bit_shl {x t : Nat} (hx : x < 2) (ht : t < 16) : x * 2 ^ t < 65536 := by
  have h1 : 2 ^ t ≤ 2 ^ 15 := Nat.pow_le_pow_right (by decide) (by omega)
  have h2 : x * 2 ^ t ≤ 1 * 2 ^ t := Nat.mul_le_mul_right _ (by omega)
  omega
theorem or_16 {a b : Nat} (ha : a < 65536) (hb : b < 65536) : a ||| b < 65536 := Nat.or_lt_two_pow (n := 16) ha hb
theorem mBit_lt (z : Nat → Nat) (b k : Nat) : mBit z b k < 2 := Nat.mod_lt _ (by decide)
def mLimb (g : Nat → Nat) (r k : Nat) : Int32 := nI (g (512 * r + 2 * k + 1)) <<< (nI 16 &&& 31) ||| nI (g (512 * r + 2 * k))
/-- digit j, with bit i of buffer 0 laid into it -/
def mOr (z : Nat → Nat) (j i : Nat) : Nat := z (1100 + j / 16) ||| mBit z 0 i * 2 ^ (j % 16)
theorem mOr_lt {w g z : Nat → Nat} (h : mdOk w g z) (j i : Nat) : mOr z j i < 65536 := or_16 (h.2.2 _) (bit_shl (mBit_lt _ _ _) (Nat.mod_lt _ (by decide)))
def mLfZ (k : Nat) : Nat → Nat → (Nat → Nat) → Nat → Nat
  | 0, _, z => z
  | n + 1, i, z => mLfZ k n (i + 1) (va_up z (1100 + (i + k) / 16) (mOr z (i + k) i))
theorem mLfZ_ok {w g : Nat → Nat} {k : Nat} : ∀ (n i : Nat) (z : Nat → Nat), mdOk w g z → mdOk w g (mLfZ k n i z)
  | 0, _, _, h => h
  | n + 1, i, z, h => mLfZ_ok n (i + 1) _ (h.z (mOr_lt h _ _))
def mHvZ (k : Nat) : Nat → Nat → (Nat → Nat) → Nat → Nat
  | 0, _, z => z
  | n + 1, i, z => mHvZ k n (i + 1) (va_up z (1100 + (i - k) / 16) (mOr z (i - k) i))
theorem mHvZ_ok {w g : Nat → Nat} {k : Nat} : ∀ (n i : Nat) (z : Nat → Nat), mdOk w g z → mdOk w g (mHvZ k n i z)
  | 0, _, _, h => h
  | n + 1, i, z, h => mHvZ_ok n (i + 1) _ (h.z (mOr_lt h _ _))
abbrev w_X2_limbOf : List Cond := .code y_X2_limbOf b_X2_limbOf 3 (some .int) :: gw
set_option maxHeartbeats 800000 in
set_option maxRecDepth 100000 in
theorem c_X2_limbOf {l : Launch} {D : va_G} {Rs : va_W} {cA cR cL : ClassId} {h aw ar ag az : Nat} {cd : Int32} {w g : Nat → Nat} {sg : Nat → Int32} {z : Nat → Nat} (hok : mdOk w g z) {r k : Nat} (hr64 : r < 64) (hk : k < 256) : xR l y_X2_limbOf w_X2_limbOf ({ frames := 0, cells := 0, slots := 0, locals := 0 }) D cls0 (ty3 cA cR cL) [.ref h, .int (nI r), .int (nI k)] (md cA h aw ar ag az cd w g sg z Rs) (some (.int (mLimb g r k))) := by
  refine xR.ofW (cc := b_X2_limbOf) (maxL := 3) (ret := some .int) (by decide) rfl (Nat.le_of_ble_eq_true rfl) ?_
  intro p e s m below meth c A ls _ hin hx hb hr hml hown hts hlocks hA hK hP hD hS hl
  have hts : ∀ w ∈ gw, w.before ([.ref h, .int (nI r), .int (nI k)]).toArray s = true := fun w h => hts w (List.mem_cons_of_mem _ h)
  have hown : s.vm.findClass R_Md = some m.cls := hown
  have hl : lv_has ls 3 [(0, .ref h), (1, .int (nI r)), (2, .int (nI k))] := hl
  refine lv_aload_n hx hb d_X2_limbOf_0 rfl (lv_at hl 0 rfl) ?_
  refine m_getR hx hb hts hown hK hP d_X2_limbOf_1 ?_
  refine lv_sipush (v := nI 512) hx hb d_X2_limbOf_4 (by decide) ?_
  refine lv_iload_n hx hb d_X2_limbOf_7 rfl (lv_at hl 1 rfl) ?_
  refine n_imul hx hb d_X2_limbOf_8 ?_
  refine lv_iconst (v := nI 2) hx hb d_X2_limbOf_9 (by decide) ?_
  refine lv_iload_n hx hb d_X2_limbOf_10 rfl (lv_at hl 2 rfl) ?_
  refine n_imul hx hb d_X2_limbOf_11 ?_
  refine n_iadd hx hb d_X2_limbOf_12 ?_
  refine lv_iconst (v := nI 1) hx hb d_X2_limbOf_13 (by decide) ?_
  refine n_iadd hx hb d_X2_limbOf_14 ?_
  refine m_aldR hx hb hK hP (j := ((512 * r) + (2 * k)) + 1) (by omega) d_X2_limbOf_15 ?_
  have hq_15 := hok.2.1 (((512 * r) + (2 * k)) + 1)
  refine lv_bipush (v := nI 16) hx hb d_X2_limbOf_16 (by decide) ?_
  refine lv_ishl hx hb d_X2_limbOf_18 ?_
  refine lv_aload_n hx hb d_X2_limbOf_19 rfl (lv_at hl 0 rfl) ?_
  refine m_getR hx hb hts hown hK hP d_X2_limbOf_20 ?_
  refine lv_sipush (v := nI 512) hx hb d_X2_limbOf_23 (by decide) ?_
  refine lv_iload_n hx hb d_X2_limbOf_26 rfl (lv_at hl 1 rfl) ?_
  refine n_imul hx hb d_X2_limbOf_27 ?_
  refine lv_iconst (v := nI 2) hx hb d_X2_limbOf_28 (by decide) ?_
  refine lv_iload_n hx hb d_X2_limbOf_29 rfl (lv_at hl 2 rfl) ?_
  refine n_imul hx hb d_X2_limbOf_30 ?_
  refine n_iadd hx hb d_X2_limbOf_31 ?_
  refine m_aldR hx hb hK hP (j := (512 * r) + (2 * k)) (by omega) d_X2_limbOf_32 ?_
  have hq_32 := hok.2.1 ((512 * r) + (2 * k))
  refine lv_ior hx hb d_X2_limbOf_33 ?_
  exact xr_iret hx hb hr hlocks d_X2_limbOf_34 rfl
noncomputable def mHvS (sg : Nat → Int32) (k N : Nat) : Nat → Int32 := upd sg 1 (if N ≤ k then nI 0 else sg 0)
noncomputable def mHvTZ (sg : Nat → Int32) (z : Nat → Nat) (f : Nat) : Nat → Nat := if f = 0 then z else mCombZ (mLongG (sg 0).toInt64 2 sg) 1 2 (mOth (mLongG (sg 0).toInt64 2 sg) 2 0) (mLongZ (sg 0).toInt64 2 z)
noncomputable def mHvTS (sg : Nat → Int32) (z : Nat → Nat) (f : Nat) : Nat → Int32 := if f = 0 then sg else upd (mLongG (sg 0).toInt64 2 sg) 1 (mCombS (mLongG (sg 0).toInt64 2 sg) 1 2 (mOth (mLongG (sg 0).toInt64 2 sg) 2 0) (mLongZ (sg 0).toInt64 2 z))
set_option maxHeartbeats 800000 in
set_option maxRecDepth 100000 in
theorem lp_X2_halve {p : Program} {l : Launch} {e : Env} {s : State} {m : MethodId} {args : Array Value} {below : List Frame} {meth : Method} {c : Code} {D : va_G} {Rs : va_W} {cA cR cL : ClassId} {h aw ar ag az : Nat} {A : Nat → Prop} {cd : Int32} {w g : Nat → Nat} {sg : Nat → Int32} (hx : p.tables.exec = Jvm.exec) (hb : c.code = b_X2_halve) (hr : meth.sig.returnType = none) (hml : c.maxLocals = 5) (hown : s.vm.findClass R_Md = some m.cls) (hts : ∀ w ∈ gw, w.before args s = true) (hlocks : meth.locks = false) (hA : ∀ q : Nat, s.heap.size ≤ q → A q) (hK : va_K D cls0 (ty3 cA cR cL) s) {k f N : Nat} (hf : f < 2) (hk : k ≤ 8192) (hN : N ≤ 17600) : ∀ (n : Nat) (i : Nat) (z : Nat → Nat), n = N - i → k ≤ i ∧ i ≤ 18000 → mdOk w g z → ∀ (H : Heap) (locs : List Loc), va_P D cls0 (md cA h aw ar ag az cd w g sg z Rs) H → va_D A (md cA h aw ar ag az cd w g sg z Rs) → va_S A s.heap H locs → ∀ (ls : Array Slot), lv_has ls 5 [(0, .ref h), (1, .int (nI k)), (2, .int (nI f)), (3, .int (nI N)), (4, .int (nI i))] → W p l e ({ frames := 2, cells := 0, slots := 0, locals := 54 }) s m args below meth c H locs 0 0 (MQ below (xQ (none) (xB D cls0 A (fun w1 => w1 = md cA h aw ar ag az cd w g (mHvTS (mHvS sg k N) (mHvZ k n i z) f) (mHvTZ (mHvS sg k N) (mHvZ k n i z) f) Rs)) A) args s 0 0 A) (F0 m 14 ls []) := by
  intro n
  induction n with
  | zero =>
    intro i z hn hi hok H locs hP hD hS ls hl
    refine lv_iload hx hb d_X2_halve_14 (lv_at hl 4 rfl) ?_
    refine lv_iload_n hx hb d_X2_halve_16 rfl (lv_at hl 3 rfl) ?_
    refine n_icmp_ge (tgt := 74) hx hb d_X2_halve_17 (by decide) (by omega) (by omega) (fun c_1 => ?_) (fun c_1 => ?_)
    rotate_left
    · exact absurd c_1 (by omega)
    refine lv_aload_n hx hb d_X2_halve_74 rfl (lv_at hl 0 rfl) ?_
    refine m_getG hx hb hts hown hK hP d_X2_halve_75 ?_
    refine lv_iconst (v := nI 1) hx hb d_X2_halve_78 (by decide) ?_
    refine lv_iload_n hx hb d_X2_halve_79 rfl (lv_at hl 3 rfl) ?_
    refine lv_iload_n hx hb d_X2_halve_80 rfl (lv_at hl 1 rfl) ?_
    refine n_icmp_le (tgt := 93) hx hb d_X2_halve_81 (by decide) (by omega) (by omega) (fun c_2 => ?_) (fun c_2 => ?_)
    · refine lv_iconst (v := nI 0) hx hb d_X2_halve_93 (by decide) ?_
      refine m_astG hx hb hK hP hD hS (j := 1) (x := nI 0) (by omega) d_X2_halve_94 (fun H locs hP hD hS => ?_)
      refine lv_iload_n hx hb d_X2_halve_95 rfl (lv_at hl 2 rfl) ?_
      refine n_if_eq (tgt := 122) hx hb d_X2_halve_96 (by decide) (by omega) (fun c_3 => ?_) (fun c_3 => ?_)
      · have hs1 : mHvS sg k N = upd sg 1 (nI 0) := congrArg (upd sg 1) (if_pos (by omega))
        have ht1 : mHvTZ (upd sg 1 (nI 0)) z f = _ := if_pos (by assumption)
        have ht2 : mHvTS (upd sg 1 (nI 0)) z f = _ := if_pos (by assumption)
        exact x_vret hx hb hr hlocks hP hD hS d_X2_halve_122 rfl (by rw [show mHvZ k 0 i z = z from rfl, hs1, ht1, ht2])
      · refine lv_aload_n hx hb d_X2_halve_99 rfl (lv_at hl 0 rfl) ?_
        refine m_getG hx hb hts hown hK hP d_X2_halve_100 ?_
        refine lv_iconst (v := nI 0) hx hb d_X2_halve_103 (by decide) ?_
        refine m_aldG hx hb hK hP (j := 0) (by omega) d_X2_halve_104 ?_
        refine lv_istore (lv' := [(4, .int ((upd sg 1 (nI 0)) 0)), (0, .ref h), (1, .int (nI k)), (2, .int (nI f)), (3, .int (nI N))]) hx hb d_X2_halve_105 hl (by decide) rfl (fun ls hl => ?_)
        refine lv_aload_n hx hb d_X2_halve_107 rfl (lv_at hl 1 rfl) ?_
        refine lv_iconst (v := nI 2) hx hb d_X2_halve_108 (by decide) ?_
        refine lv_iload hx hb d_X2_halve_109 (lv_at hl 0 rfl) ?_
        refine lv_i2l (v := ((upd sg 1 (nI 0)) 0).toInt64) hx hb d_X2_halve_111 rfl ?_
        refine x_call (st1 := []) (x_runV (As := [.int (nI 2), .long (((upd sg 1 (nI 0)) 0).toInt64)]) (rest := []) (nL := 5) ⟨hx, hb, hml, hown, hts⟩ (c_X2_loadLong hok (b := 2) (by omega) (((upd sg 1 (nI 0)) 0).toInt64) _) (cwV 2 hts (gw_V k_560 k_562 k_39 k_52 k_563) rfl rfl rfl (by decide +kernel) ⟨Nat.le_of_ble_eq_true rfl, Nat.le_of_ble_eq_true rfl⟩) hK hP hD 0 2 rfl rfl rfl hl.1 rfl (Nat.le_of_ble_eq_true rfl) d_X2_halve_112 ⟨Nat.zero_le _, Nat.zero_le _⟩) hS (x_sub hD hS hA) (x_sub hD hS hA) rfl (fun w1 H locs hY hP hD hS => ?_)
        subst hY
        have hok := mLongZ_ok (v := ((upd sg 1 (nI 0)) 0).toInt64) (b := 2) hok
        refine lv_aload_n hx hb d_X2_halve_115 rfl (lv_at hl 1 rfl) ?_
        refine lv_iconst (v := nI 1) hx hb d_X2_halve_116 (by decide) ?_
        refine lv_iconst (v := nI 2) hx hb d_X2_halve_117 (by decide) ?_
        refine lv_iconst (v := nI 0) hx hb d_X2_halve_118 (by decide) ?_
        refine x_call (st1 := []) (x_runV (As := [.int (nI 1), .int (nI 2), .int (nI 0)]) (rest := []) (nL := 5) ⟨hx, hb, hml, hown, hts⟩ (c_X2_combine hok (b := 1) (q := 2) (f := 0) (by omega) (by omega) (by omega) _) (cwV 3 hts (gw_V k_593 k_595 k_43 k_52 k_596) rfl rfl rfl (by decide +kernel) ⟨Nat.le_of_ble_eq_true rfl, Nat.le_of_ble_eq_true rfl⟩) hK hP hD 0 2 rfl rfl rfl hl.1 rfl (Nat.le_of_ble_eq_true rfl) d_X2_halve_119 ⟨Nat.zero_le _, Nat.zero_le _⟩) hS (x_sub hD hS hA) (x_sub hD hS hA) rfl (fun w1 H locs hY hP hD hS => ?_)
        subst hY
        have hok := mCombZ_ok (sg := mLongG (((upd sg 1 (nI 0)) 0).toInt64) 2 (upd sg 1 (nI 0))) (b := 1) (q := 2) (x := mOth (mLongG (((upd sg 1 (nI 0)) 0).toInt64) 2 (upd sg 1 (nI 0))) 2 0) hok
        have hs1 : mHvS sg k N = upd sg 1 (nI 0) := congrArg (upd sg 1) (if_pos (by omega))
        have ht1 : mHvTZ (upd sg 1 (nI 0)) z f = _ := if_neg (by assumption)
        have ht2 : mHvTS (upd sg 1 (nI 0)) z f = _ := if_neg (by assumption)
        exact x_vret hx hb hr hlocks hP hD hS d_X2_halve_122 rfl (by rw [show mHvZ k 0 i z = z from rfl, hs1, ht1, ht2])
    · refine lv_aload_n hx hb d_X2_halve_84 rfl (lv_at hl 0 rfl) ?_
      refine m_getG hx hb hts hown hK hP d_X2_halve_85 ?_
      refine lv_iconst (v := nI 0) hx hb d_X2_halve_88 (by decide) ?_
      refine m_aldG hx hb hK hP (j := 0) (by omega) d_X2_halve_89 ?_
      refine lv_goto (tgt := 94) hx hb d_X2_halve_90 (by decide) ?_
      refine m_astG hx hb hK hP hD hS (j := 1) (x := sg 0) (by omega) d_X2_halve_94 (fun H locs hP hD hS => ?_)
      refine lv_iload_n hx hb d_X2_halve_95 rfl (lv_at hl 2 rfl) ?_
      refine n_if_eq (tgt := 122) hx hb d_X2_halve_96 (by decide) (by omega) (fun c_4 => ?_) (fun c_4 => ?_)
      · have hs1 : mHvS sg k N = upd sg 1 (sg 0) := congrArg (upd sg 1) (if_neg (by omega))
        have ht1 : mHvTZ (upd sg 1 (sg 0)) z f = _ := if_pos (by assumption)
        have ht2 : mHvTS (upd sg 1 (sg 0)) z f = _ := if_pos (by assumption)
        exact x_vret hx hb hr hlocks hP hD hS d_X2_halve_122 rfl (by rw [show mHvZ k 0 i z = z from rfl, hs1, ht1, ht2])
      · refine lv_aload_n hx hb d_X2_halve_99 rfl (lv_at hl 0 rfl) ?_
        refine m_getG hx hb hts hown hK hP d_X2_halve_100 ?_
        refine lv_iconst (v := nI 0) hx hb d_X2_halve_103 (by decide) ?_
        refine m_aldG hx hb hK hP (j := 0) (by omega) d_X2_halve_104 ?_
        refine lv_istore (lv' := [(4, .int ((upd sg 1 (sg 0)) 0)), (0, .ref h), (1, .int (nI k)), (2, .int (nI f)), (3, .int (nI N))]) hx hb d_X2_halve_105 hl (by decide) rfl (fun ls hl => ?_)
        refine lv_aload_n hx hb d_X2_halve_107 rfl (lv_at hl 1 rfl) ?_
        refine lv_iconst (v := nI 2) hx hb d_X2_halve_108 (by decide) ?_
        refine lv_iload hx hb d_X2_halve_109 (lv_at hl 0 rfl) ?_
        refine lv_i2l (v := ((upd sg 1 (sg 0)) 0).toInt64) hx hb d_X2_halve_111 rfl ?_
        refine x_call (st1 := []) (x_runV (As := [.int (nI 2), .long (((upd sg 1 (sg 0)) 0).toInt64)]) (rest := []) (nL := 5) ⟨hx, hb, hml, hown, hts⟩ (c_X2_loadLong hok (b := 2) (by omega) (((upd sg 1 (sg 0)) 0).toInt64) _) (cwV 2 hts (gw_V k_560 k_562 k_39 k_52 k_563) rfl rfl rfl (by decide +kernel) ⟨Nat.le_of_ble_eq_true rfl, Nat.le_of_ble_eq_true rfl⟩) hK hP hD 0 2 rfl rfl rfl hl.1 rfl (Nat.le_of_ble_eq_true rfl) d_X2_halve_112 ⟨Nat.zero_le _, Nat.zero_le _⟩) hS (x_sub hD hS hA) (x_sub hD hS hA) rfl (fun w1 H locs hY hP hD hS => ?_)
        subst hY
        have hok := mLongZ_ok (v := ((upd sg 1 (sg 0)) 0).toInt64) (b := 2) hok
        refine lv_aload_n hx hb d_X2_halve_115 rfl (lv_at hl 1 rfl) ?_
        refine lv_iconst (v := nI 1) hx hb d_X2_halve_116 (by decide) ?_
        refine lv_iconst (v := nI 2) hx hb d_X2_halve_117 (by decide) ?_
        refine lv_iconst (v := nI 0) hx hb d_X2_halve_118 (by decide) ?_
        refine x_call (st1 := []) (x_runV (As := [.int (nI 1), .int (nI 2), .int (nI 0)]) (rest := []) (nL := 5) ⟨hx, hb, hml, hown, hts⟩ (c_X2_combine hok (b := 1) (q := 2) (f := 0) (by omega) (by omega) (by omega) _) (cwV 3 hts (gw_V k_593 k_595 k_43 k_52 k_596) rfl rfl rfl (by decide +kernel) ⟨Nat.le_of_ble_eq_true rfl, Nat.le_of_ble_eq_true rfl⟩) hK hP hD 0 2 rfl rfl rfl hl.1 rfl (Nat.le_of_ble_eq_true rfl) d_X2_halve_119 ⟨Nat.zero_le _, Nat.zero_le _⟩) hS (x_sub hD hS hA) (x_sub hD hS hA) rfl (fun w1 H locs hY hP hD hS => ?_)
        subst hY
        have hok := mCombZ_ok (sg := mLongG (((upd sg 1 (sg 0)) 0).toInt64) 2 (upd sg 1 (sg 0))) (b := 1) (q := 2) (x := mOth (mLongG (((upd sg 1 (sg 0)) 0).toInt64) 2 (upd sg 1 (sg 0))) 2 0) hok
        have hs1 : mHvS sg k N = upd sg 1 (sg 0) := congrArg (upd sg 1) (if_neg (by omega))
        have ht1 : mHvTZ (upd sg 1 (sg 0)) z f = _ := if_neg (by assumption)
        have ht2 : mHvTS (upd sg 1 (sg 0)) z f = _ := if_neg (by assumption)
        exact x_vret hx hb hr hlocks hP hD hS d_X2_halve_122 rfl (by rw [show mHvZ k 0 i z = z from rfl, hs1, ht1, ht2])
  | succ n ih =>
    intro i z hn hi hok H locs hP hD hS ls hl
    refine lv_iload hx hb d_X2_halve_14 (lv_at hl 4 rfl) ?_
    refine lv_iload_n hx hb d_X2_halve_16 rfl (lv_at hl 3 rfl) ?_
    refine n_icmp_ge (tgt := 74) hx hb d_X2_halve_17 (by decide) (by omega) (by omega) (fun c_1 => ?_) (fun c_1 => ?_)
    · exact absurd c_1 (by omega)
    refine lv_aload_n hx hb d_X2_halve_20 rfl (lv_at hl 0 rfl) ?_
    refine m_getZ hx hb hts hown hK hP d_X2_halve_21 ?_
    refine lv_sipush (v := nI 1100) hx hb d_X2_halve_24 (by decide) ?_
    refine lv_iload hx hb d_X2_halve_27 (lv_at hl 4 rfl) ?_
    refine lv_iload_n hx hb d_X2_halve_29 rfl (lv_at hl 1 rfl) ?_
    refine n_isub hx hb d_X2_halve_30 (by omega) ?_
    refine lv_bipush (v := nI 16) hx hb d_X2_halve_31 (by decide) ?_
    refine n_idiv hx hb d_X2_halve_33 (by omega) (by omega) (by omega) ?_
    refine n_iadd hx hb d_X2_halve_34 ?_
    refine lv_aload_n hx hb d_X2_halve_35 rfl (lv_at hl 0 rfl) ?_
    refine m_getZ hx hb hts hown hK hP d_X2_halve_36 ?_
    refine lv_sipush (v := nI 1100) hx hb d_X2_halve_39 (by decide) ?_
    refine lv_iload hx hb d_X2_halve_42 (lv_at hl 4 rfl) ?_
    refine lv_iload_n hx hb d_X2_halve_44 rfl (lv_at hl 1 rfl) ?_
    refine n_isub hx hb d_X2_halve_45 (by omega) ?_
    refine lv_bipush (v := nI 16) hx hb d_X2_halve_46 (by decide) ?_
    refine n_idiv hx hb d_X2_halve_48 (by omega) (by omega) (by omega) ?_
    refine n_iadd hx hb d_X2_halve_49 ?_
    refine m_aldZ hx hb hK hP (j := 1100 + ((i - k) / 16)) (by omega) d_X2_halve_50 ?_
    have hq_50 := hok.2.2 (1100 + ((i - k) / 16))
    refine lv_aload_n hx hb d_X2_halve_51 rfl (lv_at hl 0 rfl) ?_
    refine lv_iconst (v := nI 0) hx hb d_X2_halve_52 (by decide) ?_
    refine lv_iload hx hb d_X2_halve_53 (lv_at hl 4 rfl) ?_
    refine x_callR (st1 := [.int (nI (mBit z 0 i)), .int (nI (z (1100 + ((i - k) / 16)))), .int (nI (1100 + ((i - k) / 16))), .ref az]) (x_runV (As := [.int (nI 0), .int (nI i)]) (rest := [.int (nI (z (1100 + ((i - k) / 16)))), .int (nI (1100 + ((i - k) / 16))), .ref az]) (nL := 5) ⟨hx, hb, hml, hown, hts⟩ (c_X2_bit hok (b := 0) (k := i) (by omega) (by omega) _) (cwV 2 hts (gw_V k_548 k_550 k_38 k_52 k_551) rfl rfl rfl (by decide +kernel) ⟨Nat.le_of_ble_eq_true rfl, Nat.le_of_ble_eq_true rfl⟩) hK hP hD 0 2 rfl rfl rfl hl.1 rfl (Nat.le_of_ble_eq_true rfl) d_X2_halve_55 ⟨Nat.zero_le _, Nat.zero_le _⟩) rfl ?_
    have hbt := mBit_lt z 0 i
    refine lv_iload hx hb d_X2_halve_58 (lv_at hl 4 rfl) ?_
    refine lv_iload_n hx hb d_X2_halve_60 rfl (lv_at hl 1 rfl) ?_
    refine n_isub hx hb d_X2_halve_61 (by omega) ?_
    refine lv_bipush (v := nI 16) hx hb d_X2_halve_62 (by decide) ?_
    refine n_irem hx hb d_X2_halve_64 (by omega) (by omega) (by omega) ?_
    have hbs := bit_shl hbt (show (i - k) % 16 < 16 by omega)
    refine lv_ishl hx hb d_X2_halve_65 ?_
    rw [n_shl (by omega) (by omega)]
    refine lv_ior hx hb d_X2_halve_66 ?_
    rw [n_or]
    have hor := mOr_lt hok (i - k) i
    rw [show (z (1100 + ((i - k) / 16))) ||| ((mBit z 0 i) * 2 ^ ((i - k) % 16)) = mOr z (i - k) i from rfl]
    refine m_astZ hx hb hK hP hD hS (j := 1100 + ((i - k) / 16)) (v := mOr z (i - k) i) (by omega) d_X2_halve_67 (fun H locs hP hD hS => ?_)
    have hok := hok.z (j := 1100 + ((i - k) / 16)) (v := mOr z (i - k) i) (by omega)
    refine n_iinc (lv' := [(4, .int (nI (i + 1))), (0, .ref h), (1, .int (nI k)), (2, .int (nI f)), (3, .int (nI N))]) hx hb d_X2_halve_68 hl (k := 4) rfl (by decide) rfl (fun ls hl => ?_)
    refine lv_goto (tgt := 14) hx hb d_X2_halve_71 (by decide) ?_
    exact ih (i + 1) _ (by omega) (by omega) hok H locs hP hD hS ls (lv_sub hl [1, 2, 3, 4, 0] rfl)
