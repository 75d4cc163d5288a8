def mDvS (z : Nat → Nat) (n : Nat) (r : Int64) : Int64 := 2 * r + (nI (mBit z 0 n)).toInt64
def mDvB (z : Nat → Nat) (n : Nat) : Nat := z (1100 + n / 16) ||| 1 * 2 ^ (n % 16)
theorem mDvB_lt {w g z : Nat → Nat} (h : mdOk w g z) (n : Nat) : mDvB z n < 65536 := or_16 (h.2.2 _) (bit_shl (by decide) (Nat.mod_lt _ (by decide)))
def mDvR (d : Int64) : Nat → Int64 → (Nat → Nat) → Int64
  | 0, r, _ => r
  | n + 1, r, z => if lg_cmp (mDvS z n r) d < 0 then mDvR d n (mDvS z n r) z else mDvR d n (mDvS z n r - d) (va_up z (1100 + n / 16) (mDvB z n))
def mDvZ (d : Int64) : Nat → Int64 → (Nat → Nat) → Nat → Nat
  | 0, _, z => z
  | n + 1, r, z => if lg_cmp (mDvS z n r) d < 0 then mDvZ d n (mDvS z n r) z else mDvZ d n (mDvS z n r - d) (va_up z (1100 + n / 16) (mDvB z n))
theorem mDvZ_ok {d : Int64} {w g : Nat → Nat} : ∀ (n : Nat) (r : Int64) (z : Nat → Nat), mdOk w g z → mdOk w g (mDvZ d n r z)
  | 0, _, _, h => h
  | n + 1, r, z, h => by
    unfold mDvZ
    split
    · exact mDvZ_ok n _ _ h
    · exact mDvZ_ok n _ _ (h.z (mDvB_lt h _))
set_option maxHeartbeats 800000 in
set_option maxRecDepth 100000 in
theorem li_X2_divide {p : Program} {l : Launch} {e : Env} {s : State} {m : MethodId} {args : Array Value} {below : List Frame} {meth : Method} {c : Code} {D : va_G} {Rs : va_W} {cA cR cL : ClassId} {h aw ar ag az : Nat} {A : Nat → Prop} {cd : Int32} {w g : Nat → Nat} {sg : Nat → Int32} (hx : p.tables.exec = Jvm.exec) (hb : c.code = b_X2_divide) (hr : meth.sig.returnType = some .long) (hml : c.maxLocals = 7) (hown : s.vm.findClass R_Md = some m.cls) (hts : ∀ w ∈ gw, w.before args s = true) (hlocks : meth.locks = false) (hA : ∀ q : Nat, s.heap.size ≤ q → A q) (hK : va_K D cls0 (ty3 cA cR cL) s) {r0 : Nat} {d : Int64} {Q : State → Prop} : ∀ (n : Nat) (r : Int64) (z : Nat → Nat), n ≤ 17600 → mdOk w g z → ∀ (H : Heap) (locs : List Loc), va_P D cls0 (md cA h aw ar ag az cd w g sg z Rs) H → va_D A (md cA h aw ar ag az cd w g sg z Rs) → va_S A s.heap H locs →
    (∀ (H : Heap) (locs : List Loc) (ls : Array Slot), va_P D cls0 (md cA h aw ar ag az cd w g sg (mDvZ d n r z) Rs) H → va_D A (md cA h aw ar ag az cd w g sg (mDvZ d n r z) Rs) → va_S A s.heap H locs → lv_has ls 7 [(0, .ref h), (1, .int (nI r0)), (2, .long d), (4, .long (mDvR d n r z))] → W p l e ({ frames := 4, cells := 0, slots := 0, locals := 93 }) s m args below meth c H locs 0 0 Q (F0 m 139 ls [])) →
    ∀ (ls : Array Slot), lv_has ls 7 [(0, .ref h), (1, .int (nI r0)), (2, .long d), (4, .long r), (6, .int (nM n))] → W p l e ({ frames := 4, cells := 0, slots := 0, locals := 93 }) s m args below meth c H locs 0 0 Q (F0 m 62 ls []) := by
  intro n
  induction n with
  | zero =>
    intro r z hn hok H locs hP hD hS kx ls hl
    rw [nM_0] at hl
    refine lv_iload hx hb d_X2_divide_62 (lv_at hl 4 rfl) ?_
    refine lv_if_lt (tgt := 139) hx hb d_X2_divide_64 (by decide) (fun c_1 => ?_) (fun c_1 => ?_)
    rotate_left
    · exact absurd (by decide) c_1
    exact kx _ _ ls hP hD hS (lv_sub hl [0, 1, 2, 3] rfl)
  | succ n ih =>
    intro r z hn hok H locs hP hD hS kx ls hl
    rw [nM_succ] at hl
    refine lv_iload hx hb d_X2_divide_62 (lv_at hl 4 rfl) ?_
    refine n_if_lt (tgt := 139) hx hb d_X2_divide_64 (by decide) (by omega) ?_
    refine lv_ldc2 (v := 2) hx hb hown (hts (.constantLong "LimbRowsModel" 106 2) k_655) d_X2_divide_67 ?_
    refine lv_lload hx hb d_X2_divide_70 (lv_at hl 3 rfl) ?_
    refine lv_lmul hx hb d_X2_divide_72 ?_
    refine lv_aload_n hx hb d_X2_divide_73 rfl (lv_at hl 0 rfl) ?_
    refine lv_iconst (v := nI 0) hx hb d_X2_divide_74 (by decide) ?_
    refine lv_iload hx hb d_X2_divide_75 (lv_at hl 4 rfl) ?_
    refine x_callR (st1 := [.int (nI (mBit z 0 n)), .long (2 * r)]) (x_runV (As := [.int (nI 0), .int (nI n)]) (rest := [.long (2 * r)]) (nL := 7) ⟨hx, hb, hml, hown, hts⟩ (c_X2_bit hok (b := 0) (k := n) (by omega) (by omega) _) (cwV 2 hts (gw_V k_548 k_550 k_38 k_52 k_551) rfl rfl rfl (by decide +kernel) ⟨Nat.le_of_ble_eq_true rfl, Nat.le_of_ble_eq_true rfl⟩) hK hP hD 0 2 rfl rfl rfl hl.1 rfl (Nat.le_of_ble_eq_true rfl) d_X2_divide_77 ⟨Nat.zero_le _, Nat.zero_le _⟩) rfl ?_
    refine lv_i2l (v := (nI (mBit z 0 n)).toInt64) hx hb d_X2_divide_80 rfl ?_
    refine lv_ladd hx hb d_X2_divide_81 ?_
    refine lv_lstore (lv' := [(4, .long (mDvS z n r)), (0, .ref h), (1, .int (nI r0)), (2, .long d), (6, .int (nI n))]) hx hb d_X2_divide_82 hl (by decide) rfl (fun ls hl => ?_)
    refine lv_lload hx hb d_X2_divide_84 (lv_at hl 0 rfl) ?_
    refine lv_lload_n hx hb d_X2_divide_86 rfl (lv_at hl 3 rfl) ?_
    refine W.lcmp hx hb d_X2_divide_87 ?_
    refine lv_if_lt (tgt := 133) hx hb d_X2_divide_88 (by decide) (fun c_1 => ?_) (fun c_1 => ?_)
    · refine n_idec (lv' := [(6, .int (nM n)), (4, .long (mDvS z n r)), (0, .ref h), (1, .int (nI r0)), (2, .long d)]) hx hb d_X2_divide_133 hl (k := 4) rfl (by decide) rfl (fun ls hl => ?_)
      refine lv_goto (tgt := 62) hx hb d_X2_divide_136 (by decide) ?_
      rw [show mDvR d (n + 1) r z = mDvR d n (mDvS z n r) z from if_pos c_1, show mDvZ d (n + 1) r z = mDvZ d n (mDvS z n r) z from if_pos c_1] at kx
      exact ih _ _ (by omega) hok H locs hP hD hS kx ls (lv_sub hl [2, 3, 4, 1, 0] rfl)
    · refine lv_lload hx hb d_X2_divide_91 (lv_at hl 0 rfl) ?_
      refine lv_lload_n hx hb d_X2_divide_93 rfl (lv_at hl 3 rfl) ?_
      refine lv_lsub hx hb d_X2_divide_94 ?_
      refine lv_lstore (lv' := [(4, .long (mDvS z n r - d)), (0, .ref h), (1, .int (nI r0)), (2, .long d), (6, .int (nI n))]) hx hb d_X2_divide_95 hl (by decide) rfl (fun ls hl => ?_)
      refine lv_aload_n hx hb d_X2_divide_97 rfl (lv_at hl 1 rfl) ?_
      refine m_getZ hx hb hts hown hK hP d_X2_divide_98 ?_
      refine lv_sipush (v := nI 1100) hx hb d_X2_divide_101 (by decide) ?_
      refine lv_iload hx hb d_X2_divide_104 (lv_at hl 4 rfl) ?_
      refine lv_bipush (v := nI 16) hx hb d_X2_divide_106 (by decide) ?_
      refine n_idiv hx hb d_X2_divide_108 (by omega) (by omega) (by omega) ?_
      refine n_iadd hx hb d_X2_divide_109 ?_
      refine lv_aload_n hx hb d_X2_divide_110 rfl (lv_at hl 1 rfl) ?_
      refine m_getZ hx hb hts hown hK hP d_X2_divide_111 ?_
      refine lv_sipush (v := nI 1100) hx hb d_X2_divide_114 (by decide) ?_
      refine lv_iload hx hb d_X2_divide_117 (lv_at hl 4 rfl) ?_
      refine lv_bipush (v := nI 16) hx hb d_X2_divide_119 (by decide) ?_
      refine n_idiv hx hb d_X2_divide_121 (by omega) (by omega) (by omega) ?_
      refine n_iadd hx hb d_X2_divide_122 ?_
      refine m_aldZ hx hb hK hP (j := 1100 + (n / 16)) (by omega) d_X2_divide_123 ?_
      have hq_123 := hok.2.2 (1100 + (n / 16))
      refine lv_iconst (v := nI 1) hx hb d_X2_divide_124 (by decide) ?_
      refine lv_iload hx hb d_X2_divide_125 (lv_at hl 4 rfl) ?_
      refine lv_bipush (v := nI 16) hx hb d_X2_divide_127 (by decide) ?_
      refine n_irem hx hb d_X2_divide_129 (by omega) (by omega) (by omega) ?_
      have hbt : (1 : Nat) < 2 := by decide
      have hbs := bit_shl hbt (show n % 16 < 16 by omega)
      refine lv_ishl hx hb d_X2_divide_130 ?_
      rw [n_shl (by omega) (by omega)]
      refine lv_ior hx hb d_X2_divide_131 ?_
      rw [n_or]
      have hor := mDvB_lt hok n
      rw [show z (1100 + n / 16) ||| 1 * 2 ^ (n % 16) = mDvB z n from rfl]
      refine m_astZ hx hb hK hP hD hS (j := 1100 + (n / 16)) (v := mDvB z n) (by omega) d_X2_divide_132 (fun H locs hP hD hS => ?_)
      have hok := hok.z (j := 1100 + (n / 16)) (v := mDvB z n) (by omega)
      refine n_idec (lv' := [(6, .int (nM n)), (4, .long (mDvS z n r - d)), (0, .ref h), (1, .int (nI r0)), (2, .long d)]) hx hb d_X2_divide_133 hl (k := 4) rfl (by decide) rfl (fun ls hl => ?_)
      refine lv_goto (tgt := 62) hx hb d_X2_divide_136 (by decide) ?_
      rw [show mDvR d (n + 1) r z = mDvR d n (mDvS z n r - d) (va_up z (1100 + n / 16) (mDvB z n)) from if_neg c_1, show mDvZ d (n + 1) r z = mDvZ d n (mDvS z n r - d) (va_up z (1100 + n / 16) (mDvB z n)) from if_neg c_1] at kx
      exact ih _ _ (by omega) hok H locs hP hD hS kx ls (lv_sub hl [2, 3, 4, 1, 0] rfl)
abbrev w_X2_divide : List Cond := .code y_X2_divide b_X2_divide 7 (some .long) :: gw
set_option maxHeartbeats 800000 in
set_option maxRecDepth 100000 in
theorem c_X2_divide_00 {l : Launch} {D : va_G} {Rs : va_W} {cA cR cL : ClassId} {h aw ar ag az : Nat} {cd : Int32} {w g : Nat → Nat} {sg : Nat → Int32} {z : Nat → Nat} (hok : mdOk w g z) {r : Nat} (hr64 : r < 64) (d : Int64) (hd1 : ¬ (lg_cmp d 1) < 0) (hd2 : (lg_cmp d 4611686018427387903) ≤ 0) (hsg : 0 ≤ ((upd (mLoadG w g r 0 z sg) 1 (nI 0)) 0)) (hb1 : (mBits (mDvZ d (mBits (mClr 1 cZ 0 (mLoadZ w g r 0 z)) 0) 0 (mClr 1 cZ 0 (mLoadZ w g r 0 z))) 1) = 0) {t : Nat} (hlow : ¬ 0 ≤ (upd (upd (mLoadG w g r 0 z sg) 1 (nI 0)) 1 (nI 0)) 1 → mLow (mDvZ d (mBits (mClr 1 cZ 0 (mLoadZ w g r 0 z)) 0) 0 (mClr 1 cZ 0 (mLoadZ w g r 0 z))) 1 t) : xC l y_X2_divide w_X2_divide ({ frames := 4, cells := 0, slots := 0, locals := 93 }) D cls0 (ty3 cA cR cL) [.ref h, .int (nI r), .long d] (md cA h aw ar ag az cd w g sg z Rs) (some (.long (mDvR d (mBits (mClr 1 cZ 0 (mLoadZ w g r 0 z)) 0) 0 (mClr 1 cZ 0 (mLoadZ w g r 0 z))))) (fun w1 => w1 = md cA h aw ar ag az (nI 0) w (mStore (upd (upd (mLoadG w g r 0 z sg) 1 (nI 0)) 1 (nI 0)) w (mDvZ d (mBits (mClr 1 cZ 0 (mLoadZ w g r 0 z)) 0) 0 (mClr 1 cZ 0 (mLoadZ w g r 0 z))) r 1 g) (upd (upd (mLoadG w g r 0 z sg) 1 (nI 0)) 1 (nI 0)) (mDvZ d (mBits (mClr 1 cZ 0 (mLoadZ w g r 0 z)) 0) 0 (mClr 1 cZ 0 (mLoadZ w g r 0 z))) Rs) 0 0 := by
  refine xC.ofW (cc := b_X2_divide) (maxL := 7) (ret := some .long) (by decide) rfl (Nat.le_of_ble_eq_true rfl) ?_
  intro p e s m below meth c A ls _ hin hx hb hr hml hown hts hlocks hA hK hP hD hS hl
  have hts : ∀ w ∈ gw, w.before ([.ref h, .int (nI r), .long d]).toArray s = true := fun w h => hts w (List.mem_cons_of_mem _ h)
  have hown : s.vm.findClass R_Md = some m.cls := hown
  have hl : lv_has ls 7 [(0, .ref h), (1, .int (nI r)), (2, .long d)] := hl
  refine lv_aload_n hx hb d_X2_divide_0 rfl (lv_at hl 0 rfl) ?_
  refine lv_iload_n hx hb d_X2_divide_1 rfl (lv_at hl 1 rfl) ?_
  refine x_callR (st1 := [.int (mIsRow (nI r)), .ref h]) (x_runS (As := [.int (nI r)]) (rest := [.ref h]) (nL := 7) ⟨hx, hb, hml, hown, hts⟩ (c_X2_isRow (nI r) _) (cwS 1 hts (gw_S k_511 k_512 k_52 k_513) rfl rfl rfl (by decide +kernel) ⟨Nat.le_of_ble_eq_true rfl, Nat.le_of_ble_eq_true rfl⟩) hK hP hD rfl hl.1 rfl (Nat.le_of_ble_eq_true rfl) d_X2_divide_2 ⟨Nat.zero_le _, Nat.zero_le _⟩) rfl ?_
  rw [mIsRow_1 (show r < 64 by omega)]
  refine n_if_ne (tgt := 12) hx hb d_X2_divide_5 (by decide) (by omega) (fun _ => ?_) (fun c => absurd c (by decide))
  refine lv_lload_n hx hb d_X2_divide_12 rfl (lv_at hl 2 rfl) ?_
  refine lv_lconst (v := 1) hx hb d_X2_divide_13 (by decide) ?_
  refine W.lcmp hx hb d_X2_divide_14 ?_
  refine lv_if_lt (tgt := 26) hx hb d_X2_divide_15 (by decide) (fun c9 => absurd c9 hd1) (fun _ => ?_)
  refine lv_lload_n hx hb d_X2_divide_18 rfl (lv_at hl 2 rfl) ?_
  refine lv_ldc2 (v := 4611686018427387903) hx hb hown (hts (.constantLong "LimbRowsModel" 104 4611686018427387903) k_654) d_X2_divide_19 ?_
  refine W.lcmp hx hb d_X2_divide_22 ?_
  refine lv_if_le (tgt := 30) hx hb d_X2_divide_23 (by decide) (fun _ => ?_) (fun c9 => absurd hd2 c9)
  refine lv_iconst (v := nI 0) hx hb d_X2_divide_30 (by decide) ?_
  refine x_call (st1 := [.int (mRef (nI 0))]) (x_runV (As := [.int (nI 0)]) (rest := []) (nL := 7) ⟨hx, hb, hml, hown, hts⟩ (c_X2_refuses (nI 0) _) (cwV 1 hts (gw_V k_514 k_516 k_30 k_52 k_517) rfl rfl rfl (by decide +kernel) ⟨Nat.le_of_ble_eq_true rfl, Nat.le_of_ble_eq_true rfl⟩) hK hP hD 0 2 rfl rfl rfl hl.1 rfl (Nat.le_of_ble_eq_true rfl) d_X2_divide_31 ⟨Nat.zero_le _, Nat.zero_le _⟩) hS (x_sub hD hS hA) (x_sub hD hS hA) rfl (fun w1 H locs hY hP hD hS => ?_)
  subst hY
  rw [mRef_0]
  refine n_if_eq (tgt := 39) hx hb d_X2_divide_34 (by decide) (by omega) (fun _ => ?_) (fun c => absurd c (by decide))
  refine lv_aload_n hx hb d_X2_divide_39 rfl (lv_at hl 0 rfl) ?_
  refine lv_iconst (v := nI 0) hx hb d_X2_divide_40 (by decide) ?_
  refine lv_iload_n hx hb d_X2_divide_41 rfl (lv_at hl 1 rfl) ?_
  refine x_call (st1 := []) (x_runV (As := [.int (nI 0), .int (nI r)]) (rest := []) (nL := 7) ⟨hx, hb, hml, hown, hts⟩ (c_X2_load hok (b := 0) (r := r) (by omega) (by omega) _) (cwV 2 hts (gw_V k_518 k_520 k_31 k_52 k_521) rfl rfl rfl (by decide +kernel) ⟨Nat.le_of_ble_eq_true rfl, Nat.le_of_ble_eq_true rfl⟩) hK hP hD 0 2 rfl rfl rfl hl.1 rfl (Nat.le_of_ble_eq_true rfl) d_X2_divide_42 ⟨Nat.zero_le _, Nat.zero_le _⟩) hS (x_sub hD hS hA) (x_sub hD hS hA) rfl (fun w1 H locs hY hP hD hS => ?_)
  subst hY
  have hok := mLoadZ_ok (r := r) (b := 0) hok
  refine lv_aload_n hx hb d_X2_divide_45 rfl (lv_at hl 0 rfl) ?_
  refine lv_iconst (v := nI 1) hx hb d_X2_divide_46 (by decide) ?_
  refine x_call (st1 := []) (x_runV (As := [.int (nI 1)]) (rest := []) (nL := 7) ⟨hx, hb, hml, hown, hts⟩ (c_X2_clear (b := 1) (by omega) _) (cwV 1 hts (gw_V k_522 k_524 k_32 k_52 k_525) rfl rfl rfl (by decide +kernel) ⟨Nat.le_of_ble_eq_true rfl, Nat.le_of_ble_eq_true rfl⟩) hK hP hD 0 2 rfl rfl rfl hl.1 rfl (Nat.le_of_ble_eq_true rfl) d_X2_divide_47 ⟨Nat.zero_le _, Nat.zero_le _⟩) hS (x_sub hD hS hA) (x_sub hD hS hA) rfl (fun w1 H locs hY hP hD hS => ?_)
  subst hY
  have hok := mClr_ok (b := 1) cZ 0 _ hok
  refine lv_lconst (v := 0) hx hb d_X2_divide_50 (by decide) ?_
  refine lv_lstore (lv' := [(4, .long 0), (0, .ref h), (1, .int (nI r)), (2, .long d)]) hx hb d_X2_divide_51 hl (by decide) rfl (fun ls hl => ?_)
  refine lv_aload_n hx hb d_X2_divide_53 rfl (lv_at hl 1 rfl) ?_
  refine lv_iconst (v := nI 0) hx hb d_X2_divide_54 (by decide) ?_
  refine x_callR (st1 := [.int (nI (mBits (mClr 1 cZ 0 (mLoadZ w g r 0 z)) 0))]) (x_runV (As := [.int (nI 0)]) (rest := []) (nL := 7) ⟨hx, hb, hml, hown, hts⟩ (c_X2_bits hok (b := 0) (by omega) _) (cwV 1 hts (gw_V k_540 k_542 k_36 k_52 k_543) rfl rfl rfl (by decide +kernel) ⟨Nat.le_of_ble_eq_true rfl, Nat.le_of_ble_eq_true rfl⟩) hK hP hD 0 2 rfl rfl rfl hl.1 rfl (Nat.le_of_ble_eq_true rfl) d_X2_divide_55 ⟨Nat.zero_le _, Nat.zero_le _⟩) rfl ?_
  refine lv_iconst (v := nI 1) hx hb d_X2_divide_58 (by decide) ?_
  refine lv_isub hx hb d_X2_divide_59 ?_
  rw [show nI (mBits (mClr 1 cZ 0 (mLoadZ w g r 0 z)) 0) - nI 1 = nM (mBits (mClr 1 cZ 0 (mLoadZ w g r 0 z)) 0) from by unfold nM; rw [Int32.sub_eq_add_neg]; rfl]
  refine lv_istore (lv' := [(6, .int (nM (mBits (mClr 1 cZ 0 (mLoadZ w g r 0 z)) 0))), (4, .long 0), (0, .ref h), (1, .int (nI r)), (2, .long d)]) hx hb d_X2_divide_60 hl (by decide) rfl (fun ls hl => ?_)
  have hNb := mBits_le (mClr 1 cZ 0 (mLoadZ w g r 0 z)) 0
  refine li_X2_divide (d := d) (r0 := r) hx hb hr hml hown hts hlocks hA hK (mBits (mClr 1 cZ 0 (mLoadZ w g r 0 z)) 0) 0 _ hNb hok _ _ hP hD hS (fun H locs ls hP hD hS hl => ?_) ls (lv_sub hl [2, 3, 4, 1, 0] rfl)
  have hok := mDvZ_ok (d := d) (mBits (mClr 1 cZ 0 (mLoadZ w g r 0 z)) 0) 0 _ hok
  refine lv_aload_n hx hb d_X2_divide_139 rfl (lv_at hl 0 rfl) ?_
  refine m_getG hx hb hts hown hK hP d_X2_divide_140 ?_
  refine lv_iconst (v := nI 0) hx hb d_X2_divide_143 (by decide) ?_
  refine m_aldG hx hb hK hP (j := 0) (by omega) d_X2_divide_144 ?_
  refine lv_if_ge (tgt := 152) hx hb d_X2_divide_145 (by decide) (fun _ => ?_) (fun c9 => absurd hsg c9)
  refine lv_iconst (v := nI 0) hx hb d_X2_divide_152 (by decide) ?_
  refine lv_istore (lv' := [(6, .int (nI 0)), (0, .ref h), (1, .int (nI r)), (2, .long d), (4, .long (mDvR d (mBits (mClr 1 cZ 0 (mLoadZ w g r 0 z)) 0) 0 (mClr 1 cZ 0 (mLoadZ w g r 0 z))))]) hx hb d_X2_divide_153 hl (by decide) rfl (fun ls hl => ?_)
  refine lv_aload_n hx hb d_X2_divide_155 rfl (lv_at hl 1 rfl) ?_
  refine m_getG hx hb hts hown hK hP d_X2_divide_156 ?_
  refine lv_iconst (v := nI 1) hx hb d_X2_divide_159 (by decide) ?_
  refine lv_aload_n hx hb d_X2_divide_160 rfl (lv_at hl 1 rfl) ?_
  refine lv_iconst (v := nI 1) hx hb d_X2_divide_161 (by decide) ?_
  refine x_callR (st1 := [.int (nI (mBits (mDvZ d (mBits (mClr 1 cZ 0 (mLoadZ w g r 0 z)) 0) 0 (mClr 1 cZ 0 (mLoadZ w g r 0 z))) 1)), .int (nI 1), .ref ag]) (x_runV (As := [.int (nI 1)]) (rest := [.int (nI 1), .ref ag]) (nL := 7) ⟨hx, hb, hml, hown, hts⟩ (c_X2_bits hok (b := 1) (by omega) _) (cwV 1 hts (gw_V k_540 k_542 k_36 k_52 k_543) rfl rfl rfl (by decide +kernel) ⟨Nat.le_of_ble_eq_true rfl, Nat.le_of_ble_eq_true rfl⟩) hK hP hD 0 2 rfl rfl rfl hl.1 rfl (Nat.le_of_ble_eq_true rfl) d_X2_divide_162 ⟨Nat.zero_le _, Nat.zero_le _⟩) rfl ?_
  refine n_if_ne (tgt := 172) hx hb d_X2_divide_165 (by decide) (Nat.lt_of_le_of_lt (mBits_le _ _) (by decide)) (fun c9 => absurd c9 (by omega)) (fun _ => ?_)
  refine lv_iconst (v := nI 0) hx hb d_X2_divide_168 (by decide) ?_
  refine lv_goto (tgt := 178) hx hb d_X2_divide_169 (by decide) ?_
  refine m_astG hx hb hK hP hD hS (j := 1) (x := nI 0) (by omega) d_X2_divide_178 (fun H locs hP hD hS => ?_)
  refine lv_iload hx hb d_X2_divide_179 (lv_at hl 0 rfl) ?_
  refine n_if_eq (tgt := 212) hx hb d_X2_divide_181 (by decide) (by omega) (fun _ => ?_) (fun c => absurd c (by decide))
  refine lv_aload_n hx hb d_X2_divide_212 rfl (lv_at hl 1 rfl) ?_
  refine lv_iload_n hx hb d_X2_divide_213 rfl (lv_at hl 2 rfl) ?_
  refine lv_iconst (v := nI 1) hx hb d_X2_divide_214 (by decide) ?_
  refine x_call (st1 := [.int (nI (mFits (upd (upd (mLoadG w g r 0 z sg) 1 (nI 0)) 1 (nI 0)) w (mDvZ d (mBits (mClr 1 cZ 0 (mLoadZ w g r 0 z)) 0) 0 (mClr 1 cZ 0 (mLoadZ w g r 0 z))) r 1 t))]) (x_runV (As := [.int (nI r), .int (nI 1)]) (rest := []) (nL := 7) ⟨hx, hb, hml, hown, hts⟩ (c_X2_store hok (b := 1) (r := r) (t := t) (by omega) (by omega) hlow _) (cwV 2 hts (gw_V k_532 k_534 k_34 k_52 k_535) rfl rfl rfl (by decide +kernel) ⟨Nat.le_of_ble_eq_true rfl, Nat.le_of_ble_eq_true rfl⟩) hK hP hD 0 2 rfl rfl rfl hl.1 rfl (Nat.le_of_ble_eq_true rfl) d_X2_divide_215 ⟨Nat.zero_le _, Nat.zero_le _⟩) hS (x_sub hD hS hA) (x_sub hD hS hA) rfl (fun w1 H locs hY hP hD hS => ?_)
  subst hY
  refine lv_pop hx hb d_X2_divide_218 rfl ?_
  refine lv_lload hx hb d_X2_divide_219 (lv_at hl 4 rfl) ?_
  exact x_lret hx hb hr hlocks hP hD hS d_X2_divide_221 rfl rfl
set_option maxHeartbeats 800000 in
set_option maxRecDepth 100000 in
theorem c_X2_divide_01 {l : Launch} {D : va_G} {Rs : va_W} {cA cR cL : ClassId} {h aw ar ag az : Nat} {cd : Int32} {w g : Nat → Nat} {sg : Nat → Int32} {z : Nat → Nat} (hok : mdOk w g z) {r : Nat} (hr64 : r < 64) (d : Int64) (hd1 : ¬ (lg_cmp d 1) < 0) (hd2 : (lg_cmp d 4611686018427387903) ≤ 0) (hsg : 0 ≤ ((upd (mLoadG w g r 0 z sg) 1 (nI 0)) 0)) (hb1 : (mBits (mDvZ d (mBits (mClr 1 cZ 0 (mLoadZ w g r 0 z)) 0) 0 (mClr 1 cZ 0 (mLoadZ w g r 0 z))) 1) ≠ 0) {t : Nat} (hlow : ¬ 0 ≤ (upd (upd (mLoadG w g r 0 z sg) 1 (nI 0)) 1 ((upd (mLoadG w g r 0 z sg) 1 (nI 0)) 0)) 1 → mLow (mDvZ d (mBits (mClr 1 cZ 0 (mLoadZ w g r 0 z)) 0) 0 (mClr 1 cZ 0 (mLoadZ w g r 0 z))) 1 t) : xC l y_X2_divide w_X2_divide ({ frames := 4, cells := 0, slots := 0, locals := 93 }) D cls0 (ty3 cA cR cL) [.ref h, .int (nI r), .long d] (md cA h aw ar ag az cd w g sg z Rs) (some (.long (mDvR d (mBits (mClr 1 cZ 0 (mLoadZ w g r 0 z)) 0) 0 (mClr 1 cZ 0 (mLoadZ w g r 0 z))))) (fun w1 => w1 = md cA h aw ar ag az (nI 0) w (mStore (upd (upd (mLoadG w g r 0 z sg) 1 (nI 0)) 1 ((upd (mLoadG w g r 0 z sg) 1 (nI 0)) 0)) w (mDvZ d (mBits (mClr 1 cZ 0 (mLoadZ w g r 0 z)) 0) 0 (mClr 1 cZ 0 (mLoadZ w g r 0 z))) r 1 g) (upd (upd (mLoadG w g r 0 z sg) 1 (nI 0)) 1 ((upd (mLoadG w g r 0 z sg) 1 (nI 0)) 0)) (mDvZ d (mBits (mClr 1 cZ 0 (mLoadZ w g r 0 z)) 0) 0 (mClr 1 cZ 0 (mLoadZ w g r 0 z))) Rs) 0 0 := by
  refine xC.ofW (cc := b_X2_divide) (maxL := 7) (ret := some .long) (by decide) rfl (Nat.le_of_ble_eq_true rfl) ?_
  intro p e s m below meth c A ls _ hin hx hb hr hml hown hts hlocks hA hK hP hD hS hl
  have hts : ∀ w ∈ gw, w.before ([.ref h, .int (nI r), .long d]).toArray s = true := fun w h => hts w (List.mem_cons_of_mem _ h)
  have hown : s.vm.findClass R_Md = some m.cls := hown
  have hl : lv_has ls 7 [(0, .ref h), (1, .int (nI r)), (2, .long d)] := hl
  refine lv_aload_n hx hb d_X2_divide_0 rfl (lv_at hl 0 rfl) ?_
  refine lv_iload_n hx hb d_X2_divide_1 rfl (lv_at hl 1 rfl) ?_
  refine x_callR (st1 := [.int (mIsRow (nI r)), .ref h]) (x_runS (As := [.int (nI r)]) (rest := [.ref h]) (nL := 7) ⟨hx, hb, hml, hown, hts⟩ (c_X2_isRow (nI r) _) (cwS 1 hts (gw_S k_511 k_512 k_52 k_513) rfl rfl rfl (by decide +kernel) ⟨Nat.le_of_ble_eq_true rfl, Nat.le_of_ble_eq_true rfl⟩) hK hP hD rfl hl.1 rfl (Nat.le_of_ble_eq_true rfl) d_X2_divide_2 ⟨Nat.zero_le _, Nat.zero_le _⟩) rfl ?_
  rw [mIsRow_1 (show r < 64 by omega)]
  refine n_if_ne (tgt := 12) hx hb d_X2_divide_5 (by decide) (by omega) (fun _ => ?_) (fun c => absurd c (by decide))
  refine lv_lload_n hx hb d_X2_divide_12 rfl (lv_at hl 2 rfl) ?_
  refine lv_lconst (v := 1) hx hb d_X2_divide_13 (by decide) ?_
  refine W.lcmp hx hb d_X2_divide_14 ?_
  refine lv_if_lt (tgt := 26) hx hb d_X2_divide_15 (by decide) (fun c9 => absurd c9 hd1) (fun _ => ?_)
  refine lv_lload_n hx hb d_X2_divide_18 rfl (lv_at hl 2 rfl) ?_
  refine lv_ldc2 (v := 4611686018427387903) hx hb hown (hts (.constantLong "LimbRowsModel" 104 4611686018427387903) k_654) d_X2_divide_19 ?_
  refine W.lcmp hx hb d_X2_divide_22 ?_
  refine lv_if_le (tgt := 30) hx hb d_X2_divide_23 (by decide) (fun _ => ?_) (fun c9 => absurd hd2 c9)
  refine lv_iconst (v := nI 0) hx hb d_X2_divide_30 (by decide) ?_
  refine x_call (st1 := [.int (mRef (nI 0))]) (x_runV (As := [.int (nI 0)]) (rest := []) (nL := 7) ⟨hx, hb, hml, hown, hts⟩ (c_X2_refuses (nI 0) _) (cwV 1 hts (gw_V k_514 k_516 k_30 k_52 k_517) rfl rfl rfl (by decide +kernel) ⟨Nat.le_of_ble_eq_true rfl, Nat.le_of_ble_eq_true rfl⟩) hK hP hD 0 2 rfl rfl rfl hl.1 rfl (Nat.le_of_ble_eq_true rfl) d_X2_divide_31 ⟨Nat.zero_le _, Nat.zero_le _⟩) hS (x_sub hD hS hA) (x_sub hD hS hA) rfl (fun w1 H locs hY hP hD hS => ?_)
  subst hY
  rw [mRef_0]
  refine n_if_eq (tgt := 39) hx hb d_X2_divide_34 (by decide) (by omega) (fun _ => ?_) (fun c => absurd c (by decide))
  refine lv_aload_n hx hb d_X2_divide_39 rfl (lv_at hl 0 rfl) ?_
  refine lv_iconst (v := nI 0) hx hb d_X2_divide_40 (by decide) ?_
  refine lv_iload_n hx hb d_X2_divide_41 rfl (lv_at hl 1 rfl) ?_
  refine x_call (st1 := []) (x_runV (As := [.int (nI 0), .int (nI r)]) (rest := []) (nL := 7) ⟨hx, hb, hml, hown, hts⟩ (c_X2_load hok (b := 0) (r := r) (by omega) (by omega) _) (cwV 2 hts (gw_V k_518 k_520 k_31 k_52 k_521) rfl rfl rfl (by decide +kernel) ⟨Nat.le_of_ble_eq_true rfl, Nat.le_of_ble_eq_true rfl⟩) hK hP hD 0 2 rfl rfl rfl hl.1 rfl (Nat.le_of_ble_eq_true rfl) d_X2_divide_42 ⟨Nat.zero_le _, Nat.zero_le _⟩) hS (x_sub hD hS hA) (x_sub hD hS hA) rfl (fun w1 H locs hY hP hD hS => ?_)
  subst hY
  have hok := mLoadZ_ok (r := r) (b := 0) hok
  refine lv_aload_n hx hb d_X2_divide_45 rfl (lv_at hl 0 rfl) ?_
  refine lv_iconst (v := nI 1) hx hb d_X2_divide_46 (by decide) ?_
  refine x_call (st1 := []) (x_runV (As := [.int (nI 1)]) (rest := []) (nL := 7) ⟨hx, hb, hml, hown, hts⟩ (c_X2_clear (b := 1) (by omega) _) (cwV 1 hts (gw_V k_522 k_524 k_32 k_52 k_525) rfl rfl rfl (by decide +kernel) ⟨Nat.le_of_ble_eq_true rfl, Nat.le_of_ble_eq_true rfl⟩) hK hP hD 0 2 rfl rfl rfl hl.1 rfl (Nat.le_of_ble_eq_true rfl) d_X2_divide_47 ⟨Nat.zero_le _, Nat.zero_le _⟩) hS (x_sub hD hS hA) (x_sub hD hS hA) rfl (fun w1 H locs hY hP hD hS => ?_)
  subst hY
  have hok := mClr_ok (b := 1) cZ 0 _ hok
  refine lv_lconst (v := 0) hx hb d_X2_divide_50 (by decide) ?_
  refine lv_lstore (lv' := [(4, .long 0), (0, .ref h), (1, .int (nI r)), (2, .long d)]) hx hb d_X2_divide_51 hl (by decide) rfl (fun ls hl => ?_)
  refine lv_aload_n hx hb d_X2_divide_53 rfl (lv_at hl 1 rfl) ?_
  refine lv_iconst (v := nI 0) hx hb d_X2_divide_54 (by decide) ?_
  refine x_callR (st1 := [.int (nI (mBits (mClr 1 cZ 0 (mLoadZ w g r 0 z)) 0))]) (x_runV (As := [.int (nI 0)]) (rest := []) (nL := 7) ⟨hx, hb, hml, hown, hts⟩ (c_X2_bits hok (b := 0) (by omega) _) (cwV 1 hts (gw_V k_540 k_542 k_36 k_52 k_543) rfl rfl rfl (by decide +kernel) ⟨Nat.le_of_ble_eq_true rfl, Nat.le_of_ble_eq_true rfl⟩) hK hP hD 0 2 rfl rfl rfl hl.1 rfl (Nat.le_of_ble_eq_true rfl) d_X2_divide_55 ⟨Nat.zero_le _, Nat.zero_le _⟩) rfl ?_
  refine lv_iconst (v := nI 1) hx hb d_X2_divide_58 (by decide) ?_
  refine lv_isub hx hb d_X2_divide_59 ?_
  rw [show nI (mBits (mClr 1 cZ 0 (mLoadZ w g r 0 z)) 0) - nI 1 = nM (mBits (mClr 1 cZ 0 (mLoadZ w g r 0 z)) 0) from by unfold nM; rw [Int32.sub_eq_add_neg]; rfl]
  refine lv_istore (lv' := [(6, .int (nM (mBits (mClr 1 cZ 0 (mLoadZ w g r 0 z)) 0))), (4, .long 0), (0, .ref h), (1, .int (nI r)), (2, .long d)]) hx hb d_X2_divide_60 hl (by decide) rfl (fun ls hl => ?_)
  have hNb := mBits_le (mClr 1 cZ 0 (mLoadZ w g r 0 z)) 0
  refine li_X2_divide (d := d) (r0 := r) hx hb hr hml hown hts hlocks hA hK (mBits (mClr 1 cZ 0 (mLoadZ w g r 0 z)) 0) 0 _ hNb hok _ _ hP hD hS (fun H locs ls hP hD hS hl => ?_) ls (lv_sub hl [2, 3, 4, 1, 0] rfl)
  have hok := mDvZ_ok (d := d) (mBits (mClr 1 cZ 0 (mLoadZ w g r 0 z)) 0) 0 _ hok
  refine lv_aload_n hx hb d_X2_divide_139 rfl (lv_at hl 0 rfl) ?_
  refine m_getG hx hb hts hown hK hP d_X2_divide_140 ?_
  refine lv_iconst (v := nI 0) hx hb d_X2_divide_143 (by decide) ?_
  refine m_aldG hx hb hK hP (j := 0) (by omega) d_X2_divide_144 ?_
  refine lv_if_ge (tgt := 152) hx hb d_X2_divide_145 (by decide) (fun _ => ?_) (fun c9 => absurd hsg c9)
  refine lv_iconst (v := nI 0) hx hb d_X2_divide_152 (by decide) ?_
  refine lv_istore (lv' := [(6, .int (nI 0)), (0, .ref h), (1, .int (nI r)), (2, .long d), (4, .long (mDvR d (mBits (mClr 1 cZ 0 (mLoadZ w g r 0 z)) 0) 0 (mClr 1 cZ 0 (mLoadZ w g r 0 z))))]) hx hb d_X2_divide_153 hl (by decide) rfl (fun ls hl => ?_)
  refine lv_aload_n hx hb d_X2_divide_155 rfl (lv_at hl 1 rfl) ?_
  refine m_getG hx hb hts hown hK hP d_X2_divide_156 ?_
  refine lv_iconst (v := nI 1) hx hb d_X2_divide_159 (by decide) ?_
  refine lv_aload_n hx hb d_X2_divide_160 rfl (lv_at hl 1 rfl) ?_
  refine lv_iconst (v := nI 1) hx hb d_X2_divide_161 (by decide) ?_
  refine x_callR (st1 := [.int (nI (mBits (mDvZ d (mBits (mClr 1 cZ 0 (mLoadZ w g r 0 z)) 0) 0 (mClr 1 cZ 0 (mLoadZ w g r 0 z))) 1)), .int (nI 1), .ref ag]) (x_runV (As := [.int (nI 1)]) (rest := [.int (nI 1), .ref ag]) (nL := 7) ⟨hx, hb, hml, hown, hts⟩ (c_X2_bits hok (b := 1) (by omega) _) (cwV 1 hts (gw_V k_540 k_542 k_36 k_52 k_543) rfl rfl rfl (by decide +kernel) ⟨Nat.le_of_ble_eq_true rfl, Nat.le_of_ble_eq_true rfl⟩) hK hP hD 0 2 rfl rfl rfl hl.1 rfl (Nat.le_of_ble_eq_true rfl) d_X2_divide_162 ⟨Nat.zero_le _, Nat.zero_le _⟩) rfl ?_
  refine n_if_ne (tgt := 172) hx hb d_X2_divide_165 (by decide) (Nat.lt_of_le_of_lt (mBits_le _ _) (by decide)) (fun _ => ?_) (fun c9 => absurd c9 (by omega))
  refine lv_aload_n hx hb d_X2_divide_172 rfl (lv_at hl 1 rfl) ?_
  refine m_getG hx hb hts hown hK hP d_X2_divide_173 ?_
  refine lv_iconst (v := nI 0) hx hb d_X2_divide_176 (by decide) ?_
  refine m_aldG hx hb hK hP (j := 0) (by omega) d_X2_divide_177 ?_
  refine m_astG hx hb hK hP hD hS (j := 1) (x := (upd (mLoadG w g r 0 z sg) 1 (nI 0)) 0) (by omega) d_X2_divide_178 (fun H locs hP hD hS => ?_)
  refine lv_iload hx hb d_X2_divide_179 (lv_at hl 0 rfl) ?_
  refine n_if_eq (tgt := 212) hx hb d_X2_divide_181 (by decide) (by omega) (fun _ => ?_) (fun c => absurd c (by decide))
  refine lv_aload_n hx hb d_X2_divide_212 rfl (lv_at hl 1 rfl) ?_
  refine lv_iload_n hx hb d_X2_divide_213 rfl (lv_at hl 2 rfl) ?_
  refine lv_iconst (v := nI 1) hx hb d_X2_divide_214 (by decide) ?_
  refine x_call (st1 := [.int (nI (mFits (upd (upd (mLoadG w g r 0 z sg) 1 (nI 0)) 1 ((upd (mLoadG w g r 0 z sg) 1 (nI 0)) 0)) w (mDvZ d (mBits (mClr 1 cZ 0 (mLoadZ w g r 0 z)) 0) 0 (mClr 1 cZ 0 (mLoadZ w g r 0 z))) r 1 t))]) (x_runV (As := [.int (nI r), .int (nI 1)]) (rest := []) (nL := 7) ⟨hx, hb, hml, hown, hts⟩ (c_X2_store hok (b := 1) (r := r) (t := t) (by omega) (by omega) hlow _) (cwV 2 hts (gw_V k_532 k_534 k_34 k_52 k_535) rfl rfl rfl (by decide +kernel) ⟨Nat.le_of_ble_eq_true rfl, Nat.le_of_ble_eq_true rfl⟩) hK hP hD 0 2 rfl rfl rfl hl.1 rfl (Nat.le_of_ble_eq_true rfl) d_X2_divide_215 ⟨Nat.zero_le _, Nat.zero_le _⟩) hS (x_sub hD hS hA) (x_sub hD hS hA) rfl (fun w1 H locs hY hP hD hS => ?_)
  subst hY
  refine lv_pop hx hb d_X2_divide_218 rfl ?_
  refine lv_lload hx hb d_X2_divide_219 (lv_at hl 4 rfl) ?_
  exact x_lret hx hb hr hlocks hP hD hS d_X2_divide_221 rfl rfl
set_option maxHeartbeats 800000 in
set_option maxRecDepth 100000 in
theorem c_X2_divide_10 {l : Launch} {D : va_G} {Rs : va_W} {cA cR cL : ClassId} {h aw ar ag az : Nat} {cd : Int32} {w g : Nat → Nat} {sg : Nat → Int32} {z : Nat → Nat} (hok : mdOk w g z) {r : Nat} (hr64 : r < 64) (d : Int64) (hd1 : ¬ (lg_cmp d 1) < 0) (hd2 : (lg_cmp d 4611686018427387903) ≤ 0) (hsg : ¬ 0 ≤ ((upd (mLoadG w g r 0 z sg) 1 (nI 0)) 0)) (hb1 : (mBits (mDvZ d (mBits (mClr 1 cZ 0 (mLoadZ w g r 0 z)) 0) 0 (mClr 1 cZ 0 (mLoadZ w g r 0 z))) 1) = 0) (hr0 : (lg_cmp (mDvR d (mBits (mClr 1 cZ 0 (mLoadZ w g r 0 z)) 0) 0 (mClr 1 cZ 0 (mLoadZ w g r 0 z))) 0) ≤ 0) {t : Nat} (hlow : ¬ 0 ≤ (upd (upd (mLoadG w g r 0 z sg) 1 (nI 0)) 1 (nI 0)) 1 → mLow (mDvZ d (mBits (mClr 1 cZ 0 (mLoadZ w g r 0 z)) 0) 0 (mClr 1 cZ 0 (mLoadZ w g r 0 z))) 1 t) : xC l y_X2_divide w_X2_divide ({ frames := 4, cells := 0, slots := 0, locals := 93 }) D cls0 (ty3 cA cR cL) [.ref h, .int (nI r), .long d] (md cA h aw ar ag az cd w g sg z Rs) (some (.long (mDvR d (mBits (mClr 1 cZ 0 (mLoadZ w g r 0 z)) 0) 0 (mClr 1 cZ 0 (mLoadZ w g r 0 z))))) (fun w1 => w1 = md cA h aw ar ag az (nI 0) w (mStore (upd (upd (mLoadG w g r 0 z sg) 1 (nI 0)) 1 (nI 0)) w (mDvZ d (mBits (mClr 1 cZ 0 (mLoadZ w g r 0 z)) 0) 0 (mClr 1 cZ 0 (mLoadZ w g r 0 z))) r 1 g) (upd (upd (mLoadG w g r 0 z sg) 1 (nI 0)) 1 (nI 0)) (mDvZ d (mBits (mClr 1 cZ 0 (mLoadZ w g r 0 z)) 0) 0 (mClr 1 cZ 0 (mLoadZ w g r 0 z))) Rs) 0 0 := by
  refine xC.ofW (cc := b_X2_divide) (maxL := 7) (ret := some .long) (by decide) rfl (Nat.le_of_ble_eq_true rfl) ?_
  intro p e s m below meth c A ls _ hin hx hb hr hml hown hts hlocks hA hK hP hD hS hl
  have hts : ∀ w ∈ gw, w.before ([.ref h, .int (nI r), .long d]).toArray s = true := fun w h => hts w (List.mem_cons_of_mem _ h)
  have hown : s.vm.findClass R_Md = some m.cls := hown
  have hl : lv_has ls 7 [(0, .ref h), (1, .int (nI r)), (2, .long d)] := hl
  refine lv_aload_n hx hb d_X2_divide_0 rfl (lv_at hl 0 rfl) ?_
  refine lv_iload_n hx hb d_X2_divide_1 rfl (lv_at hl 1 rfl) ?_
  refine x_callR (st1 := [.int (mIsRow (nI r)), .ref h]) (x_runS (As := [.int (nI r)]) (rest := [.ref h]) (nL := 7) ⟨hx, hb, hml, hown, hts⟩ (c_X2_isRow (nI r) _) (cwS 1 hts (gw_S k_511 k_512 k_52 k_513) rfl rfl rfl (by decide +kernel) ⟨Nat.le_of_ble_eq_true rfl, Nat.le_of_ble_eq_true rfl⟩) hK hP hD rfl hl.1 rfl (Nat.le_of_ble_eq_true rfl) d_X2_divide_2 ⟨Nat.zero_le _, Nat.zero_le _⟩) rfl ?_
  rw [mIsRow_1 (show r < 64 by omega)]
  refine n_if_ne (tgt := 12) hx hb d_X2_divide_5 (by decide) (by omega) (fun _ => ?_) (fun c => absurd c (by decide))
  refine lv_lload_n hx hb d_X2_divide_12 rfl (lv_at hl 2 rfl) ?_
  refine lv_lconst (v := 1) hx hb d_X2_divide_13 (by decide) ?_
  refine W.lcmp hx hb d_X2_divide_14 ?_
  refine lv_if_lt (tgt := 26) hx hb d_X2_divide_15 (by decide) (fun c9 => absurd c9 hd1) (fun _ => ?_)
  refine lv_lload_n hx hb d_X2_divide_18 rfl (lv_at hl 2 rfl) ?_
  refine lv_ldc2 (v := 4611686018427387903) hx hb hown (hts (.constantLong "LimbRowsModel" 104 4611686018427387903) k_654) d_X2_divide_19 ?_
  refine W.lcmp hx hb d_X2_divide_22 ?_
  refine lv_if_le (tgt := 30) hx hb d_X2_divide_23 (by decide) (fun _ => ?_) (fun c9 => absurd hd2 c9)
  refine lv_iconst (v := nI 0) hx hb d_X2_divide_30 (by decide) ?_
  refine x_call (st1 := [.int (mRef (nI 0))]) (x_runV (As := [.int (nI 0)]) (rest := []) (nL := 7) ⟨hx, hb, hml, hown, hts⟩ (c_X2_refuses (nI 0) _) (cwV 1 hts (gw_V k_514 k_516 k_30 k_52 k_517) rfl rfl rfl (by decide +kernel) ⟨Nat.le_of_ble_eq_true rfl, Nat.le_of_ble_eq_true rfl⟩) hK hP hD 0 2 rfl rfl rfl hl.1 rfl (Nat.le_of_ble_eq_true rfl) d_X2_divide_31 ⟨Nat.zero_le _, Nat.zero_le _⟩) hS (x_sub hD hS hA) (x_sub hD hS hA) rfl (fun w1 H locs hY hP hD hS => ?_)
  subst hY
  rw [mRef_0]
  refine n_if_eq (tgt := 39) hx hb d_X2_divide_34 (by decide) (by omega) (fun _ => ?_) (fun c => absurd c (by decide))
  refine lv_aload_n hx hb d_X2_divide_39 rfl (lv_at hl 0 rfl) ?_
  refine lv_iconst (v := nI 0) hx hb d_X2_divide_40 (by decide) ?_
  refine lv_iload_n hx hb d_X2_divide_41 rfl (lv_at hl 1 rfl) ?_
  refine x_call (st1 := []) (x_runV (As := [.int (nI 0), .int (nI r)]) (rest := []) (nL := 7) ⟨hx, hb, hml, hown, hts⟩ (c_X2_load hok (b := 0) (r := r) (by omega) (by omega) _) (cwV 2 hts (gw_V k_518 k_520 k_31 k_52 k_521) rfl rfl rfl (by decide +kernel) ⟨Nat.le_of_ble_eq_true rfl, Nat.le_of_ble_eq_true rfl⟩) hK hP hD 0 2 rfl rfl rfl hl.1 rfl (Nat.le_of_ble_eq_true rfl) d_X2_divide_42 ⟨Nat.zero_le _, Nat.zero_le _⟩) hS (x_sub hD hS hA) (x_sub hD hS hA) rfl (fun w1 H locs hY hP hD hS => ?_)
  subst hY
  have hok := mLoadZ_ok (r := r) (b := 0) hok
  refine lv_aload_n hx hb d_X2_divide_45 rfl (lv_at hl 0 rfl) ?_
  refine lv_iconst (v := nI 1) hx hb d_X2_divide_46 (by decide) ?_
  refine x_call (st1 := []) (x_runV (As := [.int (nI 1)]) (rest := []) (nL := 7) ⟨hx, hb, hml, hown, hts⟩ (c_X2_clear (b := 1) (by omega) _) (cwV 1 hts (gw_V k_522 k_524 k_32 k_52 k_525) rfl rfl rfl (by decide +kernel) ⟨Nat.le_of_ble_eq_true rfl, Nat.le_of_ble_eq_true rfl⟩) hK hP hD 0 2 rfl rfl rfl hl.1 rfl (Nat.le_of_ble_eq_true rfl) d_X2_divide_47 ⟨Nat.zero_le _, Nat.zero_le _⟩) hS (x_sub hD hS hA) (x_sub hD hS hA) rfl (fun w1 H locs hY hP hD hS => ?_)
  subst hY
  have hok := mClr_ok (b := 1) cZ 0 _ hok
  refine lv_lconst (v := 0) hx hb d_X2_divide_50 (by decide) ?_
  refine lv_lstore (lv' := [(4, .long 0), (0, .ref h), (1, .int (nI r)), (2, .long d)]) hx hb d_X2_divide_51 hl (by decide) rfl (fun ls hl => ?_)
  refine lv_aload_n hx hb d_X2_divide_53 rfl (lv_at hl 1 rfl) ?_
  refine lv_iconst (v := nI 0) hx hb d_X2_divide_54 (by decide) ?_
  refine x_callR (st1 := [.int (nI (mBits (mClr 1 cZ 0 (mLoadZ w g r 0 z)) 0))]) (x_runV (As := [.int (nI 0)]) (rest := []) (nL := 7) ⟨hx, hb, hml, hown, hts⟩ (c_X2_bits hok (b := 0) (by omega) _) (cwV 1 hts (gw_V k_540 k_542 k_36 k_52 k_543) rfl rfl rfl (by decide +kernel) ⟨Nat.le_of_ble_eq_true rfl, Nat.le_of_ble_eq_true rfl⟩) hK hP hD 0 2 rfl rfl rfl hl.1 rfl (Nat.le_of_ble_eq_true rfl) d_X2_divide_55 ⟨Nat.zero_le _, Nat.zero_le _⟩) rfl ?_
  refine lv_iconst (v := nI 1) hx hb d_X2_divide_58 (by decide) ?_
  refine lv_isub hx hb d_X2_divide_59 ?_
  rw [show nI (mBits (mClr 1 cZ 0 (mLoadZ w g r 0 z)) 0) - nI 1 = nM (mBits (mClr 1 cZ 0 (mLoadZ w g r 0 z)) 0) from by unfold nM; rw [Int32.sub_eq_add_neg]; rfl]
  refine lv_istore (lv' := [(6, .int (nM (mBits (mClr 1 cZ 0 (mLoadZ w g r 0 z)) 0))), (4, .long 0), (0, .ref h), (1, .int (nI r)), (2, .long d)]) hx hb d_X2_divide_60 hl (by decide) rfl (fun ls hl => ?_)
  have hNb := mBits_le (mClr 1 cZ 0 (mLoadZ w g r 0 z)) 0
  refine li_X2_divide (d := d) (r0 := r) hx hb hr hml hown hts hlocks hA hK (mBits (mClr 1 cZ 0 (mLoadZ w g r 0 z)) 0) 0 _ hNb hok _ _ hP hD hS (fun H locs ls hP hD hS hl => ?_) ls (lv_sub hl [2, 3, 4, 1, 0] rfl)
  have hok := mDvZ_ok (d := d) (mBits (mClr 1 cZ 0 (mLoadZ w g r 0 z)) 0) 0 _ hok
  refine lv_aload_n hx hb d_X2_divide_139 rfl (lv_at hl 0 rfl) ?_
  refine m_getG hx hb hts hown hK hP d_X2_divide_140 ?_
  refine lv_iconst (v := nI 0) hx hb d_X2_divide_143 (by decide) ?_
  refine m_aldG hx hb hK hP (j := 0) (by omega) d_X2_divide_144 ?_
  refine lv_if_ge (tgt := 152) hx hb d_X2_divide_145 (by decide) (fun c9 => absurd c9 hsg) (fun _ => ?_)
  refine lv_iconst (v := nI 1) hx hb d_X2_divide_148 (by decide) ?_
  refine lv_goto (tgt := 153) hx hb d_X2_divide_149 (by decide) ?_
  refine lv_istore (lv' := [(6, .int (nI 1)), (0, .ref h), (1, .int (nI r)), (2, .long d), (4, .long (mDvR d (mBits (mClr 1 cZ 0 (mLoadZ w g r 0 z)) 0) 0 (mClr 1 cZ 0 (mLoadZ w g r 0 z))))]) hx hb d_X2_divide_153 hl (by decide) rfl (fun ls hl => ?_)
  refine lv_aload_n hx hb d_X2_divide_155 rfl (lv_at hl 1 rfl) ?_
  refine m_getG hx hb hts hown hK hP d_X2_divide_156 ?_
  refine lv_iconst (v := nI 1) hx hb d_X2_divide_159 (by decide) ?_
  refine lv_aload_n hx hb d_X2_divide_160 rfl (lv_at hl 1 rfl) ?_
  refine lv_iconst (v := nI 1) hx hb d_X2_divide_161 (by decide) ?_
  refine x_callR (st1 := [.int (nI (mBits (mDvZ d (mBits (mClr 1 cZ 0 (mLoadZ w g r 0 z)) 0) 0 (mClr 1 cZ 0 (mLoadZ w g r 0 z))) 1)), .int (nI 1), .ref ag]) (x_runV (As := [.int (nI 1)]) (rest := [.int (nI 1), .ref ag]) (nL := 7) ⟨hx, hb, hml, hown, hts⟩ (c_X2_bits hok (b := 1) (by omega) _) (cwV 1 hts (gw_V k_540 k_542 k_36 k_52 k_543) rfl rfl rfl (by decide +kernel) ⟨Nat.le_of_ble_eq_true rfl, Nat.le_of_ble_eq_true rfl⟩) hK hP hD 0 2 rfl rfl rfl hl.1 rfl (Nat.le_of_ble_eq_true rfl) d_X2_divide_162 ⟨Nat.zero_le _, Nat.zero_le _⟩) rfl ?_
  refine n_if_ne (tgt := 172) hx hb d_X2_divide_165 (by decide) (Nat.lt_of_le_of_lt (mBits_le _ _) (by decide)) (fun c9 => absurd c9 (by omega)) (fun _ => ?_)
  refine lv_iconst (v := nI 0) hx hb d_X2_divide_168 (by decide) ?_
  refine lv_goto (tgt := 178) hx hb d_X2_divide_169 (by decide) ?_
  refine m_astG hx hb hK hP hD hS (j := 1) (x := nI 0) (by omega) d_X2_divide_178 (fun H locs hP hD hS => ?_)
  refine lv_iload hx hb d_X2_divide_179 (lv_at hl 0 rfl) ?_
  refine n_if_eq (tgt := 212) hx hb d_X2_divide_181 (by decide) (by omega) (fun c => absurd c (by decide)) (fun _ => ?_)
  refine lv_lload hx hb d_X2_divide_184 (lv_at hl 4 rfl) ?_
  refine lv_lconst (v := 0) hx hb d_X2_divide_186 (by decide) ?_
  refine W.lcmp hx hb d_X2_divide_187 ?_
  refine lv_if_le (tgt := 212) hx hb d_X2_divide_188 (by decide) (fun _ => ?_) (fun c9 => absurd hr0 c9)
  refine lv_aload_n hx hb d_X2_divide_212 rfl (lv_at hl 1 rfl) ?_
  refine lv_iload_n hx hb d_X2_divide_213 rfl (lv_at hl 2 rfl) ?_
  refine lv_iconst (v := nI 1) hx hb d_X2_divide_214 (by decide) ?_
  refine x_call (st1 := [.int (nI (mFits (upd (upd (mLoadG w g r 0 z sg) 1 (nI 0)) 1 (nI 0)) w (mDvZ d (mBits (mClr 1 cZ 0 (mLoadZ w g r 0 z)) 0) 0 (mClr 1 cZ 0 (mLoadZ w g r 0 z))) r 1 t))]) (x_runV (As := [.int (nI r), .int (nI 1)]) (rest := []) (nL := 7) ⟨hx, hb, hml, hown, hts⟩ (c_X2_store hok (b := 1) (r := r) (t := t) (by omega) (by omega) hlow _) (cwV 2 hts (gw_V k_532 k_534 k_34 k_52 k_535) rfl rfl rfl (by decide +kernel) ⟨Nat.le_of_ble_eq_true rfl, Nat.le_of_ble_eq_true rfl⟩) hK hP hD 0 2 rfl rfl rfl hl.1 rfl (Nat.le_of_ble_eq_true rfl) d_X2_divide_215 ⟨Nat.zero_le _, Nat.zero_le _⟩) hS (x_sub hD hS hA) (x_sub hD hS hA) rfl (fun w1 H locs hY hP hD hS => ?_)
  subst hY
  refine lv_pop hx hb d_X2_divide_218 rfl ?_
  refine lv_lload hx hb d_X2_divide_219 (lv_at hl 4 rfl) ?_
  exact x_lret hx hb hr hlocks hP hD hS d_X2_divide_221 rfl rfl
set_option maxHeartbeats 800000 in
set_option maxRecDepth 100000 in
theorem c_X2_divide_11 {l : Launch} {D : va_G} {Rs : va_W} {cA cR cL : ClassId} {h aw ar ag az : Nat} {cd : Int32} {w g : Nat → Nat} {sg : Nat → Int32} {z : Nat → Nat} (hok : mdOk w g z) {r : Nat} (hr64 : r < 64) (d : Int64) (hd1 : ¬ (lg_cmp d 1) < 0) (hd2 : (lg_cmp d 4611686018427387903) ≤ 0) (hsg : ¬ 0 ≤ ((upd (mLoadG w g r 0 z sg) 1 (nI 0)) 0)) (hb1 : (mBits (mDvZ d (mBits (mClr 1 cZ 0 (mLoadZ w g r 0 z)) 0) 0 (mClr 1 cZ 0 (mLoadZ w g r 0 z))) 1) ≠ 0) (hr0 : (lg_cmp (mDvR d (mBits (mClr 1 cZ 0 (mLoadZ w g r 0 z)) 0) 0 (mClr 1 cZ 0 (mLoadZ w g r 0 z))) 0) ≤ 0) {t : Nat} (hlow : ¬ 0 ≤ (upd (upd (mLoadG w g r 0 z sg) 1 (nI 0)) 1 ((upd (mLoadG w g r 0 z sg) 1 (nI 0)) 0)) 1 → mLow (mDvZ d (mBits (mClr 1 cZ 0 (mLoadZ w g r 0 z)) 0) 0 (mClr 1 cZ 0 (mLoadZ w g r 0 z))) 1 t) : xC l y_X2_divide w_X2_divide ({ frames := 4, cells := 0, slots := 0, locals := 93 }) D cls0 (ty3 cA cR cL) [.ref h, .int (nI r), .long d] (md cA h aw ar ag az cd w g sg z Rs) (some (.long (mDvR d (mBits (mClr 1 cZ 0 (mLoadZ w g r 0 z)) 0) 0 (mClr 1 cZ 0 (mLoadZ w g r 0 z))))) (fun w1 => w1 = md cA h aw ar ag az (nI 0) w (mStore (upd (upd (mLoadG w g r 0 z sg) 1 (nI 0)) 1 ((upd (mLoadG w g r 0 z sg) 1 (nI 0)) 0)) w (mDvZ d (mBits (mClr 1 cZ 0 (mLoadZ w g r 0 z)) 0) 0 (mClr 1 cZ 0 (mLoadZ w g r 0 z))) r 1 g) (upd (upd (mLoadG w g r 0 z sg) 1 (nI 0)) 1 ((upd (mLoadG w g r 0 z sg) 1 (nI 0)) 0)) (mDvZ d (mBits (mClr 1 cZ 0 (mLoadZ w g r 0 z)) 0) 0 (mClr 1 cZ 0 (mLoadZ w g r 0 z))) Rs) 0 0 := by
  refine xC.ofW (cc := b_X2_divide) (maxL := 7) (ret := some .long) (by decide) rfl (Nat.le_of_ble_eq_true rfl) ?_
  intro p e s m below meth c A ls _ hin hx hb hr hml hown hts hlocks hA hK hP hD hS hl
  have hts : ∀ w ∈ gw, w.before ([.ref h, .int (nI r), .long d]).toArray s = true := fun w h => hts w (List.mem_cons_of_mem _ h)
  have hown : s.vm.findClass R_Md = some m.cls := hown
  have hl : lv_has ls 7 [(0, .ref h), (1, .int (nI r)), (2, .long d)] := hl
  refine lv_aload_n hx hb d_X2_divide_0 rfl (lv_at hl 0 rfl) ?_
  refine lv_iload_n hx hb d_X2_divide_1 rfl (lv_at hl 1 rfl) ?_
  refine x_callR (st1 := [.int (mIsRow (nI r)), .ref h]) (x_runS (As := [.int (nI r)]) (rest := [.ref h]) (nL := 7) ⟨hx, hb, hml, hown, hts⟩ (c_X2_isRow (nI r) _) (cwS 1 hts (gw_S k_511 k_512 k_52 k_513) rfl rfl rfl (by decide +kernel) ⟨Nat.le_of_ble_eq_true rfl, Nat.le_of_ble_eq_true rfl⟩) hK hP hD rfl hl.1 rfl (Nat.le_of_ble_eq_true rfl) d_X2_divide_2 ⟨Nat.zero_le _, Nat.zero_le _⟩) rfl ?_
  rw [mIsRow_1 (show r < 64 by omega)]
  refine n_if_ne (tgt := 12) hx hb d_X2_divide_5 (by decide) (by omega) (fun _ => ?_) (fun c => absurd c (by decide))
  refine lv_lload_n hx hb d_X2_divide_12 rfl (lv_at hl 2 rfl) ?_
  refine lv_lconst (v := 1) hx hb d_X2_divide_13 (by decide) ?_
  refine W.lcmp hx hb d_X2_divide_14 ?_
  refine lv_if_lt (tgt := 26) hx hb d_X2_divide_15 (by decide) (fun c9 => absurd c9 hd1) (fun _ => ?_)
  refine lv_lload_n hx hb d_X2_divide_18 rfl (lv_at hl 2 rfl) ?_
  refine lv_ldc2 (v := 4611686018427387903) hx hb hown (hts (.constantLong "LimbRowsModel" 104 4611686018427387903) k_654) d_X2_divide_19 ?_
  refine W.lcmp hx hb d_X2_divide_22 ?_
  refine lv_if_le (tgt := 30) hx hb d_X2_divide_23 (by decide) (fun _ => ?_) (fun c9 => absurd hd2 c9)
  refine lv_iconst (v := nI 0) hx hb d_X2_divide_30 (by decide) ?_
  refine x_call (st1 := [.int (mRef (nI 0))]) (x_runV (As := [.int (nI 0)]) (rest := []) (nL := 7) ⟨hx, hb, hml, hown, hts⟩ (c_X2_refuses (nI 0) _) (cwV 1 hts (gw_V k_514 k_516 k_30 k_52 k_517) rfl rfl rfl (by decide +kernel) ⟨Nat.le_of_ble_eq_true rfl, Nat.le_of_ble_eq_true rfl⟩) hK hP hD 0 2 rfl rfl rfl hl.1 rfl (Nat.le_of_ble_eq_true rfl) d_X2_divide_31 ⟨Nat.zero_le _, Nat.zero_le _⟩) hS (x_sub hD hS hA) (x_sub hD hS hA) rfl (fun w1 H locs hY hP hD hS => ?_)
  subst hY
  rw [mRef_0]
  refine n_if_eq (tgt := 39) hx hb d_X2_divide_34 (by decide) (by omega) (fun _ => ?_) (fun c => absurd c (by decide))
  refine lv_aload_n hx hb d_X2_divide_39 rfl (lv_at hl 0 rfl) ?_
  refine lv_iconst (v := nI 0) hx hb d_X2_divide_40 (by decide) ?_
  refine lv_iload_n hx hb d_X2_divide_41 rfl (lv_at hl 1 rfl) ?_
  refine x_call (st1 := []) (x_runV (As := [.int (nI 0), .int (nI r)]) (rest := []) (nL := 7) ⟨hx, hb, hml, hown, hts⟩ (c_X2_load hok (b := 0) (r := r) (by omega) (by omega) _) (cwV 2 hts (gw_V k_518 k_520 k_31 k_52 k_521) rfl rfl rfl (by decide +kernel) ⟨Nat.le_of_ble_eq_true rfl, Nat.le_of_ble_eq_true rfl⟩) hK hP hD 0 2 rfl rfl rfl hl.1 rfl (Nat.le_of_ble_eq_true rfl) d_X2_divide_42 ⟨Nat.zero_le _, Nat.zero_le _⟩) hS (x_sub hD hS hA) (x_sub hD hS hA) rfl (fun w1 H locs hY hP hD hS => ?_)
  subst hY
  have hok := mLoadZ_ok (r := r) (b := 0) hok
  refine lv_aload_n hx hb d_X2_divide_45 rfl (lv_at hl 0 rfl) ?_
  refine lv_iconst (v := nI 1) hx hb d_X2_divide_46 (by decide) ?_
  refine x_call (st1 := []) (x_runV (As := [.int (nI 1)]) (rest := []) (nL := 7) ⟨hx, hb, hml, hown, hts⟩ (c_X2_clear (b := 1) (by omega) _) (cwV 1 hts (gw_V k_522 k_524 k_32 k_52 k_525) rfl rfl rfl (by decide +kernel) ⟨Nat.le_of_ble_eq_true rfl, Nat.le_of_ble_eq_true rfl⟩) hK hP hD 0 2 rfl rfl rfl hl.1 rfl (Nat.le_of_ble_eq_true rfl) d_X2_divide_47 ⟨Nat.zero_le _, Nat.zero_le _⟩) hS (x_sub hD hS hA) (x_sub hD hS hA) rfl (fun w1 H locs hY hP hD hS => ?_)
  subst hY
  have hok := mClr_ok (b := 1) cZ 0 _ hok
  refine lv_lconst (v := 0) hx hb d_X2_divide_50 (by decide) ?_
  refine lv_lstore (lv' := [(4, .long 0), (0, .ref h), (1, .int (nI r)), (2, .long d)]) hx hb d_X2_divide_51 hl (by decide) rfl (fun ls hl => ?_)
  refine lv_aload_n hx hb d_X2_divide_53 rfl (lv_at hl 1 rfl) ?_
  refine lv_iconst (v := nI 0) hx hb d_X2_divide_54 (by decide) ?_
  refine x_callR (st1 := [.int (nI (mBits (mClr 1 cZ 0 (mLoadZ w g r 0 z)) 0))]) (x_runV (As := [.int (nI 0)]) (rest := []) (nL := 7) ⟨hx, hb, hml, hown, hts⟩ (c_X2_bits hok (b := 0) (by omega) _) (cwV 1 hts (gw_V k_540 k_542 k_36 k_52 k_543) rfl rfl rfl (by decide +kernel) ⟨Nat.le_of_ble_eq_true rfl, Nat.le_of_ble_eq_true rfl⟩) hK hP hD 0 2 rfl rfl rfl hl.1 rfl (Nat.le_of_ble_eq_true rfl) d_X2_divide_55 ⟨Nat.zero_le _, Nat.zero_le _⟩) rfl ?_
  refine lv_iconst (v := nI 1) hx hb d_X2_divide_58 (by decide) ?_
  refine lv_isub hx hb d_X2_divide_59 ?_
  rw [show nI (mBits (mClr 1 cZ 0 (mLoadZ w g r 0 z)) 0) - nI 1 = nM (mBits (mClr 1 cZ 0 (mLoadZ w g r 0 z)) 0) from by unfold nM; rw [Int32.sub_eq_add_neg]; rfl]
  refine lv_istore (lv' := [(6, .int (nM (mBits (mClr 1 cZ 0 (mLoadZ w g r 0 z)) 0))), (4, .long 0), (0, .ref h), (1, .int (nI r)), (2, .long d)]) hx hb d_X2_divide_60 hl (by decide) rfl (fun ls hl => ?_)
  have hNb := mBits_le (mClr 1 cZ 0 (mLoadZ w g r 0 z)) 0
  refine li_X2_divide (d := d) (r0 := r) hx hb hr hml hown hts hlocks hA hK (mBits (mClr 1 cZ 0 (mLoadZ w g r 0 z)) 0) 0 _ hNb hok _ _ hP hD hS (fun H locs ls hP hD hS hl => ?_) ls (lv_sub hl [2, 3, 4, 1, 0] rfl)
  have hok := mDvZ_ok (d := d) (mBits (mClr 1 cZ 0 (mLoadZ w g r 0 z)) 0) 0 _ hok
  refine lv_aload_n hx hb d_X2_divide_139 rfl (lv_at hl 0 rfl) ?_
  refine m_getG hx hb hts hown hK hP d_X2_divide_140 ?_
  refine lv_iconst (v := nI 0) hx hb d_X2_divide_143 (by decide) ?_
  refine m_aldG hx hb hK hP (j := 0) (by omega) d_X2_divide_144 ?_
  refine lv_if_ge (tgt := 152) hx hb d_X2_divide_145 (by decide) (fun c9 => absurd c9 hsg) (fun _ => ?_)
  refine lv_iconst (v := nI 1) hx hb d_X2_divide_148 (by decide) ?_
  refine lv_goto (tgt := 153) hx hb d_X2_divide_149 (by decide) ?_
  refine lv_istore (lv' := [(6, .int (nI 1)), (0, .ref h), (1, .int (nI r)), (2, .long d), (4, .long (mDvR d (mBits (mClr 1 cZ 0 (mLoadZ w g r 0 z)) 0) 0 (mClr 1 cZ 0 (mLoadZ w g r 0 z))))]) hx hb d_X2_divide_153 hl (by decide) rfl (fun ls hl => ?_)
  refine lv_aload_n hx hb d_X2_divide_155 rfl (lv_at hl 1 rfl) ?_
  refine m_getG hx hb hts hown hK hP d_X2_divide_156 ?_
  refine lv_iconst (v := nI 1) hx hb d_X2_divide_159 (by decide) ?_
  refine lv_aload_n hx hb d_X2_divide_160 rfl (lv_at hl 1 rfl) ?_
  refine lv_iconst (v := nI 1) hx hb d_X2_divide_161 (by decide) ?_
  refine x_callR (st1 := [.int (nI (mBits (mDvZ d (mBits (mClr 1 cZ 0 (mLoadZ w g r 0 z)) 0) 0 (mClr 1 cZ 0 (mLoadZ w g r 0 z))) 1)), .int (nI 1), .ref ag]) (x_runV (As := [.int (nI 1)]) (rest := [.int (nI 1), .ref ag]) (nL := 7) ⟨hx, hb, hml, hown, hts⟩ (c_X2_bits hok (b := 1) (by omega) _) (cwV 1 hts (gw_V k_540 k_542 k_36 k_52 k_543) rfl rfl rfl (by decide +kernel) ⟨Nat.le_of_ble_eq_true rfl, Nat.le_of_ble_eq_true rfl⟩) hK hP hD 0 2 rfl rfl rfl hl.1 rfl (Nat.le_of_ble_eq_true rfl) d_X2_divide_162 ⟨Nat.zero_le _, Nat.zero_le _⟩) rfl ?_
  refine n_if_ne (tgt := 172) hx hb d_X2_divide_165 (by decide) (Nat.lt_of_le_of_lt (mBits_le _ _) (by decide)) (fun _ => ?_) (fun c9 => absurd c9 (by omega))
  refine lv_aload_n hx hb d_X2_divide_172 rfl (lv_at hl 1 rfl) ?_
  refine m_getG hx hb hts hown hK hP d_X2_divide_173 ?_
  refine lv_iconst (v := nI 0) hx hb d_X2_divide_176 (by decide) ?_
  refine m_aldG hx hb hK hP (j := 0) (by omega) d_X2_divide_177 ?_
  refine m_astG hx hb hK hP hD hS (j := 1) (x := (upd (mLoadG w g r 0 z sg) 1 (nI 0)) 0) (by omega) d_X2_divide_178 (fun H locs hP hD hS => ?_)
  refine lv_iload hx hb d_X2_divide_179 (lv_at hl 0 rfl) ?_
  refine n_if_eq (tgt := 212) hx hb d_X2_divide_181 (by decide) (by omega) (fun c => absurd c (by decide)) (fun _ => ?_)
  refine lv_lload hx hb d_X2_divide_184 (lv_at hl 4 rfl) ?_
  refine lv_lconst (v := 0) hx hb d_X2_divide_186 (by decide) ?_
  refine W.lcmp hx hb d_X2_divide_187 ?_
  refine lv_if_le (tgt := 212) hx hb d_X2_divide_188 (by decide) (fun _ => ?_) (fun c9 => absurd hr0 c9)
  refine lv_aload_n hx hb d_X2_divide_212 rfl (lv_at hl 1 rfl) ?_
  refine lv_iload_n hx hb d_X2_divide_213 rfl (lv_at hl 2 rfl) ?_
  refine lv_iconst (v := nI 1) hx hb d_X2_divide_214 (by decide) ?_
  refine x_call (st1 := [.int (nI (mFits (upd (upd (mLoadG w g r 0 z sg) 1 (nI 0)) 1 ((upd (mLoadG w g r 0 z sg) 1 (nI 0)) 0)) w (mDvZ d (mBits (mClr 1 cZ 0 (mLoadZ w g r 0 z)) 0) 0 (mClr 1 cZ 0 (mLoadZ w g r 0 z))) r 1 t))]) (x_runV (As := [.int (nI r), .int (nI 1)]) (rest := []) (nL := 7) ⟨hx, hb, hml, hown, hts⟩ (c_X2_store hok (b := 1) (r := r) (t := t) (by omega) (by omega) hlow _) (cwV 2 hts (gw_V k_532 k_534 k_34 k_52 k_535) rfl rfl rfl (by decide +kernel) ⟨Nat.le_of_ble_eq_true rfl, Nat.le_of_ble_eq_true rfl⟩) hK hP hD 0 2 rfl rfl rfl hl.1 rfl (Nat.le_of_ble_eq_true rfl) d_X2_divide_215 ⟨Nat.zero_le _, Nat.zero_le _⟩) hS (x_sub hD hS hA) (x_sub hD hS hA) rfl (fun w1 H locs hY hP hD hS => ?_)
  subst hY
  refine lv_pop hx hb d_X2_divide_218 rfl ?_
  refine lv_lload hx hb d_X2_divide_219 (lv_at hl 4 rfl) ?_
  exact x_lret hx hb hr hlocks hP hD hS d_X2_divide_221 rfl rfl
set_option maxHeartbeats 800000 in
set_option maxRecDepth 100000 in
theorem c_X2_divide_12 {l : Launch} {D : va_G} {Rs : va_W} {cA cR cL : ClassId} {h aw ar ag az : Nat} {cd : Int32} {w g : Nat → Nat} {sg : Nat → Int32} {z : Nat → Nat} (hok : mdOk w g z) {r : Nat} (hr64 : r < 64) (d : Int64) (hd1 : ¬ (lg_cmp d 1) < 0) (hd2 : (lg_cmp d 4611686018427387903) ≤ 0) (hsg : ¬ 0 ≤ ((upd (mLoadG w g r 0 z sg) 1 (nI 0)) 0)) (hb1 : (mBits (mDvZ d (mBits (mClr 1 cZ 0 (mLoadZ w g r 0 z)) 0) 0 (mClr 1 cZ 0 (mLoadZ w g r 0 z))) 1) = 0) (hr0 : ¬ (lg_cmp (mDvR d (mBits (mClr 1 cZ 0 (mLoadZ w g r 0 z)) 0) 0 (mClr 1 cZ 0 (mLoadZ w g r 0 z))) 0) ≤ 0) {t : Nat} (hlow : ¬ 0 ≤ (upd (mLongG (-1) 2 (upd (upd (mLoadG w g r 0 z sg) 1 (nI 0)) 1 (nI 0))) 1 (mCombS (mLongG (-1) 2 (upd (upd (mLoadG w g r 0 z sg) 1 (nI 0)) 1 (nI 0))) 1 2 (mOth (mLongG (-1) 2 (upd (upd (mLoadG w g r 0 z sg) 1 (nI 0)) 1 (nI 0))) 2 0) (mLongZ (-1) 2 (mDvZ d (mBits (mClr 1 cZ 0 (mLoadZ w g r 0 z)) 0) 0 (mClr 1 cZ 0 (mLoadZ w g r 0 z)))))) 1 → mLow (mCombZ (mLongG (-1) 2 (upd (upd (mLoadG w g r 0 z sg) 1 (nI 0)) 1 (nI 0))) 1 2 (mOth (mLongG (-1) 2 (upd (upd (mLoadG w g r 0 z sg) 1 (nI 0)) 1 (nI 0))) 2 0) (mLongZ (-1) 2 (mDvZ d (mBits (mClr 1 cZ 0 (mLoadZ w g r 0 z)) 0) 0 (mClr 1 cZ 0 (mLoadZ w g r 0 z))))) 1 t) : xC l y_X2_divide w_X2_divide ({ frames := 4, cells := 0, slots := 0, locals := 93 }) D cls0 (ty3 cA cR cL) [.ref h, .int (nI r), .long d] (md cA h aw ar ag az cd w g sg z Rs) (some (.long (d - (mDvR d (mBits (mClr 1 cZ 0 (mLoadZ w g r 0 z)) 0) 0 (mClr 1 cZ 0 (mLoadZ w g r 0 z)))))) (fun w1 => w1 = md cA h aw ar ag az (nI 0) w (mStore (upd (mLongG (-1) 2 (upd (upd (mLoadG w g r 0 z sg) 1 (nI 0)) 1 (nI 0))) 1 (mCombS (mLongG (-1) 2 (upd (upd (mLoadG w g r 0 z sg) 1 (nI 0)) 1 (nI 0))) 1 2 (mOth (mLongG (-1) 2 (upd (upd (mLoadG w g r 0 z sg) 1 (nI 0)) 1 (nI 0))) 2 0) (mLongZ (-1) 2 (mDvZ d (mBits (mClr 1 cZ 0 (mLoadZ w g r 0 z)) 0) 0 (mClr 1 cZ 0 (mLoadZ w g r 0 z)))))) w (mCombZ (mLongG (-1) 2 (upd (upd (mLoadG w g r 0 z sg) 1 (nI 0)) 1 (nI 0))) 1 2 (mOth (mLongG (-1) 2 (upd (upd (mLoadG w g r 0 z sg) 1 (nI 0)) 1 (nI 0))) 2 0) (mLongZ (-1) 2 (mDvZ d (mBits (mClr 1 cZ 0 (mLoadZ w g r 0 z)) 0) 0 (mClr 1 cZ 0 (mLoadZ w g r 0 z))))) r 1 g) (upd (mLongG (-1) 2 (upd (upd (mLoadG w g r 0 z sg) 1 (nI 0)) 1 (nI 0))) 1 (mCombS (mLongG (-1) 2 (upd (upd (mLoadG w g r 0 z sg) 1 (nI 0)) 1 (nI 0))) 1 2 (mOth (mLongG (-1) 2 (upd (upd (mLoadG w g r 0 z sg) 1 (nI 0)) 1 (nI 0))) 2 0) (mLongZ (-1) 2 (mDvZ d (mBits (mClr 1 cZ 0 (mLoadZ w g r 0 z)) 0) 0 (mClr 1 cZ 0 (mLoadZ w g r 0 z)))))) (mCombZ (mLongG (-1) 2 (upd (upd (mLoadG w g r 0 z sg) 1 (nI 0)) 1 (nI 0))) 1 2 (mOth (mLongG (-1) 2 (upd (upd (mLoadG w g r 0 z sg) 1 (nI 0)) 1 (nI 0))) 2 0) (mLongZ (-1) 2 (mDvZ d (mBits (mClr 1 cZ 0 (mLoadZ w g r 0 z)) 0) 0 (mClr 1 cZ 0 (mLoadZ w g r 0 z))))) Rs) 0 0 := by
  refine xC.ofW (cc := b_X2_divide) (maxL := 7) (ret := some .long) (by decide) rfl (Nat.le_of_ble_eq_true rfl) ?_
  intro p e s m below meth c A ls _ hin hx hb hr hml hown hts hlocks hA hK hP hD hS hl
  have hts : ∀ w ∈ gw, w.before ([.ref h, .int (nI r), .long d]).toArray s = true := fun w h => hts w (List.mem_cons_of_mem _ h)
  have hown : s.vm.findClass R_Md = some m.cls := hown
  have hl : lv_has ls 7 [(0, .ref h), (1, .int (nI r)), (2, .long d)] := hl
  refine lv_aload_n hx hb d_X2_divide_0 rfl (lv_at hl 0 rfl) ?_
  refine lv_iload_n hx hb d_X2_divide_1 rfl (lv_at hl 1 rfl) ?_
  refine x_callR (st1 := [.int (mIsRow (nI r)), .ref h]) (x_runS (As := [.int (nI r)]) (rest := [.ref h]) (nL := 7) ⟨hx, hb, hml, hown, hts⟩ (c_X2_isRow (nI r) _) (cwS 1 hts (gw_S k_511 k_512 k_52 k_513) rfl rfl rfl (by decide +kernel) ⟨Nat.le_of_ble_eq_true rfl, Nat.le_of_ble_eq_true rfl⟩) hK hP hD rfl hl.1 rfl (Nat.le_of_ble_eq_true rfl) d_X2_divide_2 ⟨Nat.zero_le _, Nat.zero_le _⟩) rfl ?_
  rw [mIsRow_1 (show r < 64 by omega)]
  refine n_if_ne (tgt := 12) hx hb d_X2_divide_5 (by decide) (by omega) (fun _ => ?_) (fun c => absurd c (by decide))
  refine lv_lload_n hx hb d_X2_divide_12 rfl (lv_at hl 2 rfl) ?_
  refine lv_lconst (v := 1) hx hb d_X2_divide_13 (by decide) ?_
  refine W.lcmp hx hb d_X2_divide_14 ?_
  refine lv_if_lt (tgt := 26) hx hb d_X2_divide_15 (by decide) (fun c9 => absurd c9 hd1) (fun _ => ?_)
  refine lv_lload_n hx hb d_X2_divide_18 rfl (lv_at hl 2 rfl) ?_
  refine lv_ldc2 (v := 4611686018427387903) hx hb hown (hts (.constantLong "LimbRowsModel" 104 4611686018427387903) k_654) d_X2_divide_19 ?_
  refine W.lcmp hx hb d_X2_divide_22 ?_
  refine lv_if_le (tgt := 30) hx hb d_X2_divide_23 (by decide) (fun _ => ?_) (fun c9 => absurd hd2 c9)
  refine lv_iconst (v := nI 0) hx hb d_X2_divide_30 (by decide) ?_
  refine x_call (st1 := [.int (mRef (nI 0))]) (x_runV (As := [.int (nI 0)]) (rest := []) (nL := 7) ⟨hx, hb, hml, hown, hts⟩ (c_X2_refuses (nI 0) _) (cwV 1 hts (gw_V k_514 k_516 k_30 k_52 k_517) rfl rfl rfl (by decide +kernel) ⟨Nat.le_of_ble_eq_true rfl, Nat.le_of_ble_eq_true rfl⟩) hK hP hD 0 2 rfl rfl rfl hl.1 rfl (Nat.le_of_ble_eq_true rfl) d_X2_divide_31 ⟨Nat.zero_le _, Nat.zero_le _⟩) hS (x_sub hD hS hA) (x_sub hD hS hA) rfl (fun w1 H locs hY hP hD hS => ?_)
  subst hY
  rw [mRef_0]
  refine n_if_eq (tgt := 39) hx hb d_X2_divide_34 (by decide) (by omega) (fun _ => ?_) (fun c => absurd c (by decide))
  refine lv_aload_n hx hb d_X2_divide_39 rfl (lv_at hl 0 rfl) ?_
  refine lv_iconst (v := nI 0) hx hb d_X2_divide_40 (by decide) ?_
  refine lv_iload_n hx hb d_X2_divide_41 rfl (lv_at hl 1 rfl) ?_
  refine x_call (st1 := []) (x_runV (As := [.int (nI 0), .int (nI r)]) (rest := []) (nL := 7) ⟨hx, hb, hml, hown, hts⟩ (c_X2_load hok (b := 0) (r := r) (by omega) (by omega) _) (cwV 2 hts (gw_V k_518 k_520 k_31 k_52 k_521) rfl rfl rfl (by decide +kernel) ⟨Nat.le_of_ble_eq_true rfl, Nat.le_of_ble_eq_true rfl⟩) hK hP hD 0 2 rfl rfl rfl hl.1 rfl (Nat.le_of_ble_eq_true rfl) d_X2_divide_42 ⟨Nat.zero_le _, Nat.zero_le _⟩) hS (x_sub hD hS hA) (x_sub hD hS hA) rfl (fun w1 H locs hY hP hD hS => ?_)
  subst hY
  have hok := mLoadZ_ok (r := r) (b := 0) hok
  refine lv_aload_n hx hb d_X2_divide_45 rfl (lv_at hl 0 rfl) ?_
  refine lv_iconst (v := nI 1) hx hb d_X2_divide_46 (by decide) ?_
  refine x_call (st1 := []) (x_runV (As := [.int (nI 1)]) (rest := []) (nL := 7) ⟨hx, hb, hml, hown, hts⟩ (c_X2_clear (b := 1) (by omega) _) (cwV 1 hts (gw_V k_522 k_524 k_32 k_52 k_525) rfl rfl rfl (by decide +kernel) ⟨Nat.le_of_ble_eq_true rfl, Nat.le_of_ble_eq_true rfl⟩) hK hP hD 0 2 rfl rfl rfl hl.1 rfl (Nat.le_of_ble_eq_true rfl) d_X2_divide_47 ⟨Nat.zero_le _, Nat.zero_le _⟩) hS (x_sub hD hS hA) (x_sub hD hS hA) rfl (fun w1 H locs hY hP hD hS => ?_)
  subst hY
  have hok := mClr_ok (b := 1) cZ 0 _ hok
  refine lv_lconst (v := 0) hx hb d_X2_divide_50 (by decide) ?_
  refine lv_lstore (lv' := [(4, .long 0), (0, .ref h), (1, .int (nI r)), (2, .long d)]) hx hb d_X2_divide_51 hl (by decide) rfl (fun ls hl => ?_)
  refine lv_aload_n hx hb d_X2_divide_53 rfl (lv_at hl 1 rfl) ?_
  refine lv_iconst (v := nI 0) hx hb d_X2_divide_54 (by decide) ?_
  refine x_callR (st1 := [.int (nI (mBits (mClr 1 cZ 0 (mLoadZ w g r 0 z)) 0))]) (x_runV (As := [.int (nI 0)]) (rest := []) (nL := 7) ⟨hx, hb, hml, hown, hts⟩ (c_X2_bits hok (b := 0) (by omega) _) (cwV 1 hts (gw_V k_540 k_542 k_36 k_52 k_543) rfl rfl rfl (by decide +kernel) ⟨Nat.le_of_ble_eq_true rfl, Nat.le_of_ble_eq_true rfl⟩) hK hP hD 0 2 rfl rfl rfl hl.1 rfl (Nat.le_of_ble_eq_true rfl) d_X2_divide_55 ⟨Nat.zero_le _, Nat.zero_le _⟩) rfl ?_
  refine lv_iconst (v := nI 1) hx hb d_X2_divide_58 (by decide) ?_
  refine lv_isub hx hb d_X2_divide_59 ?_
  rw [show nI (mBits (mClr 1 cZ 0 (mLoadZ w g r 0 z)) 0) - nI 1 = nM (mBits (mClr 1 cZ 0 (mLoadZ w g r 0 z)) 0) from by unfold nM; rw [Int32.sub_eq_add_neg]; rfl]
  refine lv_istore (lv' := [(6, .int (nM (mBits (mClr 1 cZ 0 (mLoadZ w g r 0 z)) 0))), (4, .long 0), (0, .ref h), (1, .int (nI r)), (2, .long d)]) hx hb d_X2_divide_60 hl (by decide) rfl (fun ls hl => ?_)
  have hNb := mBits_le (mClr 1 cZ 0 (mLoadZ w g r 0 z)) 0
  refine li_X2_divide (d := d) (r0 := r) hx hb hr hml hown hts hlocks hA hK (mBits (mClr 1 cZ 0 (mLoadZ w g r 0 z)) 0) 0 _ hNb hok _ _ hP hD hS (fun H locs ls hP hD hS hl => ?_) ls (lv_sub hl [2, 3, 4, 1, 0] rfl)
  have hok := mDvZ_ok (d := d) (mBits (mClr 1 cZ 0 (mLoadZ w g r 0 z)) 0) 0 _ hok
  refine lv_aload_n hx hb d_X2_divide_139 rfl (lv_at hl 0 rfl) ?_
  refine m_getG hx hb hts hown hK hP d_X2_divide_140 ?_
  refine lv_iconst (v := nI 0) hx hb d_X2_divide_143 (by decide) ?_
  refine m_aldG hx hb hK hP (j := 0) (by omega) d_X2_divide_144 ?_
  refine lv_if_ge (tgt := 152) hx hb d_X2_divide_145 (by decide) (fun c9 => absurd c9 hsg) (fun _ => ?_)
  refine lv_iconst (v := nI 1) hx hb d_X2_divide_148 (by decide) ?_
  refine lv_goto (tgt := 153) hx hb d_X2_divide_149 (by decide) ?_
  refine lv_istore (lv' := [(6, .int (nI 1)), (0, .ref h), (1, .int (nI r)), (2, .long d), (4, .long (mDvR d (mBits (mClr 1 cZ 0 (mLoadZ w g r 0 z)) 0) 0 (mClr 1 cZ 0 (mLoadZ w g r 0 z))))]) hx hb d_X2_divide_153 hl (by decide) rfl (fun ls hl => ?_)
  refine lv_aload_n hx hb d_X2_divide_155 rfl (lv_at hl 1 rfl) ?_
  refine m_getG hx hb hts hown hK hP d_X2_divide_156 ?_
  refine lv_iconst (v := nI 1) hx hb d_X2_divide_159 (by decide) ?_
  refine lv_aload_n hx hb d_X2_divide_160 rfl (lv_at hl 1 rfl) ?_
  refine lv_iconst (v := nI 1) hx hb d_X2_divide_161 (by decide) ?_
  refine x_callR (st1 := [.int (nI (mBits (mDvZ d (mBits (mClr 1 cZ 0 (mLoadZ w g r 0 z)) 0) 0 (mClr 1 cZ 0 (mLoadZ w g r 0 z))) 1)), .int (nI 1), .ref ag]) (x_runV (As := [.int (nI 1)]) (rest := [.int (nI 1), .ref ag]) (nL := 7) ⟨hx, hb, hml, hown, hts⟩ (c_X2_bits hok (b := 1) (by omega) _) (cwV 1 hts (gw_V k_540 k_542 k_36 k_52 k_543) rfl rfl rfl (by decide +kernel) ⟨Nat.le_of_ble_eq_true rfl, Nat.le_of_ble_eq_true rfl⟩) hK hP hD 0 2 rfl rfl rfl hl.1 rfl (Nat.le_of_ble_eq_true rfl) d_X2_divide_162 ⟨Nat.zero_le _, Nat.zero_le _⟩) rfl ?_
  refine n_if_ne (tgt := 172) hx hb d_X2_divide_165 (by decide) (Nat.lt_of_le_of_lt (mBits_le _ _) (by decide)) (fun c9 => absurd c9 (by omega)) (fun _ => ?_)
  refine lv_iconst (v := nI 0) hx hb d_X2_divide_168 (by decide) ?_
  refine lv_goto (tgt := 178) hx hb d_X2_divide_169 (by decide) ?_
  refine m_astG hx hb hK hP hD hS (j := 1) (x := nI 0) (by omega) d_X2_divide_178 (fun H locs hP hD hS => ?_)
  refine lv_iload hx hb d_X2_divide_179 (lv_at hl 0 rfl) ?_
  refine n_if_eq (tgt := 212) hx hb d_X2_divide_181 (by decide) (by omega) (fun c => absurd c (by decide)) (fun _ => ?_)
  refine lv_lload hx hb d_X2_divide_184 (lv_at hl 4 rfl) ?_
  refine lv_lconst (v := 0) hx hb d_X2_divide_186 (by decide) ?_
  refine W.lcmp hx hb d_X2_divide_187 ?_
  refine lv_if_le (tgt := 212) hx hb d_X2_divide_188 (by decide) (fun c9 => absurd c9 hr0) (fun _ => ?_)
  refine lv_aload_n hx hb d_X2_divide_191 rfl (lv_at hl 1 rfl) ?_
  refine lv_iconst (v := nI 2) hx hb d_X2_divide_192 (by decide) ?_
  refine lv_ldc2 (v := (-1)) hx hb hown (hts (.constantLong "LimbRowsModel" 108 (-1)) k_656) d_X2_divide_193 ?_
  refine x_call (st1 := []) (x_runV (As := [.int (nI 2), .long (-1)]) (rest := []) (nL := 7) ⟨hx, hb, hml, hown, hts⟩ (c_X2_loadLong hok (b := 2) (by omega) (-1) _) (cwV 2 hts (gw_V k_560 k_562 k_39 k_52 k_563) rfl rfl rfl (by decide +kernel) ⟨Nat.le_of_ble_eq_true rfl, Nat.le_of_ble_eq_true rfl⟩) hK hP hD 0 2 rfl rfl rfl hl.1 rfl (Nat.le_of_ble_eq_true rfl) d_X2_divide_196 ⟨Nat.zero_le _, Nat.zero_le _⟩) hS (x_sub hD hS hA) (x_sub hD hS hA) rfl (fun w1 H locs hY hP hD hS => ?_)
  subst hY
  have hok := mLongZ_ok (v := (-1)) (b := 2) hok
  refine lv_aload_n hx hb d_X2_divide_199 rfl (lv_at hl 1 rfl) ?_
  refine lv_iconst (v := nI 1) hx hb d_X2_divide_200 (by decide) ?_
  refine lv_iconst (v := nI 2) hx hb d_X2_divide_201 (by decide) ?_
  refine lv_iconst (v := nI 0) hx hb d_X2_divide_202 (by decide) ?_
  refine x_call (st1 := []) (x_runV (As := [.int (nI 1), .int (nI 2), .int (nI 0)]) (rest := []) (nL := 7) ⟨hx, hb, hml, hown, hts⟩ (c_X2_combine hok (b := 1) (q := 2) (f := 0) (by omega) (by omega) (by omega) _) (cwV 3 hts (gw_V k_593 k_595 k_43 k_52 k_596) rfl rfl rfl (by decide +kernel) ⟨Nat.le_of_ble_eq_true rfl, Nat.le_of_ble_eq_true rfl⟩) hK hP hD 0 2 rfl rfl rfl hl.1 rfl (Nat.le_of_ble_eq_true rfl) d_X2_divide_203 ⟨Nat.zero_le _, Nat.zero_le _⟩) hS (x_sub hD hS hA) (x_sub hD hS hA) rfl (fun w1 H locs hY hP hD hS => ?_)
  subst hY
  have hok := mCombZ_ok (sg := mLongG (-1) 2 (upd (upd (mLoadG w g r 0 z sg) 1 (nI 0)) 1 (nI 0))) (b := 1) (q := 2) (x := mOth (mLongG (-1) 2 (upd (upd (mLoadG w g r 0 z sg) 1 (nI 0)) 1 (nI 0))) 2 0) hok
  refine lv_lload_n hx hb d_X2_divide_206 rfl (lv_at hl 3 rfl) ?_
  refine lv_lload hx hb d_X2_divide_207 (lv_at hl 4 rfl) ?_
  refine lv_lsub hx hb d_X2_divide_209 ?_
  refine lv_lstore (lv' := [(4, .long (d - (mDvR d (mBits (mClr 1 cZ 0 (mLoadZ w g r 0 z)) 0) 0 (mClr 1 cZ 0 (mLoadZ w g r 0 z))))), (6, .int (nI 1)), (0, .ref h), (1, .int (nI r)), (2, .long d)]) hx hb d_X2_divide_210 hl (by decide) rfl (fun ls hl => ?_)
  refine lv_aload_n hx hb d_X2_divide_212 rfl (lv_at hl 2 rfl) ?_
  refine lv_iload_n hx hb d_X2_divide_213 rfl (lv_at hl 3 rfl) ?_
  refine lv_iconst (v := nI 1) hx hb d_X2_divide_214 (by decide) ?_
  refine x_call (st1 := [.int (nI (mFits (upd (mLongG (-1) 2 (upd (upd (mLoadG w g r 0 z sg) 1 (nI 0)) 1 (nI 0))) 1 (mCombS (mLongG (-1) 2 (upd (upd (mLoadG w g r 0 z sg) 1 (nI 0)) 1 (nI 0))) 1 2 (mOth (mLongG (-1) 2 (upd (upd (mLoadG w g r 0 z sg) 1 (nI 0)) 1 (nI 0))) 2 0) (mLongZ (-1) 2 (mDvZ d (mBits (mClr 1 cZ 0 (mLoadZ w g r 0 z)) 0) 0 (mClr 1 cZ 0 (mLoadZ w g r 0 z)))))) w (mCombZ (mLongG (-1) 2 (upd (upd (mLoadG w g r 0 z sg) 1 (nI 0)) 1 (nI 0))) 1 2 (mOth (mLongG (-1) 2 (upd (upd (mLoadG w g r 0 z sg) 1 (nI 0)) 1 (nI 0))) 2 0) (mLongZ (-1) 2 (mDvZ d (mBits (mClr 1 cZ 0 (mLoadZ w g r 0 z)) 0) 0 (mClr 1 cZ 0 (mLoadZ w g r 0 z))))) r 1 t))]) (x_runV (As := [.int (nI r), .int (nI 1)]) (rest := []) (nL := 7) ⟨hx, hb, hml, hown, hts⟩ (c_X2_store hok (b := 1) (r := r) (t := t) (by omega) (by omega) hlow _) (cwV 2 hts (gw_V k_532 k_534 k_34 k_52 k_535) rfl rfl rfl (by decide +kernel) ⟨Nat.le_of_ble_eq_true rfl, Nat.le_of_ble_eq_true rfl⟩) hK hP hD 0 2 rfl rfl rfl hl.1 rfl (Nat.le_of_ble_eq_true rfl) d_X2_divide_215 ⟨Nat.zero_le _, Nat.zero_le _⟩) hS (x_sub hD hS hA) (x_sub hD hS hA) rfl (fun w1 H locs hY hP hD hS => ?_)
  subst hY
  refine lv_pop hx hb d_X2_divide_218 rfl ?_
  refine lv_lload hx hb d_X2_divide_219 (lv_at hl 0 rfl) ?_
  exact x_lret hx hb hr hlocks hP hD hS d_X2_divide_221 rfl rfl
set_option maxHeartbeats 800000 in
set_option maxRecDepth 100000 in
theorem c_X2_divide_13 {l : Launch} {D : va_G} {Rs : va_W} {cA cR cL : ClassId} {h aw ar ag az : Nat} {cd : Int32} {w g : Nat → Nat} {sg : Nat → Int32} {z : Nat → Nat} (hok : mdOk w g z) {r : Nat} (hr64 : r < 64) (d : Int64) (hd1 : ¬ (lg_cmp d 1) < 0) (hd2 : (lg_cmp d 4611686018427387903) ≤ 0) (hsg : ¬ 0 ≤ ((upd (mLoadG w g r 0 z sg) 1 (nI 0)) 0)) (hb1 : (mBits (mDvZ d (mBits (mClr 1 cZ 0 (mLoadZ w g r 0 z)) 0) 0 (mClr 1 cZ 0 (mLoadZ w g r 0 z))) 1) ≠ 0) (hr0 : ¬ (lg_cmp (mDvR d (mBits (mClr 1 cZ 0 (mLoadZ w g r 0 z)) 0) 0 (mClr 1 cZ 0 (mLoadZ w g r 0 z))) 0) ≤ 0) {t : Nat} (hlow : ¬ 0 ≤ (upd (mLongG (-1) 2 (upd (upd (mLoadG w g r 0 z sg) 1 (nI 0)) 1 ((upd (mLoadG w g r 0 z sg) 1 (nI 0)) 0))) 1 (mCombS (mLongG (-1) 2 (upd (upd (mLoadG w g r 0 z sg) 1 (nI 0)) 1 ((upd (mLoadG w g r 0 z sg) 1 (nI 0)) 0))) 1 2 (mOth (mLongG (-1) 2 (upd (upd (mLoadG w g r 0 z sg) 1 (nI 0)) 1 ((upd (mLoadG w g r 0 z sg) 1 (nI 0)) 0))) 2 0) (mLongZ (-1) 2 (mDvZ d (mBits (mClr 1 cZ 0 (mLoadZ w g r 0 z)) 0) 0 (mClr 1 cZ 0 (mLoadZ w g r 0 z)))))) 1 → mLow (mCombZ (mLongG (-1) 2 (upd (upd (mLoadG w g r 0 z sg) 1 (nI 0)) 1 ((upd (mLoadG w g r 0 z sg) 1 (nI 0)) 0))) 1 2 (mOth (mLongG (-1) 2 (upd (upd (mLoadG w g r 0 z sg) 1 (nI 0)) 1 ((upd (mLoadG w g r 0 z sg) 1 (nI 0)) 0))) 2 0) (mLongZ (-1) 2 (mDvZ d (mBits (mClr 1 cZ 0 (mLoadZ w g r 0 z)) 0) 0 (mClr 1 cZ 0 (mLoadZ w g r 0 z))))) 1 t) : xC l y_X2_divide w_X2_divide ({ frames := 4, cells := 0, slots := 0, locals := 93 }) D cls0 (ty3 cA cR cL) [.ref h, .int (nI r), .long d] (md cA h aw ar ag az cd w g sg z Rs) (some (.long (d - (mDvR d (mBits (mClr 1 cZ 0 (mLoadZ w g r 0 z)) 0) 0 (mClr 1 cZ 0 (mLoadZ w g r 0 z)))))) (fun w1 => w1 = md cA h aw ar ag az (nI 0) w (mStore (upd (mLongG (-1) 2 (upd (upd (mLoadG w g r 0 z sg) 1 (nI 0)) 1 ((upd (mLoadG w g r 0 z sg) 1 (nI 0)) 0))) 1 (mCombS (mLongG (-1) 2 (upd (upd (mLoadG w g r 0 z sg) 1 (nI 0)) 1 ((upd (mLoadG w g r 0 z sg) 1 (nI 0)) 0))) 1 2 (mOth (mLongG (-1) 2 (upd (upd (mLoadG w g r 0 z sg) 1 (nI 0)) 1 ((upd (mLoadG w g r 0 z sg) 1 (nI 0)) 0))) 2 0) (mLongZ (-1) 2 (mDvZ d (mBits (mClr 1 cZ 0 (mLoadZ w g r 0 z)) 0) 0 (mClr 1 cZ 0 (mLoadZ w g r 0 z)))))) w (mCombZ (mLongG (-1) 2 (upd (upd (mLoadG w g r 0 z sg) 1 (nI 0)) 1 ((upd (mLoadG w g r 0 z sg) 1 (nI 0)) 0))) 1 2 (mOth (mLongG (-1) 2 (upd (upd (mLoadG w g r 0 z sg) 1 (nI 0)) 1 ((upd (mLoadG w g r 0 z sg) 1 (nI 0)) 0))) 2 0) (mLongZ (-1) 2 (mDvZ d (mBits (mClr 1 cZ 0 (mLoadZ w g r 0 z)) 0) 0 (mClr 1 cZ 0 (mLoadZ w g r 0 z))))) r 1 g) (upd (mLongG (-1) 2 (upd (upd (mLoadG w g r 0 z sg) 1 (nI 0)) 1 ((upd (mLoadG w g r 0 z sg) 1 (nI 0)) 0))) 1 (mCombS (mLongG (-1) 2 (upd (upd (mLoadG w g r 0 z sg) 1 (nI 0)) 1 ((upd (mLoadG w g r 0 z sg) 1 (nI 0)) 0))) 1 2 (mOth (mLongG (-1) 2 (upd (upd (mLoadG w g r 0 z sg) 1 (nI 0)) 1 ((upd (mLoadG w g r 0 z sg) 1 (nI 0)) 0))) 2 0) (mLongZ (-1) 2 (mDvZ d (mBits (mClr 1 cZ 0 (mLoadZ w g r 0 z)) 0) 0 (mClr 1 cZ 0 (mLoadZ w g r 0 z)))))) (mCombZ (mLongG (-1) 2 (upd (upd (mLoadG w g r 0 z sg) 1 (nI 0)) 1 ((upd (mLoadG w g r 0 z sg) 1 (nI 0)) 0))) 1 2 (mOth (mLongG (-1) 2 (upd (upd (mLoadG w g r 0 z sg) 1 (nI 0)) 1 ((upd (mLoadG w g r 0 z sg) 1 (nI 0)) 0))) 2 0) (mLongZ (-1) 2 (mDvZ d (mBits (mClr 1 cZ 0 (mLoadZ w g r 0 z)) 0) 0 (mClr 1 cZ 0 (mLoadZ w g r 0 z))))) Rs) 0 0 := by
  refine xC.ofW (cc := b_X2_divide) (maxL := 7) (ret := some .long) (by decide) rfl (Nat.le_of_ble_eq_true rfl) ?_
  intro p e s m below meth c A ls _ hin hx hb hr hml hown hts hlocks hA hK hP hD hS hl
  have hts : ∀ w ∈ gw, w.before ([.ref h, .int (nI r), .long d]).toArray s = true := fun w h => hts w (List.mem_cons_of_mem _ h)
  have hown : s.vm.findClass R_Md = some m.cls := hown
  have hl : lv_has ls 7 [(0, .ref h), (1, .int (nI r)), (2, .long d)] := hl
  refine lv_aload_n hx hb d_X2_divide_0 rfl (lv_at hl 0 rfl) ?_
  refine lv_iload_n hx hb d_X2_divide_1 rfl (lv_at hl 1 rfl) ?_
  refine x_callR (st1 := [.int (mIsRow (nI r)), .ref h]) (x_runS (As := [.int (nI r)]) (rest := [.ref h]) (nL := 7) ⟨hx, hb, hml, hown, hts⟩ (c_X2_isRow (nI r) _) (cwS 1 hts (gw_S k_511 k_512 k_52 k_513) rfl rfl rfl (by decide +kernel) ⟨Nat.le_of_ble_eq_true rfl, Nat.le_of_ble_eq_true rfl⟩) hK hP hD rfl hl.1 rfl (Nat.le_of_ble_eq_true rfl) d_X2_divide_2 ⟨Nat.zero_le _, Nat.zero_le _⟩) rfl ?_
  rw [mIsRow_1 (show r < 64 by omega)]
  refine n_if_ne (tgt := 12) hx hb d_X2_divide_5 (by decide) (by omega) (fun _ => ?_) (fun c => absurd c (by decide))
  refine lv_lload_n hx hb d_X2_divide_12 rfl (lv_at hl 2 rfl) ?_
  refine lv_lconst (v := 1) hx hb d_X2_divide_13 (by decide) ?_
  refine W.lcmp hx hb d_X2_divide_14 ?_
  refine lv_if_lt (tgt := 26) hx hb d_X2_divide_15 (by decide) (fun c9 => absurd c9 hd1) (fun _ => ?_)
  refine lv_lload_n hx hb d_X2_divide_18 rfl (lv_at hl 2 rfl) ?_
  refine lv_ldc2 (v := 4611686018427387903) hx hb hown (hts (.constantLong "LimbRowsModel" 104 4611686018427387903) k_654) d_X2_divide_19 ?_
  refine W.lcmp hx hb d_X2_divide_22 ?_
  refine lv_if_le (tgt := 30) hx hb d_X2_divide_23 (by decide) (fun _ => ?_) (fun c9 => absurd hd2 c9)
  refine lv_iconst (v := nI 0) hx hb d_X2_divide_30 (by decide) ?_
  refine x_call (st1 := [.int (mRef (nI 0))]) (x_runV (As := [.int (nI 0)]) (rest := []) (nL := 7) ⟨hx, hb, hml, hown, hts⟩ (c_X2_refuses (nI 0) _) (cwV 1 hts (gw_V k_514 k_516 k_30 k_52 k_517) rfl rfl rfl (by decide +kernel) ⟨Nat.le_of_ble_eq_true rfl, Nat.le_of_ble_eq_true rfl⟩) hK hP hD 0 2 rfl rfl rfl hl.1 rfl (Nat.le_of_ble_eq_true rfl) d_X2_divide_31 ⟨Nat.zero_le _, Nat.zero_le _⟩) hS (x_sub hD hS hA) (x_sub hD hS hA) rfl (fun w1 H locs hY hP hD hS => ?_)
  subst hY
  rw [mRef_0]
  refine n_if_eq (tgt := 39) hx hb d_X2_divide_34 (by decide) (by omega) (fun _ => ?_) (fun c => absurd c (by decide))
  refine lv_aload_n hx hb d_X2_divide_39 rfl (lv_at hl 0 rfl) ?_
  refine lv_iconst (v := nI 0) hx hb d_X2_divide_40 (by decide) ?_
  refine lv_iload_n hx hb d_X2_divide_41 rfl (lv_at hl 1 rfl) ?_
  refine x_call (st1 := []) (x_runV (As := [.int (nI 0), .int (nI r)]) (rest := []) (nL := 7) ⟨hx, hb, hml, hown, hts⟩ (c_X2_load hok (b := 0) (r := r) (by omega) (by omega) _) (cwV 2 hts (gw_V k_518 k_520 k_31 k_52 k_521) rfl rfl rfl (by decide +kernel) ⟨Nat.le_of_ble_eq_true rfl, Nat.le_of_ble_eq_true rfl⟩) hK hP hD 0 2 rfl rfl rfl hl.1 rfl (Nat.le_of_ble_eq_true rfl) d_X2_divide_42 ⟨Nat.zero_le _, Nat.zero_le _⟩) hS (x_sub hD hS hA) (x_sub hD hS hA) rfl (fun w1 H locs hY hP hD hS => ?_)
  subst hY
  have hok := mLoadZ_ok (r := r) (b := 0) hok
  refine lv_aload_n hx hb d_X2_divide_45 rfl (lv_at hl 0 rfl) ?_
  refine lv_iconst (v := nI 1) hx hb d_X2_divide_46 (by decide) ?_
  refine x_call (st1 := []) (x_runV (As := [.int (nI 1)]) (rest := []) (nL := 7) ⟨hx, hb, hml, hown, hts⟩ (c_X2_clear (b := 1) (by omega) _) (cwV 1 hts (gw_V k_522 k_524 k_32 k_52 k_525) rfl rfl rfl (by decide +kernel) ⟨Nat.le_of_ble_eq_true rfl, Nat.le_of_ble_eq_true rfl⟩) hK hP hD 0 2 rfl rfl rfl hl.1 rfl (Nat.le_of_ble_eq_true rfl) d_X2_divide_47 ⟨Nat.zero_le _, Nat.zero_le _⟩) hS (x_sub hD hS hA) (x_sub hD hS hA) rfl (fun w1 H locs hY hP hD hS => ?_)
  subst hY
  have hok := mClr_ok (b := 1) cZ 0 _ hok
  refine lv_lconst (v := 0) hx hb d_X2_divide_50 (by decide) ?_
  refine lv_lstore (lv' := [(4, .long 0), (0, .ref h), (1, .int (nI r)), (2, .long d)]) hx hb d_X2_divide_51 hl (by decide) rfl (fun ls hl => ?_)
  refine lv_aload_n hx hb d_X2_divide_53 rfl (lv_at hl 1 rfl) ?_
  refine lv_iconst (v := nI 0) hx hb d_X2_divide_54 (by decide) ?_
  refine x_callR (st1 := [.int (nI (mBits (mClr 1 cZ 0 (mLoadZ w g r 0 z)) 0))]) (x_runV (As := [.int (nI 0)]) (rest := []) (nL := 7) ⟨hx, hb, hml, hown, hts⟩ (c_X2_bits hok (b := 0) (by omega) _) (cwV 1 hts (gw_V k_540 k_542 k_36 k_52 k_543) rfl rfl rfl (by decide +kernel) ⟨Nat.le_of_ble_eq_true rfl, Nat.le_of_ble_eq_true rfl⟩) hK hP hD 0 2 rfl rfl rfl hl.1 rfl (Nat.le_of_ble_eq_true rfl) d_X2_divide_55 ⟨Nat.zero_le _, Nat.zero_le _⟩) rfl ?_
  refine lv_iconst (v := nI 1) hx hb d_X2_divide_58 (by decide) ?_
  refine lv_isub hx hb d_X2_divide_59 ?_
  rw [show nI (mBits (mClr 1 cZ 0 (mLoadZ w g r 0 z)) 0) - nI 1 = nM (mBits (mClr 1 cZ 0 (mLoadZ w g r 0 z)) 0) from by unfold nM; rw [Int32.sub_eq_add_neg]; rfl]
  refine lv_istore (lv' := [(6, .int (nM (mBits (mClr 1 cZ 0 (mLoadZ w g r 0 z)) 0))), (4, .long 0), (0, .ref h), (1, .int (nI r)), (2, .long d)]) hx hb d_X2_divide_60 hl (by decide) rfl (fun ls hl => ?_)
  have hNb := mBits_le (mClr 1 cZ 0 (mLoadZ w g r 0 z)) 0
  refine li_X2_divide (d := d) (r0 := r) hx hb hr hml hown hts hlocks hA hK (mBits (mClr 1 cZ 0 (mLoadZ w g r 0 z)) 0) 0 _ hNb hok _ _ hP hD hS (fun H locs ls hP hD hS hl => ?_) ls (lv_sub hl [2, 3, 4, 1, 0] rfl)
  have hok := mDvZ_ok (d := d) (mBits (mClr 1 cZ 0 (mLoadZ w g r 0 z)) 0) 0 _ hok
  refine lv_aload_n hx hb d_X2_divide_139 rfl (lv_at hl 0 rfl) ?_
  refine m_getG hx hb hts hown hK hP d_X2_divide_140 ?_
  refine lv_iconst (v := nI 0) hx hb d_X2_divide_143 (by decide) ?_
  refine m_aldG hx hb hK hP (j := 0) (by omega) d_X2_divide_144 ?_
  refine lv_if_ge (tgt := 152) hx hb d_X2_divide_145 (by decide) (fun c9 => absurd c9 hsg) (fun _ => ?_)
  refine lv_iconst (v := nI 1) hx hb d_X2_divide_148 (by decide) ?_
  refine lv_goto (tgt := 153) hx hb d_X2_divide_149 (by decide) ?_
  refine lv_istore (lv' := [(6, .int (nI 1)), (0, .ref h), (1, .int (nI r)), (2, .long d), (4, .long (mDvR d (mBits (mClr 1 cZ 0 (mLoadZ w g r 0 z)) 0) 0 (mClr 1 cZ 0 (mLoadZ w g r 0 z))))]) hx hb d_X2_divide_153 hl (by decide) rfl (fun ls hl => ?_)
  refine lv_aload_n hx hb d_X2_divide_155 rfl (lv_at hl 1 rfl) ?_
  refine m_getG hx hb hts hown hK hP d_X2_divide_156 ?_
  refine lv_iconst (v := nI 1) hx hb d_X2_divide_159 (by decide) ?_
  refine lv_aload_n hx hb d_X2_divide_160 rfl (lv_at hl 1 rfl) ?_
  refine lv_iconst (v := nI 1) hx hb d_X2_divide_161 (by decide) ?_
  refine x_callR (st1 := [.int (nI (mBits (mDvZ d (mBits (mClr 1 cZ 0 (mLoadZ w g r 0 z)) 0) 0 (mClr 1 cZ 0 (mLoadZ w g r 0 z))) 1)), .int (nI 1), .ref ag]) (x_runV (As := [.int (nI 1)]) (rest := [.int (nI 1), .ref ag]) (nL := 7) ⟨hx, hb, hml, hown, hts⟩ (c_X2_bits hok (b := 1) (by omega) _) (cwV 1 hts (gw_V k_540 k_542 k_36 k_52 k_543) rfl rfl rfl (by decide +kernel) ⟨Nat.le_of_ble_eq_true rfl, Nat.le_of_ble_eq_true rfl⟩) hK hP hD 0 2 rfl rfl rfl hl.1 rfl (Nat.le_of_ble_eq_true rfl) d_X2_divide_162 ⟨Nat.zero_le _, Nat.zero_le _⟩) rfl ?_
  refine n_if_ne (tgt := 172) hx hb d_X2_divide_165 (by decide) (Nat.lt_of_le_of_lt (mBits_le _ _) (by decide)) (fun _ => ?_) (fun c9 => absurd c9 (by omega))
  refine lv_aload_n hx hb d_X2_divide_172 rfl (lv_at hl 1 rfl) ?_
  refine m_getG hx hb hts hown hK hP d_X2_divide_173 ?_
  refine lv_iconst (v := nI 0) hx hb d_X2_divide_176 (by decide) ?_
  refine m_aldG hx hb hK hP (j := 0) (by omega) d_X2_divide_177 ?_
  refine m_astG hx hb hK hP hD hS (j := 1) (x := (upd (mLoadG w g r 0 z sg) 1 (nI 0)) 0) (by omega) d_X2_divide_178 (fun H locs hP hD hS => ?_)
  refine lv_iload hx hb d_X2_divide_179 (lv_at hl 0 rfl) ?_
  refine n_if_eq (tgt := 212) hx hb d_X2_divide_181 (by decide) (by omega) (fun c => absurd c (by decide)) (fun _ => ?_)
  refine lv_lload hx hb d_X2_divide_184 (lv_at hl 4 rfl) ?_
  refine lv_lconst (v := 0) hx hb d_X2_divide_186 (by decide) ?_
  refine W.lcmp hx hb d_X2_divide_187 ?_
  refine lv_if_le (tgt := 212) hx hb d_X2_divide_188 (by decide) (fun c9 => absurd c9 hr0) (fun _ => ?_)
  refine lv_aload_n hx hb d_X2_divide_191 rfl (lv_at hl 1 rfl) ?_
  refine lv_iconst (v := nI 2) hx hb d_X2_divide_192 (by decide) ?_
  refine lv_ldc2 (v := (-1)) hx hb hown (hts (.constantLong "LimbRowsModel" 108 (-1)) k_656) d_X2_divide_193 ?_
  refine x_call (st1 := []) (x_runV (As := [.int (nI 2), .long (-1)]) (rest := []) (nL := 7) ⟨hx, hb, hml, hown, hts⟩ (c_X2_loadLong hok (b := 2) (by omega) (-1) _) (cwV 2 hts (gw_V k_560 k_562 k_39 k_52 k_563) rfl rfl rfl (by decide +kernel) ⟨Nat.le_of_ble_eq_true rfl, Nat.le_of_ble_eq_true rfl⟩) hK hP hD 0 2 rfl rfl rfl hl.1 rfl (Nat.le_of_ble_eq_true rfl) d_X2_divide_196 ⟨Nat.zero_le _, Nat.zero_le _⟩) hS (x_sub hD hS hA) (x_sub hD hS hA) rfl (fun w1 H locs hY hP hD hS => ?_)
  subst hY
  have hok := mLongZ_ok (v := (-1)) (b := 2) hok
  refine lv_aload_n hx hb d_X2_divide_199 rfl (lv_at hl 1 rfl) ?_
  refine lv_iconst (v := nI 1) hx hb d_X2_divide_200 (by decide) ?_
  refine lv_iconst (v := nI 2) hx hb d_X2_divide_201 (by decide) ?_
  refine lv_iconst (v := nI 0) hx hb d_X2_divide_202 (by decide) ?_
  refine x_call (st1 := []) (x_runV (As := [.int (nI 1), .int (nI 2), .int (nI 0)]) (rest := []) (nL := 7) ⟨hx, hb, hml, hown, hts⟩ (c_X2_combine hok (b := 1) (q := 2) (f := 0) (by omega) (by omega) (by omega) _) (cwV 3 hts (gw_V k_593 k_595 k_43 k_52 k_596) rfl rfl rfl (by decide +kernel) ⟨Nat.le_of_ble_eq_true rfl, Nat.le_of_ble_eq_true rfl⟩) hK hP hD 0 2 rfl rfl rfl hl.1 rfl (Nat.le_of_ble_eq_true rfl) d_X2_divide_203 ⟨Nat.zero_le _, Nat.zero_le _⟩) hS (x_sub hD hS hA) (x_sub hD hS hA) rfl (fun w1 H locs hY hP hD hS => ?_)
  subst hY
  have hok := mCombZ_ok (sg := mLongG (-1) 2 (upd (upd (mLoadG w g r 0 z sg) 1 (nI 0)) 1 ((upd (mLoadG w g r 0 z sg) 1 (nI 0)) 0))) (b := 1) (q := 2) (x := mOth (mLongG (-1) 2 (upd (upd (mLoadG w g r 0 z sg) 1 (nI 0)) 1 ((upd (mLoadG w g r 0 z sg) 1 (nI 0)) 0))) 2 0) hok
  refine lv_lload_n hx hb d_X2_divide_206 rfl (lv_at hl 3 rfl) ?_
  refine lv_lload hx hb d_X2_divide_207 (lv_at hl 4 rfl) ?_
  refine lv_lsub hx hb d_X2_divide_209 ?_
  refine lv_lstore (lv' := [(4, .long (d - (mDvR d (mBits (mClr 1 cZ 0 (mLoadZ w g r 0 z)) 0) 0 (mClr 1 cZ 0 (mLoadZ w g r 0 z))))), (6, .int (nI 1)), (0, .ref h), (1, .int (nI r)), (2, .long d)]) hx hb d_X2_divide_210 hl (by decide) rfl (fun ls hl => ?_)
  refine lv_aload_n hx hb d_X2_divide_212 rfl (lv_at hl 2 rfl) ?_
  refine lv_iload_n hx hb d_X2_divide_213 rfl (lv_at hl 3 rfl) ?_
  refine lv_iconst (v := nI 1) hx hb d_X2_divide_214 (by decide) ?_
  refine x_call (st1 := [.int (nI (mFits (upd (mLongG (-1) 2 (upd (upd (mLoadG w g r 0 z sg) 1 (nI 0)) 1 ((upd (mLoadG w g r 0 z sg) 1 (nI 0)) 0))) 1 (mCombS (mLongG (-1) 2 (upd (upd (mLoadG w g r 0 z sg) 1 (nI 0)) 1 ((upd (mLoadG w g r 0 z sg) 1 (nI 0)) 0))) 1 2 (mOth (mLongG (-1) 2 (upd (upd (mLoadG w g r 0 z sg) 1 (nI 0)) 1 ((upd (mLoadG w g r 0 z sg) 1 (nI 0)) 0))) 2 0) (mLongZ (-1) 2 (mDvZ d (mBits (mClr 1 cZ 0 (mLoadZ w g r 0 z)) 0) 0 (mClr 1 cZ 0 (mLoadZ w g r 0 z)))))) w (mCombZ (mLongG (-1) 2 (upd (upd (mLoadG w g r 0 z sg) 1 (nI 0)) 1 ((upd (mLoadG w g r 0 z sg) 1 (nI 0)) 0))) 1 2 (mOth (mLongG (-1) 2 (upd (upd (mLoadG w g r 0 z sg) 1 (nI 0)) 1 ((upd (mLoadG w g r 0 z sg) 1 (nI 0)) 0))) 2 0) (mLongZ (-1) 2 (mDvZ d (mBits (mClr 1 cZ 0 (mLoadZ w g r 0 z)) 0) 0 (mClr 1 cZ 0 (mLoadZ w g r 0 z))))) r 1 t))]) (x_runV (As := [.int (nI r), .int (nI 1)]) (rest := []) (nL := 7) ⟨hx, hb, hml, hown, hts⟩ (c_X2_store hok (b := 1) (r := r) (t := t) (by omega) (by omega) hlow _) (cwV 2 hts (gw_V k_532 k_534 k_34 k_52 k_535) rfl rfl rfl (by decide +kernel) ⟨Nat.le_of_ble_eq_true rfl, Nat.le_of_ble_eq_true rfl⟩) hK hP hD 0 2 rfl rfl rfl hl.1 rfl (Nat.le_of_ble_eq_true rfl) d_X2_divide_215 ⟨Nat.zero_le _, Nat.zero_le _⟩) hS (x_sub hD hS hA) (x_sub hD hS hA) rfl (fun w1 H locs hY hP hD hS => ?_)
  subst hY
  refine lv_pop hx hb d_X2_divide_218 rfl ?_
  refine lv_lload hx hb d_X2_divide_219 (lv_at hl 0 rfl) ?_
  exact x_lret hx hb hr hlocks hP hD hS d_X2_divide_221 rfl rfl
