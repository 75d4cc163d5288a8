theorem uN_lN {n : Nat} (h : n < 18446744073709551616) : uN (lN n) = n := by
  show (Int64.ofNat n).toUInt64.toNat = n
  show (UInt64.ofNat n).toNat = n
  exact UInt64.toNat_ofNat_of_lt h
theorem lN_lu {n k : Nat} (hn : n < 18446744073709551616) (hk : k < 64) : j_lu (lN n) (nI k) = lN (n / 2 ^ k) := by
  apply uN_inj
  rw [uN_sk _ hk, uN_lN hn, uN_lN (Nat.lt_of_le_of_lt (Nat.div_le_self _ _) hn)]
theorem lN_48 {n : Nat} (hn : n < 18446744073709551616) : lN n &&& 281474976710655 = lN (n % 281474976710656) := by
  apply uN_inj
  rw [uN_lN (Nat.lt_of_le_of_lt (Nat.mod_le _ _) hn)]
  show ((lN n).toUInt64 &&& Int64.toUInt64 281474976710655).toNat = _
  rw [UInt64.toNat_and]
  have h1 : (lN n).toUInt64.toNat = n := uN_lN hn
  rw [h1]
  exact Nat.and_two_pow_sub_one_eq_mod _ 48
theorem lN_16 {n : Nat} (hn : n < 18446744073709551616) : (lN n &&& 65535).toInt32 = nI (n % 65536) := by
  apply uN_i32
  rw [uN_lo16, uN_lN hn]
theorem lN_ll {n : Nat} : j_ll (lN n) (nI 32) = lN (n * 4294967296) := by
  apply Int64.toBitVec_inj.mp
  show BitVec.ofNat 64 n <<< (((nI 32).toInt64 &&& 63).toBitVec.smod 64) = BitVec.ofNat 64 (n * 4294967296)
  rw [show ((nI 32).toInt64 &&& 63).toBitVec.smod 64 = 32#64 from by decide]
  apply BitVec.eq_of_toNat_eq
  simp [Nat.shiftLeft_eq]
theorem n_km {k m : Nat} (h : m ≤ k + 1) : nI k - nI m + nI 1 = nI (k + 1 - m) := by
  rw [Int32.sub_eq_add_neg, Int32.add_assoc, Int32.add_comm (-_), ← Int32.add_assoc, ← Int32.sub_eq_add_neg, nI_add, pk_sub h]
theorem n_kmn {k m : Nat} (hm : m < 2 ^ 30) (h : k + 1 < m) : nI k - nI m + nI 1 < 0 := by
  rw [Int32.sub_eq_add_neg, Int32.add_assoc, Int32.add_comm (-_), ← Int32.add_assoc, ← Int32.sub_eq_add_neg, nI_add]
  exact pk_sneg hm h
def mMuR (z : Nat → Nat) (k : Nat) : Nat → Nat → Nat → Nat
  | 0, _, r => r
  | c + 1, i, r => mMuR z k c (i + 1) ((r + z i * z (1100 + k - i)) % 281474976710656)
def mMuH (z : Nat → Nat) (k : Nat) : Nat → Nat → Nat → Nat → Nat
  | 0, _, _, u => u
  | c + 1, i, r, u => mMuH z k c (i + 1) ((r + z i * z (1100 + k - i)) % 281474976710656) (u + (r + z i * z (1100 + k - i)) / 2 ^ 48)
def mMuC (n2 k m2 : Nat) : Nat := min n2 (k + 1) - (k + 1 - m2)
def mMuR1 (z : Nat → Nat) (n2 m2 k r : Nat) : Nat := mMuR z k (mMuC n2 k m2) (k + 1 - m2) r
def mMuH1 (z : Nat → Nat) (n2 m2 k r : Nat) : Nat := mMuH z k (mMuC n2 k m2) (k + 1 - m2) r 0
def mMuZ (n2 m2 : Nat) : Nat → Nat → Nat → (Nat → Nat) → Nat → Nat
  | 0, _, _, z => z
  | n + 1, k, r, z => mMuZ n2 m2 n (k + 1) (mMuR1 z n2 m2 k r / 2 ^ 16 + mMuH1 z n2 m2 k r * 4294967296) (va_up z (2200 + k) (mMuR1 z n2 m2 k r % 65536))
theorem mMuR_lt (z : Nat → Nat) (k : Nat) : ∀ c i r : Nat, r < 281474976710656 → mMuR z k c i r < 281474976710656
  | 0, _, _, h => h
  | c + 1, i, r, h => mMuR_lt z k c (i + 1) _ (Nat.mod_lt _ (by decide))
theorem mul_16 {a b : Nat} (ha : a < 65536) (hb : b < 65536) : a * b ≤ 4294836225 := Nat.le_trans (Nat.mul_le_mul (Nat.le_of_lt_succ ha) (Nat.le_of_lt_succ hb)) (by decide)
theorem mMuH_le {w g z : Nat → Nat} (hok : mdOk w g z) (k : Nat) : ∀ c i r u : Nat, r < 281474976710656 → mMuH z k c i r u ≤ u + c
  | 0, _, _, _, _ => Nat.le_refl _
  | c + 1, i, r, u, h => by
    have h1 := mul_16 (hok.2.2 i) (hok.2.2 (1100 + k - i))
    have h2 := mMuH_le hok k c (i + 1) ((r + z i * z (1100 + k - i)) % 281474976710656) (u + (r + z i * z (1100 + k - i)) / 2 ^ 48) (Nat.mod_lt _ (by decide))
    show mMuH z k c (i + 1) _ _ ≤ u + (c + 1)
    have h3 : (r + z i * z (1100 + k - i)) / 2 ^ 48 ≤ 1 := by omega
    omega
set_option maxHeartbeats 800000 in
set_option maxRecDepth 100000 in
theorem li_X2_multiply {p : Program} {l : Launch} {e : Env} {s : State} {m : MethodId} {args : Array Value} {below : List Frame} {meth : Method} {c : Code} {D : va_G} {Rs : va_W} {cA cR cL : ClassId} {h aw ar ag az : Nat} {A : Nat → Prop} {cd : Int32} {w g : Nat → Nat} {sg : Nat → Int32} {z : Nat → Nat} (hx : p.tables.exec = Jvm.exec) (hb : c.code = b_X2_multiply) (hr : meth.sig.returnType = none) (hml : c.maxLocals = 9) (hown : s.vm.findClass R_Md = some m.cls) (hts : ∀ w ∈ gw, w.before args s = true) (hlocks : meth.locks = false) (hA : ∀ q : Nat, s.heap.size ≤ q → A q) (hK : va_K D cls0 (ty3 cA cR cL) s) (hok : mdOk w g z) {n2 m2 k : Nat} (hn2 : n2 ≤ 1100) (hm2 : m2 ≤ 1100) (hk : k < n2 + m2) {Q : State → Prop} {H : Heap} {locs : List Loc} (hP : va_P D cls0 (md cA h aw ar ag az cd w g sg z Rs) H) (hD : va_D A (md cA h aw ar ag az cd w g sg z Rs)) : ∀ (n i r u : Nat), n = min n2 (k + 1) - i → k + 1 - m2 ≤ i → i ≤ 1200 → r < 281474976710656 → u ≤ 1200 → u + n ≤ 1200 →
    (∀ ls, lv_has ls 9 [(0, .ref h), (1, .int (nI n2)), (2, .int (nI m2)), (3, .long (lN (mMuR z k n i r))), (5, .int (nI k)), (6, .long (lN (mMuH z k n i r u)))] → W p l e ({ frames := 1, cells := 0, slots := 0, locals := 23 }) s m args below meth c H locs 0 0 Q (F0 m 127 ls [])) →
    ∀ (ls : Array Slot), lv_has ls 9 [(0, .ref h), (1, .int (nI n2)), (2, .int (nI m2)), (3, .long (lN r)), (5, .int (nI k)), (6, .long (lN u)), (8, .int (nI i))] → W p l e ({ frames := 1, cells := 0, slots := 0, locals := 23 }) s m args below meth c H locs 0 0 Q (F0 m 66 ls []) := by
  intro n
  induction n with
  | zero =>
    intro i r u hn hi1 hi2 hr48 hu hun kx ls hl
    refine lv_iload hx hb d_X2_multiply_66 (lv_at hl 6 rfl) ?_
    refine lv_iload_n hx hb d_X2_multiply_68 rfl (lv_at hl 1 rfl) ?_
    refine n_icmp_ge (tgt := 127) hx hb d_X2_multiply_69 (by decide) (by omega) (by omega) (fun c_1 => ?_) (fun c_1 => ?_)
    · exact kx ls (lv_sub hl [0, 1, 2, 3, 4, 5] rfl)
    refine lv_iload hx hb d_X2_multiply_72 (lv_at hl 6 rfl) ?_
    refine lv_iload hx hb d_X2_multiply_74 (lv_at hl 4 rfl) ?_
    refine n_icmp_gt (tgt := 127) hx hb d_X2_multiply_76 (by decide) (by omega) (by omega) (fun c_2 => ?_) (fun c_2 => ?_)
    rotate_left
    · exact absurd c_2 (by omega)
    exact kx ls (lv_sub hl [0, 1, 2, 3, 4, 5] rfl)
  | succ n ih =>
    intro i r u hn hi1 hi2 hr48 hu hun kx ls hl
    have hp := mul_16 (hok.2.2 i) (hok.2.2 (1100 + k - i))
    refine lv_iload hx hb d_X2_multiply_66 (lv_at hl 6 rfl) ?_
    refine lv_iload_n hx hb d_X2_multiply_68 rfl (lv_at hl 1 rfl) ?_
    refine n_icmp_ge (tgt := 127) hx hb d_X2_multiply_69 (by decide) (by omega) (by omega) (fun c_1 => ?_) (fun c_1 => ?_)
    · exact absurd c_1 (by omega)
    refine lv_iload hx hb d_X2_multiply_72 (lv_at hl 6 rfl) ?_
    refine lv_iload hx hb d_X2_multiply_74 (lv_at hl 4 rfl) ?_
    refine n_icmp_gt (tgt := 127) hx hb d_X2_multiply_76 (by decide) (by omega) (by omega) (fun c_2 => ?_) (fun c_2 => ?_)
    · exact absurd c_2 (by omega)
    refine lv_lload_n hx hb d_X2_multiply_79 rfl (lv_at hl 3 rfl) ?_
    refine lv_aload_n hx hb d_X2_multiply_80 rfl (lv_at hl 0 rfl) ?_
    refine m_getZ hx hb hts hown hK hP d_X2_multiply_81 ?_
    refine lv_iload hx hb d_X2_multiply_84 (lv_at hl 6 rfl) ?_
    refine m_aldZ hx hb hK hP (j := i) (by omega) d_X2_multiply_86 ?_
    have hq_86 := hok.2.2 i
    refine lv_i2l (v := lN (z i)) hx hb d_X2_multiply_87 (nI_l (by omega)) ?_
    refine lv_aload_n hx hb d_X2_multiply_88 rfl (lv_at hl 0 rfl) ?_
    refine m_getZ hx hb hts hown hK hP d_X2_multiply_89 ?_
    refine lv_sipush (v := nI 1100) hx hb d_X2_multiply_92 (by decide) ?_
    refine lv_iload hx hb d_X2_multiply_95 (lv_at hl 4 rfl) ?_
    refine n_iadd hx hb d_X2_multiply_97 ?_
    refine lv_iload hx hb d_X2_multiply_98 (lv_at hl 6 rfl) ?_
    refine n_isub hx hb d_X2_multiply_100 (by omega) ?_
    refine m_aldZ hx hb hK hP (j := (1100 + k) - i) (by omega) d_X2_multiply_101 ?_
    have hq_101 := hok.2.2 ((1100 + k) - i)
    refine lv_i2l (v := lN (z ((1100 + k) - i))) hx hb d_X2_multiply_102 (nI_l (by omega)) ?_
    refine lv_lmul hx hb d_X2_multiply_103 ?_
    rw [lN_mul]
    refine lv_ladd hx hb d_X2_multiply_104 ?_
    rw [lN_add]
    refine lv_lstore_n (lv' := [(3, .long (lN (r + z i * z (1100 + k - i)))), (0, .ref h), (1, .int (nI n2)), (2, .int (nI m2)), (5, .int (nI k)), (6, .long (lN u)), (8, .int (nI i))]) hx hb d_X2_multiply_105 rfl hl (by decide) rfl (fun ls hl => ?_)
    refine lv_lload hx hb d_X2_multiply_106 (lv_at hl 5 rfl) ?_
    refine lv_lload_n hx hb d_X2_multiply_108 rfl (lv_at hl 0 rfl) ?_
    refine lv_bipush (v := nI 48) hx hb d_X2_multiply_109 (by decide) ?_
    refine lv_lushr (v := lN ((r + z i * z (1100 + k - i)) / 2 ^ 48)) hx hb d_X2_multiply_111 (lN_lu (by omega) (by decide)) ?_
    refine lv_ladd hx hb d_X2_multiply_112 ?_
    rw [lN_add]
    refine lv_lstore (lv' := [(6, .long (lN (u + (r + z i * z (1100 + k - i)) / 2 ^ 48))), (3, .long (lN (r + z i * z (1100 + k - i)))), (0, .ref h), (1, .int (nI n2)), (2, .int (nI m2)), (5, .int (nI k)), (8, .int (nI i))]) hx hb d_X2_multiply_113 hl (by decide) rfl (fun ls hl => ?_)
    refine lv_lload_n hx hb d_X2_multiply_115 rfl (lv_at hl 1 rfl) ?_
    refine lv_ldc2 (v := 281474976710655) hx hb hown (hts (.constantLong "LimbRowsModel" 60 281474976710655) k_621) d_X2_multiply_116 ?_
    refine lv_land hx hb d_X2_multiply_119 ?_
    rw [lN_48 (by omega)]
    refine lv_lstore_n (lv' := [(3, .long (lN ((r + z i * z (1100 + k - i)) % 281474976710656))), (6, .long (lN (u + (r + z i * z (1100 + k - i)) / 2 ^ 48))), (0, .ref h), (1, .int (nI n2)), (2, .int (nI m2)), (5, .int (nI k)), (8, .int (nI i))]) hx hb d_X2_multiply_120 rfl hl (by decide) rfl (fun ls hl => ?_)
    refine n_iinc (lv' := [(8, .int (nI (i + 1))), (3, .long (lN ((r + z i * z (1100 + k - i)) % 281474976710656))), (6, .long (lN (u + (r + z i * z (1100 + k - i)) / 2 ^ 48))), (0, .ref h), (1, .int (nI n2)), (2, .int (nI m2)), (5, .int (nI k))]) hx hb d_X2_multiply_121 hl (k := 6) rfl (by decide) rfl (fun ls hl => ?_)
    refine lv_goto (tgt := 66) hx hb d_X2_multiply_124 (by decide) ?_
    exact ih (i + 1) _ _ (by omega) (by omega) (by omega) (Nat.mod_lt _ (by decide)) (by omega) (by omega) kx ls (lv_sub hl [3, 4, 5, 1, 6, 2, 0] rfl)
