theorem mLenO_le (sg : Nat → Int32) (z : Nat → Nat) (b t : Nat) : mLenO sg z b t ≤ 17600 := by
  have := mBits_le z b
  unfold mLenO
  split
  · exact this
  · split <;> omega
def mD (x : Int32) (a : Nat) : Nat := if 0 ≤ x then a else 65535 - a
theorem mD_lt {x : Int32} {a : Nat} (h : a < 65536) : mD x a < 65536 := by unfold mD; split <;> omega
def mStG (x : Int32) (z : Nat → Nat) (b r : Nat) : Nat → Nat → Nat → (Nat → Nat) → Nat → Nat
  | 0, _, _, g => g
  | n + 1, k, cy, g => mStG x z b r n (k + 1) ((mD x (z (1100 * b + k)) + cy) / 65536) (va_up g (512 * r + k) ((mD x (z (1100 * b + k)) + cy) % 65536))
theorem mStG_ok {x : Int32} {w z : Nat → Nat} {b r : Nat} : ∀ (n k cy : Nat) (g : Nat → Nat), cy < 2 → mdOk w g z → mdOk w (mStG x z b r n k cy g) z
  | 0, _, _, _, _, h => h
  | n + 1, k, cy, g, hc, h => mStG_ok n (k + 1) _ _ (by have := mD_lt (x := x) (h.2.2 (1100 * b + k)); omega) (h.g (by omega))
def mCy (x : Int32) : Nat := if 0 ≤ x then 0 else 1
theorem mCy_lt (x : Int32) : mCy x < 2 := by unfold mCy; split <;> omega
def mStore (sg : Nat → Int32) (w z : Nat → Nat) (r b : Nat) (g : Nat → Nat) : Nat → Nat := mStG (sg b) z b r (2 * w r) 0 (mCy (sg b)) g
theorem mStore_ok {sg : Nat → Int32} {w g z : Nat → Nat} {r b : Nat} (h : mdOk w g z) : mdOk w (mStore sg w z r b g) z := mStG_ok _ _ _ _ (mCy_lt _) h
noncomputable def mFits (sg : Nat → Int32) (w z : Nat → Nat) (r b t : Nat) : Nat := if mLenO sg z b t < 16 * (2 * w r) then 1 else 0
set_option maxHeartbeats 800000 in
set_option maxRecDepth 100000 in
theorem lp_X2_store {p : Program} {l : Launch} {e : Env} {s : State} {m : MethodId} {args : Array Value} {below : List Frame} {meth : Method} {c : Code} {D : va_G} {Rs : va_W} {cA cR cL : ClassId} {h aw ar ag az : Nat} {A : Nat → Prop} {cd : Int32} {w : Nat → Nat} {sg : Nat → Int32} {z : Nat → Nat} (hx : p.tables.exec = Jvm.exec) (hb : c.code = b_X2_store) (hr : meth.sig.returnType = some .boolean) (hml : c.maxLocals = 8) (hown : s.vm.findClass R_Md = some m.cls) (hts : ∀ w ∈ gw, w.before args s = true) (hlocks : meth.locks = false) (hA : ∀ q : Nat, s.heap.size ≤ q → A q) (hK : va_K D cls0 (ty3 cA cR cL) s) {b r N ft : Nat} (hb3 : b < 3) (hr64 : r < 64) (hN : N ≤ 512) (hft : ft < 2) : ∀ (n : Nat) (k cy : Nat) (g : Nat → Nat), n = N - k → k ≤ N → cy < 2 → mdOk w g z → ∀ (H : Heap) (locs : List Loc), va_P D cls0 (md cA h aw ar ag az cd w g sg z Rs) H → va_D A (md cA h aw ar ag az cd w g sg z Rs) → va_S A s.heap H locs → ∀ (ls : Array Slot), lv_has ls 8 [(0, .ref h), (1, .int (nI r)), (2, .int (nI b)), (3, .int (nI N)), (4, .int (nI ft)), (5, .int (nI cy)), (6, .int (nI k))] → W p l e ({ frames := 3, cells := 0, slots := 0, locals := 66 }) s m args below meth c H locs 0 0 (MQ below (xQ (some (.int (nI ft))) (xB D cls0 A (fun w1 => w1 = md cA h aw ar ag az cd w (mStG (sg b) z b r n k cy g) sg z Rs)) A) args s 0 0 A) (F0 m 47 ls []) := by
  intro n
  induction n with
  | zero =>
    intro k cy g hn hk hcy hok H locs hP hD hS ls hl
    refine lv_iload hx hb d_X2_store_47 (lv_at hl 6 rfl) ?_
    refine lv_iload_n hx hb d_X2_store_49 rfl (lv_at hl 3 rfl) ?_
    refine n_icmp_ge (tgt := 123) hx hb d_X2_store_50 (by decide) (by omega) (by omega) (fun c_1 => ?_) (fun c_1 => ?_)
    rotate_left
    · exact absurd c_1 (by omega)
    refine lv_iload hx hb d_X2_store_123 (lv_at hl 4 rfl) ?_
    exact x_zret hx hb hr hlocks hP hD hS d_X2_store_125 (n_bool hft) rfl rfl
  | succ n ih =>
    intro k cy g hn hk hcy hok H locs hP hD hS ls hl
    refine lv_iload hx hb d_X2_store_47 (lv_at hl 6 rfl) ?_
    refine lv_iload_n hx hb d_X2_store_49 rfl (lv_at hl 3 rfl) ?_
    refine n_icmp_ge (tgt := 123) hx hb d_X2_store_50 (by decide) (by omega) (by omega) (fun c_1 => ?_) (fun c_1 => ?_)
    · exact absurd c_1 (by omega)
    refine lv_aload_n hx hb d_X2_store_53 rfl (lv_at hl 0 rfl) ?_
    refine m_getZ hx hb hts hown hK hP d_X2_store_54 ?_
    refine lv_sipush (v := nI 1100) hx hb d_X2_store_57 (by decide) ?_
    refine lv_iload_n hx hb d_X2_store_60 rfl (lv_at hl 2 rfl) ?_
    refine n_imul hx hb d_X2_store_61 ?_
    refine lv_iload hx hb d_X2_store_62 (lv_at hl 6 rfl) ?_
    refine n_iadd hx hb d_X2_store_64 ?_
    refine m_aldZ hx hb hK hP (j := (1100 * b) + k) (by omega) d_X2_store_65 ?_
    have hq_65 := hok.2.2 ((1100 * b) + k)
    refine lv_istore (lv' := [(7, .int (nI (z ((1100 * b) + k)))), (0, .ref h), (1, .int (nI r)), (2, .int (nI b)), (3, .int (nI N)), (4, .int (nI ft)), (5, .int (nI cy)), (6, .int (nI k))]) hx hb d_X2_store_66 hl (by decide) rfl (fun ls hl => ?_)
    refine lv_aload_n hx hb d_X2_store_68 rfl (lv_at hl 1 rfl) ?_
    refine m_getG hx hb hts hown hK hP d_X2_store_69 ?_
    refine lv_iload_n hx hb d_X2_store_72 rfl (lv_at hl 3 rfl) ?_
    refine m_aldG hx hb hK hP (j := b) (by omega) d_X2_store_73 ?_
    refine lv_if_ge (tgt := 85) hx hb d_X2_store_74 (by decide) (fun c_2 => ?_) (fun c_2 => ?_)
    · refine lv_iload hx hb d_X2_store_85 (lv_at hl 0 rfl) ?_
      refine lv_iload hx hb d_X2_store_87 (lv_at hl 6 rfl) ?_
      refine n_iadd hx hb d_X2_store_89 ?_
      refine lv_istore (lv' := [(7, .int (nI ((z ((1100 * b) + k)) + cy))), (0, .ref h), (1, .int (nI r)), (2, .int (nI b)), (3, .int (nI N)), (4, .int (nI ft)), (5, .int (nI cy)), (6, .int (nI k))]) hx hb d_X2_store_90 hl (by decide) rfl (fun ls hl => ?_)
      refine lv_iload hx hb d_X2_store_92 (lv_at hl 0 rfl) ?_
      refine lv_ldc (v := nI 65536) hx hb hown (hts (.constant "LimbRowsModel" 32 (nI 65536)) (show Cond.constant "LimbRowsModel" 32 65536 ∈ gw from k_527)) d_X2_store_94 ?_
      refine n_idiv hx hb d_X2_store_96 (by omega) (by omega) (by omega) ?_
      refine lv_istore (lv' := [(5, .int (nI (((z ((1100 * b) + k)) + cy) / 65536))), (7, .int (nI ((z ((1100 * b) + k)) + cy))), (0, .ref h), (1, .int (nI r)), (2, .int (nI b)), (3, .int (nI N)), (4, .int (nI ft)), (6, .int (nI k))]) hx hb d_X2_store_97 hl (by decide) rfl (fun ls hl => ?_)
      refine lv_aload_n hx hb d_X2_store_99 rfl (lv_at hl 2 rfl) ?_
      refine m_getR hx hb hts hown hK hP d_X2_store_100 ?_
      refine lv_sipush (v := nI 512) hx hb d_X2_store_103 (by decide) ?_
      refine lv_iload_n hx hb d_X2_store_106 rfl (lv_at hl 3 rfl) ?_
      refine n_imul hx hb d_X2_store_107 ?_
      refine lv_iload hx hb d_X2_store_108 (lv_at hl 7 rfl) ?_
      refine n_iadd hx hb d_X2_store_110 ?_
      refine lv_iload hx hb d_X2_store_111 (lv_at hl 1 rfl) ?_
      refine lv_ldc (v := nI 65536) hx hb hown (hts (.constant "LimbRowsModel" 32 (nI 65536)) (show Cond.constant "LimbRowsModel" 32 65536 ∈ gw from k_527)) d_X2_store_113 ?_
      refine n_irem hx hb d_X2_store_115 (by omega) (by omega) (by omega) ?_
      refine m_astR hx hb hK hP hD hS (j := (512 * r) + k) (v := ((z ((1100 * b) + k)) + cy) % 65536) (by omega) d_X2_store_116 (fun H locs hP hD hS => ?_)
      have hok := hok.g (j := (512 * r) + k) (v := ((z ((1100 * b) + k)) + cy) % 65536) (by omega)
      refine n_iinc (lv' := [(6, .int (nI (k + 1))), (5, .int (nI (((z ((1100 * b) + k)) + cy) / 65536))), (7, .int (nI ((z ((1100 * b) + k)) + cy))), (0, .ref h), (1, .int (nI r)), (2, .int (nI b)), (3, .int (nI N)), (4, .int (nI ft))]) hx hb d_X2_store_117 hl (k := 7) rfl (by decide) rfl (fun ls hl => ?_)
      refine lv_goto (tgt := 47) hx hb d_X2_store_120 (by decide) ?_
      have hd2 : mD (sg b) (z (1100 * b + k)) = z (1100 * b + k) := if_pos (by assumption)
      rw [show mStG (sg b) z b r (n + 1) k cy g = mStG (sg b) z b r n (k + 1) ((mD (sg b) (z (1100 * b + k)) + cy) / 65536) (va_up g (512 * r + k) ((mD (sg b) (z (1100 * b + k)) + cy) % 65536)) from rfl, hd2]
      exact ih (k + 1) _ _ (by omega) (by omega) (by omega) hok H locs hP hD hS ls (lv_sub hl [3, 4, 5, 6, 7, 1, 0] rfl)
    · refine lv_ldc (v := nI 65535) hx hb hown (hts (.constant "LimbRowsModel" 31 (nI 65535)) (show Cond.constant "LimbRowsModel" 31 65535 ∈ gw from k_526)) d_X2_store_77 ?_
      refine lv_iload hx hb d_X2_store_79 (lv_at hl 0 rfl) ?_
      refine n_isub hx hb d_X2_store_81 (by omega) ?_
      refine lv_goto (tgt := 87) hx hb d_X2_store_82 (by decide) ?_
      refine lv_iload hx hb d_X2_store_87 (lv_at hl 6 rfl) ?_
      refine n_iadd hx hb d_X2_store_89 ?_
      refine lv_istore (lv' := [(7, .int (nI ((65535 - (z ((1100 * b) + k))) + cy))), (0, .ref h), (1, .int (nI r)), (2, .int (nI b)), (3, .int (nI N)), (4, .int (nI ft)), (5, .int (nI cy)), (6, .int (nI k))]) hx hb d_X2_store_90 hl (by decide) rfl (fun ls hl => ?_)
      refine lv_iload hx hb d_X2_store_92 (lv_at hl 0 rfl) ?_
      refine lv_ldc (v := nI 65536) hx hb hown (hts (.constant "LimbRowsModel" 32 (nI 65536)) (show Cond.constant "LimbRowsModel" 32 65536 ∈ gw from k_527)) d_X2_store_94 ?_
      refine n_idiv hx hb d_X2_store_96 (by omega) (by omega) (by omega) ?_
      refine lv_istore (lv' := [(5, .int (nI (((65535 - (z ((1100 * b) + k))) + cy) / 65536))), (7, .int (nI ((65535 - (z ((1100 * b) + k))) + cy))), (0, .ref h), (1, .int (nI r)), (2, .int (nI b)), (3, .int (nI N)), (4, .int (nI ft)), (6, .int (nI k))]) hx hb d_X2_store_97 hl (by decide) rfl (fun ls hl => ?_)
      refine lv_aload_n hx hb d_X2_store_99 rfl (lv_at hl 2 rfl) ?_
      refine m_getR hx hb hts hown hK hP d_X2_store_100 ?_
      refine lv_sipush (v := nI 512) hx hb d_X2_store_103 (by decide) ?_
      refine lv_iload_n hx hb d_X2_store_106 rfl (lv_at hl 3 rfl) ?_
      refine n_imul hx hb d_X2_store_107 ?_
      refine lv_iload hx hb d_X2_store_108 (lv_at hl 7 rfl) ?_
      refine n_iadd hx hb d_X2_store_110 ?_
      refine lv_iload hx hb d_X2_store_111 (lv_at hl 1 rfl) ?_
      refine lv_ldc (v := nI 65536) hx hb hown (hts (.constant "LimbRowsModel" 32 (nI 65536)) (show Cond.constant "LimbRowsModel" 32 65536 ∈ gw from k_527)) d_X2_store_113 ?_
      refine n_irem hx hb d_X2_store_115 (by omega) (by omega) (by omega) ?_
      refine m_astR hx hb hK hP hD hS (j := (512 * r) + k) (v := ((65535 - (z ((1100 * b) + k))) + cy) % 65536) (by omega) d_X2_store_116 (fun H locs hP hD hS => ?_)
      have hok := hok.g (j := (512 * r) + k) (v := ((65535 - (z ((1100 * b) + k))) + cy) % 65536) (by omega)
      refine n_iinc (lv' := [(6, .int (nI (k + 1))), (5, .int (nI (((65535 - (z ((1100 * b) + k))) + cy) / 65536))), (7, .int (nI ((65535 - (z ((1100 * b) + k))) + cy))), (0, .ref h), (1, .int (nI r)), (2, .int (nI b)), (3, .int (nI N)), (4, .int (nI ft))]) hx hb d_X2_store_117 hl (k := 7) rfl (by decide) rfl (fun ls hl => ?_)
      refine lv_goto (tgt := 47) hx hb d_X2_store_120 (by decide) ?_
      have hd2 : mD (sg b) (z (1100 * b + k)) = 65535 - z (1100 * b + k) := if_neg (by assumption)
      rw [show mStG (sg b) z b r (n + 1) k cy g = mStG (sg b) z b r n (k + 1) ((mD (sg b) (z (1100 * b + k)) + cy) / 65536) (va_up g (512 * r + k) ((mD (sg b) (z (1100 * b + k)) + cy) % 65536)) from rfl, hd2]
      exact ih (k + 1) _ _ (by omega) (by omega) (by omega) hok H locs hP hD hS ls (lv_sub hl [3, 4, 5, 6, 7, 1, 0] rfl)
abbrev w_X2_store : List Cond := .code y_X2_store b_X2_store 8 (some .boolean) :: gw
set_option maxHeartbeats 800000 in
set_option maxRecDepth 100000 in
theorem c_X2_store {l : Launch} {D : va_G} {Rs : va_W} {cA cR cL : ClassId} {h aw ar ag az : Nat} {cd : Int32} {w g : Nat → Nat} {sg : Nat → Int32} {z : Nat → Nat} (hok : mdOk w g z) {b r t : Nat} (hb3 : b < 3) (hr64 : r < 64) (hlow : ¬ 0 ≤ sg b → mLow z b t) : xC l y_X2_store w_X2_store ({ frames := 3, cells := 0, slots := 0, locals := 66 }) D cls0 (ty3 cA cR cL) [.ref h, .int (nI r), .int (nI b)] (md cA h aw ar ag az cd w g sg z Rs) (some (.int (nI (mFits sg w z r b t)))) (fun w1 => w1 = md cA h aw ar ag az cd w (mStore sg w z r b g) sg z Rs) 0 0 := by
  refine xC.ofW (cc := b_X2_store) (maxL := 8) (ret := some .boolean) (by decide) rfl (Nat.le_of_ble_eq_true rfl) ?_
  intro p e s m below meth c A ls _ hin hx hb hr hml hown hts hlocks hA hK hP hD hS hl
  have hts : ∀ w ∈ gw, w.before ([.ref h, .int (nI r), .int (nI b)]).toArray s = true := fun w h => hts w (List.mem_cons_of_mem _ h)
  have hown : s.vm.findClass R_Md = some m.cls := hown
  have hl : lv_has ls 8 [(0, .ref h), (1, .int (nI r)), (2, .int (nI b))] := hl
  have hwr := hok.1 r hr64
  have hle := mLenO_le sg z b t
  refine lv_iconst (v := nI 2) hx hb d_X2_store_0 (by decide) ?_
  refine lv_aload_n hx hb d_X2_store_1 rfl (lv_at hl 0 rfl) ?_
  refine m_getW hx hb hts hown hK hP d_X2_store_2 ?_
  refine lv_iload_n hx hb d_X2_store_5 rfl (lv_at hl 1 rfl) ?_
  have hq_6 := hok.1 r (by omega)
  refine m_aldW hx hb hK hP (j := r) (by omega) d_X2_store_6 ?_
  refine n_imul hx hb d_X2_store_7 ?_
  refine lv_istore_n (lv' := [(3, .int (nI (2 * (w r)))), (0, .ref h), (1, .int (nI r)), (2, .int (nI b))]) hx hb d_X2_store_8 rfl hl (by decide) rfl (fun ls hl => ?_)
  refine lv_aload_n hx hb d_X2_store_9 rfl (lv_at hl 1 rfl) ?_
  refine lv_iload_n hx hb d_X2_store_10 rfl (lv_at hl 3 rfl) ?_
  refine x_callR (st1 := [.int (nI (mLenO sg z b t))]) (x_runV (As := [.int (nI b)]) (rest := []) (nL := 8) ⟨hx, hb, hml, hown, hts⟩ (c_X2_lengthOf hok hb3 hlow _) (cwV 1 hts (gw_V k_536 k_538 k_35 k_52 k_539) rfl rfl rfl (by decide +kernel) ⟨Nat.le_of_ble_eq_true rfl, Nat.le_of_ble_eq_true rfl⟩) hK hP hD 0 2 rfl rfl rfl hl.1 rfl (Nat.le_of_ble_eq_true rfl) d_X2_store_11 ⟨Nat.zero_le _, Nat.zero_le _⟩) rfl ?_
  refine lv_bipush (v := nI 16) hx hb d_X2_store_14 (by decide) ?_
  refine lv_iload_n hx hb d_X2_store_16 rfl (lv_at hl 0 rfl) ?_
  refine n_imul hx hb d_X2_store_17 ?_
  refine n_icmp_ge (tgt := 25) hx hb d_X2_store_18 (by decide) (by omega) (by omega) (fun c_1 => ?_) (fun c_1 => ?_)
  · refine lv_iconst (v := nI 0) hx hb d_X2_store_25 (by decide) ?_
    refine lv_istore (lv' := [(4, .int (nI 0)), (3, .int (nI (2 * (w r)))), (0, .ref h), (1, .int (nI r)), (2, .int (nI b))]) hx hb d_X2_store_26 hl (by decide) rfl (fun ls hl => ?_)
    refine lv_aload_n hx hb d_X2_store_28 rfl (lv_at hl 2 rfl) ?_
    refine m_getG hx hb hts hown hK hP d_X2_store_29 ?_
    refine lv_iload_n hx hb d_X2_store_32 rfl (lv_at hl 4 rfl) ?_
    refine m_aldG hx hb hK hP (j := b) (by omega) d_X2_store_33 ?_
    refine lv_if_ge (tgt := 41) hx hb d_X2_store_34 (by decide) (fun c_2 => ?_) (fun c_2 => ?_)
    · refine lv_iconst (v := nI 0) hx hb d_X2_store_41 (by decide) ?_
      refine lv_istore (lv' := [(5, .int (nI 0)), (4, .int (nI 0)), (3, .int (nI (2 * (w r)))), (0, .ref h), (1, .int (nI r)), (2, .int (nI b))]) hx hb d_X2_store_42 hl (by decide) rfl (fun ls hl => ?_)
      refine lv_iconst (v := nI 0) hx hb d_X2_store_44 (by decide) ?_
      refine lv_istore (lv' := [(6, .int (nI 0)), (5, .int (nI 0)), (4, .int (nI 0)), (3, .int (nI (2 * (w r)))), (0, .ref h), (1, .int (nI r)), (2, .int (nI b))]) hx hb d_X2_store_45 hl (by decide) rfl (fun ls hl => ?_)
      have hft : mFits sg w z r b t = 0 := by unfold mFits; first | exact if_pos (by assumption) | exact if_neg (Nat.not_lt.mpr (by assumption))
      have hcy : mCy (sg b) = 0 := by unfold mCy; first | exact if_pos (by assumption) | exact if_neg (by assumption)
      unfold mStore
      rw [hft, hcy]
      exact lp_X2_store (N := 2 * w r) hx hb hr hml hown hts hlocks hA hK hb3 hr64 (by omega) (by omega) (2 * w r) 0 0 g rfl (by omega) (by omega) hok _ _ hP hD hS ls (lv_sub hl [4, 5, 6, 3, 2, 1, 0] rfl)
    · refine lv_iconst (v := nI 1) hx hb d_X2_store_37 (by decide) ?_
      refine lv_goto (tgt := 42) hx hb d_X2_store_38 (by decide) ?_
      refine lv_istore (lv' := [(5, .int (nI 1)), (4, .int (nI 0)), (3, .int (nI (2 * (w r)))), (0, .ref h), (1, .int (nI r)), (2, .int (nI b))]) hx hb d_X2_store_42 hl (by decide) rfl (fun ls hl => ?_)
      refine lv_iconst (v := nI 0) hx hb d_X2_store_44 (by decide) ?_
      refine lv_istore (lv' := [(6, .int (nI 0)), (5, .int (nI 1)), (4, .int (nI 0)), (3, .int (nI (2 * (w r)))), (0, .ref h), (1, .int (nI r)), (2, .int (nI b))]) hx hb d_X2_store_45 hl (by decide) rfl (fun ls hl => ?_)
      have hft : mFits sg w z r b t = 0 := by unfold mFits; first | exact if_pos (by assumption) | exact if_neg (Nat.not_lt.mpr (by assumption))
      have hcy : mCy (sg b) = 1 := by unfold mCy; first | exact if_pos (by assumption) | exact if_neg (by assumption)
      unfold mStore
      rw [hft, hcy]
      exact lp_X2_store (N := 2 * w r) hx hb hr hml hown hts hlocks hA hK hb3 hr64 (by omega) (by omega) (2 * w r) 0 1 g rfl (by omega) (by omega) hok _ _ hP hD hS ls (lv_sub hl [4, 5, 6, 3, 2, 1, 0] rfl)
  · refine lv_iconst (v := nI 1) hx hb d_X2_store_21 (by decide) ?_
    refine lv_goto (tgt := 26) hx hb d_X2_store_22 (by decide) ?_
    refine lv_istore (lv' := [(4, .int (nI 1)), (3, .int (nI (2 * (w r)))), (0, .ref h), (1, .int (nI r)), (2, .int (nI b))]) hx hb d_X2_store_26 hl (by decide) rfl (fun ls hl => ?_)
    refine lv_aload_n hx hb d_X2_store_28 rfl (lv_at hl 2 rfl) ?_
    refine m_getG hx hb hts hown hK hP d_X2_store_29 ?_
    refine lv_iload_n hx hb d_X2_store_32 rfl (lv_at hl 4 rfl) ?_
    refine m_aldG hx hb hK hP (j := b) (by omega) d_X2_store_33 ?_
    refine lv_if_ge (tgt := 41) hx hb d_X2_store_34 (by decide) (fun c_3 => ?_) (fun c_3 => ?_)
    · refine lv_iconst (v := nI 0) hx hb d_X2_store_41 (by decide) ?_
      refine lv_istore (lv' := [(5, .int (nI 0)), (4, .int (nI 1)), (3, .int (nI (2 * (w r)))), (0, .ref h), (1, .int (nI r)), (2, .int (nI b))]) hx hb d_X2_store_42 hl (by decide) rfl (fun ls hl => ?_)
      refine lv_iconst (v := nI 0) hx hb d_X2_store_44 (by decide) ?_
      refine lv_istore (lv' := [(6, .int (nI 0)), (5, .int (nI 0)), (4, .int (nI 1)), (3, .int (nI (2 * (w r)))), (0, .ref h), (1, .int (nI r)), (2, .int (nI b))]) hx hb d_X2_store_45 hl (by decide) rfl (fun ls hl => ?_)
      have hft : mFits sg w z r b t = 1 := by unfold mFits; first | exact if_pos (by assumption) | exact if_neg (Nat.not_lt.mpr (by assumption))
      have hcy : mCy (sg b) = 0 := by unfold mCy; first | exact if_pos (by assumption) | exact if_neg (by assumption)
      unfold mStore
      rw [hft, hcy]
      exact lp_X2_store (N := 2 * w r) hx hb hr hml hown hts hlocks hA hK hb3 hr64 (by omega) (by omega) (2 * w r) 0 0 g rfl (by omega) (by omega) hok _ _ hP hD hS ls (lv_sub hl [4, 5, 6, 3, 2, 1, 0] rfl)
    · refine lv_iconst (v := nI 1) hx hb d_X2_store_37 (by decide) ?_
      refine lv_goto (tgt := 42) hx hb d_X2_store_38 (by decide) ?_
      refine lv_istore (lv' := [(5, .int (nI 1)), (4, .int (nI 1)), (3, .int (nI (2 * (w r)))), (0, .ref h), (1, .int (nI r)), (2, .int (nI b))]) hx hb d_X2_store_42 hl (by decide) rfl (fun ls hl => ?_)
      refine lv_iconst (v := nI 0) hx hb d_X2_store_44 (by decide) ?_
      refine lv_istore (lv' := [(6, .int (nI 0)), (5, .int (nI 1)), (4, .int (nI 1)), (3, .int (nI (2 * (w r)))), (0, .ref h), (1, .int (nI r)), (2, .int (nI b))]) hx hb d_X2_store_45 hl (by decide) rfl (fun ls hl => ?_)
      have hft : mFits sg w z r b t = 1 := by unfold mFits; first | exact if_pos (by assumption) | exact if_neg (Nat.not_lt.mpr (by assumption))
      have hcy : mCy (sg b) = 1 := by unfold mCy; first | exact if_pos (by assumption) | exact if_neg (by assumption)
      unfold mStore
      rw [hft, hcy]
      exact lp_X2_store (N := 2 * w r) hx hb hr hml hown hts hlocks hA hK hb3 hr64 (by omega) (by omega) (2 * w r) 0 1 g rfl (by omega) (by omega) hok _ _ hP hD hS ls (lv_sub hl [4, 5, 6, 3, 2, 1, 0] rfl)
noncomputable def mKSg (sg : Nat → Int32) (w z : Nat → Nat) (r b : Nat) (g : Nat → Nat) : Nat → Int32 := mLoadG w (mStore sg w z r b g) r 2 z sg
noncomputable def mKZ (sg : Nat → Int32) (w z : Nat → Nat) (r b : Nat) (g : Nat → Nat) : Nat → Nat := mLoadZ w (mStore sg w z r b g) r 2 z
abbrev w_X2_kept : List Cond := .code y_X2_kept b_X2_kept 3 (some .int) :: gw
set_option maxHeartbeats 800000 in
set_option maxRecDepth 100000 in
theorem c_X2_kept {l : Launch} {D : va_G} {Rs : va_W} {cA cR cL : ClassId} {h aw ar ag az : Nat} {cd : Int32} {w g : Nat → Nat} {sg : Nat → Int32} {z : Nat → Nat} (hok : mdOk w g z) {b r t : Nat} (hb3 : b < 3) (hr64 : r < 64) (hlow : ¬ 0 ≤ sg b → mLow z b t) : xC l y_X2_kept w_X2_kept ({ frames := 4, cells := 0, slots := 0, locals := 93 }) D cls0 (ty3 cA cR cL) [.ref h, .int (nI r), .int (nI b)] (md cA h aw ar ag az cd w g sg z Rs) (some (.int (mKSg sg w z r b g 2))) (fun w1 => w1 = md cA h aw ar ag az cd w (mStore sg w z r b g) (mKSg sg w z r b g) (mKZ sg w z r b g) Rs) 0 0 := by
  refine xC.ofW (cc := b_X2_kept) (maxL := 3) (ret := some .int) (by decide) rfl (Nat.le_of_ble_eq_true rfl) ?_
  intro p e s m below meth c A ls _ hin hx hb hr hml hown hts hlocks hA hK hP hD hS hl
  have hts : ∀ w ∈ gw, w.before ([.ref h, .int (nI r), .int (nI b)]).toArray s = true := fun w h => hts w (List.mem_cons_of_mem _ h)
  have hown : s.vm.findClass R_Md = some m.cls := hown
  have hl : lv_has ls 3 [(0, .ref h), (1, .int (nI r)), (2, .int (nI b))] := hl
  refine lv_aload_n hx hb d_X2_kept_0 rfl (lv_at hl 0 rfl) ?_
  refine lv_iload_n hx hb d_X2_kept_1 rfl (lv_at hl 1 rfl) ?_
  refine lv_iload_n hx hb d_X2_kept_2 rfl (lv_at hl 2 rfl) ?_
  refine x_call (st1 := [.int (nI (mFits sg w z r b t))]) (x_runV (As := [.int (nI r), .int (nI b)]) (rest := []) (nL := 3) ⟨hx, hb, hml, hown, hts⟩ (c_X2_store hok (b := b) (r := r) (t := t) (by omega) (by omega) hlow _) (cwV 2 hts (gw_V k_532 k_534 k_34 k_52 k_535) rfl rfl rfl (by decide +kernel) ⟨Nat.le_of_ble_eq_true rfl, Nat.le_of_ble_eq_true rfl⟩) hK hP hD 0 2 rfl rfl rfl hl.1 rfl (Nat.le_of_ble_eq_true rfl) d_X2_kept_3 ⟨Nat.zero_le _, Nat.zero_le _⟩) hS (x_sub hD hS hA) (x_sub hD hS hA) rfl (fun w1 H locs hY hP hD hS => ?_)
  subst hY
  have hok := mStore_ok (sg := sg) (r := r) (b := b) hok
  refine lv_pop hx hb d_X2_kept_6 rfl ?_
  refine lv_aload_n hx hb d_X2_kept_7 rfl (lv_at hl 0 rfl) ?_
  refine lv_iload_n hx hb d_X2_kept_8 rfl (lv_at hl 1 rfl) ?_
  refine x_call (st1 := [.int (mLoadG w (mStore sg w z r b g) r 2 z sg 2)]) (x_runV (As := [.int (nI r)]) (rest := []) (nL := 3) ⟨hx, hb, hml, hown, hts⟩ (c_X2_signOf hok (r := r) (by omega) _) (cwV 1 hts (gw_V k_577 k_579 k_41 k_52 k_580) rfl rfl rfl (by decide +kernel) ⟨Nat.le_of_ble_eq_true rfl, Nat.le_of_ble_eq_true rfl⟩) hK hP hD 0 2 rfl rfl rfl hl.1 rfl (Nat.le_of_ble_eq_true rfl) d_X2_kept_9 ⟨Nat.zero_le _, Nat.zero_le _⟩) hS (x_sub hD hS hA) (x_sub hD hS hA) rfl (fun w1 H locs hY hP hD hS => ?_)
  subst hY
  exact x_iret hx hb hr hlocks hP hD hS d_X2_kept_12 rfl rfl
def mLlZ (x : Int64) (b : Nat) : Nat → Nat → (Nat → Nat) → Nat → Nat
  | 0, _, z => z
  | n + 1, k, z => mLlZ x b n (k + 1) (va_up z (1100 * b + k) (uH x k))
theorem mLlZ_ok {x : Int64} {w g : Nat → Nat} {b : Nat} : ∀ (n k : Nat) (z : Nat → Nat), mdOk w g z → mdOk w g (mLlZ x b n k z)
  | 0, _, _, h => h
  | n + 1, k, z, h => mLlZ_ok n (k + 1) _ (h.z (uH_lt _ _))
def mAbs (v : Int64) : Int64 := if 0 ≤ lg_cmp v 0 then v else -v
def mSgv (v : Int64) : Int32 := if 0 ≤ lg_cmp v 0 then (if lg_cmp v 0 ≤ 0 then nI 0 else nI 1) else -1
noncomputable def mLongZ (v : Int64) (b : Nat) (z : Nat → Nat) : Nat → Nat := mLlZ (mAbs v) b 4 0 (mClr b cZ 0 z)
def mLongG (v : Int64) (b : Nat) (sg : Nat → Int32) : Nat → Int32 := upd (upd sg b (nI 0)) b (mSgv v)
theorem mLongZ_ok {v : Int64} {w g z : Nat → Nat} {b : Nat} (h : mdOk w g z) : mdOk w g (mLongZ v b z) := mLlZ_ok _ _ _ (mClr_ok _ _ _ h)
set_option maxHeartbeats 800000 in
set_option maxRecDepth 100000 in
theorem lp_X2_loadLong {p : Program} {l : Launch} {e : Env} {s : State} {m : MethodId} {args : Array Value} {below : List Frame} {meth : Method} {c : Code} {D : va_G} {Rs : va_W} {cA cR cL : ClassId} {h aw ar ag az : Nat} {A : Nat → Prop} {cd : Int32} {w g : Nat → Nat} {sg : Nat → Int32} (hx : p.tables.exec = Jvm.exec) (hb : c.code = b_X2_loadLong) (hr : meth.sig.returnType = none) (hml : c.maxLocals = 7) (hown : s.vm.findClass R_Md = some m.cls) (hts : ∀ w ∈ gw, w.before args s = true) (hlocks : meth.locks = false) (hA : ∀ q : Nat, s.heap.size ≤ q → A q) (hK : va_K D cls0 (ty3 cA cR cL) s) {b : Nat} (hb3 : b < 3) {v x : Int64} : ∀ (n : Nat) (k : Nat) (z : Nat → Nat), n = 4 - k → k ≤ 4 → mdOk w g z → ∀ (H : Heap) (locs : List Loc), va_P D cls0 (md cA h aw ar ag az cd w g sg z Rs) H → va_D A (md cA h aw ar ag az cd w g sg z Rs) → va_S A s.heap H locs → ∀ (ls : Array Slot), lv_has ls 7 [(0, .ref h), (1, .int (nI b)), (2, .long v), (4, .long x), (6, .int (nI k))] → W p l e ({ frames := 1, cells := 0, slots := 0, locals := 22 }) s m args below meth c H locs 0 0 (MQ below (xQ (none) (xB D cls0 A (fun w1 => w1 = md cA h aw ar ag az cd w g (upd sg b (mSgv v)) (mLlZ x b n k z) Rs)) A) args s 0 0 A) (F0 m 22 ls []) := by
  intro n
  induction n with
  | zero =>
    intro k z hn hk hok H locs hP hD hS ls hl
    refine lv_iload hx hb d_X2_loadLong_22 (lv_at hl 4 rfl) ?_
    refine lv_iconst (v := nI 4) hx hb d_X2_loadLong_24 (by decide) ?_
    refine n_icmp_ge (tgt := 60) hx hb d_X2_loadLong_25 (by decide) (by omega) (by omega) (fun c_1 => ?_) (fun c_1 => ?_)
    rotate_left
    · exact absurd c_1 (by omega)
    refine lv_aload_n hx hb d_X2_loadLong_60 rfl (lv_at hl 0 rfl) ?_
    refine m_getG hx hb hts hown hK hP d_X2_loadLong_61 ?_
    refine lv_iload_n hx hb d_X2_loadLong_64 rfl (lv_at hl 1 rfl) ?_
    refine lv_lload_n hx hb d_X2_loadLong_65 rfl (lv_at hl 2 rfl) ?_
    refine lv_lconst (v := 0) hx hb d_X2_loadLong_66 (by decide) ?_
    refine W.lcmp hx hb d_X2_loadLong_67 ?_
    refine lv_if_ge (tgt := 75) hx hb d_X2_loadLong_68 (by decide) (fun c_2 => ?_) (fun c_2 => ?_)
    · refine lv_lload_n hx hb d_X2_loadLong_75 rfl (lv_at hl 2 rfl) ?_
      refine lv_lconst (v := 0) hx hb d_X2_loadLong_76 (by decide) ?_
      refine W.lcmp hx hb d_X2_loadLong_77 ?_
      refine lv_if_le (tgt := 85) hx hb d_X2_loadLong_78 (by decide) (fun c_3 => ?_) (fun c_3 => ?_)
      · refine lv_iconst (v := nI 0) hx hb d_X2_loadLong_85 (by decide) ?_
        refine m_astG hx hb hK hP hD hS (j := b) (x := nI 0) (by omega) d_X2_loadLong_86 (fun H locs hP hD hS => ?_)
        exact x_vret hx hb hr hlocks hP hD hS d_X2_loadLong_87 rfl (by rw [show mLlZ x b 0 k z = z from rfl]; unfold mSgv; first | rw [if_neg (by assumption)] | rw [if_pos (by assumption), if_pos (by assumption)] | rw [if_pos (by assumption), if_neg (by assumption)])
      · refine lv_iconst (v := nI 1) hx hb d_X2_loadLong_81 (by decide) ?_
        refine lv_goto (tgt := 86) hx hb d_X2_loadLong_82 (by decide) ?_
        refine m_astG hx hb hK hP hD hS (j := b) (x := nI 1) (by omega) d_X2_loadLong_86 (fun H locs hP hD hS => ?_)
        exact x_vret hx hb hr hlocks hP hD hS d_X2_loadLong_87 rfl (by rw [show mLlZ x b 0 k z = z from rfl]; unfold mSgv; first | rw [if_neg (by assumption)] | rw [if_pos (by assumption), if_pos (by assumption)] | rw [if_pos (by assumption), if_neg (by assumption)])
    · refine lv_iconst (v := -1) hx hb d_X2_loadLong_71 (by decide) ?_
      refine lv_goto (tgt := 86) hx hb d_X2_loadLong_72 (by decide) ?_
      refine m_astG hx hb hK hP hD hS (j := b) (x := -1) (by omega) d_X2_loadLong_86 (fun H locs hP hD hS => ?_)
      exact x_vret hx hb hr hlocks hP hD hS d_X2_loadLong_87 rfl (by rw [show mLlZ x b 0 k z = z from rfl]; unfold mSgv; first | rw [if_neg (by assumption)] | rw [if_pos (by assumption), if_pos (by assumption)] | rw [if_pos (by assumption), if_neg (by assumption)])
  | succ n ih =>
    intro k z hn hk hok H locs hP hD hS ls hl
    refine lv_iload hx hb d_X2_loadLong_22 (lv_at hl 4 rfl) ?_
    refine lv_iconst (v := nI 4) hx hb d_X2_loadLong_24 (by decide) ?_
    refine n_icmp_ge (tgt := 60) hx hb d_X2_loadLong_25 (by decide) (by omega) (by omega) (fun c_1 => ?_) (fun c_1 => ?_)
    · exact absurd c_1 (by omega)
    refine lv_aload_n hx hb d_X2_loadLong_28 rfl (lv_at hl 0 rfl) ?_
    refine m_getZ hx hb hts hown hK hP d_X2_loadLong_29 ?_
    refine lv_sipush (v := nI 1100) hx hb d_X2_loadLong_32 (by decide) ?_
    refine lv_iload_n hx hb d_X2_loadLong_35 rfl (lv_at hl 1 rfl) ?_
    refine n_imul hx hb d_X2_loadLong_36 ?_
    refine lv_iload hx hb d_X2_loadLong_37 (lv_at hl 4 rfl) ?_
    refine n_iadd hx hb d_X2_loadLong_39 ?_
    refine lv_lload hx hb d_X2_loadLong_40 (lv_at hl 3 rfl) ?_
    refine lv_bipush (v := nI 16) hx hb d_X2_loadLong_42 (by decide) ?_
    refine lv_iload hx hb d_X2_loadLong_44 (lv_at hl 4 rfl) ?_
    refine n_imul hx hb d_X2_loadLong_46 ?_
    refine lv_lushr (v := j_lu x (nI (16 * k))) hx hb d_X2_loadLong_47 rfl ?_
    refine lv_ldc2 (v := 65535) hx hb hown (hts (.constantLong "LimbRowsModel" 37 65535) k_564) d_X2_loadLong_48 ?_
    refine lv_land hx hb d_X2_loadLong_51 ?_
    refine lv_l2i (v := nI (uH x k)) hx hb d_X2_loadLong_52 (uH_eq x (by omega)) ?_
    have hu := uH_lt x k
    refine m_astZ hx hb hK hP hD hS (j := (1100 * b) + k) (v := uH x k) (by omega) d_X2_loadLong_53 (fun H locs hP hD hS => ?_)
    have hok := hok.z (j := (1100 * b) + k) (v := uH x k) (by omega)
    refine n_iinc (lv' := [(6, .int (nI (k + 1))), (0, .ref h), (1, .int (nI b)), (2, .long v), (4, .long x)]) hx hb d_X2_loadLong_54 hl (k := 4) rfl (by decide) rfl (fun ls hl => ?_)
    refine lv_goto (tgt := 22) hx hb d_X2_loadLong_57 (by decide) ?_
    exact ih (k + 1) _ (by omega) (by omega) hok H locs hP hD hS ls (lv_sub hl [1, 2, 3, 4, 0] rfl)
abbrev w_X2_loadLong : List Cond := .code y_X2_loadLong b_X2_loadLong 7 (none) :: gw
set_option maxHeartbeats 800000 in
set_option maxRecDepth 100000 in
theorem c_X2_loadLong {l : Launch} {D : va_G} {Rs : va_W} {cA cR cL : ClassId} {h aw ar ag az : Nat} {cd : Int32} {w g : Nat → Nat} {sg : Nat → Int32} {z : Nat → Nat} (hok : mdOk w g z) {b : Nat} (hb3 : b < 3) (v : Int64) : xC l y_X2_loadLong w_X2_loadLong ({ frames := 1, cells := 0, slots := 0, locals := 22 }) D cls0 (ty3 cA cR cL) [.ref h, .int (nI b), .long v] (md cA h aw ar ag az cd w g sg z Rs) (none) (fun w1 => w1 = md cA h aw ar ag az cd w g (mLongG v b sg) (mLongZ v b z) Rs) 0 0 := by
  refine xC.ofW (cc := b_X2_loadLong) (maxL := 7) (ret := none) (by decide) rfl (Nat.le_of_ble_eq_true rfl) ?_
  intro p e s m below meth c A ls _ hin hx hb hr hml hown hts hlocks hA hK hP hD hS hl
  have hts : ∀ w ∈ gw, w.before ([.ref h, .int (nI b), .long v]).toArray s = true := fun w h => hts w (List.mem_cons_of_mem _ h)
  have hown : s.vm.findClass R_Md = some m.cls := hown
  have hl : lv_has ls 7 [(0, .ref h), (1, .int (nI b)), (2, .long v)] := hl
  refine lv_aload_n hx hb d_X2_loadLong_0 rfl (lv_at hl 0 rfl) ?_
  refine lv_iload_n hx hb d_X2_loadLong_1 rfl (lv_at hl 1 rfl) ?_
  refine x_call (st1 := []) (x_runV (As := [.int (nI b)]) (rest := []) (nL := 7) ⟨hx, hb, hml, hown, hts⟩ (c_X2_clear (b := b) (by omega) _) (cwV 1 hts (gw_V k_522 k_524 k_32 k_52 k_525) rfl rfl rfl (by decide +kernel) ⟨Nat.le_of_ble_eq_true rfl, Nat.le_of_ble_eq_true rfl⟩) hK hP hD 0 2 rfl rfl rfl hl.1 rfl (Nat.le_of_ble_eq_true rfl) d_X2_loadLong_2 ⟨Nat.zero_le _, Nat.zero_le _⟩) hS (x_sub hD hS hA) (x_sub hD hS hA) rfl (fun w1 H locs hY hP hD hS => ?_)
  subst hY
  have hok := mClr_ok (b := b) cZ 0 _ hok
  refine lv_lload_n hx hb d_X2_loadLong_5 rfl (lv_at hl 2 rfl) ?_
  refine lv_lconst (v := 0) hx hb d_X2_loadLong_6 (by decide) ?_
  refine W.lcmp hx hb d_X2_loadLong_7 ?_
  refine lv_if_ge (tgt := 16) hx hb d_X2_loadLong_8 (by decide) (fun c_1 => ?_) (fun c_1 => ?_)
  · refine lv_lload_n hx hb d_X2_loadLong_16 rfl (lv_at hl 2 rfl) ?_
    refine lv_lstore (lv' := [(4, .long v), (0, .ref h), (1, .int (nI b)), (2, .long v)]) hx hb d_X2_loadLong_17 hl (by decide) rfl (fun ls hl => ?_)
    refine lv_iconst (v := nI 0) hx hb d_X2_loadLong_19 (by decide) ?_
    refine lv_istore (lv' := [(6, .int (nI 0)), (4, .long v), (0, .ref h), (1, .int (nI b)), (2, .long v)]) hx hb d_X2_loadLong_20 hl (by decide) rfl (fun ls hl => ?_)
    have hab : mAbs v = v := by unfold mAbs; first | exact if_pos (by assumption) | exact if_neg (by assumption)
    unfold mLongZ mLongG
    rw [hab]
    exact lp_X2_loadLong hx hb hr hml hown hts hlocks hA hK hb3 4 0 _ rfl (by omega) hok _ _ hP hD hS ls (lv_sub hl [2, 3, 4, 1, 0] rfl)
  · refine lv_lload_n hx hb d_X2_loadLong_11 rfl (lv_at hl 2 rfl) ?_
    refine lv_lneg hx hb d_X2_loadLong_12 ?_
    refine lv_goto (tgt := 17) hx hb d_X2_loadLong_13 (by decide) ?_
    refine lv_lstore (lv' := [(4, .long (-v)), (0, .ref h), (1, .int (nI b)), (2, .long v)]) hx hb d_X2_loadLong_17 hl (by decide) rfl (fun ls hl => ?_)
    refine lv_iconst (v := nI 0) hx hb d_X2_loadLong_19 (by decide) ?_
    refine lv_istore (lv' := [(6, .int (nI 0)), (4, .long (-v)), (0, .ref h), (1, .int (nI b)), (2, .long v)]) hx hb d_X2_loadLong_20 hl (by decide) rfl (fun ls hl => ?_)
    have hab : mAbs v = -v := by unfold mAbs; first | exact if_pos (by assumption) | exact if_neg (by assumption)
    unfold mLongZ mLongG
    rw [hab]
    exact lp_X2_loadLong hx hb hr hml hown hts hlocks hA hK hb3 4 0 _ rfl (by omega) hok _ _ hP hD hS ls (lv_sub hl [2, 3, 4, 1, 0] rfl)
