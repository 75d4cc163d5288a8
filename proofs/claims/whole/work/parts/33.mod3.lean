theorem mClr_ok {w g : Nat → Nat} {b : Nat} : ∀ (n k : Nat) (z : Nat → Nat), mdOk w g z → mdOk w g (mClr b n k z)
  | 0, _, _, h => h
  | n + 1, k, z, h => mClr_ok n (k + 1) _ (h.z (by omega))
def mD2 (f a : Nat) : Nat := if f = 0 then a else 65535 - a
theorem mD2_lt {f a : Nat} (h : a < 65536) : mD2 f a < 65536 := by unfold mD2; split <;> omega
def mLdZ (g : Nat → Nat) (r b f N : Nat) : Nat → Nat → Nat → (Nat → Nat) → Nat → Nat
  | 0, _, cy, z => va_up z (1100 * b + N) cy
  | n + 1, k, cy, z => mLdZ g r b f N n (k + 1) ((mD2 f (g (512 * r + k)) + cy) / 65536) (va_up z (1100 * b + k) ((mD2 f (g (512 * r + k)) + cy) % 65536))
theorem mLdZ_ok {w g : Nat → Nat} {r b f N : Nat} : ∀ (n k cy : Nat) (z : Nat → Nat), cy < 2 → mdOk w g z → mdOk w g (mLdZ g r b f N n k cy z)
  | 0, _, _, _, hc, h => h.z (by omega)
  | n + 1, k, cy, z, hc, h => mLdZ_ok n (k + 1) _ _ (by have := mD2_lt (f := f) (h.2.1 (512 * r + k)); omega) (h.z (by omega))
def mSgn (f iz : Nat) : Int32 := if iz = 0 then (if f = 0 then nI 1 else -1) else nI 0
def mLess (w g : Nat → Nat) (r : Nat) : Nat := if g (512 * r + 2 * w r - 1) < 32768 then 0 else 1
noncomputable def mLoadZ (w g : Nat → Nat) (r b : Nat) (z : Nat → Nat) : Nat → Nat := mLdZ g r b (mLess w g r) (2 * w r) (2 * w r) 0 (mLess w g r) (mClr b cZ 0 z)
noncomputable def mLoadG (w g : Nat → Nat) (r b : Nat) (z : Nat → Nat) (sg : Nat → Int32) : Nat → Int32 := upd (upd sg b (nI 0)) b (mSgn (mLess w g r) (mIz (mLoadZ w g r b z) b cZ 0 1))
theorem mLoadZ_ok {w g z : Nat → Nat} {r b : Nat} (h : mdOk w g z) : mdOk w g (mLoadZ w g r b z) := mLdZ_ok _ _ _ _ (by unfold mLess; split <;> omega) (mClr_ok _ _ _ h)
set_option maxHeartbeats 800000 in
set_option maxRecDepth 100000 in
theorem lp_X2_load {p : Program} {l : Launch} {e : Env} {s : State} {m : MethodId} {args : Array Value} {below : List Frame} {meth : Method} {c : Code} {D : va_G} {Rs : va_W} {cA cR cL : ClassId} {h aw ar ag az : Nat} {A : Nat → Prop} {cd : Int32} {w g : Nat → Nat} {sg : Nat → Int32} (hx : p.tables.exec = Jvm.exec) (hb : c.code = b_X2_load) (hr : meth.sig.returnType = none) (hml : c.maxLocals = 8) (hown : s.vm.findClass R_Md = some m.cls) (hts : ∀ w ∈ gw, w.before args s = true) (hlocks : meth.locks = false) (hA : ∀ q : Nat, s.heap.size ≤ q → A q) (hK : va_K D cls0 (ty3 cA cR cL) s) {b r N f : Nat} (hb3 : b < 3) (hr64 : r < 64) (hN : N ≤ 512) : ∀ (n : Nat) (k cy : Nat) (z : Nat → Nat), n = N - k → k ≤ N → cy < 2 → f < 2 → mdOk w g z → ∀ (H : Heap) (locs : List Loc), va_P D cls0 (md cA h aw ar ag az cd w g sg z Rs) H → va_D A (md cA h aw ar ag az cd w g sg z Rs) → va_S A s.heap H locs → ∀ (ls : Array Slot), lv_has ls 8 [(0, .ref h), (1, .int (nI b)), (2, .int (nI r)), (3, .int (nI N)), (4, .int (nI f)), (5, .int (nI cy)), (6, .int (nI k))] → W p l e ({ frames := 1, cells := 0, slots := 0, locals := 23 }) s m args below meth c H locs 0 0 (MQ below (xQ (none) (xB D cls0 A (fun w1 => w1 = md cA h aw ar ag az cd w g (upd sg b (mSgn f (mIz (mLdZ g r b f N n k cy z) b cZ 0 1))) (mLdZ g r b f N n k cy z) Rs)) A) args s 0 0 A) (F0 m 55 ls []) := by
  intro n
  induction n with
  | zero =>
    intro k cy z hn hk hcy hf hok H locs hP hD hS ls hl
    refine lv_iload hx hb d_X2_load_55 (lv_at hl 6 rfl) ?_
    refine lv_iload_n hx hb d_X2_load_57 rfl (lv_at hl 3 rfl) ?_
    refine n_icmp_ge (tgt := 127) hx hb d_X2_load_58 (by decide) (by omega) (by omega) (fun c_1 => ?_) (fun c_1 => ?_)
    rotate_left
    · exact absurd c_1 (by omega)
    refine lv_aload_n hx hb d_X2_load_127 rfl (lv_at hl 0 rfl) ?_
    refine m_getZ hx hb hts hown hK hP d_X2_load_128 ?_
    refine lv_sipush (v := nI 1100) hx hb d_X2_load_131 (by decide) ?_
    refine lv_iload_n hx hb d_X2_load_134 rfl (lv_at hl 1 rfl) ?_
    refine n_imul hx hb d_X2_load_135 ?_
    refine lv_iload_n hx hb d_X2_load_136 rfl (lv_at hl 3 rfl) ?_
    refine n_iadd hx hb d_X2_load_137 ?_
    refine lv_iload hx hb d_X2_load_138 (lv_at hl 5 rfl) ?_
    refine m_astZ hx hb hK hP hD hS (j := (1100 * b) + N) (v := cy) (by omega) d_X2_load_140 (fun H locs hP hD hS => ?_)
    have hok := hok.z (j := (1100 * b) + N) (v := cy) (by omega)
    refine lv_aload_n hx hb d_X2_load_141 rfl (lv_at hl 0 rfl) ?_
    refine m_getG hx hb hts hown hK hP d_X2_load_142 ?_
    refine lv_iload_n hx hb d_X2_load_145 rfl (lv_at hl 1 rfl) ?_
    refine lv_aload_n hx hb d_X2_load_146 rfl (lv_at hl 0 rfl) ?_
    refine lv_iload_n hx hb d_X2_load_147 rfl (lv_at hl 1 rfl) ?_
    refine x_callR (st1 := [.int (nI (mIz (va_up z ((1100 * b) + N) cy) b cZ 0 1)), .int (nI b), .ref ag]) (x_runV (As := [.int (nI b)]) (rest := [.int (nI b), .ref ag]) (nL := 8) ⟨hx, hb, hml, hown, hts⟩ (c_X2_isZero hok (by omega) _) (cwV 1 hts (gw_V k_528 k_530 k_33 k_52 k_531) rfl rfl rfl (by decide +kernel) ⟨Nat.le_of_ble_eq_true rfl, Nat.le_of_ble_eq_true rfl⟩) hK hP hD 0 2 rfl rfl rfl hl.1 rfl (Nat.le_of_ble_eq_true rfl) d_X2_load_148 ⟨Nat.zero_le _, Nat.zero_le _⟩) rfl ?_
    have hiz := mIz_b (va_up z ((1100 * b) + N) cy) b cZ 0 1 (by omega)
    refine n_if_eq (tgt := 158) hx hb d_X2_load_151 (by decide) (by omega) (fun c_2 => ?_) (fun c_2 => ?_)
    · refine lv_iload hx hb d_X2_load_158 (lv_at hl 4 rfl) ?_
      refine n_if_eq (tgt := 167) hx hb d_X2_load_160 (by decide) (by omega) (fun c_3 => ?_) (fun c_3 => ?_)
      · refine lv_iconst (v := nI 1) hx hb d_X2_load_167 (by decide) ?_
        refine m_astG hx hb hK hP hD hS (j := b) (x := nI 1) (by omega) d_X2_load_168 (fun H locs hP hD hS => ?_)
        exact x_vret hx hb hr hlocks hP hD hS d_X2_load_169 rfl (by rw [show mLdZ g r b f N 0 k cy z = va_up z (1100 * b + N) cy from rfl]; unfold mSgn; first | rw [if_neg (by assumption)] | rw [if_pos (by assumption), if_pos (by assumption)] | rw [if_pos (by assumption), if_neg (by assumption)])
      · refine lv_iconst (v := -1) hx hb d_X2_load_163 (by decide) ?_
        refine lv_goto (tgt := 168) hx hb d_X2_load_164 (by decide) ?_
        refine m_astG hx hb hK hP hD hS (j := b) (x := -1) (by omega) d_X2_load_168 (fun H locs hP hD hS => ?_)
        exact x_vret hx hb hr hlocks hP hD hS d_X2_load_169 rfl (by rw [show mLdZ g r b f N 0 k cy z = va_up z (1100 * b + N) cy from rfl]; unfold mSgn; first | rw [if_neg (by assumption)] | rw [if_pos (by assumption), if_pos (by assumption)] | rw [if_pos (by assumption), if_neg (by assumption)])
    · refine lv_iconst (v := nI 0) hx hb d_X2_load_154 (by decide) ?_
      refine lv_goto (tgt := 168) hx hb d_X2_load_155 (by decide) ?_
      refine m_astG hx hb hK hP hD hS (j := b) (x := nI 0) (by omega) d_X2_load_168 (fun H locs hP hD hS => ?_)
      exact x_vret hx hb hr hlocks hP hD hS d_X2_load_169 rfl (by rw [show mLdZ g r b f N 0 k cy z = va_up z (1100 * b + N) cy from rfl]; unfold mSgn; first | rw [if_neg (by assumption)] | rw [if_pos (by assumption), if_pos (by assumption)] | rw [if_pos (by assumption), if_neg (by assumption)])
  | succ n ih =>
    intro k cy z hn hk hcy hf hok H locs hP hD hS ls hl
    have hd9 := mD2_lt (f := f) (hok.2.1 (512 * r + k))
    refine lv_iload hx hb d_X2_load_55 (lv_at hl 6 rfl) ?_
    refine lv_iload_n hx hb d_X2_load_57 rfl (lv_at hl 3 rfl) ?_
    refine n_icmp_ge (tgt := 127) hx hb d_X2_load_58 (by decide) (by omega) (by omega) (fun c_1 => ?_) (fun c_1 => ?_)
    · exact absurd c_1 (by omega)
    refine lv_aload_n hx hb d_X2_load_61 rfl (lv_at hl 0 rfl) ?_
    refine m_getR hx hb hts hown hK hP d_X2_load_62 ?_
    refine lv_sipush (v := nI 512) hx hb d_X2_load_65 (by decide) ?_
    refine lv_iload_n hx hb d_X2_load_68 rfl (lv_at hl 2 rfl) ?_
    refine n_imul hx hb d_X2_load_69 ?_
    refine lv_iload hx hb d_X2_load_70 (lv_at hl 6 rfl) ?_
    refine n_iadd hx hb d_X2_load_72 ?_
    refine m_aldR hx hb hK hP (j := (512 * r) + k) (by omega) d_X2_load_73 ?_
    have hq_73 := hok.2.1 ((512 * r) + k)
    refine lv_istore (lv' := [(7, .int (nI (g ((512 * r) + k)))), (0, .ref h), (1, .int (nI b)), (2, .int (nI r)), (3, .int (nI N)), (4, .int (nI f)), (5, .int (nI cy)), (6, .int (nI k))]) hx hb d_X2_load_74 hl (by decide) rfl (fun ls hl => ?_)
    refine lv_iload hx hb d_X2_load_76 (lv_at hl 5 rfl) ?_
    refine n_if_eq (tgt := 89) hx hb d_X2_load_78 (by decide) (by omega) (fun c_2 => ?_) (fun c_2 => ?_)
    · refine lv_iload hx hb d_X2_load_89 (lv_at hl 0 rfl) ?_
      refine lv_iload hx hb d_X2_load_91 (lv_at hl 6 rfl) ?_
      refine n_iadd hx hb d_X2_load_93 ?_
      refine lv_istore (lv' := [(7, .int (nI ((g ((512 * r) + k)) + cy))), (0, .ref h), (1, .int (nI b)), (2, .int (nI r)), (3, .int (nI N)), (4, .int (nI f)), (5, .int (nI cy)), (6, .int (nI k))]) hx hb d_X2_load_94 hl (by decide) rfl (fun ls hl => ?_)
      refine lv_iload hx hb d_X2_load_96 (lv_at hl 0 rfl) ?_
      refine lv_ldc (v := nI 65536) hx hb hown (hts (.constant "LimbRowsModel" 32 (nI 65536)) (show Cond.constant "LimbRowsModel" 32 65536 ∈ gw from k_527)) d_X2_load_98 ?_
      refine n_idiv hx hb d_X2_load_100 (by omega) (by omega) (by omega) ?_
      refine lv_istore (lv' := [(5, .int (nI (((g ((512 * r) + k)) + cy) / 65536))), (7, .int (nI ((g ((512 * r) + k)) + cy))), (0, .ref h), (1, .int (nI b)), (2, .int (nI r)), (3, .int (nI N)), (4, .int (nI f)), (6, .int (nI k))]) hx hb d_X2_load_101 hl (by decide) rfl (fun ls hl => ?_)
      refine lv_aload_n hx hb d_X2_load_103 rfl (lv_at hl 2 rfl) ?_
      refine m_getZ hx hb hts hown hK hP d_X2_load_104 ?_
      refine lv_sipush (v := nI 1100) hx hb d_X2_load_107 (by decide) ?_
      refine lv_iload_n hx hb d_X2_load_110 rfl (lv_at hl 3 rfl) ?_
      refine n_imul hx hb d_X2_load_111 ?_
      refine lv_iload hx hb d_X2_load_112 (lv_at hl 7 rfl) ?_
      refine n_iadd hx hb d_X2_load_114 ?_
      refine lv_iload hx hb d_X2_load_115 (lv_at hl 1 rfl) ?_
      refine lv_ldc (v := nI 65536) hx hb hown (hts (.constant "LimbRowsModel" 32 (nI 65536)) (show Cond.constant "LimbRowsModel" 32 65536 ∈ gw from k_527)) d_X2_load_117 ?_
      refine n_irem hx hb d_X2_load_119 (by omega) (by omega) (by omega) ?_
      refine m_astZ hx hb hK hP hD hS (j := (1100 * b) + k) (v := ((g ((512 * r) + k)) + cy) % 65536) (by omega) d_X2_load_120 (fun H locs hP hD hS => ?_)
      have hok := hok.z (j := (1100 * b) + k) (v := ((g ((512 * r) + k)) + cy) % 65536) (by omega)
      refine n_iinc (lv' := [(6, .int (nI (k + 1))), (5, .int (nI (((g ((512 * r) + k)) + cy) / 65536))), (7, .int (nI ((g ((512 * r) + k)) + cy))), (0, .ref h), (1, .int (nI b)), (2, .int (nI r)), (3, .int (nI N)), (4, .int (nI f))]) hx hb d_X2_load_121 hl (k := 7) rfl (by decide) rfl (fun ls hl => ?_)
      refine lv_goto (tgt := 55) hx hb d_X2_load_124 (by decide) ?_
      have hd2 : mD2 f (g (512 * r + k)) = g (512 * r + k) := if_pos (by assumption)
      rw [show mLdZ g r b f N (n + 1) k cy z = mLdZ g r b f N n (k + 1) ((mD2 f (g (512 * r + k)) + cy) / 65536) (va_up z (1100 * b + k) ((mD2 f (g (512 * r + k)) + cy) % 65536)) from rfl, hd2]
      exact ih (k + 1) _ _ (by omega) (by omega) (by omega) (by omega) hok H locs hP hD hS ls (lv_sub hl [3, 4, 5, 6, 7, 1, 0] rfl)
    · refine lv_ldc (v := nI 65535) hx hb hown (hts (.constant "LimbRowsModel" 31 (nI 65535)) (show Cond.constant "LimbRowsModel" 31 65535 ∈ gw from k_526)) d_X2_load_81 ?_
      refine lv_iload hx hb d_X2_load_83 (lv_at hl 0 rfl) ?_
      refine n_isub hx hb d_X2_load_85 (by omega) ?_
      refine lv_goto (tgt := 91) hx hb d_X2_load_86 (by decide) ?_
      refine lv_iload hx hb d_X2_load_91 (lv_at hl 6 rfl) ?_
      refine n_iadd hx hb d_X2_load_93 ?_
      refine lv_istore (lv' := [(7, .int (nI ((65535 - (g ((512 * r) + k))) + cy))), (0, .ref h), (1, .int (nI b)), (2, .int (nI r)), (3, .int (nI N)), (4, .int (nI f)), (5, .int (nI cy)), (6, .int (nI k))]) hx hb d_X2_load_94 hl (by decide) rfl (fun ls hl => ?_)
      refine lv_iload hx hb d_X2_load_96 (lv_at hl 0 rfl) ?_
      refine lv_ldc (v := nI 65536) hx hb hown (hts (.constant "LimbRowsModel" 32 (nI 65536)) (show Cond.constant "LimbRowsModel" 32 65536 ∈ gw from k_527)) d_X2_load_98 ?_
      refine n_idiv hx hb d_X2_load_100 (by omega) (by omega) (by omega) ?_
      refine lv_istore (lv' := [(5, .int (nI (((65535 - (g ((512 * r) + k))) + cy) / 65536))), (7, .int (nI ((65535 - (g ((512 * r) + k))) + cy))), (0, .ref h), (1, .int (nI b)), (2, .int (nI r)), (3, .int (nI N)), (4, .int (nI f)), (6, .int (nI k))]) hx hb d_X2_load_101 hl (by decide) rfl (fun ls hl => ?_)
      refine lv_aload_n hx hb d_X2_load_103 rfl (lv_at hl 2 rfl) ?_
      refine m_getZ hx hb hts hown hK hP d_X2_load_104 ?_
      refine lv_sipush (v := nI 1100) hx hb d_X2_load_107 (by decide) ?_
      refine lv_iload_n hx hb d_X2_load_110 rfl (lv_at hl 3 rfl) ?_
      refine n_imul hx hb d_X2_load_111 ?_
      refine lv_iload hx hb d_X2_load_112 (lv_at hl 7 rfl) ?_
      refine n_iadd hx hb d_X2_load_114 ?_
      refine lv_iload hx hb d_X2_load_115 (lv_at hl 1 rfl) ?_
      refine lv_ldc (v := nI 65536) hx hb hown (hts (.constant "LimbRowsModel" 32 (nI 65536)) (show Cond.constant "LimbRowsModel" 32 65536 ∈ gw from k_527)) d_X2_load_117 ?_
      refine n_irem hx hb d_X2_load_119 (by omega) (by omega) (by omega) ?_
      refine m_astZ hx hb hK hP hD hS (j := (1100 * b) + k) (v := ((65535 - (g ((512 * r) + k))) + cy) % 65536) (by omega) d_X2_load_120 (fun H locs hP hD hS => ?_)
      have hok := hok.z (j := (1100 * b) + k) (v := ((65535 - (g ((512 * r) + k))) + cy) % 65536) (by omega)
      refine n_iinc (lv' := [(6, .int (nI (k + 1))), (5, .int (nI (((65535 - (g ((512 * r) + k))) + cy) / 65536))), (7, .int (nI ((65535 - (g ((512 * r) + k))) + cy))), (0, .ref h), (1, .int (nI b)), (2, .int (nI r)), (3, .int (nI N)), (4, .int (nI f))]) hx hb d_X2_load_121 hl (k := 7) rfl (by decide) rfl (fun ls hl => ?_)
      refine lv_goto (tgt := 55) hx hb d_X2_load_124 (by decide) ?_
      have hd2 : mD2 f (g (512 * r + k)) = 65535 - g (512 * r + k) := if_neg (by assumption)
      rw [show mLdZ g r b f N (n + 1) k cy z = mLdZ g r b f N n (k + 1) ((mD2 f (g (512 * r + k)) + cy) / 65536) (va_up z (1100 * b + k) ((mD2 f (g (512 * r + k)) + cy) % 65536)) from rfl, hd2]
      exact ih (k + 1) _ _ (by omega) (by omega) (by omega) (by omega) hok H locs hP hD hS ls (lv_sub hl [3, 4, 5, 6, 7, 1, 0] rfl)
abbrev w_X2_load : List Cond := .code y_X2_load b_X2_load 8 (none) :: gw
set_option maxHeartbeats 800000 in
set_option maxRecDepth 100000 in
theorem c_X2_load {l : Launch} {D : va_G} {Rs : va_W} {cA cR cL : ClassId} {h aw ar ag az : Nat} {cd : Int32} {w g : Nat → Nat} {sg : Nat → Int32} {z : Nat → Nat} (hok : mdOk w g z) {b r : Nat} (hb3 : b < 3) (hr64 : r < 64) : xC l y_X2_load w_X2_load ({ frames := 1, cells := 0, slots := 0, locals := 23 }) D cls0 (ty3 cA cR cL) [.ref h, .int (nI b), .int (nI r)] (md cA h aw ar ag az cd w g sg z Rs) (none) (fun w1 => w1 = md cA h aw ar ag az cd w g (mLoadG w g r b z sg) (mLoadZ w g r b z) Rs) 0 0 := by
  refine xC.ofW (cc := b_X2_load) (maxL := 8) (ret := none) (by decide) rfl (Nat.le_of_ble_eq_true rfl) ?_
  intro p e s m below meth c A ls _ hin hx hb hr hml hown hts hlocks hA hK hP hD hS hl
  have hts : ∀ w ∈ gw, w.before ([.ref h, .int (nI b), .int (nI r)]).toArray s = true := fun w h => hts w (List.mem_cons_of_mem _ h)
  have hown : s.vm.findClass R_Md = some m.cls := hown
  have hl : lv_has ls 8 [(0, .ref h), (1, .int (nI b)), (2, .int (nI r))] := hl
  have hwr := hok.1 r hr64
  refine lv_aload_n hx hb d_X2_load_0 rfl (lv_at hl 0 rfl) ?_
  refine lv_iload_n hx hb d_X2_load_1 rfl (lv_at hl 1 rfl) ?_
  refine x_call (st1 := []) (x_runV (As := [.int (nI b)]) (rest := []) (nL := 8) ⟨hx, hb, hml, hown, hts⟩ (c_X2_clear (b := b) (by omega) _) (cwV 1 hts (gw_V k_522 k_524 k_32 k_52 k_525) rfl rfl rfl (by decide +kernel) ⟨Nat.le_of_ble_eq_true rfl, Nat.le_of_ble_eq_true rfl⟩) hK hP hD 0 2 rfl rfl rfl hl.1 rfl (Nat.le_of_ble_eq_true rfl) d_X2_load_2 ⟨Nat.zero_le _, Nat.zero_le _⟩) hS (x_sub hD hS hA) (x_sub hD hS hA) rfl (fun w1 H locs hY hP hD hS => ?_)
  subst hY
  have hok := mClr_ok (b := b) cZ 0 _ hok
  refine lv_iconst (v := nI 2) hx hb d_X2_load_5 (by decide) ?_
  refine lv_aload_n hx hb d_X2_load_6 rfl (lv_at hl 0 rfl) ?_
  refine m_getW hx hb hts hown hK hP d_X2_load_7 ?_
  refine lv_iload_n hx hb d_X2_load_10 rfl (lv_at hl 2 rfl) ?_
  have hq_11 := hok.1 r (by omega)
  refine m_aldW hx hb hK hP (j := r) (by omega) d_X2_load_11 ?_
  refine n_imul hx hb d_X2_load_12 ?_
  refine lv_istore_n (lv' := [(3, .int (nI (2 * (w r)))), (0, .ref h), (1, .int (nI b)), (2, .int (nI r))]) hx hb d_X2_load_13 rfl hl (by decide) rfl (fun ls hl => ?_)
  refine lv_aload_n hx hb d_X2_load_14 rfl (lv_at hl 1 rfl) ?_
  refine m_getR hx hb hts hown hK hP d_X2_load_15 ?_
  refine lv_sipush (v := nI 512) hx hb d_X2_load_18 (by decide) ?_
  refine lv_iload_n hx hb d_X2_load_21 rfl (lv_at hl 3 rfl) ?_
  refine n_imul hx hb d_X2_load_22 ?_
  refine lv_iload_n hx hb d_X2_load_23 rfl (lv_at hl 0 rfl) ?_
  refine n_iadd hx hb d_X2_load_24 ?_
  refine lv_iconst (v := nI 1) hx hb d_X2_load_25 (by decide) ?_
  refine n_isub hx hb d_X2_load_26 (by omega) ?_
  refine m_aldR hx hb hK hP (j := ((512 * r) + (2 * (w r))) - 1) (by omega) d_X2_load_27 ?_
  have hq_27 := hok.2.1 (((512 * r) + (2 * (w r))) - 1)
  refine lv_ldc (v := nI 32768) hx hb hown (hts (.constant "LimbRowsModel" 13 (nI 32768)) (show Cond.constant "LimbRowsModel" 13 32768 ∈ gw from k_486)) d_X2_load_28 ?_
  refine n_icmp_lt (tgt := 37) hx hb d_X2_load_30 (by decide) (by omega) (by omega) (fun c_1 => ?_) (fun c_1 => ?_)
  · refine lv_iconst (v := nI 0) hx hb d_X2_load_37 (by decide) ?_
    refine lv_istore (lv' := [(4, .int (nI 0)), (3, .int (nI (2 * (w r)))), (0, .ref h), (1, .int (nI b)), (2, .int (nI r))]) hx hb d_X2_load_38 hl (by decide) rfl (fun ls hl => ?_)
    refine lv_iload hx hb d_X2_load_40 (lv_at hl 0 rfl) ?_
    refine n_if_eq (tgt := 49) hx hb d_X2_load_42 (by decide) (by omega) (fun _ => ?_) (fun c => absurd c (by decide))
    refine lv_iconst (v := nI 0) hx hb d_X2_load_49 (by decide) ?_
    refine lv_istore (lv' := [(5, .int (nI 0)), (4, .int (nI 0)), (3, .int (nI (2 * (w r)))), (0, .ref h), (1, .int (nI b)), (2, .int (nI r))]) hx hb d_X2_load_50 hl (by decide) rfl (fun ls hl => ?_)
    refine lv_iconst (v := nI 0) hx hb d_X2_load_52 (by decide) ?_
    refine lv_istore (lv' := [(6, .int (nI 0)), (5, .int (nI 0)), (4, .int (nI 0)), (3, .int (nI (2 * (w r)))), (0, .ref h), (1, .int (nI b)), (2, .int (nI r))]) hx hb d_X2_load_53 hl (by decide) rfl (fun ls hl => ?_)
    have hls : mLess w g r = 0 := by unfold mLess; first | exact if_pos (by assumption) | exact if_neg (Nat.not_lt.mpr (by assumption))
    unfold mLoadG mLoadZ
    rw [hls]
    exact lp_X2_load (N := 2 * w r) hx hb hr hml hown hts hlocks hA hK hb3 hr64 (by omega) (2 * w r) 0 0 _ rfl (by omega) (by omega) (by omega) hok _ _ hP hD hS ls (lv_sub hl [4, 5, 6, 3, 2, 1, 0] rfl)
  · refine lv_iconst (v := nI 1) hx hb d_X2_load_33 (by decide) ?_
    refine lv_goto (tgt := 38) hx hb d_X2_load_34 (by decide) ?_
    refine lv_istore (lv' := [(4, .int (nI 1)), (3, .int (nI (2 * (w r)))), (0, .ref h), (1, .int (nI b)), (2, .int (nI r))]) hx hb d_X2_load_38 hl (by decide) rfl (fun ls hl => ?_)
    refine lv_iload hx hb d_X2_load_40 (lv_at hl 0 rfl) ?_
    refine n_if_eq (tgt := 49) hx hb d_X2_load_42 (by decide) (by omega) (fun c => absurd c (by decide)) (fun _ => ?_)
    refine lv_iconst (v := nI 1) hx hb d_X2_load_45 (by decide) ?_
    refine lv_goto (tgt := 50) hx hb d_X2_load_46 (by decide) ?_
    refine lv_istore (lv' := [(5, .int (nI 1)), (4, .int (nI 1)), (3, .int (nI (2 * (w r)))), (0, .ref h), (1, .int (nI b)), (2, .int (nI r))]) hx hb d_X2_load_50 hl (by decide) rfl (fun ls hl => ?_)
    refine lv_iconst (v := nI 0) hx hb d_X2_load_52 (by decide) ?_
    refine lv_istore (lv' := [(6, .int (nI 0)), (5, .int (nI 1)), (4, .int (nI 1)), (3, .int (nI (2 * (w r)))), (0, .ref h), (1, .int (nI b)), (2, .int (nI r))]) hx hb d_X2_load_53 hl (by decide) rfl (fun ls hl => ?_)
    have hls : mLess w g r = 1 := by unfold mLess; first | exact if_pos (by assumption) | exact if_neg (Nat.not_lt.mpr (by assumption))
    unfold mLoadG mLoadZ
    rw [hls]
    exact lp_X2_load (N := 2 * w r) hx hb hr hml hown hts hlocks hA hK hb3 hr64 (by omega) (2 * w r) 0 1 _ rfl (by omega) (by omega) (by omega) hok _ _ hP hD hS ls (lv_sub hl [4, 5, 6, 3, 2, 1, 0] rfl)
abbrev w_X2_signOf : List Cond := .code y_X2_signOf b_X2_signOf 2 (some .int) :: gw
set_option maxHeartbeats 800000 in
set_option maxRecDepth 100000 in
theorem c_X2_signOf {l : Launch} {D : va_G} {Rs : va_W} {cA cR cL : ClassId} {h aw ar ag az : Nat} {cd : Int32} {w g : Nat → Nat} {sg : Nat → Int32} {z : Nat → Nat} (hok : mdOk w g z) {r : Nat} (hr64 : r < 64) : xC l y_X2_signOf w_X2_signOf ({ frames := 2, cells := 0, slots := 0, locals := 50 }) D cls0 (ty3 cA cR cL) [.ref h, .int (nI r)] (md cA h aw ar ag az cd w g sg z Rs) (some (.int (mLoadG w g r 2 z sg 2))) (fun w1 => w1 = md cA h aw ar ag az cd w g (mLoadG w g r 2 z sg) (mLoadZ w g r 2 z) Rs) 0 0 := by
  refine xC.ofW (cc := b_X2_signOf) (maxL := 2) (ret := some .int) (by decide) rfl (Nat.le_of_ble_eq_true rfl) ?_
  intro p e s m below meth c A ls _ hin hx hb hr hml hown hts hlocks hA hK hP hD hS hl
  have hts : ∀ w ∈ gw, w.before ([.ref h, .int (nI r)]).toArray s = true := fun w h => hts w (List.mem_cons_of_mem _ h)
  have hown : s.vm.findClass R_Md = some m.cls := hown
  have hl : lv_has ls 2 [(0, .ref h), (1, .int (nI r))] := hl
  refine lv_aload_n hx hb d_X2_signOf_0 rfl (lv_at hl 0 rfl) ?_
  refine lv_iconst (v := nI 2) hx hb d_X2_signOf_1 (by decide) ?_
  refine lv_iload_n hx hb d_X2_signOf_2 rfl (lv_at hl 1 rfl) ?_
  refine x_call (st1 := []) (x_runV (As := [.int (nI 2), .int (nI r)]) (rest := []) (nL := 2) ⟨hx, hb, hml, hown, hts⟩ (c_X2_load hok (b := 2) (r := r) (by omega) (by omega) _) (cwV 2 hts (gw_V k_518 k_520 k_31 k_52 k_521) rfl rfl rfl (by decide +kernel) ⟨Nat.le_of_ble_eq_true rfl, Nat.le_of_ble_eq_true rfl⟩) hK hP hD 0 2 rfl rfl rfl hl.1 rfl (Nat.le_of_ble_eq_true rfl) d_X2_signOf_3 ⟨Nat.zero_le _, Nat.zero_le _⟩) hS (x_sub hD hS hA) (x_sub hD hS hA) rfl (fun w1 H locs hY hP hD hS => ?_)
  subst hY
  have hok := mLoadZ_ok (r := r) (b := 2) hok
  refine lv_aload_n hx hb d_X2_signOf_6 rfl (lv_at hl 0 rfl) ?_
  refine m_getG hx hb hts hown hK hP d_X2_signOf_7 ?_
  refine lv_iconst (v := nI 2) hx hb d_X2_signOf_10 (by decide) ?_
  refine m_aldG hx hb hK hP (j := 2) (by omega) d_X2_signOf_11 ?_
  exact x_iret hx hb hr hlocks hP hD hS d_X2_signOf_12 rfl rfl
def mCmpK (z : Nat → Nat) (b q : Nat) : Nat → Nat
  | 0 => 0
  | n + 1 => if z (1100 * b + (n + 1)) = z (1100 * q + (n + 1)) then mCmpK z b q n else n + 1
theorem mCmpK_le (z : Nat → Nat) (b q : Nat) : ∀ n, mCmpK z b q n ≤ n
  | 0 => Nat.le_refl _
  | n + 1 => by
    unfold mCmpK
    have := mCmpK_le z b q n
    split <;> omega
def mSgD (x y : Nat) : Int32 := if 0 ≤ nI x - nI y then (if nI x - nI y ≤ 0 then nI 0 else nI 1) else -1
def mCmp (z : Nat → Nat) (b q K : Nat) : Int32 := mSgD (z (1100 * b + K)) (z (1100 * q + K))
set_option maxHeartbeats 800000 in
set_option maxRecDepth 100000 in
theorem js_X2_compareSizes_41 {p : Program} {l : Launch} {e : Env} {s : State} {m : MethodId} {args : Array Value} {below : List Frame} {meth : Method} {c : Code} {D : va_G} {Rs : va_W} {cA cR cL : ClassId} {h aw ar ag az : Nat} {A : Nat → Prop} {cd : Int32} {w g : Nat → Nat} {sg : Nat → Int32} {z : Nat → Nat} (hx : p.tables.exec = Jvm.exec) (hb : c.code = b_X2_compareSizes) (hr : meth.sig.returnType = some .int) (hml : c.maxLocals = 5) (hown : s.vm.findClass R_Md = some m.cls) (hts : ∀ w ∈ gw, w.before args s = true) (hlocks : meth.locks = false) (hA : ∀ q : Nat, s.heap.size ≤ q → A q) (hK : va_K D cls0 (ty3 cA cR cL) s) (hok : mdOk w g z) {b q : Nat} (hb3 : b < 3) (hq3 : q < 3) (hP : va_P D cls0 (md cA h aw ar ag az cd w g sg z Rs) s.heap) (hD : va_D A (md cA h aw ar ag az cd w g sg z Rs)) (k : Nat) (hk : k ≤ 1099) (ls : Array Slot) (hl : lv_has ls 5 [(0, .ref h), (1, .int (nI b)), (2, .int (nI q)), (3, .int (nI k))]) : W p l e ({ frames := 0, cells := 0, slots := 0, locals := 0 }) s m args below meth c s.heap [] 0 0 (MQ below (xRQ (some (.int (mCmp z b q k)))) args s 0 0 (fun _ => False)) (F0 m 41 ls []) := by
  refine lv_aload_n hx hb d_X2_compareSizes_41 rfl (lv_at hl 0 rfl) ?_
  refine m_getZ hx hb hts hown hK hP d_X2_compareSizes_42 ?_
  refine lv_sipush (v := nI 1100) hx hb d_X2_compareSizes_45 (by decide) ?_
  refine lv_iload_n hx hb d_X2_compareSizes_48 rfl (lv_at hl 1 rfl) ?_
  refine n_imul hx hb d_X2_compareSizes_49 ?_
  refine lv_iload_n hx hb d_X2_compareSizes_50 rfl (lv_at hl 3 rfl) ?_
  refine n_iadd hx hb d_X2_compareSizes_51 ?_
  refine m_aldZ hx hb hK hP (j := (1100 * b) + k) (by omega) d_X2_compareSizes_52 ?_
  have hq_52 := hok.2.2 ((1100 * b) + k)
  refine lv_aload_n hx hb d_X2_compareSizes_53 rfl (lv_at hl 0 rfl) ?_
  refine m_getZ hx hb hts hown hK hP d_X2_compareSizes_54 ?_
  refine lv_sipush (v := nI 1100) hx hb d_X2_compareSizes_57 (by decide) ?_
  refine lv_iload_n hx hb d_X2_compareSizes_60 rfl (lv_at hl 2 rfl) ?_
  refine n_imul hx hb d_X2_compareSizes_61 ?_
  refine lv_iload_n hx hb d_X2_compareSizes_62 rfl (lv_at hl 3 rfl) ?_
  refine n_iadd hx hb d_X2_compareSizes_63 ?_
  refine m_aldZ hx hb hK hP (j := (1100 * q) + k) (by omega) d_X2_compareSizes_64 ?_
  have hq_64 := hok.2.2 ((1100 * q) + k)
  refine lv_isub hx hb d_X2_compareSizes_65 ?_
  refine lv_istore (lv' := [(4, .int (nI (z (1100 * b + k)) - nI (z (1100 * q + k)))), (0, .ref h), (1, .int (nI b)), (2, .int (nI q)), (3, .int (nI k))]) hx hb d_X2_compareSizes_66 hl (by decide) rfl (fun ls hl => ?_)
  refine lv_iload hx hb d_X2_compareSizes_68 (lv_at hl 0 rfl) ?_
  refine lv_if_ge (tgt := 77) hx hb d_X2_compareSizes_70 (by decide) (fun c_1 => ?_) (fun c_1 => ?_)
  · refine lv_iload hx hb d_X2_compareSizes_77 (lv_at hl 0 rfl) ?_
    refine lv_if_le (tgt := 86) hx hb d_X2_compareSizes_79 (by decide) (fun c_2 => ?_) (fun c_2 => ?_)
    · refine lv_iconst (v := nI 0) hx hb d_X2_compareSizes_86 (by decide) ?_
      exact xr_iret hx hb hr hlocks d_X2_compareSizes_87 (by unfold mCmp mSgD; first | rw [if_neg (by assumption)] | rw [if_pos (by assumption), if_pos (by assumption)] | rw [if_pos (by assumption), if_neg (by assumption)])
    · refine lv_iconst (v := nI 1) hx hb d_X2_compareSizes_82 (by decide) ?_
      refine lv_goto (tgt := 87) hx hb d_X2_compareSizes_83 (by decide) ?_
      exact xr_iret hx hb hr hlocks d_X2_compareSizes_87 (by unfold mCmp mSgD; first | rw [if_neg (by assumption)] | rw [if_pos (by assumption), if_pos (by assumption)] | rw [if_pos (by assumption), if_neg (by assumption)])
  · refine lv_iconst (v := -1) hx hb d_X2_compareSizes_73 (by decide) ?_
    refine lv_goto (tgt := 87) hx hb d_X2_compareSizes_74 (by decide) ?_
    exact xr_iret hx hb hr hlocks d_X2_compareSizes_87 (by unfold mCmp mSgD; first | rw [if_neg (by assumption)] | rw [if_pos (by assumption), if_pos (by assumption)] | rw [if_pos (by assumption), if_neg (by assumption)])
set_option maxHeartbeats 800000 in
set_option maxRecDepth 100000 in
theorem lp_X2_compareSizes {p : Program} {l : Launch} {e : Env} {s : State} {m : MethodId} {args : Array Value} {below : List Frame} {meth : Method} {c : Code} {D : va_G} {Rs : va_W} {cA cR cL : ClassId} {h aw ar ag az : Nat} {A : Nat → Prop} {cd : Int32} {w g : Nat → Nat} {sg : Nat → Int32} {z : Nat → Nat} (hx : p.tables.exec = Jvm.exec) (hb : c.code = b_X2_compareSizes) (hr : meth.sig.returnType = some .int) (hml : c.maxLocals = 5) (hown : s.vm.findClass R_Md = some m.cls) (hts : ∀ w ∈ gw, w.before args s = true) (hlocks : meth.locks = false) (hA : ∀ q : Nat, s.heap.size ≤ q → A q) (hK : va_K D cls0 (ty3 cA cR cL) s) (hok : mdOk w g z) {b q : Nat} (hb3 : b < 3) (hq3 : q < 3) (hP : va_P D cls0 (md cA h aw ar ag az cd w g sg z Rs) s.heap) (hD : va_D A (md cA h aw ar ag az cd w g sg z Rs)) : ∀ (n : Nat), n ≤ 1099 → ∀ (ls : Array Slot), lv_has ls 5 [(0, .ref h), (1, .int (nI b)), (2, .int (nI q)), (3, .int (nI n))] → W p l e ({ frames := 0, cells := 0, slots := 0, locals := 0 }) s m args below meth c s.heap [] 0 0 (MQ below (xRQ (some (.int (mCmp z b q (mCmpK z b q n))))) args s 0 0 (fun _ => False)) (F0 m 4 ls []) := by
  intro n
  induction n with
  | zero =>
    intro  hn ls hl
    refine lv_iload_n hx hb d_X2_compareSizes_4 rfl (lv_at hl 3 rfl) ?_
    refine n_if_le (tgt := 41) hx hb d_X2_compareSizes_5 (by decide) (by omega) (fun c_1 => ?_) (fun c_1 => ?_)
    rotate_left
    · exact absurd c_1 (by omega)
    exact js_X2_compareSizes_41 hx hb hr hml hown hts hlocks hA hK hok hb3 hq3 hP hD 0 (by omega) ls (lv_sub hl [0, 1, 2, 3] rfl)
  | succ n ih =>
    intro  hn ls hl
    refine lv_iload_n hx hb d_X2_compareSizes_4 rfl (lv_at hl 3 rfl) ?_
    refine n_if_le (tgt := 41) hx hb d_X2_compareSizes_5 (by decide) (by omega) (fun c_1 => ?_) (fun c_1 => ?_)
    · exact absurd c_1 (by omega)
    refine lv_aload_n hx hb d_X2_compareSizes_8 rfl (lv_at hl 0 rfl) ?_
    refine m_getZ hx hb hts hown hK hP d_X2_compareSizes_9 ?_
    refine lv_sipush (v := nI 1100) hx hb d_X2_compareSizes_12 (by decide) ?_
    refine lv_iload_n hx hb d_X2_compareSizes_15 rfl (lv_at hl 1 rfl) ?_
    refine n_imul hx hb d_X2_compareSizes_16 ?_
    refine lv_iload_n hx hb d_X2_compareSizes_17 rfl (lv_at hl 3 rfl) ?_
    refine n_iadd hx hb d_X2_compareSizes_18 ?_
    refine m_aldZ hx hb hK hP (j := (1100 * b) + (n + 1)) (by omega) d_X2_compareSizes_19 ?_
    have hq_19 := hok.2.2 ((1100 * b) + (n + 1))
    refine lv_aload_n hx hb d_X2_compareSizes_20 rfl (lv_at hl 0 rfl) ?_
    refine m_getZ hx hb hts hown hK hP d_X2_compareSizes_21 ?_
    refine lv_sipush (v := nI 1100) hx hb d_X2_compareSizes_24 (by decide) ?_
    refine lv_iload_n hx hb d_X2_compareSizes_27 rfl (lv_at hl 2 rfl) ?_
    refine n_imul hx hb d_X2_compareSizes_28 ?_
    refine lv_iload_n hx hb d_X2_compareSizes_29 rfl (lv_at hl 3 rfl) ?_
    refine n_iadd hx hb d_X2_compareSizes_30 ?_
    refine m_aldZ hx hb hK hP (j := (1100 * q) + (n + 1)) (by omega) d_X2_compareSizes_31 ?_
    have hq_31 := hok.2.2 ((1100 * q) + (n + 1))
    refine n_icmp_ne (tgt := 41) hx hb d_X2_compareSizes_32 (by decide) (by omega) (by omega) (fun c_2 => ?_) (fun c_2 => ?_)
    · rw [show mCmpK z b q (n + 1) = n + 1 from if_neg (by assumption)]
      exact js_X2_compareSizes_41 hx hb hr hml hown hts hlocks hA hK hok hb3 hq3 hP hD (n + 1) (by omega) ls (lv_sub hl [0, 1, 2, 3] rfl)
    · refine n_idec (lv' := [(3, .int (nM (n + 1))), (0, .ref h), (1, .int (nI b)), (2, .int (nI q))]) hx hb d_X2_compareSizes_35 hl (k := 3) rfl (by decide) rfl (fun ls hl => ?_)
      refine lv_goto (tgt := 4) hx hb d_X2_compareSizes_38 (by decide) ?_
      rw [nM_succ] at hl
      rw [show mCmpK z b q (n + 1) = mCmpK z b q n from if_pos (by assumption)]
      exact ih (by omega) ls (lv_sub hl [1, 2, 3, 0] rfl)
abbrev w_X2_compareSizes : List Cond := .code y_X2_compareSizes b_X2_compareSizes 5 (some .int) :: gw
set_option maxHeartbeats 800000 in
set_option maxRecDepth 100000 in
theorem c_X2_compareSizes {l : Launch} {D : va_G} {Rs : va_W} {cA cR cL : ClassId} {h aw ar ag az : Nat} {cd : Int32} {w g : Nat → Nat} {sg : Nat → Int32} {z : Nat → Nat} (hok : mdOk w g z) {b q : Nat} (hb3 : b < 3) (hq3 : q < 3) : xR l y_X2_compareSizes w_X2_compareSizes ({ frames := 0, cells := 0, slots := 0, locals := 0 }) D cls0 (ty3 cA cR cL) [.ref h, .int (nI b), .int (nI q)] (md cA h aw ar ag az cd w g sg z Rs) (some (.int (mCmp z b q (mCmpK z b q (cZ - 1))))) := by
  refine xR.ofW (cc := b_X2_compareSizes) (maxL := 5) (ret := some .int) (by decide) rfl (Nat.le_of_ble_eq_true rfl) ?_
  intro p e s m below meth c A ls _ hin hx hb hr hml hown hts hlocks hA hK hP hD hS hl
  have hts : ∀ w ∈ gw, w.before ([.ref h, .int (nI b), .int (nI q)]).toArray s = true := fun w h => hts w (List.mem_cons_of_mem _ h)
  have hown : s.vm.findClass R_Md = some m.cls := hown
  have hl : lv_has ls 5 [(0, .ref h), (1, .int (nI b)), (2, .int (nI q))] := hl
  refine lv_sipush (v := nI 1099) hx hb d_X2_compareSizes_0 (by decide) ?_
  refine lv_istore_n (lv' := [(3, .int (nI 1099)), (0, .ref h), (1, .int (nI b)), (2, .int (nI q))]) hx hb d_X2_compareSizes_3 rfl hl (by decide) rfl (fun ls hl => ?_)
  rw [show nI 1099 = nI (cZ - 1) from by rw [cZ_eq]] at hl
  exact lp_X2_compareSizes hx hb hr hml hown hts hlocks hA hK hok hb3 hq3 hP hD (cZ - 1) (by rw [cZ_eq]; exact Nat.le_refl _) ls (lv_sub hl [1, 2, 3, 0] rfl)
