def mAddZ (b q : Nat) : Nat → Nat → Nat → (Nat → Nat) → Nat → Nat
  | 0, _, _, z => z
  | n + 1, k, cy, z => mAddZ b q n (k + 1) ((z (1100 * b + k) + z (1100 * q + k) + cy) / 65536) (va_up z (1100 * b + k) ((z (1100 * b + k) + z (1100 * q + k) + cy) % 65536))
theorem mAddZ_ok {w g : Nat → Nat} {b q : Nat} : ∀ (n k cy : Nat) (z : Nat → Nat), cy < 2 → mdOk w g z → mdOk w g (mAddZ b q n k cy z)
  | 0, _, _, _, _, h => h
  | n + 1, k, cy, z, hc, h => mAddZ_ok n (k + 1) _ _ (by have := h.2.2 (1100 * b + k); have := h.2.2 (1100 * q + k); omega) (h.z (by omega))
def mX (y : Int32) (a c : Nat) : Nat := if 0 ≤ y then a else c
theorem mX_lt {y : Int32} {a c : Nat} (ha : a < 65536) (hc : c < 65536) : mX y a c < 65536 := by unfold mX; split <;> assumption
def mSubZ (y : Int32) (b q : Nat) : Nat → Nat → Nat → (Nat → Nat) → Nat → Nat
  | 0, _, _, z => z
  | n + 1, k, bw, z =>
    if mX y (z (1100 * b + k)) (z (1100 * q + k)) < mX y (z (1100 * q + k)) (z (1100 * b + k)) + bw then
      mSubZ y b q n (k + 1) 1 (va_up z (1100 * b + k) (65536 + mX y (z (1100 * b + k)) (z (1100 * q + k)) - mX y (z (1100 * q + k)) (z (1100 * b + k)) - bw))
    else mSubZ y b q n (k + 1) 0 (va_up z (1100 * b + k) (mX y (z (1100 * b + k)) (z (1100 * q + k)) - mX y (z (1100 * q + k)) (z (1100 * b + k)) - bw))
theorem mSubZ_ok {y : Int32} {w g : Nat → Nat} {b q : Nat} : ∀ (n k bw : Nat) (z : Nat → Nat), mdOk w g z → mdOk w g (mSubZ y b q n k bw z)
  | 0, _, _, _, h => h
  | n + 1, k, bw, z, h => by
    have h1 := mX_lt (y := y) (h.2.2 (1100 * b + k)) (h.2.2 (1100 * q + k))
    have h2 := mX_lt (y := y) (h.2.2 (1100 * q + k)) (h.2.2 (1100 * b + k))
    unfold mSubZ
    split
    · exact mSubZ_ok n (k + 1) _ _ (h.z (by omega))
    · exact mSubZ_ok n (k + 1) _ _ (h.z (by omega))
theorem n_sub3 {x y v : Nat} (h : y + v ≤ x) : nI x - nI y - nI v = nI (x - y - v) := by
  rw [pk_sub (by omega), pk_sub (by omega)]
theorem n_sub3n {x y v : Nat} (hx : x < 65536) (hy : y < 65536) (hv : v < 2) (h : x < y + v) : nI x - nI y - nI v < 0 ∧ nI x - nI y - nI v + nI 65536 = nI (65536 + x - y - v) := by
  have e : nI x - nI y - nI v = nI x - nI (y + v) := by
    rw [← nI_add, Int32.sub_sub]
  constructor
  · rw [e]; exact pk_sneg (by omega) h
  · rw [e, Int32.sub_eq_add_neg, Int32.add_assoc, Int32.add_comm (-_), ← Int32.add_assoc, ← Int32.sub_eq_add_neg, nI_add, pk_sub (by omega)]
    congr 1
    omega
def mOth (sg : Nat → Int32) (q f : Nat) : Int32 := if f = 0 then sg q else -(sg q)
noncomputable def mBy (z : Nat → Nat) (b q : Nat) : Int32 := mCmp z b q (mCmpK z b q (cZ - 1))
def mAddP (sg : Nat → Int32) (b : Nat) (x : Int32) : Prop := sg b = 0 ∨ x = 0 ∨ sg b = x
noncomputable def mCombZ (sg : Nat → Int32) (b q : Nat) (x : Int32) (z : Nat → Nat) : Nat → Nat := if sg b = 0 then mAddZ b q cZ 0 0 z else if x = 0 then mAddZ b q cZ 0 0 z else if sg b = x then mAddZ b q cZ 0 0 z else mSubZ (mBy z b q) b q cZ 0 0 z
noncomputable def mCombS (sg : Nat → Int32) (b q : Nat) (x : Int32) (z : Nat → Nat) : Int32 := if sg b = 0 then x else if x = 0 then sg b else if sg b = x then sg b else if mBy z b q = 0 then nI 0 else if 0 ≤ mBy z b q then sg b else x
theorem mComb_add {sg : Nat → Int32} {b q : Nat} {x : Int32} {z : Nat → Nat} (h : sg b = 0 ∨ x = 0 ∨ sg b = x) : mCombZ sg b q x z = mAddZ b q cZ 0 0 z ∧ mCombS sg b q x z = (if sg b = 0 then x else sg b) := by
  unfold mCombZ mCombS
  by_cases h1 : sg b = 0
  · simp [h1]
  · by_cases h2 : x = 0
    · simp [h1, h2]
    · have h3 : sg b = x := by
        rcases h with h | h | h
        · exact absurd h h1
        · exact absurd h h2
        · exact h
      rw [if_neg h1, if_neg h2, if_pos h3, if_neg h1, if_neg h2, if_pos h3, if_neg h1]
      exact ⟨rfl, rfl⟩
theorem mComb_sub {sg : Nat → Int32} {b q : Nat} {x : Int32} {z : Nat → Nat} (h1 : ¬ sg b = 0) (h2 : ¬ x = 0) (h3 : ¬ sg b = x) : mCombZ sg b q x z = mSubZ (mBy z b q) b q cZ 0 0 z ∧ mCombS sg b q x z = (if mBy z b q = 0 then nI 0 else if 0 ≤ mBy z b q then sg b else x) := by
  unfold mCombZ mCombS
  rw [if_neg h1, if_neg h2, if_neg h3, if_neg h1, if_neg h2, if_neg h3]
  exact ⟨rfl, rfl⟩
theorem mCombZ_ok {sg : Nat → Int32} {w g z : Nat → Nat} {b q : Nat} {x : Int32} (h : mdOk w g z) : mdOk w g (mCombZ sg b q x z) := by
  unfold mCombZ
  split
  · exact mAddZ_ok _ _ _ _ (by omega) h
  · split
    · exact mAddZ_ok _ _ _ _ (by omega) h
    · split
      · exact mAddZ_ok _ _ _ _ (by omega) h
      · exact mSubZ_ok _ _ _ _ h
set_option maxHeartbeats 800000 in
set_option maxRecDepth 100000 in
theorem lp_X2_combine {p : Program} {l : Launch} {e : Env} {s : State} {m : MethodId} {args : Array Value} {below : List Frame} {meth : Method} {c : Code} {D : va_G} {Rs : va_W} {cA cR cL : ClassId} {h aw ar ag az : Nat} {A : Nat → Prop} {cd : Int32} {w g : Nat → Nat} {sg : Nat → Int32} (hx : p.tables.exec = Jvm.exec) (hb : c.code = b_X2_combine) (hr : meth.sig.returnType = none) (hml : c.maxLocals = 11) (hown : s.vm.findClass R_Md = some m.cls) (hts : ∀ w ∈ gw, w.before args s = true) (hlocks : meth.locks = false) (hA : ∀ q : Nat, s.heap.size ≤ q → A q) (hK : va_K D cls0 (ty3 cA cR cL) s) {b q f : Nat} (hb3 : b < 3) (hq3 : q < 3) {x : Int32} : ∀ (n : Nat) (k cy : Nat) (z : Nat → Nat), n = 1100 - k → k ≤ 1100 → cy < 2 → mdOk w g z → ∀ (H : Heap) (locs : List Loc), va_P D cls0 (md cA h aw ar ag az cd w g sg z Rs) H → va_D A (md cA h aw ar ag az cd w g sg z Rs) → va_S A s.heap H locs → ∀ (ls : Array Slot), lv_has ls 11 [(0, .ref h), (1, .int (nI b)), (2, .int (nI q)), (3, .int (nI f)), (4, .int x), (5, .int (nI cy)), (6, .int (nI k))] → W p l e ({ frames := 1, cells := 0, slots := 0, locals := 24 }) s m args below meth c H locs 0 0 (MQ below (xQ (none) (xB D cls0 A (fun w1 => w1 = md cA h aw ar ag az cd w g (upd sg b (if sg b = 0 then x else sg b)) (mAddZ b q n k cy z) Rs)) A) args s 0 0 A) (F0 m 53 ls []) := by
  intro n
  induction n with
  | zero =>
    intro k cy z hn hk hcy hok H locs hP hD hS ls hl
    refine lv_iload hx hb d_X2_combine_53 (lv_at hl 6 rfl) ?_
    refine lv_sipush (v := nI 1100) hx hb d_X2_combine_55 (by decide) ?_
    refine n_icmp_ge (tgt := 124) hx hb d_X2_combine_58 (by decide) (by omega) (by omega) (fun c_1 => ?_) (fun c_1 => ?_)
    rotate_left
    · exact absurd c_1 (by omega)
    refine lv_aload_n hx hb d_X2_combine_124 rfl (lv_at hl 0 rfl) ?_
    refine m_getG hx hb hts hown hK hP d_X2_combine_125 ?_
    refine lv_iload_n hx hb d_X2_combine_128 rfl (lv_at hl 1 rfl) ?_
    refine lv_aload_n hx hb d_X2_combine_129 rfl (lv_at hl 0 rfl) ?_
    refine m_getG hx hb hts hown hK hP d_X2_combine_130 ?_
    refine lv_iload_n hx hb d_X2_combine_133 rfl (lv_at hl 1 rfl) ?_
    refine m_aldG hx hb hK hP (j := b) (by omega) d_X2_combine_134 ?_
    refine lv_if_ne (tgt := 143) hx hb d_X2_combine_135 (by decide) (fun c_2 => ?_) (fun c_2 => ?_)
    · refine lv_aload_n hx hb d_X2_combine_143 rfl (lv_at hl 0 rfl) ?_
      refine m_getG hx hb hts hown hK hP d_X2_combine_144 ?_
      refine lv_iload_n hx hb d_X2_combine_147 rfl (lv_at hl 1 rfl) ?_
      refine m_aldG hx hb hK hP (j := b) (by omega) d_X2_combine_148 ?_
      refine m_astG hx hb hK hP hD hS (j := b) (x := sg b) (by omega) d_X2_combine_149 (fun H locs hP hD hS => ?_)
      exact x_vret hx hb hr hlocks hP hD hS d_X2_combine_150 rfl (by rw [show mAddZ b q 0 k cy z = z from rfl]; first | rw [if_pos (by assumption)] | rw [if_neg (by assumption)])
    · refine lv_iload hx hb d_X2_combine_138 (lv_at hl 4 rfl) ?_
      refine lv_goto (tgt := 149) hx hb d_X2_combine_140 (by decide) ?_
      refine m_astG hx hb hK hP hD hS (j := b) (x := x) (by omega) d_X2_combine_149 (fun H locs hP hD hS => ?_)
      exact x_vret hx hb hr hlocks hP hD hS d_X2_combine_150 rfl (by rw [show mAddZ b q 0 k cy z = z from rfl]; first | rw [if_pos (by assumption)] | rw [if_neg (by assumption)])
  | succ n ih =>
    intro k cy z hn hk hcy hok H locs hP hD hS ls hl
    refine lv_iload hx hb d_X2_combine_53 (lv_at hl 6 rfl) ?_
    refine lv_sipush (v := nI 1100) hx hb d_X2_combine_55 (by decide) ?_
    refine n_icmp_ge (tgt := 124) hx hb d_X2_combine_58 (by decide) (by omega) (by omega) (fun c_1 => ?_) (fun c_1 => ?_)
    · exact absurd c_1 (by omega)
    refine lv_aload_n hx hb d_X2_combine_61 rfl (lv_at hl 0 rfl) ?_
    refine m_getZ hx hb hts hown hK hP d_X2_combine_62 ?_
    refine lv_sipush (v := nI 1100) hx hb d_X2_combine_65 (by decide) ?_
    refine lv_iload_n hx hb d_X2_combine_68 rfl (lv_at hl 1 rfl) ?_
    refine n_imul hx hb d_X2_combine_69 ?_
    refine lv_iload hx hb d_X2_combine_70 (lv_at hl 6 rfl) ?_
    refine n_iadd hx hb d_X2_combine_72 ?_
    refine m_aldZ hx hb hK hP (j := (1100 * b) + k) (by omega) d_X2_combine_73 ?_
    have hq_73 := hok.2.2 ((1100 * b) + k)
    refine lv_aload_n hx hb d_X2_combine_74 rfl (lv_at hl 0 rfl) ?_
    refine m_getZ hx hb hts hown hK hP d_X2_combine_75 ?_
    refine lv_sipush (v := nI 1100) hx hb d_X2_combine_78 (by decide) ?_
    refine lv_iload_n hx hb d_X2_combine_81 rfl (lv_at hl 2 rfl) ?_
    refine n_imul hx hb d_X2_combine_82 ?_
    refine lv_iload hx hb d_X2_combine_83 (lv_at hl 6 rfl) ?_
    refine n_iadd hx hb d_X2_combine_85 ?_
    refine m_aldZ hx hb hK hP (j := (1100 * q) + k) (by omega) d_X2_combine_86 ?_
    have hq_86 := hok.2.2 ((1100 * q) + k)
    refine n_iadd hx hb d_X2_combine_87 ?_
    refine lv_iload hx hb d_X2_combine_88 (lv_at hl 5 rfl) ?_
    refine n_iadd hx hb d_X2_combine_90 ?_
    refine lv_istore (lv' := [(7, .int (nI (((z ((1100 * b) + k)) + (z ((1100 * q) + k))) + cy))), (0, .ref h), (1, .int (nI b)), (2, .int (nI q)), (3, .int (nI f)), (4, .int x), (5, .int (nI cy)), (6, .int (nI k))]) hx hb d_X2_combine_91 hl (by decide) rfl (fun ls hl => ?_)
    refine lv_aload_n hx hb d_X2_combine_93 rfl (lv_at hl 1 rfl) ?_
    refine m_getZ hx hb hts hown hK hP d_X2_combine_94 ?_
    refine lv_sipush (v := nI 1100) hx hb d_X2_combine_97 (by decide) ?_
    refine lv_iload_n hx hb d_X2_combine_100 rfl (lv_at hl 2 rfl) ?_
    refine n_imul hx hb d_X2_combine_101 ?_
    refine lv_iload hx hb d_X2_combine_102 (lv_at hl 7 rfl) ?_
    refine n_iadd hx hb d_X2_combine_104 ?_
    refine lv_iload hx hb d_X2_combine_105 (lv_at hl 0 rfl) ?_
    refine lv_ldc (v := nI 65536) hx hb hown (hts (.constant "LimbRowsModel" 32 (nI 65536)) (show Cond.constant "LimbRowsModel" 32 65536 ∈ gw from k_527)) d_X2_combine_107 ?_
    refine n_irem hx hb d_X2_combine_109 (by omega) (by omega) (by omega) ?_
    refine m_astZ hx hb hK hP hD hS (j := (1100 * b) + k) (v := (((z ((1100 * b) + k)) + (z ((1100 * q) + k))) + cy) % 65536) (by omega) d_X2_combine_110 (fun H locs hP hD hS => ?_)
    have hok := hok.z (j := (1100 * b) + k) (v := (((z ((1100 * b) + k)) + (z ((1100 * q) + k))) + cy) % 65536) (by omega)
    refine lv_iload hx hb d_X2_combine_111 (lv_at hl 0 rfl) ?_
    refine lv_ldc (v := nI 65536) hx hb hown (hts (.constant "LimbRowsModel" 32 (nI 65536)) (show Cond.constant "LimbRowsModel" 32 65536 ∈ gw from k_527)) d_X2_combine_113 ?_
    refine n_idiv hx hb d_X2_combine_115 (by omega) (by omega) (by omega) ?_
    refine lv_istore (lv' := [(5, .int (nI ((((z ((1100 * b) + k)) + (z ((1100 * q) + k))) + cy) / 65536))), (7, .int (nI (((z ((1100 * b) + k)) + (z ((1100 * q) + k))) + cy))), (0, .ref h), (1, .int (nI b)), (2, .int (nI q)), (3, .int (nI f)), (4, .int x), (6, .int (nI k))]) hx hb d_X2_combine_116 hl (by decide) rfl (fun ls hl => ?_)
    refine n_iinc (lv' := [(6, .int (nI (k + 1))), (5, .int (nI ((((z ((1100 * b) + k)) + (z ((1100 * q) + k))) + cy) / 65536))), (7, .int (nI (((z ((1100 * b) + k)) + (z ((1100 * q) + k))) + cy))), (0, .ref h), (1, .int (nI b)), (2, .int (nI q)), (3, .int (nI f)), (4, .int x)]) hx hb d_X2_combine_118 hl (k := 7) rfl (by decide) rfl (fun ls hl => ?_)
    refine lv_goto (tgt := 53) hx hb d_X2_combine_121 (by decide) ?_
    exact ih (k + 1) _ _ (by omega) (by omega) (by omega) hok H locs hP hD hS ls (lv_sub hl [3, 4, 5, 6, 7, 1, 0] rfl)
set_option maxHeartbeats 800000 in
set_option maxRecDepth 100000 in
theorem lq_X2_combine {p : Program} {l : Launch} {e : Env} {s : State} {m : MethodId} {args : Array Value} {below : List Frame} {meth : Method} {c : Code} {D : va_G} {Rs : va_W} {cA cR cL : ClassId} {h aw ar ag az : Nat} {A : Nat → Prop} {cd : Int32} {w g : Nat → Nat} {sg : Nat → Int32} (hx : p.tables.exec = Jvm.exec) (hb : c.code = b_X2_combine) (hr : meth.sig.returnType = none) (hml : c.maxLocals = 11) (hown : s.vm.findClass R_Md = some m.cls) (hts : ∀ w ∈ gw, w.before args s = true) (hlocks : meth.locks = false) (hA : ∀ q : Nat, s.heap.size ≤ q → A q) (hK : va_K D cls0 (ty3 cA cR cL) s) {b q f : Nat} (hb3 : b < 3) (hq3 : q < 3) {x y : Int32} : ∀ (n : Nat) (k bw : Nat) (z : Nat → Nat), n = 1100 - k → k ≤ 1100 → bw < 2 → mdOk w g z → ∀ (H : Heap) (locs : List Loc), va_P D cls0 (md cA h aw ar ag az cd w g sg z Rs) H → va_D A (md cA h aw ar ag az cd w g sg z Rs) → va_S A s.heap H locs → ∀ (ls : Array Slot), lv_has ls 11 [(0, .ref h), (1, .int (nI b)), (2, .int (nI q)), (3, .int (nI f)), (4, .int x), (5, .int y), (6, .int (nI bw)), (7, .int (nI k))] → W p l e ({ frames := 1, cells := 0, slots := 0, locals := 24 }) s m args below meth c H locs 0 0 (MQ below (xQ (none) (xB D cls0 A (fun w1 => w1 = md cA h aw ar ag az cd w g (upd sg b (if y = 0 then nI 0 else if 0 ≤ y then sg b else x)) (mSubZ y b q n k bw z) Rs)) A) args s 0 0 A) (F0 m 165 ls []) := by
  intro n
  induction n with
  | zero =>
    intro k bw z hn hk hbw hok H locs hP hD hS ls hl
    refine lv_iload hx hb d_X2_combine_165 (lv_at hl 7 rfl) ?_
    refine lv_sipush (v := nI 1100) hx hb d_X2_combine_167 (by decide) ?_
    refine n_icmp_ge (tgt := 272) hx hb d_X2_combine_170 (by decide) (by omega) (by omega) (fun c_1 => ?_) (fun c_1 => ?_)
    rotate_left
    · exact absurd c_1 (by omega)
    refine lv_aload_n hx hb d_X2_combine_272 rfl (lv_at hl 0 rfl) ?_
    refine m_getG hx hb hts hown hK hP d_X2_combine_273 ?_
    refine lv_iload_n hx hb d_X2_combine_276 rfl (lv_at hl 1 rfl) ?_
    refine lv_iload hx hb d_X2_combine_277 (lv_at hl 5 rfl) ?_
    refine lv_if_ne (tgt := 286) hx hb d_X2_combine_279 (by decide) (fun c_2 => ?_) (fun c_2 => ?_)
    · refine lv_iload hx hb d_X2_combine_286 (lv_at hl 5 rfl) ?_
      refine lv_if_ge (tgt := 296) hx hb d_X2_combine_288 (by decide) (fun c_3 => ?_) (fun c_3 => ?_)
      · refine lv_aload_n hx hb d_X2_combine_296 rfl (lv_at hl 0 rfl) ?_
        refine m_getG hx hb hts hown hK hP d_X2_combine_297 ?_
        refine lv_iload_n hx hb d_X2_combine_300 rfl (lv_at hl 1 rfl) ?_
        refine m_aldG hx hb hK hP (j := b) (by omega) d_X2_combine_301 ?_
        refine m_astG hx hb hK hP hD hS (j := b) (x := sg b) (by omega) d_X2_combine_302 (fun H locs hP hD hS => ?_)
        exact x_vret hx hb hr hlocks hP hD hS d_X2_combine_303 rfl (by rw [show mSubZ y b q 0 k bw z = z from rfl]; first | rw [if_pos (by assumption)] | rw [if_neg (by assumption), if_pos (by assumption)] | rw [if_neg (by assumption), if_neg (by assumption)])
      · refine lv_iload hx hb d_X2_combine_291 (lv_at hl 4 rfl) ?_
        refine lv_goto (tgt := 302) hx hb d_X2_combine_293 (by decide) ?_
        refine m_astG hx hb hK hP hD hS (j := b) (x := x) (by omega) d_X2_combine_302 (fun H locs hP hD hS => ?_)
        exact x_vret hx hb hr hlocks hP hD hS d_X2_combine_303 rfl (by rw [show mSubZ y b q 0 k bw z = z from rfl]; first | rw [if_pos (by assumption)] | rw [if_neg (by assumption), if_pos (by assumption)] | rw [if_neg (by assumption), if_neg (by assumption)])
    · refine lv_iconst (v := nI 0) hx hb d_X2_combine_282 (by decide) ?_
      refine lv_goto (tgt := 302) hx hb d_X2_combine_283 (by decide) ?_
      refine m_astG hx hb hK hP hD hS (j := b) (x := nI 0) (by omega) d_X2_combine_302 (fun H locs hP hD hS => ?_)
      exact x_vret hx hb hr hlocks hP hD hS d_X2_combine_303 rfl (by rw [show mSubZ y b q 0 k bw z = z from rfl]; first | rw [if_pos (by assumption)] | rw [if_neg (by assumption), if_pos (by assumption)] | rw [if_neg (by assumption), if_neg (by assumption)])
  | succ n ih =>
    intro k bw z hn hk hbw hok H locs hP hD hS ls hl
    refine lv_iload hx hb d_X2_combine_165 (lv_at hl 7 rfl) ?_
    refine lv_sipush (v := nI 1100) hx hb d_X2_combine_167 (by decide) ?_
    refine n_icmp_ge (tgt := 272) hx hb d_X2_combine_170 (by decide) (by omega) (by omega) (fun c_1 => ?_) (fun c_1 => ?_)
    · exact absurd c_1 (by omega)
    refine lv_aload_n hx hb d_X2_combine_173 rfl (lv_at hl 0 rfl) ?_
    refine m_getZ hx hb hts hown hK hP d_X2_combine_174 ?_
    refine lv_sipush (v := nI 1100) hx hb d_X2_combine_177 (by decide) ?_
    refine lv_iload_n hx hb d_X2_combine_180 rfl (lv_at hl 1 rfl) ?_
    refine n_imul hx hb d_X2_combine_181 ?_
    refine lv_iload hx hb d_X2_combine_182 (lv_at hl 7 rfl) ?_
    refine n_iadd hx hb d_X2_combine_184 ?_
    refine m_aldZ hx hb hK hP (j := (1100 * b) + k) (by omega) d_X2_combine_185 ?_
    have hq_185 := hok.2.2 ((1100 * b) + k)
    refine lv_istore (lv' := [(8, .int (nI (z ((1100 * b) + k)))), (0, .ref h), (1, .int (nI b)), (2, .int (nI q)), (3, .int (nI f)), (4, .int x), (5, .int y), (6, .int (nI bw)), (7, .int (nI k))]) hx hb d_X2_combine_186 hl (by decide) rfl (fun ls hl => ?_)
    refine lv_aload_n hx hb d_X2_combine_188 rfl (lv_at hl 1 rfl) ?_
    refine m_getZ hx hb hts hown hK hP d_X2_combine_189 ?_
    refine lv_sipush (v := nI 1100) hx hb d_X2_combine_192 (by decide) ?_
    refine lv_iload_n hx hb d_X2_combine_195 rfl (lv_at hl 3 rfl) ?_
    refine n_imul hx hb d_X2_combine_196 ?_
    refine lv_iload hx hb d_X2_combine_197 (lv_at hl 8 rfl) ?_
    refine n_iadd hx hb d_X2_combine_199 ?_
    refine m_aldZ hx hb hK hP (j := (1100 * q) + k) (by omega) d_X2_combine_200 ?_
    have hq_200 := hok.2.2 ((1100 * q) + k)
    refine lv_istore (lv' := [(9, .int (nI (z ((1100 * q) + k)))), (8, .int (nI (z ((1100 * b) + k)))), (0, .ref h), (1, .int (nI b)), (2, .int (nI q)), (3, .int (nI f)), (4, .int x), (5, .int y), (6, .int (nI bw)), (7, .int (nI k))]) hx hb d_X2_combine_201 hl (by decide) rfl (fun ls hl => ?_)
    refine lv_iload hx hb d_X2_combine_203 (lv_at hl 7 rfl) ?_
    refine lv_if_ge (tgt := 216) hx hb d_X2_combine_205 (by decide) (fun c_2 => ?_) (fun c_2 => ?_)
    · refine lv_iload hx hb d_X2_combine_216 (lv_at hl 1 rfl) ?_
      refine lv_iload hx hb d_X2_combine_218 (lv_at hl 0 rfl) ?_
      refine lv_isub hx hb d_X2_combine_220 ?_
      refine lv_iload hx hb d_X2_combine_221 (lv_at hl 8 rfl) ?_
      refine lv_isub hx hb d_X2_combine_223 ?_
      have hX : mX y (z (1100 * b + k)) (z (1100 * q + k)) = z (1100 * b + k) := if_pos (by assumption)
      have hY : mX y (z (1100 * q + k)) (z (1100 * b + k)) = z (1100 * q + k) := if_pos (by assumption)
      rcases Nat.lt_or_ge (z (1100 * b + k)) (z (1100 * q + k) + bw) with hge | hge
      · have hneg := n_sub3n (by omega) (by omega) (by omega) hge
        refine lv_istore (lv' := [(10, .int (nI (z (1100 * b + k)) - nI (z (1100 * q + k)) - nI bw)), (9, .int (nI (z ((1100 * q) + k)))), (8, .int (nI (z ((1100 * b) + k)))), (0, .ref h), (1, .int (nI b)), (2, .int (nI q)), (3, .int (nI f)), (4, .int x), (5, .int y), (6, .int (nI bw)), (7, .int (nI k))]) hx hb d_X2_combine_224 hl (by decide) rfl (fun ls hl => ?_)
        refine lv_iload hx hb d_X2_combine_226 (lv_at hl 0 rfl) ?_
        refine lv_if_ge (tgt := 235) hx hb d_X2_combine_228 (by decide) (fun c => absurd hneg.1 (Int32.not_lt.mpr c)) (fun _ => ?_)
        refine lv_iconst (v := nI 1) hx hb d_X2_combine_231 (by decide) ?_
        refine lv_goto (tgt := 236) hx hb d_X2_combine_232 (by decide) ?_
        refine lv_istore (lv' := [(6, .int (nI 1)), (10, .int (nI (z (1100 * b + k)) - nI (z (1100 * q + k)) - nI bw)), (9, .int (nI (z ((1100 * q) + k)))), (8, .int (nI (z ((1100 * b) + k)))), (0, .ref h), (1, .int (nI b)), (2, .int (nI q)), (3, .int (nI f)), (4, .int x), (5, .int y), (7, .int (nI k))]) hx hb d_X2_combine_236 hl (by decide) rfl (fun ls hl => ?_)
        refine lv_aload_n hx hb d_X2_combine_238 rfl (lv_at hl 4 rfl) ?_
        refine m_getZ hx hb hts hown hK hP d_X2_combine_239 ?_
        refine lv_sipush (v := nI 1100) hx hb d_X2_combine_242 (by decide) ?_
        refine lv_iload_n hx hb d_X2_combine_245 rfl (lv_at hl 5 rfl) ?_
        refine n_imul hx hb d_X2_combine_246 ?_
        refine lv_iload hx hb d_X2_combine_247 (lv_at hl 10 rfl) ?_
        refine n_iadd hx hb d_X2_combine_249 ?_
        refine lv_iload hx hb d_X2_combine_250 (lv_at hl 1 rfl) ?_
        refine lv_if_ge (tgt := 263) hx hb d_X2_combine_252 (by decide) (fun c => absurd hneg.1 (Int32.not_lt.mpr c)) (fun _ => ?_)
        refine lv_iload hx hb d_X2_combine_255 (lv_at hl 1 rfl) ?_
        refine lv_ldc (v := nI 65536) hx hb hown (hts (.constant "LimbRowsModel" 32 (nI 65536)) (show Cond.constant "LimbRowsModel" 32 65536 ∈ gw from k_527)) d_X2_combine_257 ?_
        refine lv_iadd hx hb d_X2_combine_259 ?_
        rw [hneg.2]
        refine lv_goto (tgt := 265) hx hb d_X2_combine_260 (by decide) ?_
        refine m_astZ hx hb hK hP hD hS (j := (1100 * b) + k) (v := 65536 + z (1100 * b + k) - z (1100 * q + k) - bw) (by omega) d_X2_combine_265 (fun H locs hP hD hS => ?_)
        have hok := hok.z (j := (1100 * b) + k) (v := 65536 + z (1100 * b + k) - z (1100 * q + k) - bw) (by omega)
        refine n_iinc (lv' := [(7, .int (nI (k + 1))), (6, .int (nI 1)), (10, .int (nI (z (1100 * b + k)) - nI (z (1100 * q + k)) - nI bw)), (9, .int (nI (z ((1100 * q) + k)))), (8, .int (nI (z ((1100 * b) + k)))), (0, .ref h), (1, .int (nI b)), (2, .int (nI q)), (3, .int (nI f)), (4, .int x), (5, .int y)]) hx hb d_X2_combine_266 hl (k := 10) rfl (by decide) rfl (fun ls hl => ?_)
        refine lv_goto (tgt := 165) hx hb d_X2_combine_269 (by decide) ?_
        rw [show mSubZ y b q (n + 1) k bw z = mSubZ y b q n (k + 1) 1 _ from if_pos (by rw [hX, hY]; omega), hX, hY]
        exact ih (k + 1) _ _ (by omega) (by omega) (by omega) hok H locs hP hD hS ls (lv_sub hl [5, 6, 7, 8, 9, 10, 1, 0] rfl)
      · rw [n_sub3 hge]
        refine lv_istore (lv' := [(10, .int (nI (z (1100 * b + k) - z (1100 * q + k) - bw))), (9, .int (nI (z ((1100 * q) + k)))), (8, .int (nI (z ((1100 * b) + k)))), (0, .ref h), (1, .int (nI b)), (2, .int (nI q)), (3, .int (nI f)), (4, .int x), (5, .int y), (6, .int (nI bw)), (7, .int (nI k))]) hx hb d_X2_combine_224 hl (by decide) rfl (fun ls hl => ?_)
        refine lv_iload hx hb d_X2_combine_226 (lv_at hl 0 rfl) ?_
        refine n_if_ge (tgt := 235) hx hb d_X2_combine_228 (by decide) (by omega) ?_
        refine lv_iconst (v := nI 0) hx hb d_X2_combine_235 (by decide) ?_
        refine lv_istore (lv' := [(6, .int (nI 0)), (10, .int (nI (z (1100 * b + k) - z (1100 * q + k) - bw))), (9, .int (nI (z ((1100 * q) + k)))), (8, .int (nI (z ((1100 * b) + k)))), (0, .ref h), (1, .int (nI b)), (2, .int (nI q)), (3, .int (nI f)), (4, .int x), (5, .int y), (7, .int (nI k))]) hx hb d_X2_combine_236 hl (by decide) rfl (fun ls hl => ?_)
        refine lv_aload_n hx hb d_X2_combine_238 rfl (lv_at hl 4 rfl) ?_
        refine m_getZ hx hb hts hown hK hP d_X2_combine_239 ?_
        refine lv_sipush (v := nI 1100) hx hb d_X2_combine_242 (by decide) ?_
        refine lv_iload_n hx hb d_X2_combine_245 rfl (lv_at hl 5 rfl) ?_
        refine n_imul hx hb d_X2_combine_246 ?_
        refine lv_iload hx hb d_X2_combine_247 (lv_at hl 10 rfl) ?_
        refine n_iadd hx hb d_X2_combine_249 ?_
        refine lv_iload hx hb d_X2_combine_250 (lv_at hl 1 rfl) ?_
        refine n_if_ge (tgt := 263) hx hb d_X2_combine_252 (by decide) (by omega) ?_
        refine lv_iload hx hb d_X2_combine_263 (lv_at hl 1 rfl) ?_
        refine m_astZ hx hb hK hP hD hS (j := (1100 * b) + k) (v := z (1100 * b + k) - z (1100 * q + k) - bw) (by omega) d_X2_combine_265 (fun H locs hP hD hS => ?_)
        have hok := hok.z (j := (1100 * b) + k) (v := z (1100 * b + k) - z (1100 * q + k) - bw) (by omega)
        refine n_iinc (lv' := [(7, .int (nI (k + 1))), (6, .int (nI 0)), (10, .int (nI (z (1100 * b + k) - z (1100 * q + k) - bw))), (9, .int (nI (z ((1100 * q) + k)))), (8, .int (nI (z ((1100 * b) + k)))), (0, .ref h), (1, .int (nI b)), (2, .int (nI q)), (3, .int (nI f)), (4, .int x), (5, .int y)]) hx hb d_X2_combine_266 hl (k := 10) rfl (by decide) rfl (fun ls hl => ?_)
        refine lv_goto (tgt := 165) hx hb d_X2_combine_269 (by decide) ?_
        rw [show mSubZ y b q (n + 1) k bw z = mSubZ y b q n (k + 1) 0 _ from if_neg (by rw [hX, hY]; omega), hX, hY]
        exact ih (k + 1) _ _ (by omega) (by omega) (by omega) hok H locs hP hD hS ls (lv_sub hl [5, 6, 7, 8, 9, 10, 1, 0] rfl)
    · refine lv_iload hx hb d_X2_combine_208 (lv_at hl 0 rfl) ?_
      refine lv_iload hx hb d_X2_combine_210 (lv_at hl 1 rfl) ?_
      refine lv_isub hx hb d_X2_combine_212 ?_
      refine lv_goto (tgt := 221) hx hb d_X2_combine_213 (by decide) ?_
      refine lv_iload hx hb d_X2_combine_221 (lv_at hl 8 rfl) ?_
      refine lv_isub hx hb d_X2_combine_223 ?_
      have hX : mX y (z (1100 * b + k)) (z (1100 * q + k)) = z (1100 * q + k) := if_neg (by assumption)
      have hY : mX y (z (1100 * q + k)) (z (1100 * b + k)) = z (1100 * b + k) := if_neg (by assumption)
      rcases Nat.lt_or_ge (z (1100 * q + k)) (z (1100 * b + k) + bw) with hge | hge
      · have hneg := n_sub3n (by omega) (by omega) (by omega) hge
        refine lv_istore (lv' := [(10, .int (nI (z (1100 * q + k)) - nI (z (1100 * b + k)) - nI bw)), (9, .int (nI (z ((1100 * q) + k)))), (8, .int (nI (z ((1100 * b) + k)))), (0, .ref h), (1, .int (nI b)), (2, .int (nI q)), (3, .int (nI f)), (4, .int x), (5, .int y), (6, .int (nI bw)), (7, .int (nI k))]) hx hb d_X2_combine_224 hl (by decide) rfl (fun ls hl => ?_)
        refine lv_iload hx hb d_X2_combine_226 (lv_at hl 0 rfl) ?_
        refine lv_if_ge (tgt := 235) hx hb d_X2_combine_228 (by decide) (fun c => absurd hneg.1 (Int32.not_lt.mpr c)) (fun _ => ?_)
        refine lv_iconst (v := nI 1) hx hb d_X2_combine_231 (by decide) ?_
        refine lv_goto (tgt := 236) hx hb d_X2_combine_232 (by decide) ?_
        refine lv_istore (lv' := [(6, .int (nI 1)), (10, .int (nI (z (1100 * q + k)) - nI (z (1100 * b + k)) - nI bw)), (9, .int (nI (z ((1100 * q) + k)))), (8, .int (nI (z ((1100 * b) + k)))), (0, .ref h), (1, .int (nI b)), (2, .int (nI q)), (3, .int (nI f)), (4, .int x), (5, .int y), (7, .int (nI k))]) hx hb d_X2_combine_236 hl (by decide) rfl (fun ls hl => ?_)
        refine lv_aload_n hx hb d_X2_combine_238 rfl (lv_at hl 4 rfl) ?_
        refine m_getZ hx hb hts hown hK hP d_X2_combine_239 ?_
        refine lv_sipush (v := nI 1100) hx hb d_X2_combine_242 (by decide) ?_
        refine lv_iload_n hx hb d_X2_combine_245 rfl (lv_at hl 5 rfl) ?_
        refine n_imul hx hb d_X2_combine_246 ?_
        refine lv_iload hx hb d_X2_combine_247 (lv_at hl 10 rfl) ?_
        refine n_iadd hx hb d_X2_combine_249 ?_
        refine lv_iload hx hb d_X2_combine_250 (lv_at hl 1 rfl) ?_
        refine lv_if_ge (tgt := 263) hx hb d_X2_combine_252 (by decide) (fun c => absurd hneg.1 (Int32.not_lt.mpr c)) (fun _ => ?_)
        refine lv_iload hx hb d_X2_combine_255 (lv_at hl 1 rfl) ?_
        refine lv_ldc (v := nI 65536) hx hb hown (hts (.constant "LimbRowsModel" 32 (nI 65536)) (show Cond.constant "LimbRowsModel" 32 65536 ∈ gw from k_527)) d_X2_combine_257 ?_
        refine lv_iadd hx hb d_X2_combine_259 ?_
        rw [hneg.2]
        refine lv_goto (tgt := 265) hx hb d_X2_combine_260 (by decide) ?_
        refine m_astZ hx hb hK hP hD hS (j := (1100 * b) + k) (v := 65536 + z (1100 * q + k) - z (1100 * b + k) - bw) (by omega) d_X2_combine_265 (fun H locs hP hD hS => ?_)
        have hok := hok.z (j := (1100 * b) + k) (v := 65536 + z (1100 * q + k) - z (1100 * b + k) - bw) (by omega)
        refine n_iinc (lv' := [(7, .int (nI (k + 1))), (6, .int (nI 1)), (10, .int (nI (z (1100 * q + k)) - nI (z (1100 * b + k)) - nI bw)), (9, .int (nI (z ((1100 * q) + k)))), (8, .int (nI (z ((1100 * b) + k)))), (0, .ref h), (1, .int (nI b)), (2, .int (nI q)), (3, .int (nI f)), (4, .int x), (5, .int y)]) hx hb d_X2_combine_266 hl (k := 10) rfl (by decide) rfl (fun ls hl => ?_)
        refine lv_goto (tgt := 165) hx hb d_X2_combine_269 (by decide) ?_
        rw [show mSubZ y b q (n + 1) k bw z = mSubZ y b q n (k + 1) 1 _ from if_pos (by rw [hX, hY]; omega), hX, hY]
        exact ih (k + 1) _ _ (by omega) (by omega) (by omega) hok H locs hP hD hS ls (lv_sub hl [5, 6, 7, 8, 9, 10, 1, 0] rfl)
      · rw [n_sub3 hge]
        refine lv_istore (lv' := [(10, .int (nI (z (1100 * q + k) - z (1100 * b + k) - bw))), (9, .int (nI (z ((1100 * q) + k)))), (8, .int (nI (z ((1100 * b) + k)))), (0, .ref h), (1, .int (nI b)), (2, .int (nI q)), (3, .int (nI f)), (4, .int x), (5, .int y), (6, .int (nI bw)), (7, .int (nI k))]) hx hb d_X2_combine_224 hl (by decide) rfl (fun ls hl => ?_)
        refine lv_iload hx hb d_X2_combine_226 (lv_at hl 0 rfl) ?_
        refine n_if_ge (tgt := 235) hx hb d_X2_combine_228 (by decide) (by omega) ?_
        refine lv_iconst (v := nI 0) hx hb d_X2_combine_235 (by decide) ?_
        refine lv_istore (lv' := [(6, .int (nI 0)), (10, .int (nI (z (1100 * q + k) - z (1100 * b + k) - bw))), (9, .int (nI (z ((1100 * q) + k)))), (8, .int (nI (z ((1100 * b) + k)))), (0, .ref h), (1, .int (nI b)), (2, .int (nI q)), (3, .int (nI f)), (4, .int x), (5, .int y), (7, .int (nI k))]) hx hb d_X2_combine_236 hl (by decide) rfl (fun ls hl => ?_)
        refine lv_aload_n hx hb d_X2_combine_238 rfl (lv_at hl 4 rfl) ?_
        refine m_getZ hx hb hts hown hK hP d_X2_combine_239 ?_
        refine lv_sipush (v := nI 1100) hx hb d_X2_combine_242 (by decide) ?_
        refine lv_iload_n hx hb d_X2_combine_245 rfl (lv_at hl 5 rfl) ?_
        refine n_imul hx hb d_X2_combine_246 ?_
        refine lv_iload hx hb d_X2_combine_247 (lv_at hl 10 rfl) ?_
        refine n_iadd hx hb d_X2_combine_249 ?_
        refine lv_iload hx hb d_X2_combine_250 (lv_at hl 1 rfl) ?_
        refine n_if_ge (tgt := 263) hx hb d_X2_combine_252 (by decide) (by omega) ?_
        refine lv_iload hx hb d_X2_combine_263 (lv_at hl 1 rfl) ?_
        refine m_astZ hx hb hK hP hD hS (j := (1100 * b) + k) (v := z (1100 * q + k) - z (1100 * b + k) - bw) (by omega) d_X2_combine_265 (fun H locs hP hD hS => ?_)
        have hok := hok.z (j := (1100 * b) + k) (v := z (1100 * q + k) - z (1100 * b + k) - bw) (by omega)
        refine n_iinc (lv' := [(7, .int (nI (k + 1))), (6, .int (nI 0)), (10, .int (nI (z (1100 * q + k) - z (1100 * b + k) - bw))), (9, .int (nI (z ((1100 * q) + k)))), (8, .int (nI (z ((1100 * b) + k)))), (0, .ref h), (1, .int (nI b)), (2, .int (nI q)), (3, .int (nI f)), (4, .int x), (5, .int y)]) hx hb d_X2_combine_266 hl (k := 10) rfl (by decide) rfl (fun ls hl => ?_)
        refine lv_goto (tgt := 165) hx hb d_X2_combine_269 (by decide) ?_
        rw [show mSubZ y b q (n + 1) k bw z = mSubZ y b q n (k + 1) 0 _ from if_neg (by rw [hX, hY]; omega), hX, hY]
        exact ih (k + 1) _ _ (by omega) (by omega) (by omega) hok H locs hP hD hS ls (lv_sub hl [5, 6, 7, 8, 9, 10, 1, 0] rfl)
abbrev w_X2_combine : List Cond := .code y_X2_combine b_X2_combine 11 (none) :: gw
set_option maxHeartbeats 800000 in
set_option maxRecDepth 100000 in
theorem c_X2_combine {l : Launch} {D : va_G} {Rs : va_W} {cA cR cL : ClassId} {h aw ar ag az : Nat} {cd : Int32} {w g : Nat → Nat} {sg : Nat → Int32} {z : Nat → Nat} (hok : mdOk w g z) {b q f : Nat} (hb3 : b < 3) (hq3 : q < 3) (hf : f < 2) : xC l y_X2_combine w_X2_combine ({ frames := 1, cells := 0, slots := 0, locals := 24 }) D cls0 (ty3 cA cR cL) [.ref h, .int (nI b), .int (nI q), .int (nI f)] (md cA h aw ar ag az cd w g sg z Rs) (none) (fun w1 => w1 = md cA h aw ar ag az cd w g (upd sg b (mCombS sg b q (mOth sg q f) z)) (mCombZ sg b q (mOth sg q f) z) Rs) 0 0 := by
  refine xC.ofW (cc := b_X2_combine) (maxL := 11) (ret := none) (by decide) rfl (Nat.le_of_ble_eq_true rfl) ?_
  intro p e s m below meth c A ls _ hin hx hb hr hml hown hts hlocks hA hK hP hD hS hl
  have hts : ∀ w ∈ gw, w.before ([.ref h, .int (nI b), .int (nI q), .int (nI f)]).toArray s = true := fun w h => hts w (List.mem_cons_of_mem _ h)
  have hown : s.vm.findClass R_Md = some m.cls := hown
  have hl : lv_has ls 11 [(0, .ref h), (1, .int (nI b)), (2, .int (nI q)), (3, .int (nI f))] := hl
  refine lv_iload_n hx hb d_X2_combine_0 rfl (lv_at hl 3 rfl) ?_
  refine n_if_eq (tgt := 14) hx hb d_X2_combine_1 (by decide) (by omega) (fun c_1 => ?_) (fun c_1 => ?_)
  · refine lv_aload_n hx hb d_X2_combine_14 rfl (lv_at hl 0 rfl) ?_
    refine m_getG hx hb hts hown hK hP d_X2_combine_15 ?_
    refine lv_iload_n hx hb d_X2_combine_18 rfl (lv_at hl 2 rfl) ?_
    refine m_aldG hx hb hK hP (j := q) (by omega) d_X2_combine_19 ?_
    have hoth : mOth sg q f = sg q := by unfold mOth; first | exact if_pos (by assumption) | exact if_neg (by assumption)
    rw [← hoth]
    generalize mOth sg q f = x
    clear hoth
    refine lv_istore (lv' := [(4, .int x), (0, .ref h), (1, .int (nI b)), (2, .int (nI q)), (3, .int (nI f))]) hx hb d_X2_combine_20 hl (by decide) rfl (fun ls hl => ?_)
    refine lv_aload_n hx hb d_X2_combine_22 rfl (lv_at hl 1 rfl) ?_
    refine m_getG hx hb hts hown hK hP d_X2_combine_23 ?_
    refine lv_iload_n hx hb d_X2_combine_26 rfl (lv_at hl 2 rfl) ?_
    refine m_aldG hx hb hK hP (j := b) (by omega) d_X2_combine_27 ?_
    refine lv_if_eq (tgt := 47) hx hb d_X2_combine_28 (by decide) (fun c_2 => ?_) (fun c_2 => ?_)
    · refine lv_iconst (v := nI 0) hx hb d_X2_combine_47 (by decide) ?_
      refine lv_istore (lv' := [(5, .int (nI 0)), (4, .int x), (0, .ref h), (1, .int (nI b)), (2, .int (nI q)), (3, .int (nI f))]) hx hb d_X2_combine_48 hl (by decide) rfl (fun ls hl => ?_)
      refine lv_iconst (v := nI 0) hx hb d_X2_combine_50 (by decide) ?_
      refine lv_istore (lv' := [(6, .int (nI 0)), (5, .int (nI 0)), (4, .int x), (0, .ref h), (1, .int (nI b)), (2, .int (nI q)), (3, .int (nI f))]) hx hb d_X2_combine_51 hl (by decide) rfl (fun ls hl => ?_)
      obtain ⟨hcz, hcs⟩ := mComb_add (sg := sg) (b := b) (q := q) (x := x) (z := z) (by first | exact Or.inl (by assumption) | exact Or.inr (Or.inl (by assumption)) | exact Or.inr (Or.inr (by assumption)))
      rw [hcz, hcs]
      exact lp_X2_combine hx hb hr hml hown hts hlocks hA hK hb3 hq3 cZ 0 0 z (by rw [cZ_eq]) (by omega) (by omega) hok _ _ hP hD hS ls (lv_sub hl [3, 4, 5, 6, 2, 1, 0] rfl)
    · refine lv_iload hx hb d_X2_combine_31 (lv_at hl 0 rfl) ?_
      refine lv_if_eq (tgt := 47) hx hb d_X2_combine_33 (by decide) (fun c_3 => ?_) (fun c_3 => ?_)
      · refine lv_iconst (v := nI 0) hx hb d_X2_combine_47 (by decide) ?_
        refine lv_istore (lv' := [(5, .int (nI 0)), (4, .int x), (0, .ref h), (1, .int (nI b)), (2, .int (nI q)), (3, .int (nI f))]) hx hb d_X2_combine_48 hl (by decide) rfl (fun ls hl => ?_)
        refine lv_iconst (v := nI 0) hx hb d_X2_combine_50 (by decide) ?_
        refine lv_istore (lv' := [(6, .int (nI 0)), (5, .int (nI 0)), (4, .int x), (0, .ref h), (1, .int (nI b)), (2, .int (nI q)), (3, .int (nI f))]) hx hb d_X2_combine_51 hl (by decide) rfl (fun ls hl => ?_)
        obtain ⟨hcz, hcs⟩ := mComb_add (sg := sg) (b := b) (q := q) (x := x) (z := z) (by first | exact Or.inl (by assumption) | exact Or.inr (Or.inl (by assumption)) | exact Or.inr (Or.inr (by assumption)))
        rw [hcz, hcs]
        exact lp_X2_combine hx hb hr hml hown hts hlocks hA hK hb3 hq3 cZ 0 0 z (by rw [cZ_eq]) (by omega) (by omega) hok _ _ hP hD hS ls (lv_sub hl [3, 4, 5, 6, 2, 1, 0] rfl)
      · refine lv_aload_n hx hb d_X2_combine_36 rfl (lv_at hl 1 rfl) ?_
        refine m_getG hx hb hts hown hK hP d_X2_combine_37 ?_
        refine lv_iload_n hx hb d_X2_combine_40 rfl (lv_at hl 2 rfl) ?_
        refine m_aldG hx hb hK hP (j := b) (by omega) d_X2_combine_41 ?_
        refine lv_iload hx hb d_X2_combine_42 (lv_at hl 0 rfl) ?_
        refine lv_icmp_ne (tgt := 151) hx hb d_X2_combine_44 (by decide) (fun c_4 => ?_) (fun c_4 => ?_)
        · refine lv_aload_n hx hb d_X2_combine_151 rfl (lv_at hl 1 rfl) ?_
          refine lv_iload_n hx hb d_X2_combine_152 rfl (lv_at hl 2 rfl) ?_
          refine lv_iload_n hx hb d_X2_combine_153 rfl (lv_at hl 3 rfl) ?_
          refine x_callR (st1 := [.int (mBy z b q)]) (x_runV (As := [.int (nI b), .int (nI q)]) (rest := []) (nL := 11) ⟨hx, hb, hml, hown, hts⟩ (c_X2_compareSizes hok hb3 hq3 _) (cwV 2 hts (gw_V k_597 k_599 k_44 k_52 k_600) rfl rfl rfl (by decide +kernel) ⟨Nat.le_of_ble_eq_true rfl, Nat.le_of_ble_eq_true rfl⟩) hK hP hD 0 2 rfl rfl rfl hl.1 rfl (Nat.le_of_ble_eq_true rfl) d_X2_combine_154 ⟨Nat.zero_le _, Nat.zero_le _⟩) rfl ?_
          refine lv_istore (lv' := [(5, .int (mBy z b q)), (4, .int x), (0, .ref h), (1, .int (nI b)), (2, .int (nI q)), (3, .int (nI f))]) hx hb d_X2_combine_157 hl (by decide) rfl (fun ls hl => ?_)
          refine lv_iconst (v := nI 0) hx hb d_X2_combine_159 (by decide) ?_
          refine lv_istore (lv' := [(6, .int (nI 0)), (5, .int (mBy z b q)), (4, .int x), (0, .ref h), (1, .int (nI b)), (2, .int (nI q)), (3, .int (nI f))]) hx hb d_X2_combine_160 hl (by decide) rfl (fun ls hl => ?_)
          refine lv_iconst (v := nI 0) hx hb d_X2_combine_162 (by decide) ?_
          refine lv_istore (lv' := [(7, .int (nI 0)), (6, .int (nI 0)), (5, .int (mBy z b q)), (4, .int x), (0, .ref h), (1, .int (nI b)), (2, .int (nI q)), (3, .int (nI f))]) hx hb d_X2_combine_163 hl (by decide) rfl (fun ls hl => ?_)
          obtain ⟨hcz, hcs⟩ := mComb_sub (sg := sg) (b := b) (q := q) (x := x) (z := z) (by assumption) (by assumption) (by assumption)
          rw [hcz, hcs]
          exact lq_X2_combine hx hb hr hml hown hts hlocks hA hK hb3 hq3 cZ 0 0 z (by rw [cZ_eq]) (by omega) (by omega) hok _ _ hP hD hS ls (lv_sub hl [4, 5, 6, 7, 3, 2, 1, 0] rfl)
        · refine lv_iconst (v := nI 0) hx hb d_X2_combine_47 (by decide) ?_
          refine lv_istore (lv' := [(5, .int (nI 0)), (4, .int x), (0, .ref h), (1, .int (nI b)), (2, .int (nI q)), (3, .int (nI f))]) hx hb d_X2_combine_48 hl (by decide) rfl (fun ls hl => ?_)
          refine lv_iconst (v := nI 0) hx hb d_X2_combine_50 (by decide) ?_
          refine lv_istore (lv' := [(6, .int (nI 0)), (5, .int (nI 0)), (4, .int x), (0, .ref h), (1, .int (nI b)), (2, .int (nI q)), (3, .int (nI f))]) hx hb d_X2_combine_51 hl (by decide) rfl (fun ls hl => ?_)
          obtain ⟨hcz, hcs⟩ := mComb_add (sg := sg) (b := b) (q := q) (x := x) (z := z) (by first | exact Or.inl (by assumption) | exact Or.inr (Or.inl (by assumption)) | exact Or.inr (Or.inr (by assumption)))
          rw [hcz, hcs]
          exact lp_X2_combine hx hb hr hml hown hts hlocks hA hK hb3 hq3 cZ 0 0 z (by rw [cZ_eq]) (by omega) (by omega) hok _ _ hP hD hS ls (lv_sub hl [3, 4, 5, 6, 2, 1, 0] rfl)
  · refine lv_aload_n hx hb d_X2_combine_4 rfl (lv_at hl 0 rfl) ?_
    refine m_getG hx hb hts hown hK hP d_X2_combine_5 ?_
    refine lv_iload_n hx hb d_X2_combine_8 rfl (lv_at hl 2 rfl) ?_
    refine m_aldG hx hb hK hP (j := q) (by omega) d_X2_combine_9 ?_
    refine lv_ineg hx hb d_X2_combine_10 ?_
    refine lv_goto (tgt := 20) hx hb d_X2_combine_11 (by decide) ?_
    have hoth : mOth sg q f = -(sg q) := by unfold mOth; first | exact if_pos (by assumption) | exact if_neg (by assumption)
    rw [← hoth]
    generalize mOth sg q f = x
    clear hoth
    refine lv_istore (lv' := [(4, .int x), (0, .ref h), (1, .int (nI b)), (2, .int (nI q)), (3, .int (nI f))]) hx hb d_X2_combine_20 hl (by decide) rfl (fun ls hl => ?_)
    refine lv_aload_n hx hb d_X2_combine_22 rfl (lv_at hl 1 rfl) ?_
    refine m_getG hx hb hts hown hK hP d_X2_combine_23 ?_
    refine lv_iload_n hx hb d_X2_combine_26 rfl (lv_at hl 2 rfl) ?_
    refine m_aldG hx hb hK hP (j := b) (by omega) d_X2_combine_27 ?_
    refine lv_if_eq (tgt := 47) hx hb d_X2_combine_28 (by decide) (fun c_5 => ?_) (fun c_5 => ?_)
    · refine lv_iconst (v := nI 0) hx hb d_X2_combine_47 (by decide) ?_
      refine lv_istore (lv' := [(5, .int (nI 0)), (4, .int x), (0, .ref h), (1, .int (nI b)), (2, .int (nI q)), (3, .int (nI f))]) hx hb d_X2_combine_48 hl (by decide) rfl (fun ls hl => ?_)
      refine lv_iconst (v := nI 0) hx hb d_X2_combine_50 (by decide) ?_
      refine lv_istore (lv' := [(6, .int (nI 0)), (5, .int (nI 0)), (4, .int x), (0, .ref h), (1, .int (nI b)), (2, .int (nI q)), (3, .int (nI f))]) hx hb d_X2_combine_51 hl (by decide) rfl (fun ls hl => ?_)
      obtain ⟨hcz, hcs⟩ := mComb_add (sg := sg) (b := b) (q := q) (x := x) (z := z) (by first | exact Or.inl (by assumption) | exact Or.inr (Or.inl (by assumption)) | exact Or.inr (Or.inr (by assumption)))
      rw [hcz, hcs]
      exact lp_X2_combine hx hb hr hml hown hts hlocks hA hK hb3 hq3 cZ 0 0 z (by rw [cZ_eq]) (by omega) (by omega) hok _ _ hP hD hS ls (lv_sub hl [3, 4, 5, 6, 2, 1, 0] rfl)
    · refine lv_iload hx hb d_X2_combine_31 (lv_at hl 0 rfl) ?_
      refine lv_if_eq (tgt := 47) hx hb d_X2_combine_33 (by decide) (fun c_6 => ?_) (fun c_6 => ?_)
      · refine lv_iconst (v := nI 0) hx hb d_X2_combine_47 (by decide) ?_
        refine lv_istore (lv' := [(5, .int (nI 0)), (4, .int x), (0, .ref h), (1, .int (nI b)), (2, .int (nI q)), (3, .int (nI f))]) hx hb d_X2_combine_48 hl (by decide) rfl (fun ls hl => ?_)
        refine lv_iconst (v := nI 0) hx hb d_X2_combine_50 (by decide) ?_
        refine lv_istore (lv' := [(6, .int (nI 0)), (5, .int (nI 0)), (4, .int x), (0, .ref h), (1, .int (nI b)), (2, .int (nI q)), (3, .int (nI f))]) hx hb d_X2_combine_51 hl (by decide) rfl (fun ls hl => ?_)
        obtain ⟨hcz, hcs⟩ := mComb_add (sg := sg) (b := b) (q := q) (x := x) (z := z) (by first | exact Or.inl (by assumption) | exact Or.inr (Or.inl (by assumption)) | exact Or.inr (Or.inr (by assumption)))
        rw [hcz, hcs]
        exact lp_X2_combine hx hb hr hml hown hts hlocks hA hK hb3 hq3 cZ 0 0 z (by rw [cZ_eq]) (by omega) (by omega) hok _ _ hP hD hS ls (lv_sub hl [3, 4, 5, 6, 2, 1, 0] rfl)
      · refine lv_aload_n hx hb d_X2_combine_36 rfl (lv_at hl 1 rfl) ?_
        refine m_getG hx hb hts hown hK hP d_X2_combine_37 ?_
        refine lv_iload_n hx hb d_X2_combine_40 rfl (lv_at hl 2 rfl) ?_
        refine m_aldG hx hb hK hP (j := b) (by omega) d_X2_combine_41 ?_
        refine lv_iload hx hb d_X2_combine_42 (lv_at hl 0 rfl) ?_
        refine lv_icmp_ne (tgt := 151) hx hb d_X2_combine_44 (by decide) (fun c_7 => ?_) (fun c_7 => ?_)
        · refine lv_aload_n hx hb d_X2_combine_151 rfl (lv_at hl 1 rfl) ?_
          refine lv_iload_n hx hb d_X2_combine_152 rfl (lv_at hl 2 rfl) ?_
          refine lv_iload_n hx hb d_X2_combine_153 rfl (lv_at hl 3 rfl) ?_
          refine x_callR (st1 := [.int (mBy z b q)]) (x_runV (As := [.int (nI b), .int (nI q)]) (rest := []) (nL := 11) ⟨hx, hb, hml, hown, hts⟩ (c_X2_compareSizes hok hb3 hq3 _) (cwV 2 hts (gw_V k_597 k_599 k_44 k_52 k_600) rfl rfl rfl (by decide +kernel) ⟨Nat.le_of_ble_eq_true rfl, Nat.le_of_ble_eq_true rfl⟩) hK hP hD 0 2 rfl rfl rfl hl.1 rfl (Nat.le_of_ble_eq_true rfl) d_X2_combine_154 ⟨Nat.zero_le _, Nat.zero_le _⟩) rfl ?_
          refine lv_istore (lv' := [(5, .int (mBy z b q)), (4, .int x), (0, .ref h), (1, .int (nI b)), (2, .int (nI q)), (3, .int (nI f))]) hx hb d_X2_combine_157 hl (by decide) rfl (fun ls hl => ?_)
          refine lv_iconst (v := nI 0) hx hb d_X2_combine_159 (by decide) ?_
          refine lv_istore (lv' := [(6, .int (nI 0)), (5, .int (mBy z b q)), (4, .int x), (0, .ref h), (1, .int (nI b)), (2, .int (nI q)), (3, .int (nI f))]) hx hb d_X2_combine_160 hl (by decide) rfl (fun ls hl => ?_)
          refine lv_iconst (v := nI 0) hx hb d_X2_combine_162 (by decide) ?_
          refine lv_istore (lv' := [(7, .int (nI 0)), (6, .int (nI 0)), (5, .int (mBy z b q)), (4, .int x), (0, .ref h), (1, .int (nI b)), (2, .int (nI q)), (3, .int (nI f))]) hx hb d_X2_combine_163 hl (by decide) rfl (fun ls hl => ?_)
          obtain ⟨hcz, hcs⟩ := mComb_sub (sg := sg) (b := b) (q := q) (x := x) (z := z) (by assumption) (by assumption) (by assumption)
          rw [hcz, hcs]
          exact lq_X2_combine hx hb hr hml hown hts hlocks hA hK hb3 hq3 cZ 0 0 z (by rw [cZ_eq]) (by omega) (by omega) hok _ _ hP hD hS ls (lv_sub hl [4, 5, 6, 7, 3, 2, 1, 0] rfl)
        · refine lv_iconst (v := nI 0) hx hb d_X2_combine_47 (by decide) ?_
          refine lv_istore (lv' := [(5, .int (nI 0)), (4, .int x), (0, .ref h), (1, .int (nI b)), (2, .int (nI q)), (3, .int (nI f))]) hx hb d_X2_combine_48 hl (by decide) rfl (fun ls hl => ?_)
          refine lv_iconst (v := nI 0) hx hb d_X2_combine_50 (by decide) ?_
          refine lv_istore (lv' := [(6, .int (nI 0)), (5, .int (nI 0)), (4, .int x), (0, .ref h), (1, .int (nI b)), (2, .int (nI q)), (3, .int (nI f))]) hx hb d_X2_combine_51 hl (by decide) rfl (fun ls hl => ?_)
          obtain ⟨hcz, hcs⟩ := mComb_add (sg := sg) (b := b) (q := q) (x := x) (z := z) (by first | exact Or.inl (by assumption) | exact Or.inr (Or.inl (by assumption)) | exact Or.inr (Or.inr (by assumption)))
          rw [hcz, hcs]
          exact lp_X2_combine hx hb hr hml hown hts hlocks hA hK hb3 hq3 cZ 0 0 z (by rw [cZ_eq]) (by omega) (by omega) hok _ _ hP hD hS ls (lv_sub hl [3, 4, 5, 6, 2, 1, 0] rfl)
