theorem d_L_law_39 : decode code 39 = .ok (.tableswitch 1552 0 19 #[93, 168, 224, 331, 411, 479, 554, 622, 690, 770, 850, 950, 1013, 1081, 1149, 1217, 1316, 1372, 1428, 1484], 93) := by decide +kernel
theorem lg_cmp_self (x : Int64) : lg_cmp x x = 0 := by unfold lg_cmp; simp
def isMd (cA : ClassId) (h : Nat) (cd : Int32) (w2 : va_W) : Prop := ∃ (aw ar ag az : Nat) (w g : Nat → Nat) (sg : Nat → Int32) (z : Nat → Nat) (Rs : va_W), w2 = md cA h aw ar ag az cd w g sg z Rs
theorem isMd.at {cA : ClassId} {h : Nat} {cd : Int32} {w2 : va_W} (h1 : isMd cA h cd w2) : ∃ fs, w2[0]? = some (h, .inr (2, fs)) := by
  obtain ⟨aw, ar, ag, az, w, g, sg, z, Rs, rfl⟩ := h1
  exact ⟨_, rfl⟩
section LAW
variable {p : Program} {l : Launch} {e : Env} {s : State} {m : MethodId} {below : List Frame} {meth : Method} {c : Code} {H : Heap} {locs : List Loc} {cells slots : Nat} {Q : State → Prop} {D : va_G} {cA cR cL : ClassId} {A : Nat → Prop} {ls : Array Slot}
theorem q_sld {R : Room} {args : Array Value} {cc : ByteArray} {pc : Nat} {rest : List Value} {H0 : Heap} (hx : p.tables.exec = Jvm.exec) (hb : c.code = cc) {b L : Nat} {xs : Nat → Int32} (hX : va_X b L xs s H0) (hbl : b < H0.size) (hbA : ¬ A b) (hS : va_S A H0 H locs) {j : Nat} (hj : j < L) (hL : L ≤ 2048) (hdg : decode cc pc = .ok (.iaload, 1))
    (kk : W p l e R s m args below meth c H locs cells slots Q (F0 m (pc + 1) ls (.int (xs j) :: rest))) : W p l e R s m args below meth c H locs cells slots Q (F0 m pc ls (.int (nI j) :: .ref b :: rest)) :=
  va_sld hx hb hX hbl hbA hS (vp_in_nI hj (by omega)) hdg (by rw [nI_clamp (by omega)]; exact kk)
theorem q_thrown {R : Room} {args : Array Value} {cc : ByteArray} {pc : Nat} {h : Nat} {cd : Int32} {w2 : va_W} (hR : 1 ≤ R.frames ∧ 20 ≤ R.locals ∧ cells ≤ R.cells ∧ slots ≤ R.slots) (hmd : isMd cA h cd w2) (hx : p.tables.exec = Jvm.exec) (hb : c.code = cc) (hml : c.maxLocals = 8) (hown : s.vm.findClass "LimbRowsLaw" = some m.cls) (hts : ∀ w ∈ gw, w.before args s = true) (hK : va_K D cls0 (ty3 cA cR cL) s) (hP : va_P D cls0 w2 H) (hD : va_D A w2) (hl : ls.size = 8) (hdg : decode cc pc = .ok (.invokevirtual 91, 3))
    (kk : W p l e R s m args below meth c H locs cells slots Q (F0 m (pc + 3) ls [.int cd])) : W p l e R s m args below meth c H locs cells slots Q (F0 m pc ls [.ref h]) := by
  obtain ⟨aw, ar, ag, az, w, g, sg, z, Rs, rfl⟩ := hmd
  exact x_callR (st1 := [.int cd]) (x_runV (As := []) (rest := []) (nL := 8) ⟨hx, hb, hml, hown, hts⟩ (c_X2_thrown _) (cwV 0 hts (gw_V k_503 k_504 k_505 k_52 k_506) rfl rfl rfl (by decide +kernel) ⟨hR.1, hR.2.1⟩) hK hP hD 0 2 rfl rfl rfl hl rfl (Nat.le_of_ble_eq_true rfl) hdg ⟨hR.2.2.1, hR.2.2.2⟩) rfl kk
set_option maxHeartbeats 800000 in
set_option maxRecDepth 100000 in
theorem law_widen {b L : Nat} {xs : Nat → Int32} (hx : p.tables.exec = Jvm.exec) (hb : c.code = code) (hml : c.maxLocals = 8) (hown : s.vm.findClass "LimbRowsLaw" = some m.cls) (hts : ∀ w ∈ gw, w.before #[Value.ref b] s = true) (hA : ∀ q : Nat, s.heap.size ≤ q → A q) (hK : va_K D cls0 (ty3 cA cR cL) s) (hN : xN s) (hT : xT s) (hZ : xZ A s s.heap) (hX : va_X b L xs s s.heap) (hbl : b < s.heap.size) (hbA : ¬ A b) (hL : L ≤ 2048) {i xo h ou k mc ms : Nat} {rm : Room} (hi : i + 4 ≤ L) (hk : k ≤ 2) {w0 : va_W} {Y1 Z : va_W → Prop} (hrm : rm.cells = mc ∧ rm.slots = ms ∧ rm.frames ≤ 10 ∧ rm.locals ≤ 300) (hmc : cells + mc ≤ 601024 ∧ slots + ms ≤ 7293033)
    (hW : xCW l y_L_widen w_L_widen rm D cls0 (ty3 cA cR cL) [.ref xo, .int ((xs (i + 1))), .int ((xs (i + 2))), .ref ou] w0 (some (.int (nI k))) Y1 mc ms)
    (hM : ∀ w1, Y1 w1 → (∃ cd, isMd cA h cd w1) ∧ ∃ (v2 : Int32) (Y2 : va_W → Prop), xC l y_X2_widen w_X2_widen ({ frames := 4, cells := 0, slots := 0, locals := 93 }) D cls0 (ty3 cA cR cL) [.ref h, .int ((xs (i + 1))), .int ((xs (i + 2)))] w1 (some (.int v2)) Y2 0 0 ∧ ∀ w2, Y2 w2 → isMd cA h (nI k) w2 ∧ (k = 0 → ∃ fo : Nat → Int64, w2[7]? = some (ou, .inl (cL, 1, .inr (.inl fo))) ∧ fo 0 = (if v2 = 0 then 0 else 1)) ∧ Z w2)
    (hP : va_P D cls0 w0 H) (hD : va_D A w0) (hS : va_S A s.heap H locs) (hl : lv_has ls 8 [(0, .ref b), (1, .ref xo), (2, .ref h), (3, .ref ou), (4, .int (nI i))])
    (kk : ∀ (w2 : va_W) (H : Heap) (locs : List Loc) (ls : Array Slot), Z w2 → va_P D cls0 w2 H → va_D A w2 → va_S A s.heap H locs → lv_has ls 8 [(0, .ref b), (1, .ref xo), (2, .ref h), (3, .ref ou), (4, .int (nI i))] → W p l e room_1 s m #[Value.ref b] below meth c H locs (cells + mc) (slots + ms) Q (F0 m 1591 ls [])) : W p l e room_1 s m #[Value.ref b] below meth c H locs cells slots Q (F0 m 132 ls []) := by
  refine lv_aload_n hx hb d_L_law_132 rfl (lv_at hl 1 rfl) ?_
  refine lv_aload_n hx hb d_L_law_133 rfl (lv_at hl 0 rfl) ?_
  refine lv_iload hx hb d_L_law_134 (lv_at hl 4 rfl) ?_
  refine lv_iconst (v := nI 1) hx hb d_L_law_136 (by decide) ?_
  refine n_iadd hx hb d_L_law_137 ?_
  refine q_sld hx hb hX hbl hbA hS (j := i + 1) (by omega) hL d_L_law_138 ?_
  refine lv_aload_n hx hb d_L_law_139 rfl (lv_at hl 0 rfl) ?_
  refine lv_iload hx hb d_L_law_140 (lv_at hl 4 rfl) ?_
  refine lv_iconst (v := nI 2) hx hb d_L_law_142 (by decide) ?_
  refine n_iadd hx hb d_L_law_143 ?_
  refine q_sld hx hb hX hbl hbA hS (j := i + 2) (by omega) hL d_L_law_144 ?_
  refine lv_aload_n hx hb d_L_law_145 rfl (lv_at hl 3 rfl) ?_
  refine x_call (st1 := [.int (nI k)]) (xw_runS (As := [.ref xo, .int ((xs (i + 1))), .int ((xs (i + 2))), .ref ou]) (rest := []) (nL := 8) ⟨hx, hb, hml, hown, hts⟩ (hW _) (vx_cwSW 4 hts (gw_SC k_91 k_92 k_49 k_93) rfl hrm.1 hrm.2.1 (by decide +kernel) ⟨by show _ ≤ 11; omega, by show _ ≤ 396; omega⟩) hK hN hT hZ hP hD hS (x_sub hD hS hA) rfl hl.1 rfl (Nat.le_of_ble_eq_true rfl) d_L_law_146 ⟨hmc.1, hmc.2⟩) hS (x_sub hD hS hA) (x_sub hD hS hA) rfl (fun w1 H locs hY1 hP hD hS => ?_)
  obtain ⟨⟨cd, hmd1⟩, v2, Y2, hC2, hY2⟩ := hM w1 hY1
  obtain ⟨fs1, hfs1⟩ := hmd1.at
  refine lv_istore (lv' := [(5, .int (nI k)), (0, .ref b), (1, .ref xo), (2, .ref h), (3, .ref ou), (4, .int (nI i))]) hx hb d_L_law_149 hl (by decide) rfl (fun ls hl => ?_)
  refine lv_aload_n hx hb d_L_law_151 rfl (lv_at hl 3 rfl) ?_
  refine lv_aload_n hx hb d_L_law_152 rfl (lv_at hl 1 rfl) ?_
  refine lv_iload hx hb d_L_law_153 (lv_at hl 5 rfl) ?_
  refine lv_iconst (v := nI 1) hx hb d_L_law_155 (by decide) ?_
  refine n_iadd hx hb d_L_law_156 ?_
  refine q_sld hx hb hX hbl hbA hS (j := i + 1) (by omega) hL d_L_law_157 ?_
  refine lv_aload_n hx hb d_L_law_158 rfl (lv_at hl 1 rfl) ?_
  refine lv_iload hx hb d_L_law_159 (lv_at hl 5 rfl) ?_
  refine lv_iconst (v := nI 2) hx hb d_L_law_161 (by decide) ?_
  refine n_iadd hx hb d_L_law_162 ?_
  refine q_sld hx hb hX hbl hbA hS (j := i + 2) (by omega) hL d_L_law_163 ?_
  refine x_call (st1 := [.int v2]) (x_runV (As := [.int ((xs (i + 1))), .int ((xs (i + 2)))]) (rest := []) (nL := 8) ⟨hx, hb, hml, hown, hts⟩ (hC2 _) (cwV 2 hts (gw_V k_507 k_508 k_509 k_52 k_510) rfl rfl rfl (by decide +kernel) ⟨Nat.le_of_ble_eq_true rfl, Nat.le_of_ble_eq_true rfl⟩) hK hP hD 0 2 hfs1 rfl rfl hl.1 rfl (Nat.le_of_ble_eq_true rfl) d_L_law_164 ⟨hmc.1, hmc.2⟩) hS (x_sub hD hS hA) (x_sub hD hS hA) rfl (fun w2 H locs hY hP hD hS => ?_)
  obtain ⟨hmd2, hfo, hz2⟩ := hY2 w2 hY
  refine lv_istore (lv' := [(6, .int v2), (5, .int (nI k)), (0, .ref b), (1, .ref xo), (2, .ref h), (3, .ref ou), (4, .int (nI i))]) hx hb d_L_law_167 hl (by decide) rfl (fun ls hl => ?_)
  refine lv_aload_n hx hb d_L_law_169 rfl (lv_at hl 4 rfl) ?_
  refine q_thrown ⟨by decide, by decide, hmc.1, hmc.2⟩ hmd2 hx hb hml hown hts hK hP hD hl.1 d_L_law_170 ?_
  refine lv_iload hx hb d_L_law_173 (lv_at hl 1 rfl) ?_
  refine n_icmp_eq (tgt := 180) hx hb d_L_law_175 (by decide) (by omega) (by omega) (fun _ => ?_) (fun c9 => absurd rfl c9)
  refine lv_iload hx hb d_L_law_180 (lv_at hl 1 rfl) ?_
  refine n_if_ne (tgt := 204) hx hb d_L_law_182 (by decide) (by omega) (fun _ => ?_) (fun c0 => ?_)
  · refine lv_goto (tgt := 1591) hx hb d_L_law_204 (by decide) ?_
    exact kk w2 _ _ ls hz2 hP hD hS (lv_sub hl [2, 3, 4, 5, 6] rfl)
  obtain ⟨fo, hfo1, hfo2⟩ := hfo c0
  refine lv_aload_n hx hb d_L_law_185 rfl (lv_at hl 5 rfl) ?_
  refine lv_iconst (v := nI 0) hx hb d_L_law_186 (by decide) ?_
  refine va_lald hx hb hK hP 7 2 hfo1 rfl (i := nI 0) (vp_in_nI (by decide) (by decide)) d_L_law_187 ?_
  rw [show (nI 0).toNatClampNeg = 0 from by decide, hfo2]
  refine lv_iload hx hb d_L_law_188 (lv_at hl 0 rfl) ?_
  refine lv_if_eq (tgt := 197) hx hb d_L_law_190 (by decide) (fun c_1 => ?_) (fun c_1 => ?_)
  · refine lv_lconst (v := 0) hx hb d_L_law_197 (by decide) ?_
    refine W.lcmp hx hb d_L_law_198 ?_
    rw [if_pos c_1, lg_cmp_self]
    refine lv_if_eq (tgt := 204) hx hb d_L_law_199 (by decide) (fun _ => ?_) (fun c9 => absurd rfl c9)
    refine lv_goto (tgt := 1591) hx hb d_L_law_204 (by decide) ?_
    exact kk w2 _ _ ls hz2 hP hD hS (lv_sub hl [2, 3, 4, 5, 6] rfl)
  · refine lv_lconst (v := 1) hx hb d_L_law_193 (by decide) ?_
    refine lv_goto (tgt := 198) hx hb d_L_law_194 (by decide) ?_
    refine W.lcmp hx hb d_L_law_198 ?_
    rw [if_neg c_1, lg_cmp_self]
    refine lv_if_eq (tgt := 204) hx hb d_L_law_199 (by decide) (fun _ => ?_) (fun c9 => absurd rfl c9)
    refine lv_goto (tgt := 1591) hx hb d_L_law_204 (by decide) ?_
    exact kk w2 _ _ ls hz2 hP hD hS (lv_sub hl [2, 3, 4, 5, 6] rfl)
set_option maxHeartbeats 800000 in
set_option maxRecDepth 100000 in
theorem law_width {b L : Nat} {xs : Nat → Int32} (hx : p.tables.exec = Jvm.exec) (hb : c.code = code) (hml : c.maxLocals = 8) (hown : s.vm.findClass "LimbRowsLaw" = some m.cls) (hts : ∀ w ∈ gw, w.before #[Value.ref b] s = true) (hA : ∀ q : Nat, s.heap.size ≤ q → A q) (hK : va_K D cls0 (ty3 cA cR cL) s) (hN : xN s) (hT : xT s) (hZ : xZ A s s.heap) (hX : va_X b L xs s s.heap) (hbl : b < s.heap.size) (hbA : ¬ A b) (hL : L ≤ 2048) {i xo h ou k mc ms : Nat} {rm : Room} (hi : i + 4 ≤ L) (hk : k ≤ 2) {w0 : va_W} {Y1 Z : va_W → Prop} (hrm : rm.cells = mc ∧ rm.slots = ms ∧ rm.frames ≤ 10 ∧ rm.locals ≤ 300) (hmc : cells + mc ≤ 601024 ∧ slots + ms ≤ 7293033)
    (hW : xCW l y_L_width w_L_width rm D cls0 (ty3 cA cR cL) [.ref xo, .int ((xs (i + 1))), .ref ou] w0 (some (.int (nI k))) Y1 mc ms)
    (hM : ∀ w1, Y1 w1 → (∃ cd, isMd cA h cd w1) ∧ ∃ (v2 : Int32) (Y2 : va_W → Prop), xC l y_X2_width w_X2_width ({ frames := 1, cells := 0, slots := 0, locals := 21 }) D cls0 (ty3 cA cR cL) [.ref h, .int ((xs (i + 1)))] w1 (some (.int v2)) Y2 0 0 ∧ ∀ w2, Y2 w2 → isMd cA h (nI k) w2 ∧ (k = 0 → ∃ fo : Nat → Int64, w2[7]? = some (ou, .inl (cL, 1, .inr (.inl fo))) ∧ fo 0 = v2.toInt64) ∧ Z w2)
    (hP : va_P D cls0 w0 H) (hD : va_D A w0) (hS : va_S A s.heap H locs) (hl : lv_has ls 8 [(0, .ref b), (1, .ref xo), (2, .ref h), (3, .ref ou), (4, .int (nI i))])
    (kk : ∀ (w2 : va_W) (H : Heap) (locs : List Loc) (ls : Array Slot), Z w2 → va_P D cls0 w2 H → va_D A w2 → va_S A s.heap H locs → lv_has ls 8 [(0, .ref b), (1, .ref xo), (2, .ref h), (3, .ref ou), (4, .int (nI i))] → W p l e room_1 s m #[Value.ref b] below meth c H locs (cells + mc) (slots + ms) Q (F0 m 1591 ls [])) : W p l e room_1 s m #[Value.ref b] below meth c H locs cells slots Q (F0 m 207 ls []) := by
  refine lv_aload_n hx hb d_L_law_207 rfl (lv_at hl 1 rfl) ?_
  refine lv_aload_n hx hb d_L_law_208 rfl (lv_at hl 0 rfl) ?_
  refine lv_iload hx hb d_L_law_209 (lv_at hl 4 rfl) ?_
  refine lv_iconst (v := nI 1) hx hb d_L_law_211 (by decide) ?_
  refine n_iadd hx hb d_L_law_212 ?_
  refine q_sld hx hb hX hbl hbA hS (j := i + 1) (by omega) hL d_L_law_213 ?_
  refine lv_aload_n hx hb d_L_law_214 rfl (lv_at hl 3 rfl) ?_
  refine x_call (st1 := [.int (nI k)]) (xw_runS (As := [.ref xo, .int ((xs (i + 1))), .ref ou]) (rest := []) (nL := 8) ⟨hx, hb, hml, hown, hts⟩ (hW _) (vx_cwSW 3 hts (gw_SC k_215 k_216 k_49 k_217) rfl hrm.1 hrm.2.1 (by decide +kernel) ⟨by show _ ≤ 11; omega, by show _ ≤ 396; omega⟩) hK hN hT hZ hP hD hS (x_sub hD hS hA) rfl hl.1 rfl (Nat.le_of_ble_eq_true rfl) d_L_law_215 ⟨hmc.1, hmc.2⟩) hS (x_sub hD hS hA) (x_sub hD hS hA) rfl (fun w1 H locs hY1 hP hD hS => ?_)
  obtain ⟨⟨cd, hmd1⟩, v2, Y2, hC2, hY2⟩ := hM w1 hY1
  obtain ⟨fs1, hfs1⟩ := hmd1.at
  refine lv_istore (lv' := [(5, .int (nI k)), (0, .ref b), (1, .ref xo), (2, .ref h), (3, .ref ou), (4, .int (nI i))]) hx hb d_L_law_218 hl (by decide) rfl (fun ls hl => ?_)
  refine lv_aload_n hx hb d_L_law_220 rfl (lv_at hl 3 rfl) ?_
  refine lv_aload_n hx hb d_L_law_221 rfl (lv_at hl 1 rfl) ?_
  refine lv_iload hx hb d_L_law_222 (lv_at hl 5 rfl) ?_
  refine lv_iconst (v := nI 1) hx hb d_L_law_224 (by decide) ?_
  refine n_iadd hx hb d_L_law_225 ?_
  refine q_sld hx hb hX hbl hbA hS (j := i + 1) (by omega) hL d_L_law_226 ?_
  refine x_call (st1 := [.int v2]) (x_runV (As := [.int ((xs (i + 1)))]) (rest := []) (nL := 8) ⟨hx, hb, hml, hown, hts⟩ (hC2 _) (cwV 1 hts (gw_V k_552 k_553 k_554 k_52 k_555) rfl rfl rfl (by decide +kernel) ⟨Nat.le_of_ble_eq_true rfl, Nat.le_of_ble_eq_true rfl⟩) hK hP hD 0 2 hfs1 rfl rfl hl.1 rfl (Nat.le_of_ble_eq_true rfl) d_L_law_227 ⟨hmc.1, hmc.2⟩) hS (x_sub hD hS hA) (x_sub hD hS hA) rfl (fun w2 H locs hY hP hD hS => ?_)
  obtain ⟨hmd2, hfo, hz2⟩ := hY2 w2 hY
  refine lv_istore (lv' := [(6, .int v2), (5, .int (nI k)), (0, .ref b), (1, .ref xo), (2, .ref h), (3, .ref ou), (4, .int (nI i))]) hx hb d_L_law_230 hl (by decide) rfl (fun ls hl => ?_)
  refine lv_aload_n hx hb d_L_law_232 rfl (lv_at hl 4 rfl) ?_
  refine q_thrown ⟨by decide, by decide, hmc.1, hmc.2⟩ hmd2 hx hb hml hown hts hK hP hD hl.1 d_L_law_233 ?_
  refine lv_iload hx hb d_L_law_236 (lv_at hl 1 rfl) ?_
  refine n_icmp_eq (tgt := 243) hx hb d_L_law_238 (by decide) (by omega) (by omega) (fun _ => ?_) (fun c9 => absurd rfl c9)
  refine lv_iload hx hb d_L_law_243 (lv_at hl 1 rfl) ?_
  refine n_if_ne (tgt := 260) hx hb d_L_law_245 (by decide) (by omega) (fun _ => ?_) (fun c0 => ?_)
  · refine lv_goto (tgt := 1591) hx hb d_L_law_260 (by decide) ?_
    exact kk w2 _ _ ls hz2 hP hD hS (lv_sub hl [2, 3, 4, 5, 6] rfl)
  obtain ⟨fo, hfo1, hfo2⟩ := hfo c0
  refine lv_aload_n hx hb d_L_law_248 rfl (lv_at hl 5 rfl) ?_
  refine lv_iconst (v := nI 0) hx hb d_L_law_249 (by decide) ?_
  refine va_lald hx hb hK hP 7 2 hfo1 rfl (i := nI 0) (vp_in_nI (by decide) (by decide)) d_L_law_250 ?_
  rw [show (nI 0).toNatClampNeg = 0 from by decide, hfo2]
  refine lv_iload hx hb d_L_law_251 (lv_at hl 0 rfl) ?_
  refine lv_i2l (v := v2.toInt64) hx hb d_L_law_253 rfl ?_
  refine W.lcmp hx hb d_L_law_254 ?_
  rw [lg_cmp_self]
  refine lv_if_eq (tgt := 260) hx hb d_L_law_255 (by decide) (fun _ => ?_) (fun c9 => absurd rfl c9)
  refine lv_goto (tgt := 1591) hx hb d_L_law_260 (by decide) ?_
  exact kk w2 _ _ ls hz2 hP hD hS (lv_sub hl [2, 3, 4, 5, 6] rfl)
set_option maxHeartbeats 800000 in
set_option maxRecDepth 100000 in
theorem law_set {b L : Nat} {xs : Nat → Int32} (hx : p.tables.exec = Jvm.exec) (hb : c.code = code) (hml : c.maxLocals = 8) (hown : s.vm.findClass "LimbRowsLaw" = some m.cls) (hts : ∀ w ∈ gw, w.before #[Value.ref b] s = true) (hA : ∀ q : Nat, s.heap.size ≤ q → A q) (hK : va_K D cls0 (ty3 cA cR cL) s) (hN : xN s) (hT : xT s) (hZ : xZ A s s.heap) (hX : va_X b L xs s s.heap) (hbl : b < s.heap.size) (hbA : ¬ A b) (hL : L ≤ 2048) {i xo h ou k mc ms : Nat} {rm : Room} (hi : i + 4 ≤ L) (hk : k ≤ 2) {w0 : va_W} {Y1 Z : va_W → Prop} (hrm : rm.cells = mc ∧ rm.slots = ms ∧ rm.frames ≤ 10 ∧ rm.locals ≤ 300) (hmc : cells + mc ≤ 601024 ∧ slots + ms ≤ 7293033)
    (hW : xCW l y_L_set w_L_set rm D cls0 (ty3 cA cR cL) [.ref xo, .int ((xs (i + 1))), .long ((j_ll (xs (i + 2)).toInt64 (nI 32) ||| ((xs (i + 3)).toInt64 &&& 4294967295))), .ref ou] w0 (some (.int (nI k))) Y1 mc ms)
    (hM : ∀ w1, Y1 w1 → (∃ cd, isMd cA h cd w1) ∧ ∃ (v2 : Int32) (Y2 : va_W → Prop), xC l y_X2_set w_X2_set ({ frames := 4, cells := 0, slots := 0, locals := 93 }) D cls0 (ty3 cA cR cL) [.ref h, .int ((xs (i + 1))), .long ((j_ll (xs (i + 2)).toInt64 (nI 32) ||| ((xs (i + 3)).toInt64 &&& 4294967295)))] w1 (some (.int v2)) Y2 0 0 ∧ ∀ w2, Y2 w2 → isMd cA h (nI k) w2 ∧ (k = 0 → ∃ fo : Nat → Int64, w2[7]? = some (ou, .inl (cL, 1, .inr (.inl fo))) ∧ fo 0 = (if v2 = 0 then 0 else 1)) ∧ Z w2)
    (hP : va_P D cls0 w0 H) (hD : va_D A w0) (hS : va_S A s.heap H locs) (hl : lv_has ls 8 [(0, .ref b), (1, .ref xo), (2, .ref h), (3, .ref ou), (4, .int (nI i))])
    (kk : ∀ (w2 : va_W) (H : Heap) (locs : List Loc) (ls : Array Slot), Z w2 → va_P D cls0 w2 H → va_D A w2 → va_S A s.heap H locs → lv_has ls 8 [(0, .ref b), (1, .ref xo), (2, .ref h), (3, .ref ou), (4, .int (nI i))] → W p l e room_1 s m #[Value.ref b] below meth c H locs (cells + mc) (slots + ms) Q (F0 m 1591 ls [])) : W p l e room_1 s m #[Value.ref b] below meth c H locs cells slots Q (F0 m 263 ls []) := by
  refine lv_aload_n hx hb d_L_law_263 rfl (lv_at hl 1 rfl) ?_
  refine lv_aload_n hx hb d_L_law_264 rfl (lv_at hl 0 rfl) ?_
  refine lv_iload hx hb d_L_law_265 (lv_at hl 4 rfl) ?_
  refine lv_iconst (v := nI 1) hx hb d_L_law_267 (by decide) ?_
  refine n_iadd hx hb d_L_law_268 ?_
  refine q_sld hx hb hX hbl hbA hS (j := i + 1) (by omega) hL d_L_law_269 ?_
  refine lv_aload_n hx hb d_L_law_270 rfl (lv_at hl 0 rfl) ?_
  refine lv_iload hx hb d_L_law_271 (lv_at hl 4 rfl) ?_
  refine lv_iconst (v := nI 2) hx hb d_L_law_273 (by decide) ?_
  refine n_iadd hx hb d_L_law_274 ?_
  refine q_sld hx hb hX hbl hbA hS (j := i + 2) (by omega) hL d_L_law_275 ?_
  refine lv_i2l (v := (xs (i + 2)).toInt64) hx hb d_L_law_276 rfl ?_
  refine lv_bipush (v := nI 32) hx hb d_L_law_277 (by decide) ?_
  refine lv_lshl (v := j_ll ((xs (i + 2)).toInt64) (nI 32)) hx hb d_L_law_279 rfl ?_
  refine lv_aload_n hx hb d_L_law_280 rfl (lv_at hl 0 rfl) ?_
  refine lv_iload hx hb d_L_law_281 (lv_at hl 4 rfl) ?_
  refine lv_iconst (v := nI 3) hx hb d_L_law_283 (by decide) ?_
  refine n_iadd hx hb d_L_law_284 ?_
  refine q_sld hx hb hX hbl hbA hS (j := i + 3) (by omega) hL d_L_law_285 ?_
  refine lv_i2l (v := (xs (i + 3)).toInt64) hx hb d_L_law_286 rfl ?_
  refine lv_ldc2 (v := 4294967295) hx hb hown (hts (.constantLong "LimbRowsLaw" 99 4294967295) k_673) d_L_law_287 ?_
  refine lv_land hx hb d_L_law_290 ?_
  refine lv_lor hx hb d_L_law_291 ?_
  refine lv_aload_n hx hb d_L_law_292 rfl (lv_at hl 3 rfl) ?_
  refine x_call (st1 := [.int (nI k)]) (xw_runS (As := [.ref xo, .int ((xs (i + 1))), .long ((j_ll (xs (i + 2)).toInt64 (nI 32) ||| ((xs (i + 3)).toInt64 &&& 4294967295))), .ref ou]) (rest := []) (nL := 8) ⟨hx, hb, hml, hown, hts⟩ (hW _) (vx_cwSW 4 hts (gw_SC k_222 k_223 k_49 k_224) rfl hrm.1 hrm.2.1 (by decide +kernel) ⟨by show _ ≤ 11; omega, by show _ ≤ 396; omega⟩) hK hN hT hZ hP hD hS (x_sub hD hS hA) rfl hl.1 rfl (Nat.le_of_ble_eq_true rfl) d_L_law_293 ⟨hmc.1, hmc.2⟩) hS (x_sub hD hS hA) (x_sub hD hS hA) rfl (fun w1 H locs hY1 hP hD hS => ?_)
  obtain ⟨⟨cd, hmd1⟩, v2, Y2, hC2, hY2⟩ := hM w1 hY1
  obtain ⟨fs1, hfs1⟩ := hmd1.at
  refine lv_istore (lv' := [(5, .int (nI k)), (0, .ref b), (1, .ref xo), (2, .ref h), (3, .ref ou), (4, .int (nI i))]) hx hb d_L_law_296 hl (by decide) rfl (fun ls hl => ?_)
  refine lv_aload_n hx hb d_L_law_298 rfl (lv_at hl 3 rfl) ?_
  refine lv_aload_n hx hb d_L_law_299 rfl (lv_at hl 1 rfl) ?_
  refine lv_iload hx hb d_L_law_300 (lv_at hl 5 rfl) ?_
  refine lv_iconst (v := nI 1) hx hb d_L_law_302 (by decide) ?_
  refine n_iadd hx hb d_L_law_303 ?_
  refine q_sld hx hb hX hbl hbA hS (j := i + 1) (by omega) hL d_L_law_304 ?_
  refine lv_aload_n hx hb d_L_law_305 rfl (lv_at hl 1 rfl) ?_
  refine lv_iload hx hb d_L_law_306 (lv_at hl 5 rfl) ?_
  refine lv_iconst (v := nI 2) hx hb d_L_law_308 (by decide) ?_
  refine n_iadd hx hb d_L_law_309 ?_
  refine q_sld hx hb hX hbl hbA hS (j := i + 2) (by omega) hL d_L_law_310 ?_
  refine lv_i2l (v := (xs (i + 2)).toInt64) hx hb d_L_law_311 rfl ?_
  refine lv_bipush (v := nI 32) hx hb d_L_law_312 (by decide) ?_
  refine lv_lshl (v := j_ll ((xs (i + 2)).toInt64) (nI 32)) hx hb d_L_law_314 rfl ?_
  refine lv_aload_n hx hb d_L_law_315 rfl (lv_at hl 1 rfl) ?_
  refine lv_iload hx hb d_L_law_316 (lv_at hl 5 rfl) ?_
  refine lv_iconst (v := nI 3) hx hb d_L_law_318 (by decide) ?_
  refine n_iadd hx hb d_L_law_319 ?_
  refine q_sld hx hb hX hbl hbA hS (j := i + 3) (by omega) hL d_L_law_320 ?_
  refine lv_i2l (v := (xs (i + 3)).toInt64) hx hb d_L_law_321 rfl ?_
  refine lv_ldc2 (v := 4294967295) hx hb hown (hts (.constantLong "LimbRowsLaw" 99 4294967295) k_673) d_L_law_322 ?_
  refine lv_land hx hb d_L_law_325 ?_
  refine lv_lor hx hb d_L_law_326 ?_
  refine x_call (st1 := [.int v2]) (x_runV (As := [.int ((xs (i + 1))), .long ((j_ll (xs (i + 2)).toInt64 (nI 32) ||| ((xs (i + 3)).toInt64 &&& 4294967295)))]) (rest := []) (nL := 8) ⟨hx, hb, hml, hown, hts⟩ (hC2 _) (cwV 2 hts (gw_V k_556 k_557 k_558 k_52 k_559) rfl rfl rfl (by decide +kernel) ⟨Nat.le_of_ble_eq_true rfl, Nat.le_of_ble_eq_true rfl⟩) hK hP hD 0 2 hfs1 rfl rfl hl.1 rfl (Nat.le_of_ble_eq_true rfl) d_L_law_327 ⟨hmc.1, hmc.2⟩) hS (x_sub hD hS hA) (x_sub hD hS hA) rfl (fun w2 H locs hY hP hD hS => ?_)
  obtain ⟨hmd2, hfo, hz2⟩ := hY2 w2 hY
  refine lv_istore (lv' := [(6, .int v2), (5, .int (nI k)), (0, .ref b), (1, .ref xo), (2, .ref h), (3, .ref ou), (4, .int (nI i))]) hx hb d_L_law_330 hl (by decide) rfl (fun ls hl => ?_)
  refine lv_aload_n hx hb d_L_law_332 rfl (lv_at hl 4 rfl) ?_
  refine q_thrown ⟨by decide, by decide, hmc.1, hmc.2⟩ hmd2 hx hb hml hown hts hK hP hD hl.1 d_L_law_333 ?_
  refine lv_iload hx hb d_L_law_336 (lv_at hl 1 rfl) ?_
  refine n_icmp_eq (tgt := 343) hx hb d_L_law_338 (by decide) (by omega) (by omega) (fun _ => ?_) (fun c9 => absurd rfl c9)
  refine lv_iload hx hb d_L_law_343 (lv_at hl 1 rfl) ?_
  refine n_if_ne (tgt := 367) hx hb d_L_law_345 (by decide) (by omega) (fun _ => ?_) (fun c0 => ?_)
  · refine lv_goto (tgt := 1591) hx hb d_L_law_367 (by decide) ?_
    exact kk w2 _ _ ls hz2 hP hD hS (lv_sub hl [2, 3, 4, 5, 6] rfl)
  obtain ⟨fo, hfo1, hfo2⟩ := hfo c0
  refine lv_aload_n hx hb d_L_law_348 rfl (lv_at hl 5 rfl) ?_
  refine lv_iconst (v := nI 0) hx hb d_L_law_349 (by decide) ?_
  refine va_lald hx hb hK hP 7 2 hfo1 rfl (i := nI 0) (vp_in_nI (by decide) (by decide)) d_L_law_350 ?_
  rw [show (nI 0).toNatClampNeg = 0 from by decide, hfo2]
  refine lv_iload hx hb d_L_law_351 (lv_at hl 0 rfl) ?_
  refine lv_if_eq (tgt := 360) hx hb d_L_law_353 (by decide) (fun c_1 => ?_) (fun c_1 => ?_)
  · refine lv_lconst (v := 0) hx hb d_L_law_360 (by decide) ?_
    refine W.lcmp hx hb d_L_law_361 ?_
    rw [if_pos c_1, lg_cmp_self]
    refine lv_if_eq (tgt := 367) hx hb d_L_law_362 (by decide) (fun _ => ?_) (fun c9 => absurd rfl c9)
    refine lv_goto (tgt := 1591) hx hb d_L_law_367 (by decide) ?_
    exact kk w2 _ _ ls hz2 hP hD hS (lv_sub hl [2, 3, 4, 5, 6] rfl)
  · refine lv_lconst (v := 1) hx hb d_L_law_356 (by decide) ?_
    refine lv_goto (tgt := 361) hx hb d_L_law_357 (by decide) ?_
    refine W.lcmp hx hb d_L_law_361 ?_
    rw [if_neg c_1, lg_cmp_self]
    refine lv_if_eq (tgt := 367) hx hb d_L_law_362 (by decide) (fun _ => ?_) (fun c9 => absurd rfl c9)
    refine lv_goto (tgt := 1591) hx hb d_L_law_367 (by decide) ?_
    exact kk w2 _ _ ls hz2 hP hD hS (lv_sub hl [2, 3, 4, 5, 6] rfl)
set_option maxHeartbeats 800000 in
set_option maxRecDepth 100000 in
theorem law_put {b L : Nat} {xs : Nat → Int32} (hx : p.tables.exec = Jvm.exec) (hb : c.code = code) (hml : c.maxLocals = 8) (hown : s.vm.findClass "LimbRowsLaw" = some m.cls) (hts : ∀ w ∈ gw, w.before #[Value.ref b] s = true) (hA : ∀ q : Nat, s.heap.size ≤ q → A q) (hK : va_K D cls0 (ty3 cA cR cL) s) (hN : xN s) (hT : xT s) (hZ : xZ A s s.heap) (hX : va_X b L xs s s.heap) (hbl : b < s.heap.size) (hbA : ¬ A b) (hL : L ≤ 2048) {i xo h ou k mc ms : Nat} {rm : Room} (hi : i + 4 ≤ L) (hk : k ≤ 2) {w0 : va_W} {Y1 Z : va_W → Prop} (hrm : rm.cells = mc ∧ rm.slots = ms ∧ rm.frames ≤ 10 ∧ rm.locals ≤ 300) (hmc : cells + mc ≤ 601024 ∧ slots + ms ≤ 7293033)
    (hW : xCW l y_L_put w_L_put rm D cls0 (ty3 cA cR cL) [.ref xo, .int ((xs (i + 1))), .int ((xs (i + 2))), .int ((xs (i + 3))), .ref ou] w0 (some (.int (nI k))) Y1 mc ms)
    (hM : ∀ w1, Y1 w1 → (∃ cd, isMd cA h cd w1) ∧ ∃ (v2 : Int32) (Y2 : va_W → Prop), xC l y_X2_put w_X2_put ({ frames := 1, cells := 0, slots := 0, locals := 22 }) D cls0 (ty3 cA cR cL) [.ref h, .int ((xs (i + 1))), .int ((xs (i + 2))), .int ((xs (i + 3)))] w1 (some (.int v2)) Y2 0 0 ∧ ∀ w2, Y2 w2 → isMd cA h (nI k) w2 ∧ (k = 0 → ∃ fo : Nat → Int64, w2[7]? = some (ou, .inl (cL, 1, .inr (.inl fo))) ∧ fo 0 = v2.toInt64) ∧ Z w2)
    (hP : va_P D cls0 w0 H) (hD : va_D A w0) (hS : va_S A s.heap H locs) (hl : lv_has ls 8 [(0, .ref b), (1, .ref xo), (2, .ref h), (3, .ref ou), (4, .int (nI i))])
    (kk : ∀ (w2 : va_W) (H : Heap) (locs : List Loc) (ls : Array Slot), Z w2 → va_P D cls0 w2 H → va_D A w2 → va_S A s.heap H locs → lv_has ls 8 [(0, .ref b), (1, .ref xo), (2, .ref h), (3, .ref ou), (4, .int (nI i))] → W p l e room_1 s m #[Value.ref b] below meth c H locs (cells + mc) (slots + ms) Q (F0 m 1591 ls [])) : W p l e room_1 s m #[Value.ref b] below meth c H locs cells slots Q (F0 m 370 ls []) := by
  refine lv_aload_n hx hb d_L_law_370 rfl (lv_at hl 1 rfl) ?_
  refine lv_aload_n hx hb d_L_law_371 rfl (lv_at hl 0 rfl) ?_
  refine lv_iload hx hb d_L_law_372 (lv_at hl 4 rfl) ?_
  refine lv_iconst (v := nI 1) hx hb d_L_law_374 (by decide) ?_
  refine n_iadd hx hb d_L_law_375 ?_
  refine q_sld hx hb hX hbl hbA hS (j := i + 1) (by omega) hL d_L_law_376 ?_
  refine lv_aload_n hx hb d_L_law_377 rfl (lv_at hl 0 rfl) ?_
  refine lv_iload hx hb d_L_law_378 (lv_at hl 4 rfl) ?_
  refine lv_iconst (v := nI 2) hx hb d_L_law_380 (by decide) ?_
  refine n_iadd hx hb d_L_law_381 ?_
  refine q_sld hx hb hX hbl hbA hS (j := i + 2) (by omega) hL d_L_law_382 ?_
  refine lv_aload_n hx hb d_L_law_383 rfl (lv_at hl 0 rfl) ?_
  refine lv_iload hx hb d_L_law_384 (lv_at hl 4 rfl) ?_
  refine lv_iconst (v := nI 3) hx hb d_L_law_386 (by decide) ?_
  refine n_iadd hx hb d_L_law_387 ?_
  refine q_sld hx hb hX hbl hbA hS (j := i + 3) (by omega) hL d_L_law_388 ?_
  refine lv_aload_n hx hb d_L_law_389 rfl (lv_at hl 3 rfl) ?_
  refine x_call (st1 := [.int (nI k)]) (xw_runS (As := [.ref xo, .int ((xs (i + 1))), .int ((xs (i + 2))), .int ((xs (i + 3))), .ref ou]) (rest := []) (nL := 8) ⟨hx, hb, hml, hown, hts⟩ (hW _) (vx_cwSW 5 hts (gw_SC k_233 k_234 k_49 k_235) rfl hrm.1 hrm.2.1 (by decide +kernel) ⟨by show _ ≤ 11; omega, by show _ ≤ 396; omega⟩) hK hN hT hZ hP hD hS (x_sub hD hS hA) rfl hl.1 rfl (Nat.le_of_ble_eq_true rfl) d_L_law_390 ⟨hmc.1, hmc.2⟩) hS (x_sub hD hS hA) (x_sub hD hS hA) rfl (fun w1 H locs hY1 hP hD hS => ?_)
  obtain ⟨⟨cd, hmd1⟩, v2, Y2, hC2, hY2⟩ := hM w1 hY1
  obtain ⟨fs1, hfs1⟩ := hmd1.at
  refine lv_istore (lv' := [(5, .int (nI k)), (0, .ref b), (1, .ref xo), (2, .ref h), (3, .ref ou), (4, .int (nI i))]) hx hb d_L_law_393 hl (by decide) rfl (fun ls hl => ?_)
  refine lv_aload_n hx hb d_L_law_395 rfl (lv_at hl 3 rfl) ?_
  refine lv_aload_n hx hb d_L_law_396 rfl (lv_at hl 1 rfl) ?_
  refine lv_iload hx hb d_L_law_397 (lv_at hl 5 rfl) ?_
  refine lv_iconst (v := nI 1) hx hb d_L_law_399 (by decide) ?_
  refine n_iadd hx hb d_L_law_400 ?_
  refine q_sld hx hb hX hbl hbA hS (j := i + 1) (by omega) hL d_L_law_401 ?_
  refine lv_aload_n hx hb d_L_law_402 rfl (lv_at hl 1 rfl) ?_
  refine lv_iload hx hb d_L_law_403 (lv_at hl 5 rfl) ?_
  refine lv_iconst (v := nI 2) hx hb d_L_law_405 (by decide) ?_
  refine n_iadd hx hb d_L_law_406 ?_
  refine q_sld hx hb hX hbl hbA hS (j := i + 2) (by omega) hL d_L_law_407 ?_
  refine lv_aload_n hx hb d_L_law_408 rfl (lv_at hl 1 rfl) ?_
  refine lv_iload hx hb d_L_law_409 (lv_at hl 5 rfl) ?_
  refine lv_iconst (v := nI 3) hx hb d_L_law_411 (by decide) ?_
  refine n_iadd hx hb d_L_law_412 ?_
  refine q_sld hx hb hX hbl hbA hS (j := i + 3) (by omega) hL d_L_law_413 ?_
  refine x_call (st1 := [.int v2]) (x_runV (As := [.int ((xs (i + 1))), .int ((xs (i + 2))), .int ((xs (i + 3)))]) (rest := []) (nL := 8) ⟨hx, hb, hml, hown, hts⟩ (hC2 _) (cwV 3 hts (gw_V k_565 k_566 k_567 k_52 k_568) rfl rfl rfl (by decide +kernel) ⟨Nat.le_of_ble_eq_true rfl, Nat.le_of_ble_eq_true rfl⟩) hK hP hD 0 2 hfs1 rfl rfl hl.1 rfl (Nat.le_of_ble_eq_true rfl) d_L_law_414 ⟨hmc.1, hmc.2⟩) hS (x_sub hD hS hA) (x_sub hD hS hA) rfl (fun w2 H locs hY hP hD hS => ?_)
  obtain ⟨hmd2, hfo, hz2⟩ := hY2 w2 hY
  refine lv_istore (lv' := [(6, .int v2), (5, .int (nI k)), (0, .ref b), (1, .ref xo), (2, .ref h), (3, .ref ou), (4, .int (nI i))]) hx hb d_L_law_417 hl (by decide) rfl (fun ls hl => ?_)
  refine lv_aload_n hx hb d_L_law_419 rfl (lv_at hl 4 rfl) ?_
  refine q_thrown ⟨by decide, by decide, hmc.1, hmc.2⟩ hmd2 hx hb hml hown hts hK hP hD hl.1 d_L_law_420 ?_
  refine lv_iload hx hb d_L_law_423 (lv_at hl 1 rfl) ?_
  refine n_icmp_eq (tgt := 430) hx hb d_L_law_425 (by decide) (by omega) (by omega) (fun _ => ?_) (fun c9 => absurd rfl c9)
  refine lv_iload hx hb d_L_law_430 (lv_at hl 1 rfl) ?_
  refine n_if_ne (tgt := 447) hx hb d_L_law_432 (by decide) (by omega) (fun _ => ?_) (fun c0 => ?_)
  · refine lv_goto (tgt := 1591) hx hb d_L_law_447 (by decide) ?_
    exact kk w2 _ _ ls hz2 hP hD hS (lv_sub hl [2, 3, 4, 5, 6] rfl)
  obtain ⟨fo, hfo1, hfo2⟩ := hfo c0
  refine lv_aload_n hx hb d_L_law_435 rfl (lv_at hl 5 rfl) ?_
  refine lv_iconst (v := nI 0) hx hb d_L_law_436 (by decide) ?_
  refine va_lald hx hb hK hP 7 2 hfo1 rfl (i := nI 0) (vp_in_nI (by decide) (by decide)) d_L_law_437 ?_
  rw [show (nI 0).toNatClampNeg = 0 from by decide, hfo2]
  refine lv_iload hx hb d_L_law_438 (lv_at hl 0 rfl) ?_
  refine lv_i2l (v := v2.toInt64) hx hb d_L_law_440 rfl ?_
  refine W.lcmp hx hb d_L_law_441 ?_
  rw [lg_cmp_self]
  refine lv_if_eq (tgt := 447) hx hb d_L_law_442 (by decide) (fun _ => ?_) (fun c9 => absurd rfl c9)
  refine lv_goto (tgt := 1591) hx hb d_L_law_447 (by decide) ?_
  exact kk w2 _ _ ls hz2 hP hD hS (lv_sub hl [2, 3, 4, 5, 6] rfl)
set_option maxHeartbeats 800000 in
set_option maxRecDepth 100000 in
theorem law_limb {b L : Nat} {xs : Nat → Int32} (hx : p.tables.exec = Jvm.exec) (hb : c.code = code) (hml : c.maxLocals = 8) (hown : s.vm.findClass "LimbRowsLaw" = some m.cls) (hts : ∀ w ∈ gw, w.before #[Value.ref b] s = true) (hA : ∀ q : Nat, s.heap.size ≤ q → A q) (hK : va_K D cls0 (ty3 cA cR cL) s) (hN : xN s) (hT : xT s) (hZ : xZ A s s.heap) (hX : va_X b L xs s s.heap) (hbl : b < s.heap.size) (hbA : ¬ A b) (hL : L ≤ 2048) {i xo h ou k mc ms : Nat} {rm : Room} (hi : i + 4 ≤ L) (hk : k ≤ 2) {w0 : va_W} {Y1 Z : va_W → Prop} (hrm : rm.cells = mc ∧ rm.slots = ms ∧ rm.frames ≤ 10 ∧ rm.locals ≤ 300) (hmc : cells + mc ≤ 601024 ∧ slots + ms ≤ 7293033)
    (hW : xCW l y_L_limb w_L_limb rm D cls0 (ty3 cA cR cL) [.ref xo, .int ((xs (i + 1))), .int ((xs (i + 2))), .ref ou] w0 (some (.int (nI k))) Y1 mc ms)
    (hM : ∀ w1, Y1 w1 → (∃ cd, isMd cA h cd w1) ∧ ∃ (v2 : Int32) (Y2 : va_W → Prop), xC l y_X2_limb w_X2_limb ({ frames := 3, cells := 0, slots := 0, locals := 71 }) D cls0 (ty3 cA cR cL) [.ref h, .int ((xs (i + 1))), .int ((xs (i + 2)))] w1 (some (.int v2)) Y2 0 0 ∧ ∀ w2, Y2 w2 → isMd cA h (nI k) w2 ∧ (k = 0 → ∃ fo : Nat → Int64, w2[7]? = some (ou, .inl (cL, 1, .inr (.inl fo))) ∧ fo 0 = v2.toInt64) ∧ Z w2)
    (hP : va_P D cls0 w0 H) (hD : va_D A w0) (hS : va_S A s.heap H locs) (hl : lv_has ls 8 [(0, .ref b), (1, .ref xo), (2, .ref h), (3, .ref ou), (4, .int (nI i))])
    (kk : ∀ (w2 : va_W) (H : Heap) (locs : List Loc) (ls : Array Slot), Z w2 → va_P D cls0 w2 H → va_D A w2 → va_S A s.heap H locs → lv_has ls 8 [(0, .ref b), (1, .ref xo), (2, .ref h), (3, .ref ou), (4, .int (nI i))] → W p l e room_1 s m #[Value.ref b] below meth c H locs (cells + mc) (slots + ms) Q (F0 m 1591 ls [])) : W p l e room_1 s m #[Value.ref b] below meth c H locs cells slots Q (F0 m 450 ls []) := by
  refine lv_aload_n hx hb d_L_law_450 rfl (lv_at hl 1 rfl) ?_
  refine lv_aload_n hx hb d_L_law_451 rfl (lv_at hl 0 rfl) ?_
  refine lv_iload hx hb d_L_law_452 (lv_at hl 4 rfl) ?_
  refine lv_iconst (v := nI 1) hx hb d_L_law_454 (by decide) ?_
  refine n_iadd hx hb d_L_law_455 ?_
  refine q_sld hx hb hX hbl hbA hS (j := i + 1) (by omega) hL d_L_law_456 ?_
  refine lv_aload_n hx hb d_L_law_457 rfl (lv_at hl 0 rfl) ?_
  refine lv_iload hx hb d_L_law_458 (lv_at hl 4 rfl) ?_
  refine lv_iconst (v := nI 2) hx hb d_L_law_460 (by decide) ?_
  refine n_iadd hx hb d_L_law_461 ?_
  refine q_sld hx hb hX hbl hbA hS (j := i + 2) (by omega) hL d_L_law_462 ?_
  refine lv_aload_n hx hb d_L_law_463 rfl (lv_at hl 3 rfl) ?_
  refine x_call (st1 := [.int (nI k)]) (xw_runS (As := [.ref xo, .int ((xs (i + 1))), .int ((xs (i + 2))), .ref ou]) (rest := []) (nL := 8) ⟨hx, hb, hml, hown, hts⟩ (hW _) (vx_cwSW 4 hts (gw_SC k_241 k_242 k_49 k_243) rfl hrm.1 hrm.2.1 (by decide +kernel) ⟨by show _ ≤ 11; omega, by show _ ≤ 396; omega⟩) hK hN hT hZ hP hD hS (x_sub hD hS hA) rfl hl.1 rfl (Nat.le_of_ble_eq_true rfl) d_L_law_464 ⟨hmc.1, hmc.2⟩) hS (x_sub hD hS hA) (x_sub hD hS hA) rfl (fun w1 H locs hY1 hP hD hS => ?_)
  obtain ⟨⟨cd, hmd1⟩, v2, Y2, hC2, hY2⟩ := hM w1 hY1
  obtain ⟨fs1, hfs1⟩ := hmd1.at
  refine lv_istore (lv' := [(5, .int (nI k)), (0, .ref b), (1, .ref xo), (2, .ref h), (3, .ref ou), (4, .int (nI i))]) hx hb d_L_law_467 hl (by decide) rfl (fun ls hl => ?_)
  refine lv_aload_n hx hb d_L_law_469 rfl (lv_at hl 3 rfl) ?_
  refine lv_aload_n hx hb d_L_law_470 rfl (lv_at hl 1 rfl) ?_
  refine lv_iload hx hb d_L_law_471 (lv_at hl 5 rfl) ?_
  refine lv_iconst (v := nI 1) hx hb d_L_law_473 (by decide) ?_
  refine n_iadd hx hb d_L_law_474 ?_
  refine q_sld hx hb hX hbl hbA hS (j := i + 1) (by omega) hL d_L_law_475 ?_
  refine lv_aload_n hx hb d_L_law_476 rfl (lv_at hl 1 rfl) ?_
  refine lv_iload hx hb d_L_law_477 (lv_at hl 5 rfl) ?_
  refine lv_iconst (v := nI 2) hx hb d_L_law_479 (by decide) ?_
  refine n_iadd hx hb d_L_law_480 ?_
  refine q_sld hx hb hX hbl hbA hS (j := i + 2) (by omega) hL d_L_law_481 ?_
  refine x_call (st1 := [.int v2]) (x_runV (As := [.int ((xs (i + 1))), .int ((xs (i + 2)))]) (rest := []) (nL := 8) ⟨hx, hb, hml, hown, hts⟩ (hC2 _) (cwV 2 hts (gw_V k_573 k_574 k_575 k_52 k_576) rfl rfl rfl (by decide +kernel) ⟨Nat.le_of_ble_eq_true rfl, Nat.le_of_ble_eq_true rfl⟩) hK hP hD 0 2 hfs1 rfl rfl hl.1 rfl (Nat.le_of_ble_eq_true rfl) d_L_law_482 ⟨hmc.1, hmc.2⟩) hS (x_sub hD hS hA) (x_sub hD hS hA) rfl (fun w2 H locs hY hP hD hS => ?_)
  obtain ⟨hmd2, hfo, hz2⟩ := hY2 w2 hY
  refine lv_istore (lv' := [(6, .int v2), (5, .int (nI k)), (0, .ref b), (1, .ref xo), (2, .ref h), (3, .ref ou), (4, .int (nI i))]) hx hb d_L_law_485 hl (by decide) rfl (fun ls hl => ?_)
  refine lv_aload_n hx hb d_L_law_487 rfl (lv_at hl 4 rfl) ?_
  refine q_thrown ⟨by decide, by decide, hmc.1, hmc.2⟩ hmd2 hx hb hml hown hts hK hP hD hl.1 d_L_law_488 ?_
  refine lv_iload hx hb d_L_law_491 (lv_at hl 1 rfl) ?_
  refine n_icmp_eq (tgt := 498) hx hb d_L_law_493 (by decide) (by omega) (by omega) (fun _ => ?_) (fun c9 => absurd rfl c9)
  refine lv_iload hx hb d_L_law_498 (lv_at hl 1 rfl) ?_
  refine n_if_ne (tgt := 515) hx hb d_L_law_500 (by decide) (by omega) (fun _ => ?_) (fun c0 => ?_)
  · refine lv_goto (tgt := 1591) hx hb d_L_law_515 (by decide) ?_
    exact kk w2 _ _ ls hz2 hP hD hS (lv_sub hl [2, 3, 4, 5, 6] rfl)
  obtain ⟨fo, hfo1, hfo2⟩ := hfo c0
  refine lv_aload_n hx hb d_L_law_503 rfl (lv_at hl 5 rfl) ?_
  refine lv_iconst (v := nI 0) hx hb d_L_law_504 (by decide) ?_
  refine va_lald hx hb hK hP 7 2 hfo1 rfl (i := nI 0) (vp_in_nI (by decide) (by decide)) d_L_law_505 ?_
  rw [show (nI 0).toNatClampNeg = 0 from by decide, hfo2]
  refine lv_iload hx hb d_L_law_506 (lv_at hl 0 rfl) ?_
  refine lv_i2l (v := v2.toInt64) hx hb d_L_law_508 rfl ?_
  refine W.lcmp hx hb d_L_law_509 ?_
  rw [lg_cmp_self]
  refine lv_if_eq (tgt := 515) hx hb d_L_law_510 (by decide) (fun _ => ?_) (fun c9 => absurd rfl c9)
  refine lv_goto (tgt := 1591) hx hb d_L_law_515 (by decide) ?_
  exact kk w2 _ _ ls hz2 hP hD hS (lv_sub hl [2, 3, 4, 5, 6] rfl)
set_option maxHeartbeats 800000 in
set_option maxRecDepth 100000 in
theorem law_copy {b L : Nat} {xs : Nat → Int32} (hx : p.tables.exec = Jvm.exec) (hb : c.code = code) (hml : c.maxLocals = 8) (hown : s.vm.findClass "LimbRowsLaw" = some m.cls) (hts : ∀ w ∈ gw, w.before #[Value.ref b] s = true) (hA : ∀ q : Nat, s.heap.size ≤ q → A q) (hK : va_K D cls0 (ty3 cA cR cL) s) (hN : xN s) (hT : xT s) (hZ : xZ A s s.heap) (hX : va_X b L xs s s.heap) (hbl : b < s.heap.size) (hbA : ¬ A b) (hL : L ≤ 2048) {i xo h ou k mc ms : Nat} {rm : Room} (hi : i + 4 ≤ L) (hk : k ≤ 2) {w0 : va_W} {Y1 Z : va_W → Prop} (hrm : rm.cells = mc ∧ rm.slots = ms ∧ rm.frames ≤ 10 ∧ rm.locals ≤ 300) (hmc : cells + mc ≤ 601024 ∧ slots + ms ≤ 7293033)
    (hW : xCW l y_L_copy w_L_copy rm D cls0 (ty3 cA cR cL) [.ref xo, .int ((xs (i + 1))), .int ((xs (i + 2))), .ref ou] w0 (some (.int (nI k))) Y1 mc ms)
    (hM : ∀ w1, Y1 w1 → (∃ cd, isMd cA h cd w1) ∧ ∃ (v2 : Int32) (Y2 : va_W → Prop), xC l y_X2_copy w_X2_copy ({ frames := 4, cells := 0, slots := 0, locals := 93 }) D cls0 (ty3 cA cR cL) [.ref h, .int ((xs (i + 1))), .int ((xs (i + 2)))] w1 (some (.int v2)) Y2 0 0 ∧ ∀ w2, Y2 w2 → isMd cA h (nI k) w2 ∧ (k = 0 → ∃ fo : Nat → Int64, w2[7]? = some (ou, .inl (cL, 1, .inr (.inl fo))) ∧ fo 0 = (if v2 = 0 then 0 else 1)) ∧ Z w2)
    (hP : va_P D cls0 w0 H) (hD : va_D A w0) (hS : va_S A s.heap H locs) (hl : lv_has ls 8 [(0, .ref b), (1, .ref xo), (2, .ref h), (3, .ref ou), (4, .int (nI i))])
    (kk : ∀ (w2 : va_W) (H : Heap) (locs : List Loc) (ls : Array Slot), Z w2 → va_P D cls0 w2 H → va_D A w2 → va_S A s.heap H locs → lv_has ls 8 [(0, .ref b), (1, .ref xo), (2, .ref h), (3, .ref ou), (4, .int (nI i))] → W p l e room_1 s m #[Value.ref b] below meth c H locs (cells + mc) (slots + ms) Q (F0 m 1591 ls [])) : W p l e room_1 s m #[Value.ref b] below meth c H locs cells slots Q (F0 m 518 ls []) := by
  refine lv_aload_n hx hb d_L_law_518 rfl (lv_at hl 1 rfl) ?_
  refine lv_aload_n hx hb d_L_law_519 rfl (lv_at hl 0 rfl) ?_
  refine lv_iload hx hb d_L_law_520 (lv_at hl 4 rfl) ?_
  refine lv_iconst (v := nI 1) hx hb d_L_law_522 (by decide) ?_
  refine n_iadd hx hb d_L_law_523 ?_
  refine q_sld hx hb hX hbl hbA hS (j := i + 1) (by omega) hL d_L_law_524 ?_
  refine lv_aload_n hx hb d_L_law_525 rfl (lv_at hl 0 rfl) ?_
  refine lv_iload hx hb d_L_law_526 (lv_at hl 4 rfl) ?_
  refine lv_iconst (v := nI 2) hx hb d_L_law_528 (by decide) ?_
  refine n_iadd hx hb d_L_law_529 ?_
  refine q_sld hx hb hX hbl hbA hS (j := i + 2) (by omega) hL d_L_law_530 ?_
  refine lv_aload_n hx hb d_L_law_531 rfl (lv_at hl 3 rfl) ?_
  refine x_call (st1 := [.int (nI k)]) (xw_runS (As := [.ref xo, .int ((xs (i + 1))), .int ((xs (i + 2))), .ref ou]) (rest := []) (nL := 8) ⟨hx, hb, hml, hown, hts⟩ (hW _) (vx_cwSW 4 hts (gw_SC k_249 k_250 k_49 k_251) rfl hrm.1 hrm.2.1 (by decide +kernel) ⟨by show _ ≤ 11; omega, by show _ ≤ 396; omega⟩) hK hN hT hZ hP hD hS (x_sub hD hS hA) rfl hl.1 rfl (Nat.le_of_ble_eq_true rfl) d_L_law_532 ⟨hmc.1, hmc.2⟩) hS (x_sub hD hS hA) (x_sub hD hS hA) rfl (fun w1 H locs hY1 hP hD hS => ?_)
  obtain ⟨⟨cd, hmd1⟩, v2, Y2, hC2, hY2⟩ := hM w1 hY1
  obtain ⟨fs1, hfs1⟩ := hmd1.at
  refine lv_istore (lv' := [(5, .int (nI k)), (0, .ref b), (1, .ref xo), (2, .ref h), (3, .ref ou), (4, .int (nI i))]) hx hb d_L_law_535 hl (by decide) rfl (fun ls hl => ?_)
  refine lv_aload_n hx hb d_L_law_537 rfl (lv_at hl 3 rfl) ?_
  refine lv_aload_n hx hb d_L_law_538 rfl (lv_at hl 1 rfl) ?_
  refine lv_iload hx hb d_L_law_539 (lv_at hl 5 rfl) ?_
  refine lv_iconst (v := nI 1) hx hb d_L_law_541 (by decide) ?_
  refine n_iadd hx hb d_L_law_542 ?_
  refine q_sld hx hb hX hbl hbA hS (j := i + 1) (by omega) hL d_L_law_543 ?_
  refine lv_aload_n hx hb d_L_law_544 rfl (lv_at hl 1 rfl) ?_
  refine lv_iload hx hb d_L_law_545 (lv_at hl 5 rfl) ?_
  refine lv_iconst (v := nI 2) hx hb d_L_law_547 (by decide) ?_
  refine n_iadd hx hb d_L_law_548 ?_
  refine q_sld hx hb hX hbl hbA hS (j := i + 2) (by omega) hL d_L_law_549 ?_
  refine x_call (st1 := [.int v2]) (x_runV (As := [.int ((xs (i + 1))), .int ((xs (i + 2)))]) (rest := []) (nL := 8) ⟨hx, hb, hml, hown, hts⟩ (hC2 _) (cwV 2 hts (gw_V k_581 k_582 k_583 k_52 k_584) rfl rfl rfl (by decide +kernel) ⟨Nat.le_of_ble_eq_true rfl, Nat.le_of_ble_eq_true rfl⟩) hK hP hD 0 2 hfs1 rfl rfl hl.1 rfl (Nat.le_of_ble_eq_true rfl) d_L_law_550 ⟨hmc.1, hmc.2⟩) hS (x_sub hD hS hA) (x_sub hD hS hA) rfl (fun w2 H locs hY hP hD hS => ?_)
  obtain ⟨hmd2, hfo, hz2⟩ := hY2 w2 hY
  refine lv_istore (lv' := [(6, .int v2), (5, .int (nI k)), (0, .ref b), (1, .ref xo), (2, .ref h), (3, .ref ou), (4, .int (nI i))]) hx hb d_L_law_553 hl (by decide) rfl (fun ls hl => ?_)
  refine lv_aload_n hx hb d_L_law_555 rfl (lv_at hl 4 rfl) ?_
  refine q_thrown ⟨by decide, by decide, hmc.1, hmc.2⟩ hmd2 hx hb hml hown hts hK hP hD hl.1 d_L_law_556 ?_
  refine lv_iload hx hb d_L_law_559 (lv_at hl 1 rfl) ?_
  refine n_icmp_eq (tgt := 566) hx hb d_L_law_561 (by decide) (by omega) (by omega) (fun _ => ?_) (fun c9 => absurd rfl c9)
  refine lv_iload hx hb d_L_law_566 (lv_at hl 1 rfl) ?_
  refine n_if_ne (tgt := 590) hx hb d_L_law_568 (by decide) (by omega) (fun _ => ?_) (fun c0 => ?_)
  · refine lv_goto (tgt := 1591) hx hb d_L_law_590 (by decide) ?_
    exact kk w2 _ _ ls hz2 hP hD hS (lv_sub hl [2, 3, 4, 5, 6] rfl)
  obtain ⟨fo, hfo1, hfo2⟩ := hfo c0
  refine lv_aload_n hx hb d_L_law_571 rfl (lv_at hl 5 rfl) ?_
  refine lv_iconst (v := nI 0) hx hb d_L_law_572 (by decide) ?_
  refine va_lald hx hb hK hP 7 2 hfo1 rfl (i := nI 0) (vp_in_nI (by decide) (by decide)) d_L_law_573 ?_
  rw [show (nI 0).toNatClampNeg = 0 from by decide, hfo2]
  refine lv_iload hx hb d_L_law_574 (lv_at hl 0 rfl) ?_
  refine lv_if_eq (tgt := 583) hx hb d_L_law_576 (by decide) (fun c_1 => ?_) (fun c_1 => ?_)
  · refine lv_lconst (v := 0) hx hb d_L_law_583 (by decide) ?_
    refine W.lcmp hx hb d_L_law_584 ?_
    rw [if_pos c_1, lg_cmp_self]
    refine lv_if_eq (tgt := 590) hx hb d_L_law_585 (by decide) (fun _ => ?_) (fun c9 => absurd rfl c9)
    refine lv_goto (tgt := 1591) hx hb d_L_law_590 (by decide) ?_
    exact kk w2 _ _ ls hz2 hP hD hS (lv_sub hl [2, 3, 4, 5, 6] rfl)
  · refine lv_lconst (v := 1) hx hb d_L_law_579 (by decide) ?_
    refine lv_goto (tgt := 584) hx hb d_L_law_580 (by decide) ?_
    refine W.lcmp hx hb d_L_law_584 ?_
    rw [if_neg c_1, lg_cmp_self]
    refine lv_if_eq (tgt := 590) hx hb d_L_law_585 (by decide) (fun _ => ?_) (fun c9 => absurd rfl c9)
    refine lv_goto (tgt := 1591) hx hb d_L_law_590 (by decide) ?_
    exact kk w2 _ _ ls hz2 hP hD hS (lv_sub hl [2, 3, 4, 5, 6] rfl)
set_option maxHeartbeats 800000 in
set_option maxRecDepth 100000 in
theorem law_add {b L : Nat} {xs : Nat → Int32} (hx : p.tables.exec = Jvm.exec) (hb : c.code = code) (hml : c.maxLocals = 8) (hown : s.vm.findClass "LimbRowsLaw" = some m.cls) (hts : ∀ w ∈ gw, w.before #[Value.ref b] s = true) (hA : ∀ q : Nat, s.heap.size ≤ q → A q) (hK : va_K D cls0 (ty3 cA cR cL) s) (hN : xN s) (hT : xT s) (hZ : xZ A s s.heap) (hX : va_X b L xs s s.heap) (hbl : b < s.heap.size) (hbA : ¬ A b) (hL : L ≤ 2048) {i xo h ou k mc ms : Nat} {rm : Room} (hi : i + 4 ≤ L) (hk : k ≤ 2) {w0 : va_W} {Y1 Z : va_W → Prop} (hrm : rm.cells = mc ∧ rm.slots = ms ∧ rm.frames ≤ 10 ∧ rm.locals ≤ 300) (hmc : cells + mc ≤ 601024 ∧ slots + ms ≤ 7293033)
    (hW : xCW l y_L_add w_L_add rm D cls0 (ty3 cA cR cL) [.ref xo, .int ((xs (i + 1))), .int ((xs (i + 2))), .ref ou] w0 (some (.int (nI k))) Y1 mc ms)
    (hM : ∀ w1, Y1 w1 → (∃ cd, isMd cA h cd w1) ∧ ∃ (v2 : Int32) (Y2 : va_W → Prop), xC l y_X2_add w_X2_add ({ frames := 6, cells := 0, slots := 0, locals := 138 }) D cls0 (ty3 cA cR cL) [.ref h, .int ((xs (i + 1))), .int ((xs (i + 2)))] w1 (some (.int v2)) Y2 0 0 ∧ ∀ w2, Y2 w2 → isMd cA h (nI k) w2 ∧ (k = 0 → ∃ fo : Nat → Int64, w2[7]? = some (ou, .inl (cL, 1, .inr (.inl fo))) ∧ fo 0 = v2.toInt64) ∧ Z w2)
    (hP : va_P D cls0 w0 H) (hD : va_D A w0) (hS : va_S A s.heap H locs) (hl : lv_has ls 8 [(0, .ref b), (1, .ref xo), (2, .ref h), (3, .ref ou), (4, .int (nI i))])
    (kk : ∀ (w2 : va_W) (H : Heap) (locs : List Loc) (ls : Array Slot), Z w2 → va_P D cls0 w2 H → va_D A w2 → va_S A s.heap H locs → lv_has ls 8 [(0, .ref b), (1, .ref xo), (2, .ref h), (3, .ref ou), (4, .int (nI i))] → W p l e room_1 s m #[Value.ref b] below meth c H locs (cells + mc) (slots + ms) Q (F0 m 1591 ls [])) : W p l e room_1 s m #[Value.ref b] below meth c H locs cells slots Q (F0 m 593 ls []) := by
  refine lv_aload_n hx hb d_L_law_593 rfl (lv_at hl 1 rfl) ?_
  refine lv_aload_n hx hb d_L_law_594 rfl (lv_at hl 0 rfl) ?_
  refine lv_iload hx hb d_L_law_595 (lv_at hl 4 rfl) ?_
  refine lv_iconst (v := nI 1) hx hb d_L_law_597 (by decide) ?_
  refine n_iadd hx hb d_L_law_598 ?_
  refine q_sld hx hb hX hbl hbA hS (j := i + 1) (by omega) hL d_L_law_599 ?_
  refine lv_aload_n hx hb d_L_law_600 rfl (lv_at hl 0 rfl) ?_
  refine lv_iload hx hb d_L_law_601 (lv_at hl 4 rfl) ?_
  refine lv_iconst (v := nI 2) hx hb d_L_law_603 (by decide) ?_
  refine n_iadd hx hb d_L_law_604 ?_
  refine q_sld hx hb hX hbl hbA hS (j := i + 2) (by omega) hL d_L_law_605 ?_
  refine lv_aload_n hx hb d_L_law_606 rfl (lv_at hl 3 rfl) ?_
  refine x_call (st1 := [.int (nI k)]) (xw_runS (As := [.ref xo, .int ((xs (i + 1))), .int ((xs (i + 2))), .ref ou]) (rest := []) (nL := 8) ⟨hx, hb, hml, hown, hts⟩ (hW _) (vx_cwSW 4 hts (gw_SC k_260 k_261 k_49 k_262) rfl hrm.1 hrm.2.1 (by decide +kernel) ⟨by show _ ≤ 11; omega, by show _ ≤ 396; omega⟩) hK hN hT hZ hP hD hS (x_sub hD hS hA) rfl hl.1 rfl (Nat.le_of_ble_eq_true rfl) d_L_law_607 ⟨hmc.1, hmc.2⟩) hS (x_sub hD hS hA) (x_sub hD hS hA) rfl (fun w1 H locs hY1 hP hD hS => ?_)
  obtain ⟨⟨cd, hmd1⟩, v2, Y2, hC2, hY2⟩ := hM w1 hY1
  obtain ⟨fs1, hfs1⟩ := hmd1.at
  refine lv_istore (lv' := [(5, .int (nI k)), (0, .ref b), (1, .ref xo), (2, .ref h), (3, .ref ou), (4, .int (nI i))]) hx hb d_L_law_610 hl (by decide) rfl (fun ls hl => ?_)
  refine lv_aload_n hx hb d_L_law_612 rfl (lv_at hl 3 rfl) ?_
  refine lv_aload_n hx hb d_L_law_613 rfl (lv_at hl 1 rfl) ?_
  refine lv_iload hx hb d_L_law_614 (lv_at hl 5 rfl) ?_
  refine lv_iconst (v := nI 1) hx hb d_L_law_616 (by decide) ?_
  refine n_iadd hx hb d_L_law_617 ?_
  refine q_sld hx hb hX hbl hbA hS (j := i + 1) (by omega) hL d_L_law_618 ?_
  refine lv_aload_n hx hb d_L_law_619 rfl (lv_at hl 1 rfl) ?_
  refine lv_iload hx hb d_L_law_620 (lv_at hl 5 rfl) ?_
  refine lv_iconst (v := nI 2) hx hb d_L_law_622 (by decide) ?_
  refine n_iadd hx hb d_L_law_623 ?_
  refine q_sld hx hb hX hbl hbA hS (j := i + 2) (by omega) hL d_L_law_624 ?_
  refine x_call (st1 := [.int v2]) (x_runV (As := [.int ((xs (i + 1))), .int ((xs (i + 2)))]) (rest := []) (nL := 8) ⟨hx, hb, hml, hown, hts⟩ (hC2 _) (cwV 2 hts (gw_V k_585 k_586 k_587 k_52 k_588) rfl rfl rfl (by decide +kernel) ⟨Nat.le_of_ble_eq_true rfl, Nat.le_of_ble_eq_true rfl⟩) hK hP hD 0 2 hfs1 rfl rfl hl.1 rfl (Nat.le_of_ble_eq_true rfl) d_L_law_625 ⟨hmc.1, hmc.2⟩) hS (x_sub hD hS hA) (x_sub hD hS hA) rfl (fun w2 H locs hY hP hD hS => ?_)
  obtain ⟨hmd2, hfo, hz2⟩ := hY2 w2 hY
  refine lv_istore (lv' := [(6, .int v2), (5, .int (nI k)), (0, .ref b), (1, .ref xo), (2, .ref h), (3, .ref ou), (4, .int (nI i))]) hx hb d_L_law_628 hl (by decide) rfl (fun ls hl => ?_)
  refine lv_aload_n hx hb d_L_law_630 rfl (lv_at hl 4 rfl) ?_
  refine q_thrown ⟨by decide, by decide, hmc.1, hmc.2⟩ hmd2 hx hb hml hown hts hK hP hD hl.1 d_L_law_631 ?_
  refine lv_iload hx hb d_L_law_634 (lv_at hl 1 rfl) ?_
  refine n_icmp_eq (tgt := 641) hx hb d_L_law_636 (by decide) (by omega) (by omega) (fun _ => ?_) (fun c9 => absurd rfl c9)
  refine lv_iload hx hb d_L_law_641 (lv_at hl 1 rfl) ?_
  refine n_if_ne (tgt := 658) hx hb d_L_law_643 (by decide) (by omega) (fun _ => ?_) (fun c0 => ?_)
  · refine lv_goto (tgt := 1591) hx hb d_L_law_658 (by decide) ?_
    exact kk w2 _ _ ls hz2 hP hD hS (lv_sub hl [2, 3, 4, 5, 6] rfl)
  obtain ⟨fo, hfo1, hfo2⟩ := hfo c0
  refine lv_aload_n hx hb d_L_law_646 rfl (lv_at hl 5 rfl) ?_
  refine lv_iconst (v := nI 0) hx hb d_L_law_647 (by decide) ?_
  refine va_lald hx hb hK hP 7 2 hfo1 rfl (i := nI 0) (vp_in_nI (by decide) (by decide)) d_L_law_648 ?_
  rw [show (nI 0).toNatClampNeg = 0 from by decide, hfo2]
  refine lv_iload hx hb d_L_law_649 (lv_at hl 0 rfl) ?_
  refine lv_i2l (v := v2.toInt64) hx hb d_L_law_651 rfl ?_
  refine W.lcmp hx hb d_L_law_652 ?_
  rw [lg_cmp_self]
  refine lv_if_eq (tgt := 658) hx hb d_L_law_653 (by decide) (fun _ => ?_) (fun c9 => absurd rfl c9)
  refine lv_goto (tgt := 1591) hx hb d_L_law_658 (by decide) ?_
  exact kk w2 _ _ ls hz2 hP hD hS (lv_sub hl [2, 3, 4, 5, 6] rfl)
set_option maxHeartbeats 800000 in
set_option maxRecDepth 100000 in
theorem law_subtract {b L : Nat} {xs : Nat → Int32} (hx : p.tables.exec = Jvm.exec) (hb : c.code = code) (hml : c.maxLocals = 8) (hown : s.vm.findClass "LimbRowsLaw" = some m.cls) (hts : ∀ w ∈ gw, w.before #[Value.ref b] s = true) (hA : ∀ q : Nat, s.heap.size ≤ q → A q) (hK : va_K D cls0 (ty3 cA cR cL) s) (hN : xN s) (hT : xT s) (hZ : xZ A s s.heap) (hX : va_X b L xs s s.heap) (hbl : b < s.heap.size) (hbA : ¬ A b) (hL : L ≤ 2048) {i xo h ou k mc ms : Nat} {rm : Room} (hi : i + 4 ≤ L) (hk : k ≤ 2) {w0 : va_W} {Y1 Z : va_W → Prop} (hrm : rm.cells = mc ∧ rm.slots = ms ∧ rm.frames ≤ 10 ∧ rm.locals ≤ 300) (hmc : cells + mc ≤ 601024 ∧ slots + ms ≤ 7293033)
    (hW : xCW l y_L_subtract w_L_subtract rm D cls0 (ty3 cA cR cL) [.ref xo, .int ((xs (i + 1))), .int ((xs (i + 2))), .ref ou] w0 (some (.int (nI k))) Y1 mc ms)
    (hM : ∀ w1, Y1 w1 → (∃ cd, isMd cA h cd w1) ∧ ∃ (v2 : Int32) (Y2 : va_W → Prop), xC l y_X2_subtract w_X2_subtract ({ frames := 6, cells := 0, slots := 0, locals := 138 }) D cls0 (ty3 cA cR cL) [.ref h, .int ((xs (i + 1))), .int ((xs (i + 2)))] w1 (some (.int v2)) Y2 0 0 ∧ ∀ w2, Y2 w2 → isMd cA h (nI k) w2 ∧ (k = 0 → ∃ fo : Nat → Int64, w2[7]? = some (ou, .inl (cL, 1, .inr (.inl fo))) ∧ fo 0 = v2.toInt64) ∧ Z w2)
    (hP : va_P D cls0 w0 H) (hD : va_D A w0) (hS : va_S A s.heap H locs) (hl : lv_has ls 8 [(0, .ref b), (1, .ref xo), (2, .ref h), (3, .ref ou), (4, .int (nI i))])
    (kk : ∀ (w2 : va_W) (H : Heap) (locs : List Loc) (ls : Array Slot), Z w2 → va_P D cls0 w2 H → va_D A w2 → va_S A s.heap H locs → lv_has ls 8 [(0, .ref b), (1, .ref xo), (2, .ref h), (3, .ref ou), (4, .int (nI i))] → W p l e room_1 s m #[Value.ref b] below meth c H locs (cells + mc) (slots + ms) Q (F0 m 1591 ls [])) : W p l e room_1 s m #[Value.ref b] below meth c H locs cells slots Q (F0 m 661 ls []) := by
  refine lv_aload_n hx hb d_L_law_661 rfl (lv_at hl 1 rfl) ?_
  refine lv_aload_n hx hb d_L_law_662 rfl (lv_at hl 0 rfl) ?_
  refine lv_iload hx hb d_L_law_663 (lv_at hl 4 rfl) ?_
  refine lv_iconst (v := nI 1) hx hb d_L_law_665 (by decide) ?_
  refine n_iadd hx hb d_L_law_666 ?_
  refine q_sld hx hb hX hbl hbA hS (j := i + 1) (by omega) hL d_L_law_667 ?_
  refine lv_aload_n hx hb d_L_law_668 rfl (lv_at hl 0 rfl) ?_
  refine lv_iload hx hb d_L_law_669 (lv_at hl 4 rfl) ?_
  refine lv_iconst (v := nI 2) hx hb d_L_law_671 (by decide) ?_
  refine n_iadd hx hb d_L_law_672 ?_
  refine q_sld hx hb hX hbl hbA hS (j := i + 2) (by omega) hL d_L_law_673 ?_
  refine lv_aload_n hx hb d_L_law_674 rfl (lv_at hl 3 rfl) ?_
  refine x_call (st1 := [.int (nI k)]) (xw_runS (As := [.ref xo, .int ((xs (i + 1))), .int ((xs (i + 2))), .ref ou]) (rest := []) (nL := 8) ⟨hx, hb, hml, hown, hts⟩ (hW _) (vx_cwSW 4 hts (gw_SC k_287 k_288 k_49 k_289) rfl hrm.1 hrm.2.1 (by decide +kernel) ⟨by show _ ≤ 11; omega, by show _ ≤ 396; omega⟩) hK hN hT hZ hP hD hS (x_sub hD hS hA) rfl hl.1 rfl (Nat.le_of_ble_eq_true rfl) d_L_law_675 ⟨hmc.1, hmc.2⟩) hS (x_sub hD hS hA) (x_sub hD hS hA) rfl (fun w1 H locs hY1 hP hD hS => ?_)
  obtain ⟨⟨cd, hmd1⟩, v2, Y2, hC2, hY2⟩ := hM w1 hY1
  obtain ⟨fs1, hfs1⟩ := hmd1.at
  refine lv_istore (lv' := [(5, .int (nI k)), (0, .ref b), (1, .ref xo), (2, .ref h), (3, .ref ou), (4, .int (nI i))]) hx hb d_L_law_678 hl (by decide) rfl (fun ls hl => ?_)
  refine lv_aload_n hx hb d_L_law_680 rfl (lv_at hl 3 rfl) ?_
  refine lv_aload_n hx hb d_L_law_681 rfl (lv_at hl 1 rfl) ?_
  refine lv_iload hx hb d_L_law_682 (lv_at hl 5 rfl) ?_
  refine lv_iconst (v := nI 1) hx hb d_L_law_684 (by decide) ?_
  refine n_iadd hx hb d_L_law_685 ?_
  refine q_sld hx hb hX hbl hbA hS (j := i + 1) (by omega) hL d_L_law_686 ?_
  refine lv_aload_n hx hb d_L_law_687 rfl (lv_at hl 1 rfl) ?_
  refine lv_iload hx hb d_L_law_688 (lv_at hl 5 rfl) ?_
  refine lv_iconst (v := nI 2) hx hb d_L_law_690 (by decide) ?_
  refine n_iadd hx hb d_L_law_691 ?_
  refine q_sld hx hb hX hbl hbA hS (j := i + 2) (by omega) hL d_L_law_692 ?_
  refine x_call (st1 := [.int v2]) (x_runV (As := [.int ((xs (i + 1))), .int ((xs (i + 2)))]) (rest := []) (nL := 8) ⟨hx, hb, hml, hown, hts⟩ (hC2 _) (cwV 2 hts (gw_V k_605 k_606 k_607 k_52 k_608) rfl rfl rfl (by decide +kernel) ⟨Nat.le_of_ble_eq_true rfl, Nat.le_of_ble_eq_true rfl⟩) hK hP hD 0 2 hfs1 rfl rfl hl.1 rfl (Nat.le_of_ble_eq_true rfl) d_L_law_693 ⟨hmc.1, hmc.2⟩) hS (x_sub hD hS hA) (x_sub hD hS hA) rfl (fun w2 H locs hY hP hD hS => ?_)
  obtain ⟨hmd2, hfo, hz2⟩ := hY2 w2 hY
  refine lv_istore (lv' := [(6, .int v2), (5, .int (nI k)), (0, .ref b), (1, .ref xo), (2, .ref h), (3, .ref ou), (4, .int (nI i))]) hx hb d_L_law_696 hl (by decide) rfl (fun ls hl => ?_)
  refine lv_aload_n hx hb d_L_law_698 rfl (lv_at hl 4 rfl) ?_
  refine q_thrown ⟨by decide, by decide, hmc.1, hmc.2⟩ hmd2 hx hb hml hown hts hK hP hD hl.1 d_L_law_699 ?_
  refine lv_iload hx hb d_L_law_702 (lv_at hl 1 rfl) ?_
  refine n_icmp_eq (tgt := 709) hx hb d_L_law_704 (by decide) (by omega) (by omega) (fun _ => ?_) (fun c9 => absurd rfl c9)
  refine lv_iload hx hb d_L_law_709 (lv_at hl 1 rfl) ?_
  refine n_if_ne (tgt := 726) hx hb d_L_law_711 (by decide) (by omega) (fun _ => ?_) (fun c0 => ?_)
  · refine lv_goto (tgt := 1591) hx hb d_L_law_726 (by decide) ?_
    exact kk w2 _ _ ls hz2 hP hD hS (lv_sub hl [2, 3, 4, 5, 6] rfl)
  obtain ⟨fo, hfo1, hfo2⟩ := hfo c0
  refine lv_aload_n hx hb d_L_law_714 rfl (lv_at hl 5 rfl) ?_
  refine lv_iconst (v := nI 0) hx hb d_L_law_715 (by decide) ?_
  refine va_lald hx hb hK hP 7 2 hfo1 rfl (i := nI 0) (vp_in_nI (by decide) (by decide)) d_L_law_716 ?_
  rw [show (nI 0).toNatClampNeg = 0 from by decide, hfo2]
  refine lv_iload hx hb d_L_law_717 (lv_at hl 0 rfl) ?_
  refine lv_i2l (v := v2.toInt64) hx hb d_L_law_719 rfl ?_
  refine W.lcmp hx hb d_L_law_720 ?_
  rw [lg_cmp_self]
  refine lv_if_eq (tgt := 726) hx hb d_L_law_721 (by decide) (fun _ => ?_) (fun c9 => absurd rfl c9)
  refine lv_goto (tgt := 1591) hx hb d_L_law_726 (by decide) ?_
  exact kk w2 _ _ ls hz2 hP hD hS (lv_sub hl [2, 3, 4, 5, 6] rfl)
set_option maxHeartbeats 800000 in
set_option maxRecDepth 100000 in
theorem law_addProduct {b L : Nat} {xs : Nat → Int32} (hx : p.tables.exec = Jvm.exec) (hb : c.code = code) (hml : c.maxLocals = 8) (hown : s.vm.findClass "LimbRowsLaw" = some m.cls) (hts : ∀ w ∈ gw, w.before #[Value.ref b] s = true) (hA : ∀ q : Nat, s.heap.size ≤ q → A q) (hK : va_K D cls0 (ty3 cA cR cL) s) (hN : xN s) (hT : xT s) (hZ : xZ A s s.heap) (hX : va_X b L xs s s.heap) (hbl : b < s.heap.size) (hbA : ¬ A b) (hL : L ≤ 2048) {i xo h ou k mc ms : Nat} {rm : Room} (hi : i + 4 ≤ L) (hk : k ≤ 2) {w0 : va_W} {Y1 Z : va_W → Prop} (hrm : rm.cells = mc ∧ rm.slots = ms ∧ rm.frames ≤ 10 ∧ rm.locals ≤ 300) (hmc : cells + mc ≤ 601024 ∧ slots + ms ≤ 7293033)
    (hW : xCW l y_L_addProduct w_L_addProduct rm D cls0 (ty3 cA cR cL) [.ref xo, .int ((xs (i + 1))), .int ((xs (i + 2))), .int ((xs (i + 3))), .ref ou] w0 (some (.int (nI k))) Y1 mc ms)
    (hM : ∀ w1, Y1 w1 → (∃ cd, isMd cA h cd w1) ∧ ∃ (v2 : Int32) (Y2 : va_W → Prop), xC l y_X2_addProduct w_X2_addProduct ({ frames := 6, cells := 0, slots := 0, locals := 139 }) D cls0 (ty3 cA cR cL) [.ref h, .int ((xs (i + 1))), .int ((xs (i + 2))), .int ((xs (i + 3)))] w1 (some (.int v2)) Y2 0 0 ∧ ∀ w2, Y2 w2 → isMd cA h (nI k) w2 ∧ (k = 0 → ∃ fo : Nat → Int64, w2[7]? = some (ou, .inl (cL, 1, .inr (.inl fo))) ∧ fo 0 = v2.toInt64) ∧ Z w2)
    (hP : va_P D cls0 w0 H) (hD : va_D A w0) (hS : va_S A s.heap H locs) (hl : lv_has ls 8 [(0, .ref b), (1, .ref xo), (2, .ref h), (3, .ref ou), (4, .int (nI i))])
    (kk : ∀ (w2 : va_W) (H : Heap) (locs : List Loc) (ls : Array Slot), Z w2 → va_P D cls0 w2 H → va_D A w2 → va_S A s.heap H locs → lv_has ls 8 [(0, .ref b), (1, .ref xo), (2, .ref h), (3, .ref ou), (4, .int (nI i))] → W p l e room_1 s m #[Value.ref b] below meth c H locs (cells + mc) (slots + ms) Q (F0 m 1591 ls [])) : W p l e room_1 s m #[Value.ref b] below meth c H locs cells slots Q (F0 m 729 ls []) := by
  refine lv_aload_n hx hb d_L_law_729 rfl (lv_at hl 1 rfl) ?_
  refine lv_aload_n hx hb d_L_law_730 rfl (lv_at hl 0 rfl) ?_
  refine lv_iload hx hb d_L_law_731 (lv_at hl 4 rfl) ?_
  refine lv_iconst (v := nI 1) hx hb d_L_law_733 (by decide) ?_
  refine n_iadd hx hb d_L_law_734 ?_
  refine q_sld hx hb hX hbl hbA hS (j := i + 1) (by omega) hL d_L_law_735 ?_
  refine lv_aload_n hx hb d_L_law_736 rfl (lv_at hl 0 rfl) ?_
  refine lv_iload hx hb d_L_law_737 (lv_at hl 4 rfl) ?_
  refine lv_iconst (v := nI 2) hx hb d_L_law_739 (by decide) ?_
  refine n_iadd hx hb d_L_law_740 ?_
  refine q_sld hx hb hX hbl hbA hS (j := i + 2) (by omega) hL d_L_law_741 ?_
  refine lv_aload_n hx hb d_L_law_742 rfl (lv_at hl 0 rfl) ?_
  refine lv_iload hx hb d_L_law_743 (lv_at hl 4 rfl) ?_
  refine lv_iconst (v := nI 3) hx hb d_L_law_745 (by decide) ?_
  refine n_iadd hx hb d_L_law_746 ?_
  refine q_sld hx hb hX hbl hbA hS (j := i + 3) (by omega) hL d_L_law_747 ?_
  refine lv_aload_n hx hb d_L_law_748 rfl (lv_at hl 3 rfl) ?_
  refine x_call (st1 := [.int (nI k)]) (xw_runS (As := [.ref xo, .int ((xs (i + 1))), .int ((xs (i + 2))), .int ((xs (i + 3))), .ref ou]) (rest := []) (nL := 8) ⟨hx, hb, hml, hown, hts⟩ (hW _) (vx_cwSW 5 hts (gw_SC k_298 k_299 k_49 k_300) rfl hrm.1 hrm.2.1 (by decide +kernel) ⟨by show _ ≤ 11; omega, by show _ ≤ 396; omega⟩) hK hN hT hZ hP hD hS (x_sub hD hS hA) rfl hl.1 rfl (Nat.le_of_ble_eq_true rfl) d_L_law_749 ⟨hmc.1, hmc.2⟩) hS (x_sub hD hS hA) (x_sub hD hS hA) rfl (fun w1 H locs hY1 hP hD hS => ?_)
  obtain ⟨⟨cd, hmd1⟩, v2, Y2, hC2, hY2⟩ := hM w1 hY1
  obtain ⟨fs1, hfs1⟩ := hmd1.at
  refine lv_istore (lv' := [(5, .int (nI k)), (0, .ref b), (1, .ref xo), (2, .ref h), (3, .ref ou), (4, .int (nI i))]) hx hb d_L_law_752 hl (by decide) rfl (fun ls hl => ?_)
  refine lv_aload_n hx hb d_L_law_754 rfl (lv_at hl 3 rfl) ?_
  refine lv_aload_n hx hb d_L_law_755 rfl (lv_at hl 1 rfl) ?_
  refine lv_iload hx hb d_L_law_756 (lv_at hl 5 rfl) ?_
  refine lv_iconst (v := nI 1) hx hb d_L_law_758 (by decide) ?_
  refine n_iadd hx hb d_L_law_759 ?_
  refine q_sld hx hb hX hbl hbA hS (j := i + 1) (by omega) hL d_L_law_760 ?_
  refine lv_aload_n hx hb d_L_law_761 rfl (lv_at hl 1 rfl) ?_
  refine lv_iload hx hb d_L_law_762 (lv_at hl 5 rfl) ?_
  refine lv_iconst (v := nI 2) hx hb d_L_law_764 (by decide) ?_
  refine n_iadd hx hb d_L_law_765 ?_
  refine q_sld hx hb hX hbl hbA hS (j := i + 2) (by omega) hL d_L_law_766 ?_
  refine lv_aload_n hx hb d_L_law_767 rfl (lv_at hl 1 rfl) ?_
  refine lv_iload hx hb d_L_law_768 (lv_at hl 5 rfl) ?_
  refine lv_iconst (v := nI 3) hx hb d_L_law_770 (by decide) ?_
  refine n_iadd hx hb d_L_law_771 ?_
  refine q_sld hx hb hX hbl hbA hS (j := i + 3) (by omega) hL d_L_law_772 ?_
  refine x_call (st1 := [.int v2]) (x_runV (As := [.int ((xs (i + 1))), .int ((xs (i + 2))), .int ((xs (i + 3)))]) (rest := []) (nL := 8) ⟨hx, hb, hml, hown, hts⟩ (hC2 _) (cwV 3 hts (gw_V k_609 k_610 k_611 k_52 k_612) rfl rfl rfl (by decide +kernel) ⟨Nat.le_of_ble_eq_true rfl, Nat.le_of_ble_eq_true rfl⟩) hK hP hD 0 2 hfs1 rfl rfl hl.1 rfl (Nat.le_of_ble_eq_true rfl) d_L_law_773 ⟨hmc.1, hmc.2⟩) hS (x_sub hD hS hA) (x_sub hD hS hA) rfl (fun w2 H locs hY hP hD hS => ?_)
  obtain ⟨hmd2, hfo, hz2⟩ := hY2 w2 hY
  refine lv_istore (lv' := [(6, .int v2), (5, .int (nI k)), (0, .ref b), (1, .ref xo), (2, .ref h), (3, .ref ou), (4, .int (nI i))]) hx hb d_L_law_776 hl (by decide) rfl (fun ls hl => ?_)
  refine lv_aload_n hx hb d_L_law_778 rfl (lv_at hl 4 rfl) ?_
  refine q_thrown ⟨by decide, by decide, hmc.1, hmc.2⟩ hmd2 hx hb hml hown hts hK hP hD hl.1 d_L_law_779 ?_
  refine lv_iload hx hb d_L_law_782 (lv_at hl 1 rfl) ?_
  refine n_icmp_eq (tgt := 789) hx hb d_L_law_784 (by decide) (by omega) (by omega) (fun _ => ?_) (fun c9 => absurd rfl c9)
  refine lv_iload hx hb d_L_law_789 (lv_at hl 1 rfl) ?_
  refine n_if_ne (tgt := 806) hx hb d_L_law_791 (by decide) (by omega) (fun _ => ?_) (fun c0 => ?_)
  · refine lv_goto (tgt := 1591) hx hb d_L_law_806 (by decide) ?_
    exact kk w2 _ _ ls hz2 hP hD hS (lv_sub hl [2, 3, 4, 5, 6] rfl)
  obtain ⟨fo, hfo1, hfo2⟩ := hfo c0
  refine lv_aload_n hx hb d_L_law_794 rfl (lv_at hl 5 rfl) ?_
  refine lv_iconst (v := nI 0) hx hb d_L_law_795 (by decide) ?_
  refine va_lald hx hb hK hP 7 2 hfo1 rfl (i := nI 0) (vp_in_nI (by decide) (by decide)) d_L_law_796 ?_
  rw [show (nI 0).toNatClampNeg = 0 from by decide, hfo2]
  refine lv_iload hx hb d_L_law_797 (lv_at hl 0 rfl) ?_
  refine lv_i2l (v := v2.toInt64) hx hb d_L_law_799 rfl ?_
  refine W.lcmp hx hb d_L_law_800 ?_
  rw [lg_cmp_self]
  refine lv_if_eq (tgt := 806) hx hb d_L_law_801 (by decide) (fun _ => ?_) (fun c9 => absurd rfl c9)
  refine lv_goto (tgt := 1591) hx hb d_L_law_806 (by decide) ?_
  exact kk w2 _ _ ls hz2 hP hD hS (lv_sub hl [2, 3, 4, 5, 6] rfl)
set_option maxHeartbeats 800000 in
set_option maxRecDepth 100000 in
theorem law_subtractProduct {b L : Nat} {xs : Nat → Int32} (hx : p.tables.exec = Jvm.exec) (hb : c.code = code) (hml : c.maxLocals = 8) (hown : s.vm.findClass "LimbRowsLaw" = some m.cls) (hts : ∀ w ∈ gw, w.before #[Value.ref b] s = true) (hA : ∀ q : Nat, s.heap.size ≤ q → A q) (hK : va_K D cls0 (ty3 cA cR cL) s) (hN : xN s) (hT : xT s) (hZ : xZ A s s.heap) (hX : va_X b L xs s s.heap) (hbl : b < s.heap.size) (hbA : ¬ A b) (hL : L ≤ 2048) {i xo h ou k mc ms : Nat} {rm : Room} (hi : i + 4 ≤ L) (hk : k ≤ 2) {w0 : va_W} {Y1 Z : va_W → Prop} (hrm : rm.cells = mc ∧ rm.slots = ms ∧ rm.frames ≤ 10 ∧ rm.locals ≤ 300) (hmc : cells + mc ≤ 601024 ∧ slots + ms ≤ 7293033)
    (hW : xCW l y_L_subtractProduct w_L_subtractProduct rm D cls0 (ty3 cA cR cL) [.ref xo, .int ((xs (i + 1))), .int ((xs (i + 2))), .int ((xs (i + 3))), .ref ou] w0 (some (.int (nI k))) Y1 mc ms)
    (hM : ∀ w1, Y1 w1 → (∃ cd, isMd cA h cd w1) ∧ ∃ (v2 : Int32) (Y2 : va_W → Prop), xC l y_X2_subtractProduct w_X2_subtractProduct ({ frames := 6, cells := 0, slots := 0, locals := 139 }) D cls0 (ty3 cA cR cL) [.ref h, .int ((xs (i + 1))), .int ((xs (i + 2))), .int ((xs (i + 3)))] w1 (some (.int v2)) Y2 0 0 ∧ ∀ w2, Y2 w2 → isMd cA h (nI k) w2 ∧ (k = 0 → ∃ fo : Nat → Int64, w2[7]? = some (ou, .inl (cL, 1, .inr (.inl fo))) ∧ fo 0 = v2.toInt64) ∧ Z w2)
    (hP : va_P D cls0 w0 H) (hD : va_D A w0) (hS : va_S A s.heap H locs) (hl : lv_has ls 8 [(0, .ref b), (1, .ref xo), (2, .ref h), (3, .ref ou), (4, .int (nI i))])
    (kk : ∀ (w2 : va_W) (H : Heap) (locs : List Loc) (ls : Array Slot), Z w2 → va_P D cls0 w2 H → va_D A w2 → va_S A s.heap H locs → lv_has ls 8 [(0, .ref b), (1, .ref xo), (2, .ref h), (3, .ref ou), (4, .int (nI i))] → W p l e room_1 s m #[Value.ref b] below meth c H locs (cells + mc) (slots + ms) Q (F0 m 1591 ls [])) : W p l e room_1 s m #[Value.ref b] below meth c H locs cells slots Q (F0 m 809 ls []) := by
  refine lv_aload_n hx hb d_L_law_809 rfl (lv_at hl 1 rfl) ?_
  refine lv_aload_n hx hb d_L_law_810 rfl (lv_at hl 0 rfl) ?_
  refine lv_iload hx hb d_L_law_811 (lv_at hl 4 rfl) ?_
  refine lv_iconst (v := nI 1) hx hb d_L_law_813 (by decide) ?_
  refine n_iadd hx hb d_L_law_814 ?_
  refine q_sld hx hb hX hbl hbA hS (j := i + 1) (by omega) hL d_L_law_815 ?_
  refine lv_aload_n hx hb d_L_law_816 rfl (lv_at hl 0 rfl) ?_
  refine lv_iload hx hb d_L_law_817 (lv_at hl 4 rfl) ?_
  refine lv_iconst (v := nI 2) hx hb d_L_law_819 (by decide) ?_
  refine n_iadd hx hb d_L_law_820 ?_
  refine q_sld hx hb hX hbl hbA hS (j := i + 2) (by omega) hL d_L_law_821 ?_
  refine lv_aload_n hx hb d_L_law_822 rfl (lv_at hl 0 rfl) ?_
  refine lv_iload hx hb d_L_law_823 (lv_at hl 4 rfl) ?_
  refine lv_iconst (v := nI 3) hx hb d_L_law_825 (by decide) ?_
  refine n_iadd hx hb d_L_law_826 ?_
  refine q_sld hx hb hX hbl hbA hS (j := i + 3) (by omega) hL d_L_law_827 ?_
  refine lv_aload_n hx hb d_L_law_828 rfl (lv_at hl 3 rfl) ?_
  refine x_call (st1 := [.int (nI k)]) (xw_runS (As := [.ref xo, .int ((xs (i + 1))), .int ((xs (i + 2))), .int ((xs (i + 3))), .ref ou]) (rest := []) (nL := 8) ⟨hx, hb, hml, hown, hts⟩ (hW _) (vx_cwSW 5 hts (gw_SC k_327 k_328 k_49 k_329) rfl hrm.1 hrm.2.1 (by decide +kernel) ⟨by show _ ≤ 11; omega, by show _ ≤ 396; omega⟩) hK hN hT hZ hP hD hS (x_sub hD hS hA) rfl hl.1 rfl (Nat.le_of_ble_eq_true rfl) d_L_law_829 ⟨hmc.1, hmc.2⟩) hS (x_sub hD hS hA) (x_sub hD hS hA) rfl (fun w1 H locs hY1 hP hD hS => ?_)
  obtain ⟨⟨cd, hmd1⟩, v2, Y2, hC2, hY2⟩ := hM w1 hY1
  obtain ⟨fs1, hfs1⟩ := hmd1.at
  refine lv_istore (lv' := [(5, .int (nI k)), (0, .ref b), (1, .ref xo), (2, .ref h), (3, .ref ou), (4, .int (nI i))]) hx hb d_L_law_832 hl (by decide) rfl (fun ls hl => ?_)
  refine lv_aload_n hx hb d_L_law_834 rfl (lv_at hl 3 rfl) ?_
  refine lv_aload_n hx hb d_L_law_835 rfl (lv_at hl 1 rfl) ?_
  refine lv_iload hx hb d_L_law_836 (lv_at hl 5 rfl) ?_
  refine lv_iconst (v := nI 1) hx hb d_L_law_838 (by decide) ?_
  refine n_iadd hx hb d_L_law_839 ?_
  refine q_sld hx hb hX hbl hbA hS (j := i + 1) (by omega) hL d_L_law_840 ?_
  refine lv_aload_n hx hb d_L_law_841 rfl (lv_at hl 1 rfl) ?_
  refine lv_iload hx hb d_L_law_842 (lv_at hl 5 rfl) ?_
  refine lv_iconst (v := nI 2) hx hb d_L_law_844 (by decide) ?_
  refine n_iadd hx hb d_L_law_845 ?_
  refine q_sld hx hb hX hbl hbA hS (j := i + 2) (by omega) hL d_L_law_846 ?_
  refine lv_aload_n hx hb d_L_law_847 rfl (lv_at hl 1 rfl) ?_
  refine lv_iload hx hb d_L_law_848 (lv_at hl 5 rfl) ?_
  refine lv_iconst (v := nI 3) hx hb d_L_law_850 (by decide) ?_
  refine n_iadd hx hb d_L_law_851 ?_
  refine q_sld hx hb hX hbl hbA hS (j := i + 3) (by omega) hL d_L_law_852 ?_
  refine x_call (st1 := [.int v2]) (x_runV (As := [.int ((xs (i + 1))), .int ((xs (i + 2))), .int ((xs (i + 3)))]) (rest := []) (nL := 8) ⟨hx, hb, hml, hown, hts⟩ (hC2 _) (cwV 3 hts (gw_V k_622 k_623 k_624 k_52 k_625) rfl rfl rfl (by decide +kernel) ⟨Nat.le_of_ble_eq_true rfl, Nat.le_of_ble_eq_true rfl⟩) hK hP hD 0 2 hfs1 rfl rfl hl.1 rfl (Nat.le_of_ble_eq_true rfl) d_L_law_853 ⟨hmc.1, hmc.2⟩) hS (x_sub hD hS hA) (x_sub hD hS hA) rfl (fun w2 H locs hY hP hD hS => ?_)
  obtain ⟨hmd2, hfo, hz2⟩ := hY2 w2 hY
  refine lv_istore (lv' := [(6, .int v2), (5, .int (nI k)), (0, .ref b), (1, .ref xo), (2, .ref h), (3, .ref ou), (4, .int (nI i))]) hx hb d_L_law_856 hl (by decide) rfl (fun ls hl => ?_)
  refine lv_aload_n hx hb d_L_law_858 rfl (lv_at hl 4 rfl) ?_
  refine q_thrown ⟨by decide, by decide, hmc.1, hmc.2⟩ hmd2 hx hb hml hown hts hK hP hD hl.1 d_L_law_859 ?_
  refine lv_iload hx hb d_L_law_862 (lv_at hl 1 rfl) ?_
  refine n_icmp_eq (tgt := 869) hx hb d_L_law_864 (by decide) (by omega) (by omega) (fun _ => ?_) (fun c9 => absurd rfl c9)
  refine lv_iload hx hb d_L_law_869 (lv_at hl 1 rfl) ?_
  refine n_if_ne (tgt := 886) hx hb d_L_law_871 (by decide) (by omega) (fun _ => ?_) (fun c0 => ?_)
  · refine lv_goto (tgt := 1591) hx hb d_L_law_886 (by decide) ?_
    exact kk w2 _ _ ls hz2 hP hD hS (lv_sub hl [2, 3, 4, 5, 6] rfl)
  obtain ⟨fo, hfo1, hfo2⟩ := hfo c0
  refine lv_aload_n hx hb d_L_law_874 rfl (lv_at hl 5 rfl) ?_
  refine lv_iconst (v := nI 0) hx hb d_L_law_875 (by decide) ?_
  refine va_lald hx hb hK hP 7 2 hfo1 rfl (i := nI 0) (vp_in_nI (by decide) (by decide)) d_L_law_876 ?_
  rw [show (nI 0).toNatClampNeg = 0 from by decide, hfo2]
  refine lv_iload hx hb d_L_law_877 (lv_at hl 0 rfl) ?_
  refine lv_i2l (v := v2.toInt64) hx hb d_L_law_879 rfl ?_
  refine W.lcmp hx hb d_L_law_880 ?_
  rw [lg_cmp_self]
  refine lv_if_eq (tgt := 886) hx hb d_L_law_881 (by decide) (fun _ => ?_) (fun c9 => absurd rfl c9)
  refine lv_goto (tgt := 1591) hx hb d_L_law_886 (by decide) ?_
  exact kk w2 _ _ ls hz2 hP hD hS (lv_sub hl [2, 3, 4, 5, 6] rfl)
set_option maxHeartbeats 800000 in
set_option maxRecDepth 100000 in
theorem law_times {b L : Nat} {xs : Nat → Int32} (hx : p.tables.exec = Jvm.exec) (hb : c.code = code) (hml : c.maxLocals = 8) (hown : s.vm.findClass "LimbRowsLaw" = some m.cls) (hts : ∀ w ∈ gw, w.before #[Value.ref b] s = true) (hA : ∀ q : Nat, s.heap.size ≤ q → A q) (hK : va_K D cls0 (ty3 cA cR cL) s) (hN : xN s) (hT : xT s) (hZ : xZ A s s.heap) (hX : va_X b L xs s s.heap) (hbl : b < s.heap.size) (hbA : ¬ A b) (hL : L ≤ 2048) {i xo h ou k mc ms : Nat} {rm : Room} (hi : i + 4 ≤ L) (hk : k ≤ 2) {w0 : va_W} {Y1 Z : va_W → Prop} (hrm : rm.cells = mc ∧ rm.slots = ms ∧ rm.frames ≤ 10 ∧ rm.locals ≤ 300) (hmc : cells + mc ≤ 601024 ∧ slots + ms ≤ 7293033)
    (hW : xCW l y_L_times w_L_times rm D cls0 (ty3 cA cR cL) [.ref xo, .int ((xs (i + 1))), .long ((j_ll (xs (i + 2)).toInt64 (nI 32) ||| ((xs (i + 3)).toInt64 &&& 4294967295))), .ref ou] w0 (some (.int (nI k))) Y1 mc ms)
    (hM : ∀ w1, Y1 w1 → (∃ cd, isMd cA h cd w1) ∧ ∃ (v2 : Int32) (Y2 : va_W → Prop), xC l y_X2_times w_X2_times ({ frames := 5, cells := 0, slots := 0, locals := 115 }) D cls0 (ty3 cA cR cL) [.ref h, .int ((xs (i + 1))), .long ((j_ll (xs (i + 2)).toInt64 (nI 32) ||| ((xs (i + 3)).toInt64 &&& 4294967295)))] w1 (some (.int v2)) Y2 0 0 ∧ ∀ w2, Y2 w2 → isMd cA h (nI k) w2 ∧ (k = 0 → ∃ fo : Nat → Int64, w2[7]? = some (ou, .inl (cL, 1, .inr (.inl fo))) ∧ fo 0 = v2.toInt64) ∧ Z w2)
    (hP : va_P D cls0 w0 H) (hD : va_D A w0) (hS : va_S A s.heap H locs) (hl : lv_has ls 8 [(0, .ref b), (1, .ref xo), (2, .ref h), (3, .ref ou), (4, .int (nI i))])
    (kk : ∀ (w2 : va_W) (H : Heap) (locs : List Loc) (ls : Array Slot), Z w2 → va_P D cls0 w2 H → va_D A w2 → va_S A s.heap H locs → lv_has ls 8 [(0, .ref b), (1, .ref xo), (2, .ref h), (3, .ref ou), (4, .int (nI i))] → W p l e room_1 s m #[Value.ref b] below meth c H locs (cells + mc) (slots + ms) Q (F0 m 1591 ls [])) : W p l e room_1 s m #[Value.ref b] below meth c H locs cells slots Q (F0 m 889 ls []) := by
  refine lv_aload_n hx hb d_L_law_889 rfl (lv_at hl 1 rfl) ?_
  refine lv_aload_n hx hb d_L_law_890 rfl (lv_at hl 0 rfl) ?_
  refine lv_iload hx hb d_L_law_891 (lv_at hl 4 rfl) ?_
  refine lv_iconst (v := nI 1) hx hb d_L_law_893 (by decide) ?_
  refine n_iadd hx hb d_L_law_894 ?_
  refine q_sld hx hb hX hbl hbA hS (j := i + 1) (by omega) hL d_L_law_895 ?_
  refine lv_aload_n hx hb d_L_law_896 rfl (lv_at hl 0 rfl) ?_
  refine lv_iload hx hb d_L_law_897 (lv_at hl 4 rfl) ?_
  refine lv_iconst (v := nI 2) hx hb d_L_law_899 (by decide) ?_
  refine n_iadd hx hb d_L_law_900 ?_
  refine q_sld hx hb hX hbl hbA hS (j := i + 2) (by omega) hL d_L_law_901 ?_
  refine lv_i2l (v := (xs (i + 2)).toInt64) hx hb d_L_law_902 rfl ?_
  refine lv_bipush (v := nI 32) hx hb d_L_law_903 (by decide) ?_
  refine lv_lshl (v := j_ll ((xs (i + 2)).toInt64) (nI 32)) hx hb d_L_law_905 rfl ?_
  refine lv_aload_n hx hb d_L_law_906 rfl (lv_at hl 0 rfl) ?_
  refine lv_iload hx hb d_L_law_907 (lv_at hl 4 rfl) ?_
  refine lv_iconst (v := nI 3) hx hb d_L_law_909 (by decide) ?_
  refine n_iadd hx hb d_L_law_910 ?_
  refine q_sld hx hb hX hbl hbA hS (j := i + 3) (by omega) hL d_L_law_911 ?_
  refine lv_i2l (v := (xs (i + 3)).toInt64) hx hb d_L_law_912 rfl ?_
  refine lv_ldc2 (v := 4294967295) hx hb hown (hts (.constantLong "LimbRowsLaw" 99 4294967295) k_673) d_L_law_913 ?_
  refine lv_land hx hb d_L_law_916 ?_
  refine lv_lor hx hb d_L_law_917 ?_
  refine lv_aload_n hx hb d_L_law_918 rfl (lv_at hl 3 rfl) ?_
  refine x_call (st1 := [.int (nI k)]) (xw_runS (As := [.ref xo, .int ((xs (i + 1))), .long ((j_ll (xs (i + 2)).toInt64 (nI 32) ||| ((xs (i + 3)).toInt64 &&& 4294967295))), .ref ou]) (rest := []) (nL := 8) ⟨hx, hb, hml, hown, hts⟩ (hW _) (vx_cwSW 4 hts (gw_SC k_343 k_344 k_49 k_345) rfl hrm.1 hrm.2.1 (by decide +kernel) ⟨by show _ ≤ 11; omega, by show _ ≤ 396; omega⟩) hK hN hT hZ hP hD hS (x_sub hD hS hA) rfl hl.1 rfl (Nat.le_of_ble_eq_true rfl) d_L_law_919 ⟨hmc.1, hmc.2⟩) hS (x_sub hD hS hA) (x_sub hD hS hA) rfl (fun w1 H locs hY1 hP hD hS => ?_)
  obtain ⟨⟨cd, hmd1⟩, v2, Y2, hC2, hY2⟩ := hM w1 hY1
  obtain ⟨fs1, hfs1⟩ := hmd1.at
  refine lv_istore (lv' := [(5, .int (nI k)), (0, .ref b), (1, .ref xo), (2, .ref h), (3, .ref ou), (4, .int (nI i))]) hx hb d_L_law_922 hl (by decide) rfl (fun ls hl => ?_)
  refine lv_aload_n hx hb d_L_law_924 rfl (lv_at hl 3 rfl) ?_
  refine lv_aload_n hx hb d_L_law_925 rfl (lv_at hl 1 rfl) ?_
  refine lv_iload hx hb d_L_law_926 (lv_at hl 5 rfl) ?_
  refine lv_iconst (v := nI 1) hx hb d_L_law_928 (by decide) ?_
  refine n_iadd hx hb d_L_law_929 ?_
  refine q_sld hx hb hX hbl hbA hS (j := i + 1) (by omega) hL d_L_law_930 ?_
  refine lv_aload_n hx hb d_L_law_931 rfl (lv_at hl 1 rfl) ?_
  refine lv_iload hx hb d_L_law_932 (lv_at hl 5 rfl) ?_
  refine lv_iconst (v := nI 2) hx hb d_L_law_934 (by decide) ?_
  refine n_iadd hx hb d_L_law_935 ?_
  refine q_sld hx hb hX hbl hbA hS (j := i + 2) (by omega) hL d_L_law_936 ?_
  refine lv_i2l (v := (xs (i + 2)).toInt64) hx hb d_L_law_937 rfl ?_
  refine lv_bipush (v := nI 32) hx hb d_L_law_938 (by decide) ?_
  refine lv_lshl (v := j_ll ((xs (i + 2)).toInt64) (nI 32)) hx hb d_L_law_940 rfl ?_
  refine lv_aload_n hx hb d_L_law_941 rfl (lv_at hl 1 rfl) ?_
  refine lv_iload hx hb d_L_law_942 (lv_at hl 5 rfl) ?_
  refine lv_iconst (v := nI 3) hx hb d_L_law_944 (by decide) ?_
  refine n_iadd hx hb d_L_law_945 ?_
  refine q_sld hx hb hX hbl hbA hS (j := i + 3) (by omega) hL d_L_law_946 ?_
  refine lv_i2l (v := (xs (i + 3)).toInt64) hx hb d_L_law_947 rfl ?_
  refine lv_ldc2 (v := 4294967295) hx hb hown (hts (.constantLong "LimbRowsLaw" 99 4294967295) k_673) d_L_law_948 ?_
  refine lv_land hx hb d_L_law_951 ?_
  refine lv_lor hx hb d_L_law_952 ?_
  refine x_call (st1 := [.int v2]) (x_runV (As := [.int ((xs (i + 1))), .long ((j_ll (xs (i + 2)).toInt64 (nI 32) ||| ((xs (i + 3)).toInt64 &&& 4294967295)))]) (rest := []) (nL := 8) ⟨hx, hb, hml, hown, hts⟩ (hC2 _) (cwV 2 hts (gw_V k_626 k_627 k_628 k_52 k_629) rfl rfl rfl (by decide +kernel) ⟨Nat.le_of_ble_eq_true rfl, Nat.le_of_ble_eq_true rfl⟩) hK hP hD 0 2 hfs1 rfl rfl hl.1 rfl (Nat.le_of_ble_eq_true rfl) d_L_law_953 ⟨hmc.1, hmc.2⟩) hS (x_sub hD hS hA) (x_sub hD hS hA) rfl (fun w2 H locs hY hP hD hS => ?_)
  obtain ⟨hmd2, hfo, hz2⟩ := hY2 w2 hY
  refine lv_istore (lv' := [(6, .int v2), (5, .int (nI k)), (0, .ref b), (1, .ref xo), (2, .ref h), (3, .ref ou), (4, .int (nI i))]) hx hb d_L_law_956 hl (by decide) rfl (fun ls hl => ?_)
  refine lv_aload_n hx hb d_L_law_958 rfl (lv_at hl 4 rfl) ?_
  refine q_thrown ⟨by decide, by decide, hmc.1, hmc.2⟩ hmd2 hx hb hml hown hts hK hP hD hl.1 d_L_law_959 ?_
  refine lv_iload hx hb d_L_law_962 (lv_at hl 1 rfl) ?_
  refine n_icmp_eq (tgt := 969) hx hb d_L_law_964 (by decide) (by omega) (by omega) (fun _ => ?_) (fun c9 => absurd rfl c9)
  refine lv_iload hx hb d_L_law_969 (lv_at hl 1 rfl) ?_
  refine n_if_ne (tgt := 986) hx hb d_L_law_971 (by decide) (by omega) (fun _ => ?_) (fun c0 => ?_)
  · refine lv_goto (tgt := 1591) hx hb d_L_law_986 (by decide) ?_
    exact kk w2 _ _ ls hz2 hP hD hS (lv_sub hl [2, 3, 4, 5, 6] rfl)
  obtain ⟨fo, hfo1, hfo2⟩ := hfo c0
  refine lv_aload_n hx hb d_L_law_974 rfl (lv_at hl 5 rfl) ?_
  refine lv_iconst (v := nI 0) hx hb d_L_law_975 (by decide) ?_
  refine va_lald hx hb hK hP 7 2 hfo1 rfl (i := nI 0) (vp_in_nI (by decide) (by decide)) d_L_law_976 ?_
  rw [show (nI 0).toNatClampNeg = 0 from by decide, hfo2]
  refine lv_iload hx hb d_L_law_977 (lv_at hl 0 rfl) ?_
  refine lv_i2l (v := v2.toInt64) hx hb d_L_law_979 rfl ?_
  refine W.lcmp hx hb d_L_law_980 ?_
  rw [lg_cmp_self]
  refine lv_if_eq (tgt := 986) hx hb d_L_law_981 (by decide) (fun _ => ?_) (fun c9 => absurd rfl c9)
  refine lv_goto (tgt := 1591) hx hb d_L_law_986 (by decide) ?_
  exact kk w2 _ _ ls hz2 hP hD hS (lv_sub hl [2, 3, 4, 5, 6] rfl)
set_option maxHeartbeats 800000 in
set_option maxRecDepth 100000 in
theorem law_negate {b L : Nat} {xs : Nat → Int32} (hx : p.tables.exec = Jvm.exec) (hb : c.code = code) (hml : c.maxLocals = 8) (hown : s.vm.findClass "LimbRowsLaw" = some m.cls) (hts : ∀ w ∈ gw, w.before #[Value.ref b] s = true) (hA : ∀ q : Nat, s.heap.size ≤ q → A q) (hK : va_K D cls0 (ty3 cA cR cL) s) (hN : xN s) (hT : xT s) (hZ : xZ A s s.heap) (hX : va_X b L xs s s.heap) (hbl : b < s.heap.size) (hbA : ¬ A b) (hL : L ≤ 2048) {i xo h ou k mc ms : Nat} {rm : Room} (hi : i + 4 ≤ L) (hk : k ≤ 2) {w0 : va_W} {Y1 Z : va_W → Prop} (hrm : rm.cells = mc ∧ rm.slots = ms ∧ rm.frames ≤ 10 ∧ rm.locals ≤ 300) (hmc : cells + mc ≤ 601024 ∧ slots + ms ≤ 7293033)
    (hW : xCW l y_L_negate w_L_negate rm D cls0 (ty3 cA cR cL) [.ref xo, .int ((xs (i + 1))), .ref ou] w0 (some (.int (nI k))) Y1 mc ms)
    (hM : ∀ w1, Y1 w1 → (∃ cd, isMd cA h cd w1) ∧ ∃ (v2 : Int32) (Y2 : va_W → Prop), xC l y_X2_negate w_X2_negate ({ frames := 4, cells := 0, slots := 0, locals := 93 }) D cls0 (ty3 cA cR cL) [.ref h, .int ((xs (i + 1)))] w1 (some (.int v2)) Y2 0 0 ∧ ∀ w2, Y2 w2 → isMd cA h (nI k) w2 ∧ (k = 0 → ∃ fo : Nat → Int64, w2[7]? = some (ou, .inl (cL, 1, .inr (.inl fo))) ∧ fo 0 = (if v2 = 0 then 0 else 1)) ∧ Z w2)
    (hP : va_P D cls0 w0 H) (hD : va_D A w0) (hS : va_S A s.heap H locs) (hl : lv_has ls 8 [(0, .ref b), (1, .ref xo), (2, .ref h), (3, .ref ou), (4, .int (nI i))])
    (kk : ∀ (w2 : va_W) (H : Heap) (locs : List Loc) (ls : Array Slot), Z w2 → va_P D cls0 w2 H → va_D A w2 → va_S A s.heap H locs → lv_has ls 8 [(0, .ref b), (1, .ref xo), (2, .ref h), (3, .ref ou), (4, .int (nI i))] → W p l e room_1 s m #[Value.ref b] below meth c H locs (cells + mc) (slots + ms) Q (F0 m 1591 ls [])) : W p l e room_1 s m #[Value.ref b] below meth c H locs cells slots Q (F0 m 989 ls []) := by
  refine lv_aload_n hx hb d_L_law_989 rfl (lv_at hl 1 rfl) ?_
  refine lv_aload_n hx hb d_L_law_990 rfl (lv_at hl 0 rfl) ?_
  refine lv_iload hx hb d_L_law_991 (lv_at hl 4 rfl) ?_
  refine lv_iconst (v := nI 1) hx hb d_L_law_993 (by decide) ?_
  refine n_iadd hx hb d_L_law_994 ?_
  refine q_sld hx hb hX hbl hbA hS (j := i + 1) (by omega) hL d_L_law_995 ?_
  refine lv_aload_n hx hb d_L_law_996 rfl (lv_at hl 3 rfl) ?_
  refine x_call (st1 := [.int (nI k)]) (xw_runS (As := [.ref xo, .int ((xs (i + 1))), .ref ou]) (rest := []) (nL := 8) ⟨hx, hb, hml, hown, hts⟩ (hW _) (vx_cwSW 3 hts (gw_SC k_354 k_355 k_49 k_356) rfl hrm.1 hrm.2.1 (by decide +kernel) ⟨by show _ ≤ 11; omega, by show _ ≤ 396; omega⟩) hK hN hT hZ hP hD hS (x_sub hD hS hA) rfl hl.1 rfl (Nat.le_of_ble_eq_true rfl) d_L_law_997 ⟨hmc.1, hmc.2⟩) hS (x_sub hD hS hA) (x_sub hD hS hA) rfl (fun w1 H locs hY1 hP hD hS => ?_)
  obtain ⟨⟨cd, hmd1⟩, v2, Y2, hC2, hY2⟩ := hM w1 hY1
  obtain ⟨fs1, hfs1⟩ := hmd1.at
  refine lv_istore (lv' := [(5, .int (nI k)), (0, .ref b), (1, .ref xo), (2, .ref h), (3, .ref ou), (4, .int (nI i))]) hx hb d_L_law_1000 hl (by decide) rfl (fun ls hl => ?_)
  refine lv_aload_n hx hb d_L_law_1002 rfl (lv_at hl 3 rfl) ?_
  refine lv_aload_n hx hb d_L_law_1003 rfl (lv_at hl 1 rfl) ?_
  refine lv_iload hx hb d_L_law_1004 (lv_at hl 5 rfl) ?_
  refine lv_iconst (v := nI 1) hx hb d_L_law_1006 (by decide) ?_
  refine n_iadd hx hb d_L_law_1007 ?_
  refine q_sld hx hb hX hbl hbA hS (j := i + 1) (by omega) hL d_L_law_1008 ?_
  refine x_call (st1 := [.int v2]) (x_runV (As := [.int ((xs (i + 1)))]) (rest := []) (nL := 8) ⟨hx, hb, hml, hown, hts⟩ (hC2 _) (cwV 1 hts (gw_V k_630 k_631 k_632 k_52 k_633) rfl rfl rfl (by decide +kernel) ⟨Nat.le_of_ble_eq_true rfl, Nat.le_of_ble_eq_true rfl⟩) hK hP hD 0 2 hfs1 rfl rfl hl.1 rfl (Nat.le_of_ble_eq_true rfl) d_L_law_1009 ⟨hmc.1, hmc.2⟩) hS (x_sub hD hS hA) (x_sub hD hS hA) rfl (fun w2 H locs hY hP hD hS => ?_)
  obtain ⟨hmd2, hfo, hz2⟩ := hY2 w2 hY
  refine lv_istore (lv' := [(6, .int v2), (5, .int (nI k)), (0, .ref b), (1, .ref xo), (2, .ref h), (3, .ref ou), (4, .int (nI i))]) hx hb d_L_law_1012 hl (by decide) rfl (fun ls hl => ?_)
  refine lv_aload_n hx hb d_L_law_1014 rfl (lv_at hl 4 rfl) ?_
  refine q_thrown ⟨by decide, by decide, hmc.1, hmc.2⟩ hmd2 hx hb hml hown hts hK hP hD hl.1 d_L_law_1015 ?_
  refine lv_iload hx hb d_L_law_1018 (lv_at hl 1 rfl) ?_
  refine n_icmp_eq (tgt := 1025) hx hb d_L_law_1020 (by decide) (by omega) (by omega) (fun _ => ?_) (fun c9 => absurd rfl c9)
  refine lv_iload hx hb d_L_law_1025 (lv_at hl 1 rfl) ?_
  refine n_if_ne (tgt := 1049) hx hb d_L_law_1027 (by decide) (by omega) (fun _ => ?_) (fun c0 => ?_)
  · refine lv_goto (tgt := 1591) hx hb d_L_law_1049 (by decide) ?_
    exact kk w2 _ _ ls hz2 hP hD hS (lv_sub hl [2, 3, 4, 5, 6] rfl)
  obtain ⟨fo, hfo1, hfo2⟩ := hfo c0
  refine lv_aload_n hx hb d_L_law_1030 rfl (lv_at hl 5 rfl) ?_
  refine lv_iconst (v := nI 0) hx hb d_L_law_1031 (by decide) ?_
  refine va_lald hx hb hK hP 7 2 hfo1 rfl (i := nI 0) (vp_in_nI (by decide) (by decide)) d_L_law_1032 ?_
  rw [show (nI 0).toNatClampNeg = 0 from by decide, hfo2]
  refine lv_iload hx hb d_L_law_1033 (lv_at hl 0 rfl) ?_
  refine lv_if_eq (tgt := 1042) hx hb d_L_law_1035 (by decide) (fun c_1 => ?_) (fun c_1 => ?_)
  · refine lv_lconst (v := 0) hx hb d_L_law_1042 (by decide) ?_
    refine W.lcmp hx hb d_L_law_1043 ?_
    rw [if_pos c_1, lg_cmp_self]
    refine lv_if_eq (tgt := 1049) hx hb d_L_law_1044 (by decide) (fun _ => ?_) (fun c9 => absurd rfl c9)
    refine lv_goto (tgt := 1591) hx hb d_L_law_1049 (by decide) ?_
    exact kk w2 _ _ ls hz2 hP hD hS (lv_sub hl [2, 3, 4, 5, 6] rfl)
  · refine lv_lconst (v := 1) hx hb d_L_law_1038 (by decide) ?_
    refine lv_goto (tgt := 1043) hx hb d_L_law_1039 (by decide) ?_
    refine W.lcmp hx hb d_L_law_1043 ?_
    rw [if_neg c_1, lg_cmp_self]
    refine lv_if_eq (tgt := 1049) hx hb d_L_law_1044 (by decide) (fun _ => ?_) (fun c9 => absurd rfl c9)
    refine lv_goto (tgt := 1591) hx hb d_L_law_1049 (by decide) ?_
    exact kk w2 _ _ ls hz2 hP hD hS (lv_sub hl [2, 3, 4, 5, 6] rfl)
set_option maxHeartbeats 800000 in
set_option maxRecDepth 100000 in
theorem law_left {b L : Nat} {xs : Nat → Int32} (hx : p.tables.exec = Jvm.exec) (hb : c.code = code) (hml : c.maxLocals = 8) (hown : s.vm.findClass "LimbRowsLaw" = some m.cls) (hts : ∀ w ∈ gw, w.before #[Value.ref b] s = true) (hA : ∀ q : Nat, s.heap.size ≤ q → A q) (hK : va_K D cls0 (ty3 cA cR cL) s) (hN : xN s) (hT : xT s) (hZ : xZ A s s.heap) (hX : va_X b L xs s s.heap) (hbl : b < s.heap.size) (hbA : ¬ A b) (hL : L ≤ 2048) {i xo h ou k mc ms : Nat} {rm : Room} (hi : i + 4 ≤ L) (hk : k ≤ 2) {w0 : va_W} {Y1 Z : va_W → Prop} (hrm : rm.cells = mc ∧ rm.slots = ms ∧ rm.frames ≤ 10 ∧ rm.locals ≤ 300) (hmc : cells + mc ≤ 601024 ∧ slots + ms ≤ 7293033)
    (hW : xCW l y_L_left w_L_left rm D cls0 (ty3 cA cR cL) [.ref xo, .int ((xs (i + 1))), .int ((xs (i + 2))), .ref ou] w0 (some (.int (nI k))) Y1 mc ms)
    (hM : ∀ w1, Y1 w1 → (∃ cd, isMd cA h cd w1) ∧ ∃ (v2 : Int32) (Y2 : va_W → Prop), xC l y_X2_left w_X2_left ({ frames := 5, cells := 0, slots := 0, locals := 115 }) D cls0 (ty3 cA cR cL) [.ref h, .int ((xs (i + 1))), .int ((xs (i + 2)))] w1 (some (.int v2)) Y2 0 0 ∧ ∀ w2, Y2 w2 → isMd cA h (nI k) w2 ∧ (k = 0 → ∃ fo : Nat → Int64, w2[7]? = some (ou, .inl (cL, 1, .inr (.inl fo))) ∧ fo 0 = v2.toInt64) ∧ Z w2)
    (hP : va_P D cls0 w0 H) (hD : va_D A w0) (hS : va_S A s.heap H locs) (hl : lv_has ls 8 [(0, .ref b), (1, .ref xo), (2, .ref h), (3, .ref ou), (4, .int (nI i))])
    (kk : ∀ (w2 : va_W) (H : Heap) (locs : List Loc) (ls : Array Slot), Z w2 → va_P D cls0 w2 H → va_D A w2 → va_S A s.heap H locs → lv_has ls 8 [(0, .ref b), (1, .ref xo), (2, .ref h), (3, .ref ou), (4, .int (nI i))] → W p l e room_1 s m #[Value.ref b] below meth c H locs (cells + mc) (slots + ms) Q (F0 m 1591 ls [])) : W p l e room_1 s m #[Value.ref b] below meth c H locs cells slots Q (F0 m 1052 ls []) := by
  refine lv_aload_n hx hb d_L_law_1052 rfl (lv_at hl 1 rfl) ?_
  refine lv_aload_n hx hb d_L_law_1053 rfl (lv_at hl 0 rfl) ?_
  refine lv_iload hx hb d_L_law_1054 (lv_at hl 4 rfl) ?_
  refine lv_iconst (v := nI 1) hx hb d_L_law_1056 (by decide) ?_
  refine n_iadd hx hb d_L_law_1057 ?_
  refine q_sld hx hb hX hbl hbA hS (j := i + 1) (by omega) hL d_L_law_1058 ?_
  refine lv_aload_n hx hb d_L_law_1059 rfl (lv_at hl 0 rfl) ?_
  refine lv_iload hx hb d_L_law_1060 (lv_at hl 4 rfl) ?_
  refine lv_iconst (v := nI 2) hx hb d_L_law_1062 (by decide) ?_
  refine n_iadd hx hb d_L_law_1063 ?_
  refine q_sld hx hb hX hbl hbA hS (j := i + 2) (by omega) hL d_L_law_1064 ?_
  refine lv_aload_n hx hb d_L_law_1065 rfl (lv_at hl 3 rfl) ?_
  refine x_call (st1 := [.int (nI k)]) (xw_runS (As := [.ref xo, .int ((xs (i + 1))), .int ((xs (i + 2))), .ref ou]) (rest := []) (nL := 8) ⟨hx, hb, hml, hown, hts⟩ (hW _) (vx_cwSW 4 hts (gw_SC k_369 k_370 k_49 k_371) rfl hrm.1 hrm.2.1 (by decide +kernel) ⟨by show _ ≤ 11; omega, by show _ ≤ 396; omega⟩) hK hN hT hZ hP hD hS (x_sub hD hS hA) rfl hl.1 rfl (Nat.le_of_ble_eq_true rfl) d_L_law_1066 ⟨hmc.1, hmc.2⟩) hS (x_sub hD hS hA) (x_sub hD hS hA) rfl (fun w1 H locs hY1 hP hD hS => ?_)
  obtain ⟨⟨cd, hmd1⟩, v2, Y2, hC2, hY2⟩ := hM w1 hY1
  obtain ⟨fs1, hfs1⟩ := hmd1.at
  refine lv_istore (lv' := [(5, .int (nI k)), (0, .ref b), (1, .ref xo), (2, .ref h), (3, .ref ou), (4, .int (nI i))]) hx hb d_L_law_1069 hl (by decide) rfl (fun ls hl => ?_)
  refine lv_aload_n hx hb d_L_law_1071 rfl (lv_at hl 3 rfl) ?_
  refine lv_aload_n hx hb d_L_law_1072 rfl (lv_at hl 1 rfl) ?_
  refine lv_iload hx hb d_L_law_1073 (lv_at hl 5 rfl) ?_
  refine lv_iconst (v := nI 1) hx hb d_L_law_1075 (by decide) ?_
  refine n_iadd hx hb d_L_law_1076 ?_
  refine q_sld hx hb hX hbl hbA hS (j := i + 1) (by omega) hL d_L_law_1077 ?_
  refine lv_aload_n hx hb d_L_law_1078 rfl (lv_at hl 1 rfl) ?_
  refine lv_iload hx hb d_L_law_1079 (lv_at hl 5 rfl) ?_
  refine lv_iconst (v := nI 2) hx hb d_L_law_1081 (by decide) ?_
  refine n_iadd hx hb d_L_law_1082 ?_
  refine q_sld hx hb hX hbl hbA hS (j := i + 2) (by omega) hL d_L_law_1083 ?_
  refine x_call (st1 := [.int v2]) (x_runV (As := [.int ((xs (i + 1))), .int ((xs (i + 2)))]) (rest := []) (nL := 8) ⟨hx, hb, hml, hown, hts⟩ (hC2 _) (cwV 2 hts (gw_V k_634 k_635 k_636 k_52 k_637) rfl rfl rfl (by decide +kernel) ⟨Nat.le_of_ble_eq_true rfl, Nat.le_of_ble_eq_true rfl⟩) hK hP hD 0 2 hfs1 rfl rfl hl.1 rfl (Nat.le_of_ble_eq_true rfl) d_L_law_1084 ⟨hmc.1, hmc.2⟩) hS (x_sub hD hS hA) (x_sub hD hS hA) rfl (fun w2 H locs hY hP hD hS => ?_)
  obtain ⟨hmd2, hfo, hz2⟩ := hY2 w2 hY
  refine lv_istore (lv' := [(6, .int v2), (5, .int (nI k)), (0, .ref b), (1, .ref xo), (2, .ref h), (3, .ref ou), (4, .int (nI i))]) hx hb d_L_law_1087 hl (by decide) rfl (fun ls hl => ?_)
  refine lv_aload_n hx hb d_L_law_1089 rfl (lv_at hl 4 rfl) ?_
  refine q_thrown ⟨by decide, by decide, hmc.1, hmc.2⟩ hmd2 hx hb hml hown hts hK hP hD hl.1 d_L_law_1090 ?_
  refine lv_iload hx hb d_L_law_1093 (lv_at hl 1 rfl) ?_
  refine n_icmp_eq (tgt := 1100) hx hb d_L_law_1095 (by decide) (by omega) (by omega) (fun _ => ?_) (fun c9 => absurd rfl c9)
  refine lv_iload hx hb d_L_law_1100 (lv_at hl 1 rfl) ?_
  refine n_if_ne (tgt := 1117) hx hb d_L_law_1102 (by decide) (by omega) (fun _ => ?_) (fun c0 => ?_)
  · refine lv_goto (tgt := 1591) hx hb d_L_law_1117 (by decide) ?_
    exact kk w2 _ _ ls hz2 hP hD hS (lv_sub hl [2, 3, 4, 5, 6] rfl)
  obtain ⟨fo, hfo1, hfo2⟩ := hfo c0
  refine lv_aload_n hx hb d_L_law_1105 rfl (lv_at hl 5 rfl) ?_
  refine lv_iconst (v := nI 0) hx hb d_L_law_1106 (by decide) ?_
  refine va_lald hx hb hK hP 7 2 hfo1 rfl (i := nI 0) (vp_in_nI (by decide) (by decide)) d_L_law_1107 ?_
  rw [show (nI 0).toNatClampNeg = 0 from by decide, hfo2]
  refine lv_iload hx hb d_L_law_1108 (lv_at hl 0 rfl) ?_
  refine lv_i2l (v := v2.toInt64) hx hb d_L_law_1110 rfl ?_
  refine W.lcmp hx hb d_L_law_1111 ?_
  rw [lg_cmp_self]
  refine lv_if_eq (tgt := 1117) hx hb d_L_law_1112 (by decide) (fun _ => ?_) (fun c9 => absurd rfl c9)
  refine lv_goto (tgt := 1591) hx hb d_L_law_1117 (by decide) ?_
  exact kk w2 _ _ ls hz2 hP hD hS (lv_sub hl [2, 3, 4, 5, 6] rfl)
set_option maxHeartbeats 800000 in
set_option maxRecDepth 100000 in
theorem law_right {b L : Nat} {xs : Nat → Int32} (hx : p.tables.exec = Jvm.exec) (hb : c.code = code) (hml : c.maxLocals = 8) (hown : s.vm.findClass "LimbRowsLaw" = some m.cls) (hts : ∀ w ∈ gw, w.before #[Value.ref b] s = true) (hA : ∀ q : Nat, s.heap.size ≤ q → A q) (hK : va_K D cls0 (ty3 cA cR cL) s) (hN : xN s) (hT : xT s) (hZ : xZ A s s.heap) (hX : va_X b L xs s s.heap) (hbl : b < s.heap.size) (hbA : ¬ A b) (hL : L ≤ 2048) {i xo h ou k mc ms : Nat} {rm : Room} (hi : i + 4 ≤ L) (hk : k ≤ 2) {w0 : va_W} {Y1 Z : va_W → Prop} (hrm : rm.cells = mc ∧ rm.slots = ms ∧ rm.frames ≤ 10 ∧ rm.locals ≤ 300) (hmc : cells + mc ≤ 601024 ∧ slots + ms ≤ 7293033)
    (hW : xCW l y_L_right w_L_right rm D cls0 (ty3 cA cR cL) [.ref xo, .int ((xs (i + 1))), .int ((xs (i + 2))), .ref ou] w0 (some (.int (nI k))) Y1 mc ms)
    (hM : ∀ w1, Y1 w1 → (∃ cd, isMd cA h cd w1) ∧ ∃ (v2 : Int32) (Y2 : va_W → Prop), xC l y_X2_right w_X2_right ({ frames := 5, cells := 0, slots := 0, locals := 115 }) D cls0 (ty3 cA cR cL) [.ref h, .int ((xs (i + 1))), .int ((xs (i + 2)))] w1 (some (.int v2)) Y2 0 0 ∧ ∀ w2, Y2 w2 → isMd cA h (nI k) w2 ∧ (k = 0 → ∃ fo : Nat → Int64, w2[7]? = some (ou, .inl (cL, 1, .inr (.inl fo))) ∧ fo 0 = v2.toInt64) ∧ Z w2)
    (hP : va_P D cls0 w0 H) (hD : va_D A w0) (hS : va_S A s.heap H locs) (hl : lv_has ls 8 [(0, .ref b), (1, .ref xo), (2, .ref h), (3, .ref ou), (4, .int (nI i))])
    (kk : ∀ (w2 : va_W) (H : Heap) (locs : List Loc) (ls : Array Slot), Z w2 → va_P D cls0 w2 H → va_D A w2 → va_S A s.heap H locs → lv_has ls 8 [(0, .ref b), (1, .ref xo), (2, .ref h), (3, .ref ou), (4, .int (nI i))] → W p l e room_1 s m #[Value.ref b] below meth c H locs (cells + mc) (slots + ms) Q (F0 m 1591 ls [])) : W p l e room_1 s m #[Value.ref b] below meth c H locs cells slots Q (F0 m 1120 ls []) := by
  refine lv_aload_n hx hb d_L_law_1120 rfl (lv_at hl 1 rfl) ?_
  refine lv_aload_n hx hb d_L_law_1121 rfl (lv_at hl 0 rfl) ?_
  refine lv_iload hx hb d_L_law_1122 (lv_at hl 4 rfl) ?_
  refine lv_iconst (v := nI 1) hx hb d_L_law_1124 (by decide) ?_
  refine n_iadd hx hb d_L_law_1125 ?_
  refine q_sld hx hb hX hbl hbA hS (j := i + 1) (by omega) hL d_L_law_1126 ?_
  refine lv_aload_n hx hb d_L_law_1127 rfl (lv_at hl 0 rfl) ?_
  refine lv_iload hx hb d_L_law_1128 (lv_at hl 4 rfl) ?_
  refine lv_iconst (v := nI 2) hx hb d_L_law_1130 (by decide) ?_
  refine n_iadd hx hb d_L_law_1131 ?_
  refine q_sld hx hb hX hbl hbA hS (j := i + 2) (by omega) hL d_L_law_1132 ?_
  refine lv_aload_n hx hb d_L_law_1133 rfl (lv_at hl 3 rfl) ?_
  refine x_call (st1 := [.int (nI k)]) (xw_runS (As := [.ref xo, .int ((xs (i + 1))), .int ((xs (i + 2))), .ref ou]) (rest := []) (nL := 8) ⟨hx, hb, hml, hown, hts⟩ (hW _) (vx_cwSW 4 hts (gw_SC k_388 k_389 k_49 k_390) rfl hrm.1 hrm.2.1 (by decide +kernel) ⟨by show _ ≤ 11; omega, by show _ ≤ 396; omega⟩) hK hN hT hZ hP hD hS (x_sub hD hS hA) rfl hl.1 rfl (Nat.le_of_ble_eq_true rfl) d_L_law_1134 ⟨hmc.1, hmc.2⟩) hS (x_sub hD hS hA) (x_sub hD hS hA) rfl (fun w1 H locs hY1 hP hD hS => ?_)
  obtain ⟨⟨cd, hmd1⟩, v2, Y2, hC2, hY2⟩ := hM w1 hY1
  obtain ⟨fs1, hfs1⟩ := hmd1.at
  refine lv_istore (lv' := [(5, .int (nI k)), (0, .ref b), (1, .ref xo), (2, .ref h), (3, .ref ou), (4, .int (nI i))]) hx hb d_L_law_1137 hl (by decide) rfl (fun ls hl => ?_)
  refine lv_aload_n hx hb d_L_law_1139 rfl (lv_at hl 3 rfl) ?_
  refine lv_aload_n hx hb d_L_law_1140 rfl (lv_at hl 1 rfl) ?_
  refine lv_iload hx hb d_L_law_1141 (lv_at hl 5 rfl) ?_
  refine lv_iconst (v := nI 1) hx hb d_L_law_1143 (by decide) ?_
  refine n_iadd hx hb d_L_law_1144 ?_
  refine q_sld hx hb hX hbl hbA hS (j := i + 1) (by omega) hL d_L_law_1145 ?_
  refine lv_aload_n hx hb d_L_law_1146 rfl (lv_at hl 1 rfl) ?_
  refine lv_iload hx hb d_L_law_1147 (lv_at hl 5 rfl) ?_
  refine lv_iconst (v := nI 2) hx hb d_L_law_1149 (by decide) ?_
  refine n_iadd hx hb d_L_law_1150 ?_
  refine q_sld hx hb hX hbl hbA hS (j := i + 2) (by omega) hL d_L_law_1151 ?_
  refine x_call (st1 := [.int v2]) (x_runV (As := [.int ((xs (i + 1))), .int ((xs (i + 2)))]) (rest := []) (nL := 8) ⟨hx, hb, hml, hown, hts⟩ (hC2 _) (cwV 2 hts (gw_V k_638 k_639 k_640 k_52 k_641) rfl rfl rfl (by decide +kernel) ⟨Nat.le_of_ble_eq_true rfl, Nat.le_of_ble_eq_true rfl⟩) hK hP hD 0 2 hfs1 rfl rfl hl.1 rfl (Nat.le_of_ble_eq_true rfl) d_L_law_1152 ⟨hmc.1, hmc.2⟩) hS (x_sub hD hS hA) (x_sub hD hS hA) rfl (fun w2 H locs hY hP hD hS => ?_)
  obtain ⟨hmd2, hfo, hz2⟩ := hY2 w2 hY
  refine lv_istore (lv' := [(6, .int v2), (5, .int (nI k)), (0, .ref b), (1, .ref xo), (2, .ref h), (3, .ref ou), (4, .int (nI i))]) hx hb d_L_law_1155 hl (by decide) rfl (fun ls hl => ?_)
  refine lv_aload_n hx hb d_L_law_1157 rfl (lv_at hl 4 rfl) ?_
  refine q_thrown ⟨by decide, by decide, hmc.1, hmc.2⟩ hmd2 hx hb hml hown hts hK hP hD hl.1 d_L_law_1158 ?_
  refine lv_iload hx hb d_L_law_1161 (lv_at hl 1 rfl) ?_
  refine n_icmp_eq (tgt := 1168) hx hb d_L_law_1163 (by decide) (by omega) (by omega) (fun _ => ?_) (fun c9 => absurd rfl c9)
  refine lv_iload hx hb d_L_law_1168 (lv_at hl 1 rfl) ?_
  refine n_if_ne (tgt := 1185) hx hb d_L_law_1170 (by decide) (by omega) (fun _ => ?_) (fun c0 => ?_)
  · refine lv_goto (tgt := 1591) hx hb d_L_law_1185 (by decide) ?_
    exact kk w2 _ _ ls hz2 hP hD hS (lv_sub hl [2, 3, 4, 5, 6] rfl)
  obtain ⟨fo, hfo1, hfo2⟩ := hfo c0
  refine lv_aload_n hx hb d_L_law_1173 rfl (lv_at hl 5 rfl) ?_
  refine lv_iconst (v := nI 0) hx hb d_L_law_1174 (by decide) ?_
  refine va_lald hx hb hK hP 7 2 hfo1 rfl (i := nI 0) (vp_in_nI (by decide) (by decide)) d_L_law_1175 ?_
  rw [show (nI 0).toNatClampNeg = 0 from by decide, hfo2]
  refine lv_iload hx hb d_L_law_1176 (lv_at hl 0 rfl) ?_
  refine lv_i2l (v := v2.toInt64) hx hb d_L_law_1178 rfl ?_
  refine W.lcmp hx hb d_L_law_1179 ?_
  rw [lg_cmp_self]
  refine lv_if_eq (tgt := 1185) hx hb d_L_law_1180 (by decide) (fun _ => ?_) (fun c9 => absurd rfl c9)
  refine lv_goto (tgt := 1591) hx hb d_L_law_1185 (by decide) ?_
  exact kk w2 _ _ ls hz2 hP hD hS (lv_sub hl [2, 3, 4, 5, 6] rfl)
set_option maxHeartbeats 800000 in
set_option maxRecDepth 100000 in
theorem law_nearest {b L : Nat} {xs : Nat → Int32} (hx : p.tables.exec = Jvm.exec) (hb : c.code = code) (hml : c.maxLocals = 8) (hown : s.vm.findClass "LimbRowsLaw" = some m.cls) (hts : ∀ w ∈ gw, w.before #[Value.ref b] s = true) (hA : ∀ q : Nat, s.heap.size ≤ q → A q) (hK : va_K D cls0 (ty3 cA cR cL) s) (hN : xN s) (hT : xT s) (hZ : xZ A s s.heap) (hX : va_X b L xs s s.heap) (hbl : b < s.heap.size) (hbA : ¬ A b) (hL : L ≤ 2048) {i xo h ou k mc ms : Nat} {rm : Room} (hi : i + 4 ≤ L) (hk : k ≤ 2) {w0 : va_W} {Y1 Z : va_W → Prop} (hrm : rm.cells = mc ∧ rm.slots = ms ∧ rm.frames ≤ 10 ∧ rm.locals ≤ 300) (hmc : cells + mc ≤ 601024 ∧ slots + ms ≤ 7293033)
    (hW : xCW l y_L_nearest w_L_nearest rm D cls0 (ty3 cA cR cL) [.ref xo, .int ((xs (i + 1))), .int ((xs (i + 2))), .ref ou] w0 (some (.int (nI k))) Y1 mc ms)
    (hM : ∀ w1, Y1 w1 → (∃ cd, isMd cA h cd w1) ∧ ∃ (v2 : Int32) (Y2 : va_W → Prop), xC l y_X2_nearest w_X2_nearest ({ frames := 5, cells := 0, slots := 0, locals := 115 }) D cls0 (ty3 cA cR cL) [.ref h, .int ((xs (i + 1))), .int ((xs (i + 2)))] w1 (some (.int v2)) Y2 0 0 ∧ ∀ w2, Y2 w2 → isMd cA h (nI k) w2 ∧ (k = 0 → ∃ fo : Nat → Int64, w2[7]? = some (ou, .inl (cL, 1, .inr (.inl fo))) ∧ fo 0 = v2.toInt64) ∧ Z w2)
    (hP : va_P D cls0 w0 H) (hD : va_D A w0) (hS : va_S A s.heap H locs) (hl : lv_has ls 8 [(0, .ref b), (1, .ref xo), (2, .ref h), (3, .ref ou), (4, .int (nI i))])
    (kk : ∀ (w2 : va_W) (H : Heap) (locs : List Loc) (ls : Array Slot), Z w2 → va_P D cls0 w2 H → va_D A w2 → va_S A s.heap H locs → lv_has ls 8 [(0, .ref b), (1, .ref xo), (2, .ref h), (3, .ref ou), (4, .int (nI i))] → W p l e room_1 s m #[Value.ref b] below meth c H locs (cells + mc) (slots + ms) Q (F0 m 1591 ls [])) : W p l e room_1 s m #[Value.ref b] below meth c H locs cells slots Q (F0 m 1188 ls []) := by
  refine lv_aload_n hx hb d_L_law_1188 rfl (lv_at hl 1 rfl) ?_
  refine lv_aload_n hx hb d_L_law_1189 rfl (lv_at hl 0 rfl) ?_
  refine lv_iload hx hb d_L_law_1190 (lv_at hl 4 rfl) ?_
  refine lv_iconst (v := nI 1) hx hb d_L_law_1192 (by decide) ?_
  refine n_iadd hx hb d_L_law_1193 ?_
  refine q_sld hx hb hX hbl hbA hS (j := i + 1) (by omega) hL d_L_law_1194 ?_
  refine lv_aload_n hx hb d_L_law_1195 rfl (lv_at hl 0 rfl) ?_
  refine lv_iload hx hb d_L_law_1196 (lv_at hl 4 rfl) ?_
  refine lv_iconst (v := nI 2) hx hb d_L_law_1198 (by decide) ?_
  refine n_iadd hx hb d_L_law_1199 ?_
  refine q_sld hx hb hX hbl hbA hS (j := i + 2) (by omega) hL d_L_law_1200 ?_
  refine lv_aload_n hx hb d_L_law_1201 rfl (lv_at hl 3 rfl) ?_
  refine x_call (st1 := [.int (nI k)]) (xw_runS (As := [.ref xo, .int ((xs (i + 1))), .int ((xs (i + 2))), .ref ou]) (rest := []) (nL := 8) ⟨hx, hb, hml, hown, hts⟩ (hW _) (vx_cwSW 4 hts (gw_SC k_399 k_400 k_49 k_401) rfl hrm.1 hrm.2.1 (by decide +kernel) ⟨by show _ ≤ 11; omega, by show _ ≤ 396; omega⟩) hK hN hT hZ hP hD hS (x_sub hD hS hA) rfl hl.1 rfl (Nat.le_of_ble_eq_true rfl) d_L_law_1202 ⟨hmc.1, hmc.2⟩) hS (x_sub hD hS hA) (x_sub hD hS hA) rfl (fun w1 H locs hY1 hP hD hS => ?_)
  obtain ⟨⟨cd, hmd1⟩, v2, Y2, hC2, hY2⟩ := hM w1 hY1
  obtain ⟨fs1, hfs1⟩ := hmd1.at
  refine lv_istore (lv' := [(5, .int (nI k)), (0, .ref b), (1, .ref xo), (2, .ref h), (3, .ref ou), (4, .int (nI i))]) hx hb d_L_law_1205 hl (by decide) rfl (fun ls hl => ?_)
  refine lv_aload_n hx hb d_L_law_1207 rfl (lv_at hl 3 rfl) ?_
  refine lv_aload_n hx hb d_L_law_1208 rfl (lv_at hl 1 rfl) ?_
  refine lv_iload hx hb d_L_law_1209 (lv_at hl 5 rfl) ?_
  refine lv_iconst (v := nI 1) hx hb d_L_law_1211 (by decide) ?_
  refine n_iadd hx hb d_L_law_1212 ?_
  refine q_sld hx hb hX hbl hbA hS (j := i + 1) (by omega) hL d_L_law_1213 ?_
  refine lv_aload_n hx hb d_L_law_1214 rfl (lv_at hl 1 rfl) ?_
  refine lv_iload hx hb d_L_law_1215 (lv_at hl 5 rfl) ?_
  refine lv_iconst (v := nI 2) hx hb d_L_law_1217 (by decide) ?_
  refine n_iadd hx hb d_L_law_1218 ?_
  refine q_sld hx hb hX hbl hbA hS (j := i + 2) (by omega) hL d_L_law_1219 ?_
  refine x_call (st1 := [.int v2]) (x_runV (As := [.int ((xs (i + 1))), .int ((xs (i + 2)))]) (rest := []) (nL := 8) ⟨hx, hb, hml, hown, hts⟩ (hC2 _) (cwV 2 hts (gw_V k_646 k_647 k_648 k_52 k_649) rfl rfl rfl (by decide +kernel) ⟨Nat.le_of_ble_eq_true rfl, Nat.le_of_ble_eq_true rfl⟩) hK hP hD 0 2 hfs1 rfl rfl hl.1 rfl (Nat.le_of_ble_eq_true rfl) d_L_law_1220 ⟨hmc.1, hmc.2⟩) hS (x_sub hD hS hA) (x_sub hD hS hA) rfl (fun w2 H locs hY hP hD hS => ?_)
  obtain ⟨hmd2, hfo, hz2⟩ := hY2 w2 hY
  refine lv_istore (lv' := [(6, .int v2), (5, .int (nI k)), (0, .ref b), (1, .ref xo), (2, .ref h), (3, .ref ou), (4, .int (nI i))]) hx hb d_L_law_1223 hl (by decide) rfl (fun ls hl => ?_)
  refine lv_aload_n hx hb d_L_law_1225 rfl (lv_at hl 4 rfl) ?_
  refine q_thrown ⟨by decide, by decide, hmc.1, hmc.2⟩ hmd2 hx hb hml hown hts hK hP hD hl.1 d_L_law_1226 ?_
  refine lv_iload hx hb d_L_law_1229 (lv_at hl 1 rfl) ?_
  refine n_icmp_eq (tgt := 1236) hx hb d_L_law_1231 (by decide) (by omega) (by omega) (fun _ => ?_) (fun c9 => absurd rfl c9)
  refine lv_iload hx hb d_L_law_1236 (lv_at hl 1 rfl) ?_
  refine n_if_ne (tgt := 1253) hx hb d_L_law_1238 (by decide) (by omega) (fun _ => ?_) (fun c0 => ?_)
  · refine lv_goto (tgt := 1591) hx hb d_L_law_1253 (by decide) ?_
    exact kk w2 _ _ ls hz2 hP hD hS (lv_sub hl [2, 3, 4, 5, 6] rfl)
  obtain ⟨fo, hfo1, hfo2⟩ := hfo c0
  refine lv_aload_n hx hb d_L_law_1241 rfl (lv_at hl 5 rfl) ?_
  refine lv_iconst (v := nI 0) hx hb d_L_law_1242 (by decide) ?_
  refine va_lald hx hb hK hP 7 2 hfo1 rfl (i := nI 0) (vp_in_nI (by decide) (by decide)) d_L_law_1243 ?_
  rw [show (nI 0).toNatClampNeg = 0 from by decide, hfo2]
  refine lv_iload hx hb d_L_law_1244 (lv_at hl 0 rfl) ?_
  refine lv_i2l (v := v2.toInt64) hx hb d_L_law_1246 rfl ?_
  refine W.lcmp hx hb d_L_law_1247 ?_
  rw [lg_cmp_self]
  refine lv_if_eq (tgt := 1253) hx hb d_L_law_1248 (by decide) (fun _ => ?_) (fun c9 => absurd rfl c9)
  refine lv_goto (tgt := 1591) hx hb d_L_law_1253 (by decide) ?_
  exact kk w2 _ _ ls hz2 hP hD hS (lv_sub hl [2, 3, 4, 5, 6] rfl)
set_option maxHeartbeats 800000 in
set_option maxRecDepth 100000 in
theorem law_divide {b L : Nat} {xs : Nat → Int32} (hx : p.tables.exec = Jvm.exec) (hb : c.code = code) (hml : c.maxLocals = 8) (hown : s.vm.findClass "LimbRowsLaw" = some m.cls) (hts : ∀ w ∈ gw, w.before #[Value.ref b] s = true) (hA : ∀ q : Nat, s.heap.size ≤ q → A q) (hK : va_K D cls0 (ty3 cA cR cL) s) (hN : xN s) (hT : xT s) (hZ : xZ A s s.heap) (hX : va_X b L xs s s.heap) (hbl : b < s.heap.size) (hbA : ¬ A b) (hL : L ≤ 2048) {i xo h ou k mc ms : Nat} {rm : Room} (hi : i + 4 ≤ L) (hk : k ≤ 2) {w0 : va_W} {Y1 Z : va_W → Prop} (hrm : rm.cells = mc ∧ rm.slots = ms ∧ rm.frames ≤ 10 ∧ rm.locals ≤ 300) (hmc : cells + mc ≤ 601024 ∧ slots + ms ≤ 7293033)
    (hW : xCW l y_L_divide w_L_divide rm D cls0 (ty3 cA cR cL) [.ref xo, .int ((xs (i + 1))), .long ((j_ll (xs (i + 2)).toInt64 (nI 32) ||| ((xs (i + 3)).toInt64 &&& 4294967295))), .ref ou] w0 (some (.int (nI k))) Y1 mc ms)
    (hM : ∀ w1, Y1 w1 → (∃ cd, isMd cA h cd w1) ∧ ∃ (v2 : Int64) (Y2 : va_W → Prop), xC l y_X2_divide w_X2_divide ({ frames := 4, cells := 0, slots := 0, locals := 93 }) D cls0 (ty3 cA cR cL) [.ref h, .int ((xs (i + 1))), .long ((j_ll (xs (i + 2)).toInt64 (nI 32) ||| ((xs (i + 3)).toInt64 &&& 4294967295)))] w1 (some (.long v2)) Y2 0 0 ∧ ∀ w2, Y2 w2 → isMd cA h (nI k) w2 ∧ (k = 0 → ∃ fo : Nat → Int64, w2[7]? = some (ou, .inl (cL, 1, .inr (.inl fo))) ∧ fo 0 = v2) ∧ Z w2)
    (hP : va_P D cls0 w0 H) (hD : va_D A w0) (hS : va_S A s.heap H locs) (hl : lv_has ls 8 [(0, .ref b), (1, .ref xo), (2, .ref h), (3, .ref ou), (4, .int (nI i))])
    (kk : ∀ (w2 : va_W) (H : Heap) (locs : List Loc) (ls : Array Slot), Z w2 → va_P D cls0 w2 H → va_D A w2 → va_S A s.heap H locs → lv_has ls 8 [(0, .ref b), (1, .ref xo), (2, .ref h), (3, .ref ou), (4, .int (nI i))] → W p l e room_1 s m #[Value.ref b] below meth c H locs (cells + mc) (slots + ms) Q (F0 m 1591 ls [])) : W p l e room_1 s m #[Value.ref b] below meth c H locs cells slots Q (F0 m 1256 ls []) := by
  refine lv_aload_n hx hb d_L_law_1256 rfl (lv_at hl 1 rfl) ?_
  refine lv_aload_n hx hb d_L_law_1257 rfl (lv_at hl 0 rfl) ?_
  refine lv_iload hx hb d_L_law_1258 (lv_at hl 4 rfl) ?_
  refine lv_iconst (v := nI 1) hx hb d_L_law_1260 (by decide) ?_
  refine n_iadd hx hb d_L_law_1261 ?_
  refine q_sld hx hb hX hbl hbA hS (j := i + 1) (by omega) hL d_L_law_1262 ?_
  refine lv_aload_n hx hb d_L_law_1263 rfl (lv_at hl 0 rfl) ?_
  refine lv_iload hx hb d_L_law_1264 (lv_at hl 4 rfl) ?_
  refine lv_iconst (v := nI 2) hx hb d_L_law_1266 (by decide) ?_
  refine n_iadd hx hb d_L_law_1267 ?_
  refine q_sld hx hb hX hbl hbA hS (j := i + 2) (by omega) hL d_L_law_1268 ?_
  refine lv_i2l (v := (xs (i + 2)).toInt64) hx hb d_L_law_1269 rfl ?_
  refine lv_bipush (v := nI 32) hx hb d_L_law_1270 (by decide) ?_
  refine lv_lshl (v := j_ll ((xs (i + 2)).toInt64) (nI 32)) hx hb d_L_law_1272 rfl ?_
  refine lv_aload_n hx hb d_L_law_1273 rfl (lv_at hl 0 rfl) ?_
  refine lv_iload hx hb d_L_law_1274 (lv_at hl 4 rfl) ?_
  refine lv_iconst (v := nI 3) hx hb d_L_law_1276 (by decide) ?_
  refine n_iadd hx hb d_L_law_1277 ?_
  refine q_sld hx hb hX hbl hbA hS (j := i + 3) (by omega) hL d_L_law_1278 ?_
  refine lv_i2l (v := (xs (i + 3)).toInt64) hx hb d_L_law_1279 rfl ?_
  refine lv_ldc2 (v := 4294967295) hx hb hown (hts (.constantLong "LimbRowsLaw" 99 4294967295) k_673) d_L_law_1280 ?_
  refine lv_land hx hb d_L_law_1283 ?_
  refine lv_lor hx hb d_L_law_1284 ?_
  refine lv_aload_n hx hb d_L_law_1285 rfl (lv_at hl 3 rfl) ?_
  refine x_call (st1 := [.int (nI k)]) (xw_runS (As := [.ref xo, .int ((xs (i + 1))), .long ((j_ll (xs (i + 2)).toInt64 (nI 32) ||| ((xs (i + 3)).toInt64 &&& 4294967295))), .ref ou]) (rest := []) (nL := 8) ⟨hx, hb, hml, hown, hts⟩ (hW _) (vx_cwSW 4 hts (gw_SC k_422 k_423 k_49 k_424) rfl hrm.1 hrm.2.1 (by decide +kernel) ⟨by show _ ≤ 11; omega, by show _ ≤ 396; omega⟩) hK hN hT hZ hP hD hS (x_sub hD hS hA) rfl hl.1 rfl (Nat.le_of_ble_eq_true rfl) d_L_law_1286 ⟨hmc.1, hmc.2⟩) hS (x_sub hD hS hA) (x_sub hD hS hA) rfl (fun w1 H locs hY1 hP hD hS => ?_)
  obtain ⟨⟨cd, hmd1⟩, v2, Y2, hC2, hY2⟩ := hM w1 hY1
  obtain ⟨fs1, hfs1⟩ := hmd1.at
  refine lv_istore (lv' := [(5, .int (nI k)), (0, .ref b), (1, .ref xo), (2, .ref h), (3, .ref ou), (4, .int (nI i))]) hx hb d_L_law_1289 hl (by decide) rfl (fun ls hl => ?_)
  refine lv_aload_n hx hb d_L_law_1291 rfl (lv_at hl 3 rfl) ?_
  refine lv_aload_n hx hb d_L_law_1292 rfl (lv_at hl 1 rfl) ?_
  refine lv_iload hx hb d_L_law_1293 (lv_at hl 5 rfl) ?_
  refine lv_iconst (v := nI 1) hx hb d_L_law_1295 (by decide) ?_
  refine n_iadd hx hb d_L_law_1296 ?_
  refine q_sld hx hb hX hbl hbA hS (j := i + 1) (by omega) hL d_L_law_1297 ?_
  refine lv_aload_n hx hb d_L_law_1298 rfl (lv_at hl 1 rfl) ?_
  refine lv_iload hx hb d_L_law_1299 (lv_at hl 5 rfl) ?_
  refine lv_iconst (v := nI 2) hx hb d_L_law_1301 (by decide) ?_
  refine n_iadd hx hb d_L_law_1302 ?_
  refine q_sld hx hb hX hbl hbA hS (j := i + 2) (by omega) hL d_L_law_1303 ?_
  refine lv_i2l (v := (xs (i + 2)).toInt64) hx hb d_L_law_1304 rfl ?_
  refine lv_bipush (v := nI 32) hx hb d_L_law_1305 (by decide) ?_
  refine lv_lshl (v := j_ll ((xs (i + 2)).toInt64) (nI 32)) hx hb d_L_law_1307 rfl ?_
  refine lv_aload_n hx hb d_L_law_1308 rfl (lv_at hl 1 rfl) ?_
  refine lv_iload hx hb d_L_law_1309 (lv_at hl 5 rfl) ?_
  refine lv_iconst (v := nI 3) hx hb d_L_law_1311 (by decide) ?_
  refine n_iadd hx hb d_L_law_1312 ?_
  refine q_sld hx hb hX hbl hbA hS (j := i + 3) (by omega) hL d_L_law_1313 ?_
  refine lv_i2l (v := (xs (i + 3)).toInt64) hx hb d_L_law_1314 rfl ?_
  refine lv_ldc2 (v := 4294967295) hx hb hown (hts (.constantLong "LimbRowsLaw" 99 4294967295) k_673) d_L_law_1315 ?_
  refine lv_land hx hb d_L_law_1318 ?_
  refine lv_lor hx hb d_L_law_1319 ?_
  refine x_call (st1 := [.long v2]) (x_runV (As := [.int ((xs (i + 1))), .long ((j_ll (xs (i + 2)).toInt64 (nI 32) ||| ((xs (i + 3)).toInt64 &&& 4294967295)))]) (rest := []) (nL := 8) ⟨hx, hb, hml, hown, hts⟩ (hC2 _) (cwV 2 hts (gw_V k_650 k_651 k_652 k_52 k_653) rfl rfl rfl (by decide +kernel) ⟨Nat.le_of_ble_eq_true rfl, Nat.le_of_ble_eq_true rfl⟩) hK hP hD 0 2 hfs1 rfl rfl hl.1 rfl (Nat.le_of_ble_eq_true rfl) d_L_law_1320 ⟨hmc.1, hmc.2⟩) hS (x_sub hD hS hA) (x_sub hD hS hA) rfl (fun w2 H locs hY hP hD hS => ?_)
  obtain ⟨hmd2, hfo, hz2⟩ := hY2 w2 hY
  refine lv_lstore (lv' := [(6, .long v2), (5, .int (nI k)), (0, .ref b), (1, .ref xo), (2, .ref h), (3, .ref ou), (4, .int (nI i))]) hx hb d_L_law_1323 hl (by decide) rfl (fun ls hl => ?_)
  refine lv_aload_n hx hb d_L_law_1325 rfl (lv_at hl 4 rfl) ?_
  refine q_thrown ⟨by decide, by decide, hmc.1, hmc.2⟩ hmd2 hx hb hml hown hts hK hP hD hl.1 d_L_law_1326 ?_
  refine lv_iload hx hb d_L_law_1329 (lv_at hl 1 rfl) ?_
  refine n_icmp_eq (tgt := 1336) hx hb d_L_law_1331 (by decide) (by omega) (by omega) (fun _ => ?_) (fun c9 => absurd rfl c9)
  refine lv_iload hx hb d_L_law_1336 (lv_at hl 1 rfl) ?_
  refine n_if_ne (tgt := 1352) hx hb d_L_law_1338 (by decide) (by omega) (fun _ => ?_) (fun c0 => ?_)
  · refine lv_goto (tgt := 1591) hx hb d_L_law_1352 (by decide) ?_
    exact kk w2 _ _ ls hz2 hP hD hS (lv_sub hl [2, 3, 4, 5, 6] rfl)
  obtain ⟨fo, hfo1, hfo2⟩ := hfo c0
  refine lv_aload_n hx hb d_L_law_1341 rfl (lv_at hl 5 rfl) ?_
  refine lv_iconst (v := nI 0) hx hb d_L_law_1342 (by decide) ?_
  refine va_lald hx hb hK hP 7 2 hfo1 rfl (i := nI 0) (vp_in_nI (by decide) (by decide)) d_L_law_1343 ?_
  rw [show (nI 0).toNatClampNeg = 0 from by decide, hfo2]
  refine lv_lload hx hb d_L_law_1344 (lv_at hl 0 rfl) ?_
  refine W.lcmp hx hb d_L_law_1346 ?_
  rw [lg_cmp_self]
  refine lv_if_eq (tgt := 1352) hx hb d_L_law_1347 (by decide) (fun _ => ?_) (fun c9 => absurd rfl c9)
  refine lv_goto (tgt := 1591) hx hb d_L_law_1352 (by decide) ?_
  exact kk w2 _ _ ls hz2 hP hD hS (lv_sub hl [2, 3, 4, 5, 6] rfl)
set_option maxHeartbeats 800000 in
set_option maxRecDepth 100000 in
theorem law_zeros {b L : Nat} {xs : Nat → Int32} (hx : p.tables.exec = Jvm.exec) (hb : c.code = code) (hml : c.maxLocals = 8) (hown : s.vm.findClass "LimbRowsLaw" = some m.cls) (hts : ∀ w ∈ gw, w.before #[Value.ref b] s = true) (hA : ∀ q : Nat, s.heap.size ≤ q → A q) (hK : va_K D cls0 (ty3 cA cR cL) s) (hN : xN s) (hT : xT s) (hZ : xZ A s s.heap) (hX : va_X b L xs s s.heap) (hbl : b < s.heap.size) (hbA : ¬ A b) (hL : L ≤ 2048) {i xo h ou k mc ms : Nat} {rm : Room} (hi : i + 4 ≤ L) (hk : k ≤ 2) {w0 : va_W} {Y1 Z : va_W → Prop} (hrm : rm.cells = mc ∧ rm.slots = ms ∧ rm.frames ≤ 10 ∧ rm.locals ≤ 300) (hmc : cells + mc ≤ 601024 ∧ slots + ms ≤ 7293033)
    (hW : xCW l y_L_zeros w_L_zeros rm D cls0 (ty3 cA cR cL) [.ref xo, .int ((xs (i + 1))), .ref ou] w0 (some (.int (nI k))) Y1 mc ms)
    (hM : ∀ w1, Y1 w1 → (∃ cd, isMd cA h cd w1) ∧ ∃ (v2 : Int32) (Y2 : va_W → Prop), xC l y_X2_zeros w_X2_zeros ({ frames := 2, cells := 0, slots := 0, locals := 50 }) D cls0 (ty3 cA cR cL) [.ref h, .int ((xs (i + 1)))] w1 (some (.int v2)) Y2 0 0 ∧ ∀ w2, Y2 w2 → isMd cA h (nI k) w2 ∧ (k = 0 → ∃ fo : Nat → Int64, w2[7]? = some (ou, .inl (cL, 1, .inr (.inl fo))) ∧ fo 0 = v2.toInt64) ∧ Z w2)
    (hP : va_P D cls0 w0 H) (hD : va_D A w0) (hS : va_S A s.heap H locs) (hl : lv_has ls 8 [(0, .ref b), (1, .ref xo), (2, .ref h), (3, .ref ou), (4, .int (nI i))])
    (kk : ∀ (w2 : va_W) (H : Heap) (locs : List Loc) (ls : Array Slot), Z w2 → va_P D cls0 w2 H → va_D A w2 → va_S A s.heap H locs → lv_has ls 8 [(0, .ref b), (1, .ref xo), (2, .ref h), (3, .ref ou), (4, .int (nI i))] → W p l e room_1 s m #[Value.ref b] below meth c H locs (cells + mc) (slots + ms) Q (F0 m 1591 ls [])) : W p l e room_1 s m #[Value.ref b] below meth c H locs cells slots Q (F0 m 1355 ls []) := by
  refine lv_aload_n hx hb d_L_law_1355 rfl (lv_at hl 1 rfl) ?_
  refine lv_aload_n hx hb d_L_law_1356 rfl (lv_at hl 0 rfl) ?_
  refine lv_iload hx hb d_L_law_1357 (lv_at hl 4 rfl) ?_
  refine lv_iconst (v := nI 1) hx hb d_L_law_1359 (by decide) ?_
  refine n_iadd hx hb d_L_law_1360 ?_
  refine q_sld hx hb hX hbl hbA hS (j := i + 1) (by omega) hL d_L_law_1361 ?_
  refine lv_aload_n hx hb d_L_law_1362 rfl (lv_at hl 3 rfl) ?_
  refine x_call (st1 := [.int (nI k)]) (xw_runS (As := [.ref xo, .int ((xs (i + 1))), .ref ou]) (rest := []) (nL := 8) ⟨hx, hb, hml, hown, hts⟩ (hW _) (vx_cwSW 3 hts (gw_SC k_443 k_444 k_49 k_445) rfl hrm.1 hrm.2.1 (by decide +kernel) ⟨by show _ ≤ 11; omega, by show _ ≤ 396; omega⟩) hK hN hT hZ hP hD hS (x_sub hD hS hA) rfl hl.1 rfl (Nat.le_of_ble_eq_true rfl) d_L_law_1363 ⟨hmc.1, hmc.2⟩) hS (x_sub hD hS hA) (x_sub hD hS hA) rfl (fun w1 H locs hY1 hP hD hS => ?_)
  obtain ⟨⟨cd, hmd1⟩, v2, Y2, hC2, hY2⟩ := hM w1 hY1
  obtain ⟨fs1, hfs1⟩ := hmd1.at
  refine lv_istore (lv' := [(5, .int (nI k)), (0, .ref b), (1, .ref xo), (2, .ref h), (3, .ref ou), (4, .int (nI i))]) hx hb d_L_law_1366 hl (by decide) rfl (fun ls hl => ?_)
  refine lv_aload_n hx hb d_L_law_1368 rfl (lv_at hl 3 rfl) ?_
  refine lv_aload_n hx hb d_L_law_1369 rfl (lv_at hl 1 rfl) ?_
  refine lv_iload hx hb d_L_law_1370 (lv_at hl 5 rfl) ?_
  refine lv_iconst (v := nI 1) hx hb d_L_law_1372 (by decide) ?_
  refine n_iadd hx hb d_L_law_1373 ?_
  refine q_sld hx hb hX hbl hbA hS (j := i + 1) (by omega) hL d_L_law_1374 ?_
  refine x_call (st1 := [.int v2]) (x_runV (As := [.int ((xs (i + 1)))]) (rest := []) (nL := 8) ⟨hx, hb, hml, hown, hts⟩ (hC2 _) (cwV 1 hts (gw_V k_657 k_658 k_659 k_52 k_660) rfl rfl rfl (by decide +kernel) ⟨Nat.le_of_ble_eq_true rfl, Nat.le_of_ble_eq_true rfl⟩) hK hP hD 0 2 hfs1 rfl rfl hl.1 rfl (Nat.le_of_ble_eq_true rfl) d_L_law_1375 ⟨hmc.1, hmc.2⟩) hS (x_sub hD hS hA) (x_sub hD hS hA) rfl (fun w2 H locs hY hP hD hS => ?_)
  obtain ⟨hmd2, hfo, hz2⟩ := hY2 w2 hY
  refine lv_istore (lv' := [(6, .int v2), (5, .int (nI k)), (0, .ref b), (1, .ref xo), (2, .ref h), (3, .ref ou), (4, .int (nI i))]) hx hb d_L_law_1378 hl (by decide) rfl (fun ls hl => ?_)
  refine lv_aload_n hx hb d_L_law_1380 rfl (lv_at hl 4 rfl) ?_
  refine q_thrown ⟨by decide, by decide, hmc.1, hmc.2⟩ hmd2 hx hb hml hown hts hK hP hD hl.1 d_L_law_1381 ?_
  refine lv_iload hx hb d_L_law_1384 (lv_at hl 1 rfl) ?_
  refine n_icmp_eq (tgt := 1391) hx hb d_L_law_1386 (by decide) (by omega) (by omega) (fun _ => ?_) (fun c9 => absurd rfl c9)
  refine lv_iload hx hb d_L_law_1391 (lv_at hl 1 rfl) ?_
  refine n_if_ne (tgt := 1408) hx hb d_L_law_1393 (by decide) (by omega) (fun _ => ?_) (fun c0 => ?_)
  · refine lv_goto (tgt := 1591) hx hb d_L_law_1408 (by decide) ?_
    exact kk w2 _ _ ls hz2 hP hD hS (lv_sub hl [2, 3, 4, 5, 6] rfl)
  obtain ⟨fo, hfo1, hfo2⟩ := hfo c0
  refine lv_aload_n hx hb d_L_law_1396 rfl (lv_at hl 5 rfl) ?_
  refine lv_iconst (v := nI 0) hx hb d_L_law_1397 (by decide) ?_
  refine va_lald hx hb hK hP 7 2 hfo1 rfl (i := nI 0) (vp_in_nI (by decide) (by decide)) d_L_law_1398 ?_
  rw [show (nI 0).toNatClampNeg = 0 from by decide, hfo2]
  refine lv_iload hx hb d_L_law_1399 (lv_at hl 0 rfl) ?_
  refine lv_i2l (v := v2.toInt64) hx hb d_L_law_1401 rfl ?_
  refine W.lcmp hx hb d_L_law_1402 ?_
  rw [lg_cmp_self]
  refine lv_if_eq (tgt := 1408) hx hb d_L_law_1403 (by decide) (fun _ => ?_) (fun c9 => absurd rfl c9)
  refine lv_goto (tgt := 1591) hx hb d_L_law_1408 (by decide) ?_
  exact kk w2 _ _ ls hz2 hP hD hS (lv_sub hl [2, 3, 4, 5, 6] rfl)
set_option maxHeartbeats 800000 in
set_option maxRecDepth 100000 in
theorem law_length {b L : Nat} {xs : Nat → Int32} (hx : p.tables.exec = Jvm.exec) (hb : c.code = code) (hml : c.maxLocals = 8) (hown : s.vm.findClass "LimbRowsLaw" = some m.cls) (hts : ∀ w ∈ gw, w.before #[Value.ref b] s = true) (hA : ∀ q : Nat, s.heap.size ≤ q → A q) (hK : va_K D cls0 (ty3 cA cR cL) s) (hN : xN s) (hT : xT s) (hZ : xZ A s s.heap) (hX : va_X b L xs s s.heap) (hbl : b < s.heap.size) (hbA : ¬ A b) (hL : L ≤ 2048) {i xo h ou k mc ms : Nat} {rm : Room} (hi : i + 4 ≤ L) (hk : k ≤ 2) {w0 : va_W} {Y1 Z : va_W → Prop} (hrm : rm.cells = mc ∧ rm.slots = ms ∧ rm.frames ≤ 10 ∧ rm.locals ≤ 300) (hmc : cells + mc ≤ 601024 ∧ slots + ms ≤ 7293033)
    (hW : xCW l y_L_length w_L_length rm D cls0 (ty3 cA cR cL) [.ref xo, .int ((xs (i + 1))), .ref ou] w0 (some (.int (nI k))) Y1 mc ms)
    (hM : ∀ w1, Y1 w1 → (∃ cd, isMd cA h cd w1) ∧ ∃ (v2 : Int32) (Y2 : va_W → Prop), xC l y_X2_length w_X2_length ({ frames := 3, cells := 0, slots := 0, locals := 66 }) D cls0 (ty3 cA cR cL) [.ref h, .int ((xs (i + 1)))] w1 (some (.int v2)) Y2 0 0 ∧ ∀ w2, Y2 w2 → isMd cA h (nI k) w2 ∧ (k = 0 → ∃ fo : Nat → Int64, w2[7]? = some (ou, .inl (cL, 1, .inr (.inl fo))) ∧ fo 0 = v2.toInt64) ∧ Z w2)
    (hP : va_P D cls0 w0 H) (hD : va_D A w0) (hS : va_S A s.heap H locs) (hl : lv_has ls 8 [(0, .ref b), (1, .ref xo), (2, .ref h), (3, .ref ou), (4, .int (nI i))])
    (kk : ∀ (w2 : va_W) (H : Heap) (locs : List Loc) (ls : Array Slot), Z w2 → va_P D cls0 w2 H → va_D A w2 → va_S A s.heap H locs → lv_has ls 8 [(0, .ref b), (1, .ref xo), (2, .ref h), (3, .ref ou), (4, .int (nI i))] → W p l e room_1 s m #[Value.ref b] below meth c H locs (cells + mc) (slots + ms) Q (F0 m 1591 ls [])) : W p l e room_1 s m #[Value.ref b] below meth c H locs cells slots Q (F0 m 1411 ls []) := by
  refine lv_aload_n hx hb d_L_law_1411 rfl (lv_at hl 1 rfl) ?_
  refine lv_aload_n hx hb d_L_law_1412 rfl (lv_at hl 0 rfl) ?_
  refine lv_iload hx hb d_L_law_1413 (lv_at hl 4 rfl) ?_
  refine lv_iconst (v := nI 1) hx hb d_L_law_1415 (by decide) ?_
  refine n_iadd hx hb d_L_law_1416 ?_
  refine q_sld hx hb hX hbl hbA hS (j := i + 1) (by omega) hL d_L_law_1417 ?_
  refine lv_aload_n hx hb d_L_law_1418 rfl (lv_at hl 3 rfl) ?_
  refine x_call (st1 := [.int (nI k)]) (xw_runS (As := [.ref xo, .int ((xs (i + 1))), .ref ou]) (rest := []) (nL := 8) ⟨hx, hb, hml, hown, hts⟩ (hW _) (vx_cwSW 3 hts (gw_SC k_451 k_452 k_49 k_453) rfl hrm.1 hrm.2.1 (by decide +kernel) ⟨by show _ ≤ 11; omega, by show _ ≤ 396; omega⟩) hK hN hT hZ hP hD hS (x_sub hD hS hA) rfl hl.1 rfl (Nat.le_of_ble_eq_true rfl) d_L_law_1419 ⟨hmc.1, hmc.2⟩) hS (x_sub hD hS hA) (x_sub hD hS hA) rfl (fun w1 H locs hY1 hP hD hS => ?_)
  obtain ⟨⟨cd, hmd1⟩, v2, Y2, hC2, hY2⟩ := hM w1 hY1
  obtain ⟨fs1, hfs1⟩ := hmd1.at
  refine lv_istore (lv' := [(5, .int (nI k)), (0, .ref b), (1, .ref xo), (2, .ref h), (3, .ref ou), (4, .int (nI i))]) hx hb d_L_law_1422 hl (by decide) rfl (fun ls hl => ?_)
  refine lv_aload_n hx hb d_L_law_1424 rfl (lv_at hl 3 rfl) ?_
  refine lv_aload_n hx hb d_L_law_1425 rfl (lv_at hl 1 rfl) ?_
  refine lv_iload hx hb d_L_law_1426 (lv_at hl 5 rfl) ?_
  refine lv_iconst (v := nI 1) hx hb d_L_law_1428 (by decide) ?_
  refine n_iadd hx hb d_L_law_1429 ?_
  refine q_sld hx hb hX hbl hbA hS (j := i + 1) (by omega) hL d_L_law_1430 ?_
  refine x_call (st1 := [.int v2]) (x_runV (As := [.int ((xs (i + 1)))]) (rest := []) (nL := 8) ⟨hx, hb, hml, hown, hts⟩ (hC2 _) (cwV 1 hts (gw_V k_661 k_662 k_663 k_52 k_664) rfl rfl rfl (by decide +kernel) ⟨Nat.le_of_ble_eq_true rfl, Nat.le_of_ble_eq_true rfl⟩) hK hP hD 0 2 hfs1 rfl rfl hl.1 rfl (Nat.le_of_ble_eq_true rfl) d_L_law_1431 ⟨hmc.1, hmc.2⟩) hS (x_sub hD hS hA) (x_sub hD hS hA) rfl (fun w2 H locs hY hP hD hS => ?_)
  obtain ⟨hmd2, hfo, hz2⟩ := hY2 w2 hY
  refine lv_istore (lv' := [(6, .int v2), (5, .int (nI k)), (0, .ref b), (1, .ref xo), (2, .ref h), (3, .ref ou), (4, .int (nI i))]) hx hb d_L_law_1434 hl (by decide) rfl (fun ls hl => ?_)
  refine lv_aload_n hx hb d_L_law_1436 rfl (lv_at hl 4 rfl) ?_
  refine q_thrown ⟨by decide, by decide, hmc.1, hmc.2⟩ hmd2 hx hb hml hown hts hK hP hD hl.1 d_L_law_1437 ?_
  refine lv_iload hx hb d_L_law_1440 (lv_at hl 1 rfl) ?_
  refine n_icmp_eq (tgt := 1447) hx hb d_L_law_1442 (by decide) (by omega) (by omega) (fun _ => ?_) (fun c9 => absurd rfl c9)
  refine lv_iload hx hb d_L_law_1447 (lv_at hl 1 rfl) ?_
  refine n_if_ne (tgt := 1464) hx hb d_L_law_1449 (by decide) (by omega) (fun _ => ?_) (fun c0 => ?_)
  · refine lv_goto (tgt := 1591) hx hb d_L_law_1464 (by decide) ?_
    exact kk w2 _ _ ls hz2 hP hD hS (lv_sub hl [2, 3, 4, 5, 6] rfl)
  obtain ⟨fo, hfo1, hfo2⟩ := hfo c0
  refine lv_aload_n hx hb d_L_law_1452 rfl (lv_at hl 5 rfl) ?_
  refine lv_iconst (v := nI 0) hx hb d_L_law_1453 (by decide) ?_
  refine va_lald hx hb hK hP 7 2 hfo1 rfl (i := nI 0) (vp_in_nI (by decide) (by decide)) d_L_law_1454 ?_
  rw [show (nI 0).toNatClampNeg = 0 from by decide, hfo2]
  refine lv_iload hx hb d_L_law_1455 (lv_at hl 0 rfl) ?_
  refine lv_i2l (v := v2.toInt64) hx hb d_L_law_1457 rfl ?_
  refine W.lcmp hx hb d_L_law_1458 ?_
  rw [lg_cmp_self]
  refine lv_if_eq (tgt := 1464) hx hb d_L_law_1459 (by decide) (fun _ => ?_) (fun c9 => absurd rfl c9)
  refine lv_goto (tgt := 1591) hx hb d_L_law_1464 (by decide) ?_
  exact kk w2 _ _ ls hz2 hP hD hS (lv_sub hl [2, 3, 4, 5, 6] rfl)
set_option maxHeartbeats 800000 in
set_option maxRecDepth 100000 in
theorem law_sign {b L : Nat} {xs : Nat → Int32} (hx : p.tables.exec = Jvm.exec) (hb : c.code = code) (hml : c.maxLocals = 8) (hown : s.vm.findClass "LimbRowsLaw" = some m.cls) (hts : ∀ w ∈ gw, w.before #[Value.ref b] s = true) (hA : ∀ q : Nat, s.heap.size ≤ q → A q) (hK : va_K D cls0 (ty3 cA cR cL) s) (hN : xN s) (hT : xT s) (hZ : xZ A s s.heap) (hX : va_X b L xs s s.heap) (hbl : b < s.heap.size) (hbA : ¬ A b) (hL : L ≤ 2048) {i xo h ou k mc ms : Nat} {rm : Room} (hi : i + 4 ≤ L) (hk : k ≤ 2) {w0 : va_W} {Y1 Z : va_W → Prop} (hrm : rm.cells = mc ∧ rm.slots = ms ∧ rm.frames ≤ 10 ∧ rm.locals ≤ 300) (hmc : cells + mc ≤ 601024 ∧ slots + ms ≤ 7293033)
    (hW : xCW l y_L_sign w_L_sign rm D cls0 (ty3 cA cR cL) [.ref xo, .int ((xs (i + 1))), .ref ou] w0 (some (.int (nI k))) Y1 mc ms)
    (hM : ∀ w1, Y1 w1 → (∃ cd, isMd cA h cd w1) ∧ ∃ (v2 : Int32) (Y2 : va_W → Prop), xC l y_X2_sign w_X2_sign ({ frames := 3, cells := 0, slots := 0, locals := 71 }) D cls0 (ty3 cA cR cL) [.ref h, .int ((xs (i + 1)))] w1 (some (.int v2)) Y2 0 0 ∧ ∀ w2, Y2 w2 → isMd cA h (nI k) w2 ∧ (k = 0 → ∃ fo : Nat → Int64, w2[7]? = some (ou, .inl (cL, 1, .inr (.inl fo))) ∧ fo 0 = v2.toInt64) ∧ Z w2)
    (hP : va_P D cls0 w0 H) (hD : va_D A w0) (hS : va_S A s.heap H locs) (hl : lv_has ls 8 [(0, .ref b), (1, .ref xo), (2, .ref h), (3, .ref ou), (4, .int (nI i))])
    (kk : ∀ (w2 : va_W) (H : Heap) (locs : List Loc) (ls : Array Slot), Z w2 → va_P D cls0 w2 H → va_D A w2 → va_S A s.heap H locs → lv_has ls 8 [(0, .ref b), (1, .ref xo), (2, .ref h), (3, .ref ou), (4, .int (nI i))] → W p l e room_1 s m #[Value.ref b] below meth c H locs (cells + mc) (slots + ms) Q (F0 m 1591 ls [])) : W p l e room_1 s m #[Value.ref b] below meth c H locs cells slots Q (F0 m 1467 ls []) := by
  refine lv_aload_n hx hb d_L_law_1467 rfl (lv_at hl 1 rfl) ?_
  refine lv_aload_n hx hb d_L_law_1468 rfl (lv_at hl 0 rfl) ?_
  refine lv_iload hx hb d_L_law_1469 (lv_at hl 4 rfl) ?_
  refine lv_iconst (v := nI 1) hx hb d_L_law_1471 (by decide) ?_
  refine n_iadd hx hb d_L_law_1472 ?_
  refine q_sld hx hb hX hbl hbA hS (j := i + 1) (by omega) hL d_L_law_1473 ?_
  refine lv_aload_n hx hb d_L_law_1474 rfl (lv_at hl 3 rfl) ?_
  refine x_call (st1 := [.int (nI k)]) (xw_runS (As := [.ref xo, .int ((xs (i + 1))), .ref ou]) (rest := []) (nL := 8) ⟨hx, hb, hml, hown, hts⟩ (hW _) (vx_cwSW 3 hts (gw_SC k_459 k_460 k_49 k_461) rfl hrm.1 hrm.2.1 (by decide +kernel) ⟨by show _ ≤ 11; omega, by show _ ≤ 396; omega⟩) hK hN hT hZ hP hD hS (x_sub hD hS hA) rfl hl.1 rfl (Nat.le_of_ble_eq_true rfl) d_L_law_1475 ⟨hmc.1, hmc.2⟩) hS (x_sub hD hS hA) (x_sub hD hS hA) rfl (fun w1 H locs hY1 hP hD hS => ?_)
  obtain ⟨⟨cd, hmd1⟩, v2, Y2, hC2, hY2⟩ := hM w1 hY1
  obtain ⟨fs1, hfs1⟩ := hmd1.at
  refine lv_istore (lv' := [(5, .int (nI k)), (0, .ref b), (1, .ref xo), (2, .ref h), (3, .ref ou), (4, .int (nI i))]) hx hb d_L_law_1478 hl (by decide) rfl (fun ls hl => ?_)
  refine lv_aload_n hx hb d_L_law_1480 rfl (lv_at hl 3 rfl) ?_
  refine lv_aload_n hx hb d_L_law_1481 rfl (lv_at hl 1 rfl) ?_
  refine lv_iload hx hb d_L_law_1482 (lv_at hl 5 rfl) ?_
  refine lv_iconst (v := nI 1) hx hb d_L_law_1484 (by decide) ?_
  refine n_iadd hx hb d_L_law_1485 ?_
  refine q_sld hx hb hX hbl hbA hS (j := i + 1) (by omega) hL d_L_law_1486 ?_
  refine x_call (st1 := [.int v2]) (x_runV (As := [.int ((xs (i + 1)))]) (rest := []) (nL := 8) ⟨hx, hb, hml, hown, hts⟩ (hC2 _) (cwV 1 hts (gw_V k_665 k_666 k_667 k_52 k_668) rfl rfl rfl (by decide +kernel) ⟨Nat.le_of_ble_eq_true rfl, Nat.le_of_ble_eq_true rfl⟩) hK hP hD 0 2 hfs1 rfl rfl hl.1 rfl (Nat.le_of_ble_eq_true rfl) d_L_law_1487 ⟨hmc.1, hmc.2⟩) hS (x_sub hD hS hA) (x_sub hD hS hA) rfl (fun w2 H locs hY hP hD hS => ?_)
  obtain ⟨hmd2, hfo, hz2⟩ := hY2 w2 hY
  refine lv_istore (lv' := [(6, .int v2), (5, .int (nI k)), (0, .ref b), (1, .ref xo), (2, .ref h), (3, .ref ou), (4, .int (nI i))]) hx hb d_L_law_1490 hl (by decide) rfl (fun ls hl => ?_)
  refine lv_aload_n hx hb d_L_law_1492 rfl (lv_at hl 4 rfl) ?_
  refine q_thrown ⟨by decide, by decide, hmc.1, hmc.2⟩ hmd2 hx hb hml hown hts hK hP hD hl.1 d_L_law_1493 ?_
  refine lv_iload hx hb d_L_law_1496 (lv_at hl 1 rfl) ?_
  refine n_icmp_eq (tgt := 1503) hx hb d_L_law_1498 (by decide) (by omega) (by omega) (fun _ => ?_) (fun c9 => absurd rfl c9)
  refine lv_iload hx hb d_L_law_1503 (lv_at hl 1 rfl) ?_
  refine n_if_ne (tgt := 1520) hx hb d_L_law_1505 (by decide) (by omega) (fun _ => ?_) (fun c0 => ?_)
  · refine lv_goto (tgt := 1591) hx hb d_L_law_1520 (by decide) ?_
    exact kk w2 _ _ ls hz2 hP hD hS (lv_sub hl [2, 3, 4, 5, 6] rfl)
  obtain ⟨fo, hfo1, hfo2⟩ := hfo c0
  refine lv_aload_n hx hb d_L_law_1508 rfl (lv_at hl 5 rfl) ?_
  refine lv_iconst (v := nI 0) hx hb d_L_law_1509 (by decide) ?_
  refine va_lald hx hb hK hP 7 2 hfo1 rfl (i := nI 0) (vp_in_nI (by decide) (by decide)) d_L_law_1510 ?_
  rw [show (nI 0).toNatClampNeg = 0 from by decide, hfo2]
  refine lv_iload hx hb d_L_law_1511 (lv_at hl 0 rfl) ?_
  refine lv_i2l (v := v2.toInt64) hx hb d_L_law_1513 rfl ?_
  refine W.lcmp hx hb d_L_law_1514 ?_
  rw [lg_cmp_self]
  refine lv_if_eq (tgt := 1520) hx hb d_L_law_1515 (by decide) (fun _ => ?_) (fun c9 => absurd rfl c9)
  refine lv_goto (tgt := 1591) hx hb d_L_law_1520 (by decide) ?_
  exact kk w2 _ _ ls hz2 hP hD hS (lv_sub hl [2, 3, 4, 5, 6] rfl)
set_option maxHeartbeats 800000 in
set_option maxRecDepth 100000 in
theorem law_compare {b L : Nat} {xs : Nat → Int32} (hx : p.tables.exec = Jvm.exec) (hb : c.code = code) (hml : c.maxLocals = 8) (hown : s.vm.findClass "LimbRowsLaw" = some m.cls) (hts : ∀ w ∈ gw, w.before #[Value.ref b] s = true) (hA : ∀ q : Nat, s.heap.size ≤ q → A q) (hK : va_K D cls0 (ty3 cA cR cL) s) (hN : xN s) (hT : xT s) (hZ : xZ A s s.heap) (hX : va_X b L xs s s.heap) (hbl : b < s.heap.size) (hbA : ¬ A b) (hL : L ≤ 2048) {i xo h ou k mc ms : Nat} {rm : Room} (hi : i + 4 ≤ L) (hk : k ≤ 2) {w0 : va_W} {Y1 Z : va_W → Prop} (hrm : rm.cells = mc ∧ rm.slots = ms ∧ rm.frames ≤ 10 ∧ rm.locals ≤ 300) (hmc : cells + mc ≤ 601024 ∧ slots + ms ≤ 7293033)
    (hW : xCW l y_L_compare w_L_compare rm D cls0 (ty3 cA cR cL) [.ref xo, .int ((xs (i + 1))), .int ((xs (i + 2))), .ref ou] w0 (some (.int (nI k))) Y1 mc ms)
    (hM : ∀ w1, Y1 w1 → (∃ cd, isMd cA h cd w1) ∧ ∃ (v2 : Int32) (Y2 : va_W → Prop), xC l y_X2_compare w_X2_compare ({ frames := 2, cells := 0, slots := 0, locals := 54 }) D cls0 (ty3 cA cR cL) [.ref h, .int ((xs (i + 1))), .int ((xs (i + 2)))] w1 (some (.int v2)) Y2 0 0 ∧ ∀ w2, Y2 w2 → isMd cA h (nI k) w2 ∧ (k = 0 → ∃ fo : Nat → Int64, w2[7]? = some (ou, .inl (cL, 1, .inr (.inl fo))) ∧ fo 0 = v2.toInt64) ∧ Z w2)
    (hP : va_P D cls0 w0 H) (hD : va_D A w0) (hS : va_S A s.heap H locs) (hl : lv_has ls 8 [(0, .ref b), (1, .ref xo), (2, .ref h), (3, .ref ou), (4, .int (nI i))])
    (kk : ∀ (w2 : va_W) (H : Heap) (locs : List Loc) (ls : Array Slot), Z w2 → va_P D cls0 w2 H → va_D A w2 → va_S A s.heap H locs → lv_has ls 8 [(0, .ref b), (1, .ref xo), (2, .ref h), (3, .ref ou), (4, .int (nI i))] → W p l e room_1 s m #[Value.ref b] below meth c H locs (cells + mc) (slots + ms) Q (F0 m 1591 ls [])) : W p l e room_1 s m #[Value.ref b] below meth c H locs cells slots Q (F0 m 1523 ls []) := by
  refine lv_aload_n hx hb d_L_law_1523 rfl (lv_at hl 1 rfl) ?_
  refine lv_aload_n hx hb d_L_law_1524 rfl (lv_at hl 0 rfl) ?_
  refine lv_iload hx hb d_L_law_1525 (lv_at hl 4 rfl) ?_
  refine lv_iconst (v := nI 1) hx hb d_L_law_1527 (by decide) ?_
  refine n_iadd hx hb d_L_law_1528 ?_
  refine q_sld hx hb hX hbl hbA hS (j := i + 1) (by omega) hL d_L_law_1529 ?_
  refine lv_aload_n hx hb d_L_law_1530 rfl (lv_at hl 0 rfl) ?_
  refine lv_iload hx hb d_L_law_1531 (lv_at hl 4 rfl) ?_
  refine lv_iconst (v := nI 2) hx hb d_L_law_1533 (by decide) ?_
  refine n_iadd hx hb d_L_law_1534 ?_
  refine q_sld hx hb hX hbl hbA hS (j := i + 2) (by omega) hL d_L_law_1535 ?_
  refine lv_aload_n hx hb d_L_law_1536 rfl (lv_at hl 3 rfl) ?_
  refine x_call (st1 := [.int (nI k)]) (xw_runS (As := [.ref xo, .int ((xs (i + 1))), .int ((xs (i + 2))), .ref ou]) (rest := []) (nL := 8) ⟨hx, hb, hml, hown, hts⟩ (hW _) (vx_cwSW 4 hts (gw_SC k_466 k_467 k_49 k_468) rfl hrm.1 hrm.2.1 (by decide +kernel) ⟨by show _ ≤ 11; omega, by show _ ≤ 396; omega⟩) hK hN hT hZ hP hD hS (x_sub hD hS hA) rfl hl.1 rfl (Nat.le_of_ble_eq_true rfl) d_L_law_1537 ⟨hmc.1, hmc.2⟩) hS (x_sub hD hS hA) (x_sub hD hS hA) rfl (fun w1 H locs hY1 hP hD hS => ?_)
  obtain ⟨⟨cd, hmd1⟩, v2, Y2, hC2, hY2⟩ := hM w1 hY1
  obtain ⟨fs1, hfs1⟩ := hmd1.at
  refine lv_istore (lv' := [(5, .int (nI k)), (0, .ref b), (1, .ref xo), (2, .ref h), (3, .ref ou), (4, .int (nI i))]) hx hb d_L_law_1540 hl (by decide) rfl (fun ls hl => ?_)
  refine lv_aload_n hx hb d_L_law_1542 rfl (lv_at hl 3 rfl) ?_
  refine lv_aload_n hx hb d_L_law_1543 rfl (lv_at hl 1 rfl) ?_
  refine lv_iload hx hb d_L_law_1544 (lv_at hl 5 rfl) ?_
  refine lv_iconst (v := nI 1) hx hb d_L_law_1546 (by decide) ?_
  refine n_iadd hx hb d_L_law_1547 ?_
  refine q_sld hx hb hX hbl hbA hS (j := i + 1) (by omega) hL d_L_law_1548 ?_
  refine lv_aload_n hx hb d_L_law_1549 rfl (lv_at hl 1 rfl) ?_
  refine lv_iload hx hb d_L_law_1550 (lv_at hl 5 rfl) ?_
  refine lv_iconst (v := nI 2) hx hb d_L_law_1552 (by decide) ?_
  refine n_iadd hx hb d_L_law_1553 ?_
  refine q_sld hx hb hX hbl hbA hS (j := i + 2) (by omega) hL d_L_law_1554 ?_
  refine x_call (st1 := [.int v2]) (x_runV (As := [.int ((xs (i + 1))), .int ((xs (i + 2)))]) (rest := []) (nL := 8) ⟨hx, hb, hml, hown, hts⟩ (hC2 _) (cwV 2 hts (gw_V k_669 k_670 k_671 k_52 k_672) rfl rfl rfl (by decide +kernel) ⟨Nat.le_of_ble_eq_true rfl, Nat.le_of_ble_eq_true rfl⟩) hK hP hD 0 2 hfs1 rfl rfl hl.1 rfl (Nat.le_of_ble_eq_true rfl) d_L_law_1555 ⟨hmc.1, hmc.2⟩) hS (x_sub hD hS hA) (x_sub hD hS hA) rfl (fun w2 H locs hY hP hD hS => ?_)
  obtain ⟨hmd2, hfo, hz2⟩ := hY2 w2 hY
  refine lv_istore (lv' := [(6, .int v2), (5, .int (nI k)), (0, .ref b), (1, .ref xo), (2, .ref h), (3, .ref ou), (4, .int (nI i))]) hx hb d_L_law_1558 hl (by decide) rfl (fun ls hl => ?_)
  refine lv_aload_n hx hb d_L_law_1560 rfl (lv_at hl 4 rfl) ?_
  refine q_thrown ⟨by decide, by decide, hmc.1, hmc.2⟩ hmd2 hx hb hml hown hts hK hP hD hl.1 d_L_law_1561 ?_
  refine lv_iload hx hb d_L_law_1564 (lv_at hl 1 rfl) ?_
  refine n_icmp_eq (tgt := 1571) hx hb d_L_law_1566 (by decide) (by omega) (by omega) (fun _ => ?_) (fun c9 => absurd rfl c9)
  refine lv_iload hx hb d_L_law_1571 (lv_at hl 1 rfl) ?_
  refine n_if_ne (tgt := 1588) hx hb d_L_law_1573 (by decide) (by omega) (fun _ => ?_) (fun c0 => ?_)
  · refine lv_goto (tgt := 1591) hx hb d_L_law_1588 (by decide) ?_
    exact kk w2 _ _ ls hz2 hP hD hS (lv_sub hl [2, 3, 4, 5, 6] rfl)
  obtain ⟨fo, hfo1, hfo2⟩ := hfo c0
  refine lv_aload_n hx hb d_L_law_1576 rfl (lv_at hl 5 rfl) ?_
  refine lv_iconst (v := nI 0) hx hb d_L_law_1577 (by decide) ?_
  refine va_lald hx hb hK hP 7 2 hfo1 rfl (i := nI 0) (vp_in_nI (by decide) (by decide)) d_L_law_1578 ?_
  rw [show (nI 0).toNatClampNeg = 0 from by decide, hfo2]
  refine lv_iload hx hb d_L_law_1579 (lv_at hl 0 rfl) ?_
  refine lv_i2l (v := v2.toInt64) hx hb d_L_law_1581 rfl ?_
  refine W.lcmp hx hb d_L_law_1582 ?_
  rw [lg_cmp_self]
  refine lv_if_eq (tgt := 1588) hx hb d_L_law_1583 (by decide) (fun _ => ?_) (fun c9 => absurd rfl c9)
  refine lv_goto (tgt := 1591) hx hb d_L_law_1588 (by decide) ?_
  exact kk w2 _ _ ls hz2 hP hD hS (lv_sub hl [2, 3, 4, 5, 6] rfl)
end LAW
