theorem d_JI_numberOfLeadingZeros_0 : decode b_JI_numberOfLeadingZeros 0 = .ok (.iload_n 0, 1) := by decide +kernel
theorem d_JI_numberOfLeadingZeros_1 : decode b_JI_numberOfLeadingZeros 1 = .ok (.ifCond .gt 14, 3) := by decide +kernel
theorem d_JI_numberOfLeadingZeros_4 : decode b_JI_numberOfLeadingZeros 4 = .ok (.iload_n 0, 1) := by decide +kernel
theorem d_JI_numberOfLeadingZeros_5 : decode b_JI_numberOfLeadingZeros 5 = .ok (.ifCond .ne 8, 3) := by decide +kernel
theorem d_JI_numberOfLeadingZeros_8 : decode b_JI_numberOfLeadingZeros 8 = .ok (.bipush 32, 2) := by decide +kernel
theorem d_JI_numberOfLeadingZeros_10 : decode b_JI_numberOfLeadingZeros 10 = .ok (.goto 4, 3) := by decide +kernel
theorem d_JI_numberOfLeadingZeros_13 : decode b_JI_numberOfLeadingZeros 13 = .ok (.iconst 0, 1) := by decide +kernel
theorem d_JI_numberOfLeadingZeros_14 : decode b_JI_numberOfLeadingZeros 14 = .ok (.ireturn, 1) := by decide +kernel
theorem d_JI_numberOfLeadingZeros_15 : decode b_JI_numberOfLeadingZeros 15 = .ok (.bipush 31, 2) := by decide +kernel
theorem d_JI_numberOfLeadingZeros_17 : decode b_JI_numberOfLeadingZeros 17 = .ok (.istore_n 1, 1) := by decide +kernel
theorem d_JI_numberOfLeadingZeros_18 : decode b_JI_numberOfLeadingZeros 18 = .ok (.iload_n 0, 1) := by decide +kernel
theorem d_JI_numberOfLeadingZeros_19 : decode b_JI_numberOfLeadingZeros 19 = .ok (.ldc_w 264, 3) := by decide +kernel
theorem d_JI_numberOfLeadingZeros_22 : decode b_JI_numberOfLeadingZeros 22 = .ok (.if_icmp .lt 11, 3) := by decide +kernel
theorem d_JI_numberOfLeadingZeros_25 : decode b_JI_numberOfLeadingZeros 25 = .ok (.iinc 1 (-16), 3) := by decide +kernel
theorem d_JI_numberOfLeadingZeros_28 : decode b_JI_numberOfLeadingZeros 28 = .ok (.iload_n 0, 1) := by decide +kernel
theorem d_JI_numberOfLeadingZeros_29 : decode b_JI_numberOfLeadingZeros 29 = .ok (.bipush 16, 2) := by decide +kernel
theorem d_JI_numberOfLeadingZeros_31 : decode b_JI_numberOfLeadingZeros 31 = .ok (.iushr, 1) := by decide +kernel
theorem d_JI_numberOfLeadingZeros_32 : decode b_JI_numberOfLeadingZeros 32 = .ok (.istore_n 0, 1) := by decide +kernel
theorem d_JI_numberOfLeadingZeros_33 : decode b_JI_numberOfLeadingZeros 33 = .ok (.iload_n 0, 1) := by decide +kernel
theorem d_JI_numberOfLeadingZeros_34 : decode b_JI_numberOfLeadingZeros 34 = .ok (.sipush 256, 3) := by decide +kernel
theorem d_JI_numberOfLeadingZeros_37 : decode b_JI_numberOfLeadingZeros 37 = .ok (.if_icmp .lt 11, 3) := by decide +kernel
theorem d_JI_numberOfLeadingZeros_40 : decode b_JI_numberOfLeadingZeros 40 = .ok (.iinc 1 (-8), 3) := by decide +kernel
theorem d_JI_numberOfLeadingZeros_43 : decode b_JI_numberOfLeadingZeros 43 = .ok (.iload_n 0, 1) := by decide +kernel
theorem d_JI_numberOfLeadingZeros_44 : decode b_JI_numberOfLeadingZeros 44 = .ok (.bipush 8, 2) := by decide +kernel
theorem d_JI_numberOfLeadingZeros_46 : decode b_JI_numberOfLeadingZeros 46 = .ok (.iushr, 1) := by decide +kernel
theorem d_JI_numberOfLeadingZeros_47 : decode b_JI_numberOfLeadingZeros 47 = .ok (.istore_n 0, 1) := by decide +kernel
theorem d_JI_numberOfLeadingZeros_48 : decode b_JI_numberOfLeadingZeros 48 = .ok (.iload_n 0, 1) := by decide +kernel
theorem d_JI_numberOfLeadingZeros_49 : decode b_JI_numberOfLeadingZeros 49 = .ok (.bipush 16, 2) := by decide +kernel
theorem d_JI_numberOfLeadingZeros_51 : decode b_JI_numberOfLeadingZeros 51 = .ok (.if_icmp .lt 10, 3) := by decide +kernel
theorem d_JI_numberOfLeadingZeros_54 : decode b_JI_numberOfLeadingZeros 54 = .ok (.iinc 1 (-4), 3) := by decide +kernel
theorem d_JI_numberOfLeadingZeros_57 : decode b_JI_numberOfLeadingZeros 57 = .ok (.iload_n 0, 1) := by decide +kernel
theorem d_JI_numberOfLeadingZeros_58 : decode b_JI_numberOfLeadingZeros 58 = .ok (.iconst 4, 1) := by decide +kernel
theorem d_JI_numberOfLeadingZeros_59 : decode b_JI_numberOfLeadingZeros 59 = .ok (.iushr, 1) := by decide +kernel
theorem d_JI_numberOfLeadingZeros_60 : decode b_JI_numberOfLeadingZeros 60 = .ok (.istore_n 0, 1) := by decide +kernel
theorem d_JI_numberOfLeadingZeros_61 : decode b_JI_numberOfLeadingZeros 61 = .ok (.iload_n 0, 1) := by decide +kernel
theorem d_JI_numberOfLeadingZeros_62 : decode b_JI_numberOfLeadingZeros 62 = .ok (.iconst 4, 1) := by decide +kernel
theorem d_JI_numberOfLeadingZeros_63 : decode b_JI_numberOfLeadingZeros 63 = .ok (.if_icmp .lt 10, 3) := by decide +kernel
theorem d_JI_numberOfLeadingZeros_66 : decode b_JI_numberOfLeadingZeros 66 = .ok (.iinc 1 (-2), 3) := by decide +kernel
theorem d_JI_numberOfLeadingZeros_69 : decode b_JI_numberOfLeadingZeros 69 = .ok (.iload_n 0, 1) := by decide +kernel
theorem d_JI_numberOfLeadingZeros_70 : decode b_JI_numberOfLeadingZeros 70 = .ok (.iconst 2, 1) := by decide +kernel
theorem d_JI_numberOfLeadingZeros_71 : decode b_JI_numberOfLeadingZeros 71 = .ok (.iushr, 1) := by decide +kernel
theorem d_JI_numberOfLeadingZeros_72 : decode b_JI_numberOfLeadingZeros 72 = .ok (.istore_n 0, 1) := by decide +kernel
theorem d_JI_numberOfLeadingZeros_73 : decode b_JI_numberOfLeadingZeros 73 = .ok (.iload_n 1, 1) := by decide +kernel
theorem d_JI_numberOfLeadingZeros_74 : decode b_JI_numberOfLeadingZeros 74 = .ok (.iload_n 0, 1) := by decide +kernel
theorem d_JI_numberOfLeadingZeros_75 : decode b_JI_numberOfLeadingZeros 75 = .ok (.iconst 1, 1) := by decide +kernel
theorem d_JI_numberOfLeadingZeros_76 : decode b_JI_numberOfLeadingZeros 76 = .ok (.iushr, 1) := by decide +kernel
theorem d_JI_numberOfLeadingZeros_77 : decode b_JI_numberOfLeadingZeros 77 = .ok (.isub, 1) := by decide +kernel
theorem d_JI_numberOfLeadingZeros_78 : decode b_JI_numberOfLeadingZeros 78 = .ok (.ireturn, 1) := by decide +kernel
theorem d_JI_numberOfTrailingZeros_0 : decode b_JI_numberOfTrailingZeros 0 = .ok (.iload_n 0, 1) := by decide +kernel
theorem d_JI_numberOfTrailingZeros_1 : decode b_JI_numberOfTrailingZeros 1 = .ok (.iconst (-1), 1) := by decide +kernel
theorem d_JI_numberOfTrailingZeros_2 : decode b_JI_numberOfTrailingZeros 2 = .ok (.ixor, 1) := by decide +kernel
theorem d_JI_numberOfTrailingZeros_3 : decode b_JI_numberOfTrailingZeros 3 = .ok (.iload_n 0, 1) := by decide +kernel
theorem d_JI_numberOfTrailingZeros_4 : decode b_JI_numberOfTrailingZeros 4 = .ok (.iconst 1, 1) := by decide +kernel
theorem d_JI_numberOfTrailingZeros_5 : decode b_JI_numberOfTrailingZeros 5 = .ok (.isub, 1) := by decide +kernel
theorem d_JI_numberOfTrailingZeros_6 : decode b_JI_numberOfTrailingZeros 6 = .ok (.iand, 1) := by decide +kernel
theorem d_JI_numberOfTrailingZeros_7 : decode b_JI_numberOfTrailingZeros 7 = .ok (.istore_n 0, 1) := by decide +kernel
theorem d_JI_numberOfTrailingZeros_8 : decode b_JI_numberOfTrailingZeros 8 = .ok (.iload_n 0, 1) := by decide +kernel
theorem d_JI_numberOfTrailingZeros_9 : decode b_JI_numberOfTrailingZeros 9 = .ok (.ifCond .gt 8, 3) := by decide +kernel
theorem d_JI_numberOfTrailingZeros_12 : decode b_JI_numberOfTrailingZeros 12 = .ok (.iload_n 0, 1) := by decide +kernel
theorem d_JI_numberOfTrailingZeros_13 : decode b_JI_numberOfTrailingZeros 13 = .ok (.bipush 32, 2) := by decide +kernel
theorem d_JI_numberOfTrailingZeros_15 : decode b_JI_numberOfTrailingZeros 15 = .ok (.iand, 1) := by decide +kernel
theorem d_JI_numberOfTrailingZeros_16 : decode b_JI_numberOfTrailingZeros 16 = .ok (.ireturn, 1) := by decide +kernel
theorem d_JI_numberOfTrailingZeros_17 : decode b_JI_numberOfTrailingZeros 17 = .ok (.iconst 1, 1) := by decide +kernel
theorem d_JI_numberOfTrailingZeros_18 : decode b_JI_numberOfTrailingZeros 18 = .ok (.istore_n 1, 1) := by decide +kernel
theorem d_JI_numberOfTrailingZeros_19 : decode b_JI_numberOfTrailingZeros 19 = .ok (.iload_n 0, 1) := by decide +kernel
theorem d_JI_numberOfTrailingZeros_20 : decode b_JI_numberOfTrailingZeros 20 = .ok (.ldc_w 264, 3) := by decide +kernel
theorem d_JI_numberOfTrailingZeros_23 : decode b_JI_numberOfTrailingZeros 23 = .ok (.if_icmp .le 11, 3) := by decide +kernel
theorem d_JI_numberOfTrailingZeros_26 : decode b_JI_numberOfTrailingZeros 26 = .ok (.iinc 1 16, 3) := by decide +kernel
theorem d_JI_numberOfTrailingZeros_29 : decode b_JI_numberOfTrailingZeros 29 = .ok (.iload_n 0, 1) := by decide +kernel
theorem d_JI_numberOfTrailingZeros_30 : decode b_JI_numberOfTrailingZeros 30 = .ok (.bipush 16, 2) := by decide +kernel
theorem d_JI_numberOfTrailingZeros_32 : decode b_JI_numberOfTrailingZeros 32 = .ok (.iushr, 1) := by decide +kernel
theorem d_JI_numberOfTrailingZeros_33 : decode b_JI_numberOfTrailingZeros 33 = .ok (.istore_n 0, 1) := by decide +kernel
theorem d_JI_numberOfTrailingZeros_34 : decode b_JI_numberOfTrailingZeros 34 = .ok (.iload_n 0, 1) := by decide +kernel
theorem d_JI_numberOfTrailingZeros_35 : decode b_JI_numberOfTrailingZeros 35 = .ok (.sipush 256, 3) := by decide +kernel
theorem d_JI_numberOfTrailingZeros_38 : decode b_JI_numberOfTrailingZeros 38 = .ok (.if_icmp .le 11, 3) := by decide +kernel
theorem d_JI_numberOfTrailingZeros_41 : decode b_JI_numberOfTrailingZeros 41 = .ok (.iinc 1 8, 3) := by decide +kernel
theorem d_JI_numberOfTrailingZeros_44 : decode b_JI_numberOfTrailingZeros 44 = .ok (.iload_n 0, 1) := by decide +kernel
theorem d_JI_numberOfTrailingZeros_45 : decode b_JI_numberOfTrailingZeros 45 = .ok (.bipush 8, 2) := by decide +kernel
theorem d_JI_numberOfTrailingZeros_47 : decode b_JI_numberOfTrailingZeros 47 = .ok (.iushr, 1) := by decide +kernel
theorem d_JI_numberOfTrailingZeros_48 : decode b_JI_numberOfTrailingZeros 48 = .ok (.istore_n 0, 1) := by decide +kernel
theorem d_JI_numberOfTrailingZeros_49 : decode b_JI_numberOfTrailingZeros 49 = .ok (.iload_n 0, 1) := by decide +kernel
theorem d_JI_numberOfTrailingZeros_50 : decode b_JI_numberOfTrailingZeros 50 = .ok (.bipush 16, 2) := by decide +kernel
theorem d_JI_numberOfTrailingZeros_52 : decode b_JI_numberOfTrailingZeros 52 = .ok (.if_icmp .le 10, 3) := by decide +kernel
theorem d_JI_numberOfTrailingZeros_55 : decode b_JI_numberOfTrailingZeros 55 = .ok (.iinc 1 4, 3) := by decide +kernel
theorem d_JI_numberOfTrailingZeros_58 : decode b_JI_numberOfTrailingZeros 58 = .ok (.iload_n 0, 1) := by decide +kernel
theorem d_JI_numberOfTrailingZeros_59 : decode b_JI_numberOfTrailingZeros 59 = .ok (.iconst 4, 1) := by decide +kernel
theorem d_JI_numberOfTrailingZeros_60 : decode b_JI_numberOfTrailingZeros 60 = .ok (.iushr, 1) := by decide +kernel
theorem d_JI_numberOfTrailingZeros_61 : decode b_JI_numberOfTrailingZeros 61 = .ok (.istore_n 0, 1) := by decide +kernel
theorem d_JI_numberOfTrailingZeros_62 : decode b_JI_numberOfTrailingZeros 62 = .ok (.iload_n 0, 1) := by decide +kernel
theorem d_JI_numberOfTrailingZeros_63 : decode b_JI_numberOfTrailingZeros 63 = .ok (.iconst 4, 1) := by decide +kernel
theorem d_JI_numberOfTrailingZeros_64 : decode b_JI_numberOfTrailingZeros 64 = .ok (.if_icmp .le 10, 3) := by decide +kernel
theorem d_JI_numberOfTrailingZeros_67 : decode b_JI_numberOfTrailingZeros 67 = .ok (.iinc 1 2, 3) := by decide +kernel
theorem d_JI_numberOfTrailingZeros_70 : decode b_JI_numberOfTrailingZeros 70 = .ok (.iload_n 0, 1) := by decide +kernel
theorem d_JI_numberOfTrailingZeros_71 : decode b_JI_numberOfTrailingZeros 71 = .ok (.iconst 2, 1) := by decide +kernel
theorem d_JI_numberOfTrailingZeros_72 : decode b_JI_numberOfTrailingZeros 72 = .ok (.iushr, 1) := by decide +kernel
theorem d_JI_numberOfTrailingZeros_73 : decode b_JI_numberOfTrailingZeros 73 = .ok (.istore_n 0, 1) := by decide +kernel
theorem d_JI_numberOfTrailingZeros_74 : decode b_JI_numberOfTrailingZeros 74 = .ok (.iload_n 1, 1) := by decide +kernel
theorem d_JI_numberOfTrailingZeros_75 : decode b_JI_numberOfTrailingZeros 75 = .ok (.iload_n 0, 1) := by decide +kernel
theorem d_JI_numberOfTrailingZeros_76 : decode b_JI_numberOfTrailingZeros 76 = .ok (.iconst 1, 1) := by decide +kernel
theorem d_JI_numberOfTrailingZeros_77 : decode b_JI_numberOfTrailingZeros 77 = .ok (.iushr, 1) := by decide +kernel
theorem d_JI_numberOfTrailingZeros_78 : decode b_JI_numberOfTrailingZeros 78 = .ok (.iadd, 1) := by decide +kernel
theorem d_JI_numberOfTrailingZeros_79 : decode b_JI_numberOfTrailingZeros 79 = .ok (.ireturn, 1) := by decide +kernel
/-! Integer.numberOfLeadingZeros, numberOfTrailingZeros: as their code does it; jCmp: the order of two longs -/
def jz4 (x n : Int32) : Int32 := n - j_iu x (nI 1)
def jz3 (x n : Int32) : Int32 := if x < nI 4 then jz4 x n else jz4 (j_iu x (nI 2)) (n + Int32.ofInt (-2))
def jz2 (x n : Int32) : Int32 := if x < nI 16 then jz3 x n else jz3 (j_iu x (nI 4)) (n + Int32.ofInt (-4))
def jz1 (x n : Int32) : Int32 := if x < nI 256 then jz2 x n else jz2 (j_iu x (nI 8)) (n + Int32.ofInt (-8))
def jz0 (x n : Int32) : Int32 := if x < 65536 then jz1 x n else jz1 (j_iu x (nI 16)) (n + Int32.ofInt (-16))
def jNlz (x : Int32) : Int32 := if 0 < x then jz0 x (nI 31) else if x = 0 then nI 32 else nI 0
def jt4 (x n : Int32) : Int32 := n + j_iu x (nI 1)
def jt3 (x n : Int32) : Int32 := if x ≤ nI 4 then jt4 x n else jt4 (j_iu x (nI 2)) (n + Int32.ofInt 2)
def jt2 (x n : Int32) : Int32 := if x ≤ nI 16 then jt3 x n else jt3 (j_iu x (nI 4)) (n + Int32.ofInt 4)
def jt1 (x n : Int32) : Int32 := if x ≤ nI 256 then jt2 x n else jt2 (j_iu x (nI 8)) (n + Int32.ofInt 8)
def jt0 (x n : Int32) : Int32 := if x ≤ 65536 then jt1 x n else jt1 (j_iu x (nI 16)) (n + Int32.ofInt 16)
def jNtz (x : Int32) : Int32 := if 0 < (x ^^^ (-1)) &&& (x - nI 1) then jt0 ((x ^^^ (-1)) &&& (x - nI 1)) (nI 1) else ((x ^^^ (-1)) &&& (x - nI 1)) &&& nI 32
def jCmp (x y : Int64) : Int32 := if 0 ≤ lg_cmp x y then (if lg_cmp x y = 0 then nI 0 else nI 1) else -1
theorem xR.ofWF {l : Launch} {y : MethodName} {ws ws' : List Cond} {rm : Room} {D : va_G} {cl : List vw_C} {tys : List (ClassId × FieldType)} {as : List Value} {w0 : va_W} {r : Option Value} {cc : ByteArray} {maxL : Nat} {ret : Option FieldType}
    (hy : plainFor y = true) (hw : ws = Cond.code y cc maxL ret :: ws') (hlen : (lg_sl as).length ≤ maxL)
    (body : ∀ (p : Program) (e : Env) (s : State) (m : MethodId) (below : List Frame) (meth : Method) (c : Code) (ls : Array Slot),
      p.tables.exec = Jvm.exec → c.code = cc → meth.sig.returnType = ret → c.maxLocals = maxL → s.vm.findClass y.cls = some m.cls → (∀ w ∈ ws, w.before as.toArray s = true) → meth.locks = false →
      va_K D cl tys s → va_P D cl w0 s.heap → lv_has ls maxL (lv_args 0 as) →
      W p l e rm s m as.toArray below meth c s.heap [] 0 0 (MQ below (xRQ r) as.toArray s 0 0 (fun _ => False)) (F0 m 0 ls [])) : xR l y ws rm D cl tys as w0 r := by
  intro sz
  refine va_MetF (cc := cc) (maxL := maxL) (ret := ret) hy hw ?_
  intro p e s m args below meth c s₁ B hml hv
  obtain ⟨rfl, rfl, hP, hK, hD0⟩ := hv
  have hl := lv_entry as (n := maxL) hlen
  rw [lg_entry_eq]
  generalize (lg_sl as ++ List.replicate (maxL - (lg_sl as).length) Slot.unset).toArray = ls at hl ⊢
  exact body p e s m below meth c ls B.exec B.bytes B.returns hml (findClass_of_methodNamed B.named) (atoms_spec (ws := ws) B.pre) B.notSynchronized hK hP hl
theorem gw_SW {own : String} {idx : Nat} {y : MethodName} {b : ByteArray} {n : Nat} {ret : Option FieldType} (h1 : Cond.methodLink own idx y ∈ gw) (h2 : Cond.static y ∈ gw) (h4 : Cond.initialized y.cls ∈ gw) (h5 : Cond.code y b n ret ∈ gw) : GoodIn gw (va_wsS own idx y (.code y b n ret :: gw)) := fun w hw => by
  unfold va_wsS at hw
  rcases List.mem_append.mp hw with h | h
  · simp only [List.mem_cons, List.not_mem_nil, or_false] at h
    rcases h with rfl | rfl | rfl
    · exact gw_good _ h1
    · exact gw_good _ h2
    · exact gw_good _ h4
  · exact gw_call h5 w h
set_option maxHeartbeats 800000 in
set_option maxRecDepth 100000 in
theorem js_JI_numberOfLeadingZeros_73 {p : Program} {l : Launch} {e : Env} {s : State} {m : MethodId} {args : Array Value} {below : List Frame} {meth : Method} {c : Code} (hx : p.tables.exec = Jvm.exec) (hb : c.code = b_JI_numberOfLeadingZeros) (hr : meth.sig.returnType = some .int) (hown : s.vm.findClass "java/lang/Integer" = some m.cls) (hts : ∀ w ∈ gw, w.before args s = true) (hlocks : meth.locks = false) (x n : Int32) (ls : Array Slot) (hl : lv_has ls 2 [(0, .int x), (1, .int n)]) : W p l e ({ frames := 0, cells := 0, slots := 0, locals := 0 }) s m args below meth c s.heap [] 0 0 (MQ below (xRQ (some (.int (jz4 x n)))) args s 0 0 (fun _ => False)) (F0 m 73 ls []) := by
  refine lv_iload_n hx hb d_JI_numberOfLeadingZeros_73 rfl (lv_at hl 1 rfl) ?_
  refine lv_iload_n hx hb d_JI_numberOfLeadingZeros_74 rfl (lv_at hl 0 rfl) ?_
  refine lv_iconst (v := nI 1) hx hb d_JI_numberOfLeadingZeros_75 (by decide) ?_
  refine lv_iushr (v := j_iu x (nI 1)) hx hb d_JI_numberOfLeadingZeros_76 rfl ?_
  refine lv_isub hx hb d_JI_numberOfLeadingZeros_77 ?_
  exact xr_iret hx hb hr hlocks d_JI_numberOfLeadingZeros_78 rfl
set_option maxHeartbeats 800000 in
set_option maxRecDepth 100000 in
theorem js_JI_numberOfLeadingZeros_61 {p : Program} {l : Launch} {e : Env} {s : State} {m : MethodId} {args : Array Value} {below : List Frame} {meth : Method} {c : Code} (hx : p.tables.exec = Jvm.exec) (hb : c.code = b_JI_numberOfLeadingZeros) (hr : meth.sig.returnType = some .int) (hown : s.vm.findClass "java/lang/Integer" = some m.cls) (hts : ∀ w ∈ gw, w.before args s = true) (hlocks : meth.locks = false) (x n : Int32) (ls : Array Slot) (hl : lv_has ls 2 [(0, .int x), (1, .int n)]) : W p l e ({ frames := 0, cells := 0, slots := 0, locals := 0 }) s m args below meth c s.heap [] 0 0 (MQ below (xRQ (some (.int (jz3 x n)))) args s 0 0 (fun _ => False)) (F0 m 61 ls []) := by
  refine lv_iload_n hx hb d_JI_numberOfLeadingZeros_61 rfl (lv_at hl 0 rfl) ?_
  refine lv_iconst (v := nI 4) hx hb d_JI_numberOfLeadingZeros_62 (by decide) ?_
  refine lv_icmp_lt (tgt := 73) hx hb d_JI_numberOfLeadingZeros_63 (by decide) (fun c_1 => ?_) (fun c_1 => ?_)
  · rw [show jz3 x n = jz4 x n from if_pos c_1]
    exact js_JI_numberOfLeadingZeros_73 hx hb hr hown hts hlocks _ _ ls (lv_sub hl [0, 1] rfl)
  · refine lv_iinc (v := n + Int32.ofInt (-2)) (lv' := [(1, .int (n + Int32.ofInt (-2))), (0, .int x)]) hx hb d_JI_numberOfLeadingZeros_66 hl (k := 1) rfl rfl (by decide) rfl (fun ls hl => ?_)
    refine lv_iload_n hx hb d_JI_numberOfLeadingZeros_69 rfl (lv_at hl 1 rfl) ?_
    refine lv_iconst (v := nI 2) hx hb d_JI_numberOfLeadingZeros_70 (by decide) ?_
    refine lv_iushr (v := j_iu x (nI 2)) hx hb d_JI_numberOfLeadingZeros_71 rfl ?_
    refine lv_istore_n (lv' := [(0, .int (j_iu x (nI 2))), (1, .int (n + Int32.ofInt (-2)))]) hx hb d_JI_numberOfLeadingZeros_72 rfl hl (by decide) rfl (fun ls hl => ?_)
    rw [show jz3 x n = jz4 (j_iu x (nI 2)) (n + Int32.ofInt (-2)) from if_neg c_1]
    exact js_JI_numberOfLeadingZeros_73 hx hb hr hown hts hlocks _ _ ls (lv_sub hl [0, 1] rfl)
set_option maxHeartbeats 800000 in
set_option maxRecDepth 100000 in
theorem js_JI_numberOfLeadingZeros_48 {p : Program} {l : Launch} {e : Env} {s : State} {m : MethodId} {args : Array Value} {below : List Frame} {meth : Method} {c : Code} (hx : p.tables.exec = Jvm.exec) (hb : c.code = b_JI_numberOfLeadingZeros) (hr : meth.sig.returnType = some .int) (hown : s.vm.findClass "java/lang/Integer" = some m.cls) (hts : ∀ w ∈ gw, w.before args s = true) (hlocks : meth.locks = false) (x n : Int32) (ls : Array Slot) (hl : lv_has ls 2 [(0, .int x), (1, .int n)]) : W p l e ({ frames := 0, cells := 0, slots := 0, locals := 0 }) s m args below meth c s.heap [] 0 0 (MQ below (xRQ (some (.int (jz2 x n)))) args s 0 0 (fun _ => False)) (F0 m 48 ls []) := by
  refine lv_iload_n hx hb d_JI_numberOfLeadingZeros_48 rfl (lv_at hl 0 rfl) ?_
  refine lv_bipush (v := nI 16) hx hb d_JI_numberOfLeadingZeros_49 (by decide) ?_
  refine lv_icmp_lt (tgt := 61) hx hb d_JI_numberOfLeadingZeros_51 (by decide) (fun c_1 => ?_) (fun c_1 => ?_)
  · rw [show jz2 x n = jz3 x n from if_pos c_1]
    exact js_JI_numberOfLeadingZeros_61 hx hb hr hown hts hlocks _ _ ls (lv_sub hl [0, 1] rfl)
  · refine lv_iinc (v := n + Int32.ofInt (-4)) (lv' := [(1, .int (n + Int32.ofInt (-4))), (0, .int x)]) hx hb d_JI_numberOfLeadingZeros_54 hl (k := 1) rfl rfl (by decide) rfl (fun ls hl => ?_)
    refine lv_iload_n hx hb d_JI_numberOfLeadingZeros_57 rfl (lv_at hl 1 rfl) ?_
    refine lv_iconst (v := nI 4) hx hb d_JI_numberOfLeadingZeros_58 (by decide) ?_
    refine lv_iushr (v := j_iu x (nI 4)) hx hb d_JI_numberOfLeadingZeros_59 rfl ?_
    refine lv_istore_n (lv' := [(0, .int (j_iu x (nI 4))), (1, .int (n + Int32.ofInt (-4)))]) hx hb d_JI_numberOfLeadingZeros_60 rfl hl (by decide) rfl (fun ls hl => ?_)
    rw [show jz2 x n = jz3 (j_iu x (nI 4)) (n + Int32.ofInt (-4)) from if_neg c_1]
    exact js_JI_numberOfLeadingZeros_61 hx hb hr hown hts hlocks _ _ ls (lv_sub hl [0, 1] rfl)
set_option maxHeartbeats 800000 in
set_option maxRecDepth 100000 in
theorem js_JI_numberOfLeadingZeros_33 {p : Program} {l : Launch} {e : Env} {s : State} {m : MethodId} {args : Array Value} {below : List Frame} {meth : Method} {c : Code} (hx : p.tables.exec = Jvm.exec) (hb : c.code = b_JI_numberOfLeadingZeros) (hr : meth.sig.returnType = some .int) (hown : s.vm.findClass "java/lang/Integer" = some m.cls) (hts : ∀ w ∈ gw, w.before args s = true) (hlocks : meth.locks = false) (x n : Int32) (ls : Array Slot) (hl : lv_has ls 2 [(0, .int x), (1, .int n)]) : W p l e ({ frames := 0, cells := 0, slots := 0, locals := 0 }) s m args below meth c s.heap [] 0 0 (MQ below (xRQ (some (.int (jz1 x n)))) args s 0 0 (fun _ => False)) (F0 m 33 ls []) := by
  refine lv_iload_n hx hb d_JI_numberOfLeadingZeros_33 rfl (lv_at hl 0 rfl) ?_
  refine lv_sipush (v := nI 256) hx hb d_JI_numberOfLeadingZeros_34 (by decide) ?_
  refine lv_icmp_lt (tgt := 48) hx hb d_JI_numberOfLeadingZeros_37 (by decide) (fun c_1 => ?_) (fun c_1 => ?_)
  · rw [show jz1 x n = jz2 x n from if_pos c_1]
    exact js_JI_numberOfLeadingZeros_48 hx hb hr hown hts hlocks _ _ ls (lv_sub hl [0, 1] rfl)
  · refine lv_iinc (v := n + Int32.ofInt (-8)) (lv' := [(1, .int (n + Int32.ofInt (-8))), (0, .int x)]) hx hb d_JI_numberOfLeadingZeros_40 hl (k := 1) rfl rfl (by decide) rfl (fun ls hl => ?_)
    refine lv_iload_n hx hb d_JI_numberOfLeadingZeros_43 rfl (lv_at hl 1 rfl) ?_
    refine lv_bipush (v := nI 8) hx hb d_JI_numberOfLeadingZeros_44 (by decide) ?_
    refine lv_iushr (v := j_iu x (nI 8)) hx hb d_JI_numberOfLeadingZeros_46 rfl ?_
    refine lv_istore_n (lv' := [(0, .int (j_iu x (nI 8))), (1, .int (n + Int32.ofInt (-8)))]) hx hb d_JI_numberOfLeadingZeros_47 rfl hl (by decide) rfl (fun ls hl => ?_)
    rw [show jz1 x n = jz2 (j_iu x (nI 8)) (n + Int32.ofInt (-8)) from if_neg c_1]
    exact js_JI_numberOfLeadingZeros_48 hx hb hr hown hts hlocks _ _ ls (lv_sub hl [0, 1] rfl)
set_option maxHeartbeats 800000 in
set_option maxRecDepth 100000 in
theorem js_JI_numberOfLeadingZeros_18 {p : Program} {l : Launch} {e : Env} {s : State} {m : MethodId} {args : Array Value} {below : List Frame} {meth : Method} {c : Code} (hx : p.tables.exec = Jvm.exec) (hb : c.code = b_JI_numberOfLeadingZeros) (hr : meth.sig.returnType = some .int) (hown : s.vm.findClass "java/lang/Integer" = some m.cls) (hts : ∀ w ∈ gw, w.before args s = true) (hlocks : meth.locks = false) (x n : Int32) (ls : Array Slot) (hl : lv_has ls 2 [(0, .int x), (1, .int n)]) : W p l e ({ frames := 0, cells := 0, slots := 0, locals := 0 }) s m args below meth c s.heap [] 0 0 (MQ below (xRQ (some (.int (jz0 x n)))) args s 0 0 (fun _ => False)) (F0 m 18 ls []) := by
  refine lv_iload_n hx hb d_JI_numberOfLeadingZeros_18 rfl (lv_at hl 0 rfl) ?_
  refine lv_ldcw (v := 65536) hx hb hown (hts (.constant "java/lang/Integer" 264 65536) k_320) d_JI_numberOfLeadingZeros_19 ?_
  refine lv_icmp_lt (tgt := 33) hx hb d_JI_numberOfLeadingZeros_22 (by decide) (fun c_1 => ?_) (fun c_1 => ?_)
  · rw [show jz0 x n = jz1 x n from if_pos c_1]
    exact js_JI_numberOfLeadingZeros_33 hx hb hr hown hts hlocks _ _ ls (lv_sub hl [0, 1] rfl)
  · refine lv_iinc (v := n + Int32.ofInt (-16)) (lv' := [(1, .int (n + Int32.ofInt (-16))), (0, .int x)]) hx hb d_JI_numberOfLeadingZeros_25 hl (k := 1) rfl rfl (by decide) rfl (fun ls hl => ?_)
    refine lv_iload_n hx hb d_JI_numberOfLeadingZeros_28 rfl (lv_at hl 1 rfl) ?_
    refine lv_bipush (v := nI 16) hx hb d_JI_numberOfLeadingZeros_29 (by decide) ?_
    refine lv_iushr (v := j_iu x (nI 16)) hx hb d_JI_numberOfLeadingZeros_31 rfl ?_
    refine lv_istore_n (lv' := [(0, .int (j_iu x (nI 16))), (1, .int (n + Int32.ofInt (-16)))]) hx hb d_JI_numberOfLeadingZeros_32 rfl hl (by decide) rfl (fun ls hl => ?_)
    rw [show jz0 x n = jz1 (j_iu x (nI 16)) (n + Int32.ofInt (-16)) from if_neg c_1]
    exact js_JI_numberOfLeadingZeros_33 hx hb hr hown hts hlocks _ _ ls (lv_sub hl [0, 1] rfl)
set_option maxHeartbeats 800000 in
set_option maxRecDepth 100000 in
theorem js_JI_numberOfTrailingZeros_74 {p : Program} {l : Launch} {e : Env} {s : State} {m : MethodId} {args : Array Value} {below : List Frame} {meth : Method} {c : Code} (hx : p.tables.exec = Jvm.exec) (hb : c.code = b_JI_numberOfTrailingZeros) (hr : meth.sig.returnType = some .int) (hown : s.vm.findClass "java/lang/Integer" = some m.cls) (hts : ∀ w ∈ gw, w.before args s = true) (hlocks : meth.locks = false) (x n : Int32) (ls : Array Slot) (hl : lv_has ls 2 [(0, .int x), (1, .int n)]) : W p l e ({ frames := 0, cells := 0, slots := 0, locals := 0 }) s m args below meth c s.heap [] 0 0 (MQ below (xRQ (some (.int (jt4 x n)))) args s 0 0 (fun _ => False)) (F0 m 74 ls []) := by
  refine lv_iload_n hx hb d_JI_numberOfTrailingZeros_74 rfl (lv_at hl 1 rfl) ?_
  refine lv_iload_n hx hb d_JI_numberOfTrailingZeros_75 rfl (lv_at hl 0 rfl) ?_
  refine lv_iconst (v := nI 1) hx hb d_JI_numberOfTrailingZeros_76 (by decide) ?_
  refine lv_iushr (v := j_iu x (nI 1)) hx hb d_JI_numberOfTrailingZeros_77 rfl ?_
  refine lv_iadd hx hb d_JI_numberOfTrailingZeros_78 ?_
  exact xr_iret hx hb hr hlocks d_JI_numberOfTrailingZeros_79 rfl
set_option maxHeartbeats 800000 in
set_option maxRecDepth 100000 in
theorem js_JI_numberOfTrailingZeros_62 {p : Program} {l : Launch} {e : Env} {s : State} {m : MethodId} {args : Array Value} {below : List Frame} {meth : Method} {c : Code} (hx : p.tables.exec = Jvm.exec) (hb : c.code = b_JI_numberOfTrailingZeros) (hr : meth.sig.returnType = some .int) (hown : s.vm.findClass "java/lang/Integer" = some m.cls) (hts : ∀ w ∈ gw, w.before args s = true) (hlocks : meth.locks = false) (x n : Int32) (ls : Array Slot) (hl : lv_has ls 2 [(0, .int x), (1, .int n)]) : W p l e ({ frames := 0, cells := 0, slots := 0, locals := 0 }) s m args below meth c s.heap [] 0 0 (MQ below (xRQ (some (.int (jt3 x n)))) args s 0 0 (fun _ => False)) (F0 m 62 ls []) := by
  refine lv_iload_n hx hb d_JI_numberOfTrailingZeros_62 rfl (lv_at hl 0 rfl) ?_
  refine lv_iconst (v := nI 4) hx hb d_JI_numberOfTrailingZeros_63 (by decide) ?_
  refine lv_icmp_le (tgt := 74) hx hb d_JI_numberOfTrailingZeros_64 (by decide) (fun c_1 => ?_) (fun c_1 => ?_)
  · rw [show jt3 x n = jt4 x n from if_pos c_1]
    exact js_JI_numberOfTrailingZeros_74 hx hb hr hown hts hlocks _ _ ls (lv_sub hl [0, 1] rfl)
  · refine lv_iinc (v := n + Int32.ofInt 2) (lv' := [(1, .int (n + Int32.ofInt 2)), (0, .int x)]) hx hb d_JI_numberOfTrailingZeros_67 hl (k := 1) rfl rfl (by decide) rfl (fun ls hl => ?_)
    refine lv_iload_n hx hb d_JI_numberOfTrailingZeros_70 rfl (lv_at hl 1 rfl) ?_
    refine lv_iconst (v := nI 2) hx hb d_JI_numberOfTrailingZeros_71 (by decide) ?_
    refine lv_iushr (v := j_iu x (nI 2)) hx hb d_JI_numberOfTrailingZeros_72 rfl ?_
    refine lv_istore_n (lv' := [(0, .int (j_iu x (nI 2))), (1, .int (n + Int32.ofInt 2))]) hx hb d_JI_numberOfTrailingZeros_73 rfl hl (by decide) rfl (fun ls hl => ?_)
    rw [show jt3 x n = jt4 (j_iu x (nI 2)) (n + Int32.ofInt 2) from if_neg c_1]
    exact js_JI_numberOfTrailingZeros_74 hx hb hr hown hts hlocks _ _ ls (lv_sub hl [0, 1] rfl)
set_option maxHeartbeats 800000 in
set_option maxRecDepth 100000 in
theorem js_JI_numberOfTrailingZeros_49 {p : Program} {l : Launch} {e : Env} {s : State} {m : MethodId} {args : Array Value} {below : List Frame} {meth : Method} {c : Code} (hx : p.tables.exec = Jvm.exec) (hb : c.code = b_JI_numberOfTrailingZeros) (hr : meth.sig.returnType = some .int) (hown : s.vm.findClass "java/lang/Integer" = some m.cls) (hts : ∀ w ∈ gw, w.before args s = true) (hlocks : meth.locks = false) (x n : Int32) (ls : Array Slot) (hl : lv_has ls 2 [(0, .int x), (1, .int n)]) : W p l e ({ frames := 0, cells := 0, slots := 0, locals := 0 }) s m args below meth c s.heap [] 0 0 (MQ below (xRQ (some (.int (jt2 x n)))) args s 0 0 (fun _ => False)) (F0 m 49 ls []) := by
  refine lv_iload_n hx hb d_JI_numberOfTrailingZeros_49 rfl (lv_at hl 0 rfl) ?_
  refine lv_bipush (v := nI 16) hx hb d_JI_numberOfTrailingZeros_50 (by decide) ?_
  refine lv_icmp_le (tgt := 62) hx hb d_JI_numberOfTrailingZeros_52 (by decide) (fun c_1 => ?_) (fun c_1 => ?_)
  · rw [show jt2 x n = jt3 x n from if_pos c_1]
    exact js_JI_numberOfTrailingZeros_62 hx hb hr hown hts hlocks _ _ ls (lv_sub hl [0, 1] rfl)
  · refine lv_iinc (v := n + Int32.ofInt 4) (lv' := [(1, .int (n + Int32.ofInt 4)), (0, .int x)]) hx hb d_JI_numberOfTrailingZeros_55 hl (k := 1) rfl rfl (by decide) rfl (fun ls hl => ?_)
    refine lv_iload_n hx hb d_JI_numberOfTrailingZeros_58 rfl (lv_at hl 1 rfl) ?_
    refine lv_iconst (v := nI 4) hx hb d_JI_numberOfTrailingZeros_59 (by decide) ?_
    refine lv_iushr (v := j_iu x (nI 4)) hx hb d_JI_numberOfTrailingZeros_60 rfl ?_
    refine lv_istore_n (lv' := [(0, .int (j_iu x (nI 4))), (1, .int (n + Int32.ofInt 4))]) hx hb d_JI_numberOfTrailingZeros_61 rfl hl (by decide) rfl (fun ls hl => ?_)
    rw [show jt2 x n = jt3 (j_iu x (nI 4)) (n + Int32.ofInt 4) from if_neg c_1]
    exact js_JI_numberOfTrailingZeros_62 hx hb hr hown hts hlocks _ _ ls (lv_sub hl [0, 1] rfl)
set_option maxHeartbeats 800000 in
set_option maxRecDepth 100000 in
theorem js_JI_numberOfTrailingZeros_34 {p : Program} {l : Launch} {e : Env} {s : State} {m : MethodId} {args : Array Value} {below : List Frame} {meth : Method} {c : Code} (hx : p.tables.exec = Jvm.exec) (hb : c.code = b_JI_numberOfTrailingZeros) (hr : meth.sig.returnType = some .int) (hown : s.vm.findClass "java/lang/Integer" = some m.cls) (hts : ∀ w ∈ gw, w.before args s = true) (hlocks : meth.locks = false) (x n : Int32) (ls : Array Slot) (hl : lv_has ls 2 [(0, .int x), (1, .int n)]) : W p l e ({ frames := 0, cells := 0, slots := 0, locals := 0 }) s m args below meth c s.heap [] 0 0 (MQ below (xRQ (some (.int (jt1 x n)))) args s 0 0 (fun _ => False)) (F0 m 34 ls []) := by
  refine lv_iload_n hx hb d_JI_numberOfTrailingZeros_34 rfl (lv_at hl 0 rfl) ?_
  refine lv_sipush (v := nI 256) hx hb d_JI_numberOfTrailingZeros_35 (by decide) ?_
  refine lv_icmp_le (tgt := 49) hx hb d_JI_numberOfTrailingZeros_38 (by decide) (fun c_1 => ?_) (fun c_1 => ?_)
  · rw [show jt1 x n = jt2 x n from if_pos c_1]
    exact js_JI_numberOfTrailingZeros_49 hx hb hr hown hts hlocks _ _ ls (lv_sub hl [0, 1] rfl)
  · refine lv_iinc (v := n + Int32.ofInt 8) (lv' := [(1, .int (n + Int32.ofInt 8)), (0, .int x)]) hx hb d_JI_numberOfTrailingZeros_41 hl (k := 1) rfl rfl (by decide) rfl (fun ls hl => ?_)
    refine lv_iload_n hx hb d_JI_numberOfTrailingZeros_44 rfl (lv_at hl 1 rfl) ?_
    refine lv_bipush (v := nI 8) hx hb d_JI_numberOfTrailingZeros_45 (by decide) ?_
    refine lv_iushr (v := j_iu x (nI 8)) hx hb d_JI_numberOfTrailingZeros_47 rfl ?_
    refine lv_istore_n (lv' := [(0, .int (j_iu x (nI 8))), (1, .int (n + Int32.ofInt 8))]) hx hb d_JI_numberOfTrailingZeros_48 rfl hl (by decide) rfl (fun ls hl => ?_)
    rw [show jt1 x n = jt2 (j_iu x (nI 8)) (n + Int32.ofInt 8) from if_neg c_1]
    exact js_JI_numberOfTrailingZeros_49 hx hb hr hown hts hlocks _ _ ls (lv_sub hl [0, 1] rfl)
set_option maxHeartbeats 800000 in
set_option maxRecDepth 100000 in
theorem js_JI_numberOfTrailingZeros_19 {p : Program} {l : Launch} {e : Env} {s : State} {m : MethodId} {args : Array Value} {below : List Frame} {meth : Method} {c : Code} (hx : p.tables.exec = Jvm.exec) (hb : c.code = b_JI_numberOfTrailingZeros) (hr : meth.sig.returnType = some .int) (hown : s.vm.findClass "java/lang/Integer" = some m.cls) (hts : ∀ w ∈ gw, w.before args s = true) (hlocks : meth.locks = false) (x n : Int32) (ls : Array Slot) (hl : lv_has ls 2 [(0, .int x), (1, .int n)]) : W p l e ({ frames := 0, cells := 0, slots := 0, locals := 0 }) s m args below meth c s.heap [] 0 0 (MQ below (xRQ (some (.int (jt0 x n)))) args s 0 0 (fun _ => False)) (F0 m 19 ls []) := by
  refine lv_iload_n hx hb d_JI_numberOfTrailingZeros_19 rfl (lv_at hl 0 rfl) ?_
  refine lv_ldcw (v := 65536) hx hb hown (hts (.constant "java/lang/Integer" 264 65536) k_320) d_JI_numberOfTrailingZeros_20 ?_
  refine lv_icmp_le (tgt := 34) hx hb d_JI_numberOfTrailingZeros_23 (by decide) (fun c_1 => ?_) (fun c_1 => ?_)
  · rw [show jt0 x n = jt1 x n from if_pos c_1]
    exact js_JI_numberOfTrailingZeros_34 hx hb hr hown hts hlocks _ _ ls (lv_sub hl [0, 1] rfl)
  · refine lv_iinc (v := n + Int32.ofInt 16) (lv' := [(1, .int (n + Int32.ofInt 16)), (0, .int x)]) hx hb d_JI_numberOfTrailingZeros_26 hl (k := 1) rfl rfl (by decide) rfl (fun ls hl => ?_)
    refine lv_iload_n hx hb d_JI_numberOfTrailingZeros_29 rfl (lv_at hl 1 rfl) ?_
    refine lv_bipush (v := nI 16) hx hb d_JI_numberOfTrailingZeros_30 (by decide) ?_
    refine lv_iushr (v := j_iu x (nI 16)) hx hb d_JI_numberOfTrailingZeros_32 rfl ?_
    refine lv_istore_n (lv' := [(0, .int (j_iu x (nI 16))), (1, .int (n + Int32.ofInt 16))]) hx hb d_JI_numberOfTrailingZeros_33 rfl hl (by decide) rfl (fun ls hl => ?_)
    rw [show jt0 x n = jt1 (j_iu x (nI 16)) (n + Int32.ofInt 16) from if_neg c_1]
    exact js_JI_numberOfTrailingZeros_34 hx hb hr hown hts hlocks _ _ ls (lv_sub hl [0, 1] rfl)
abbrev w_JI_numberOfLeadingZeros : List Cond := .code y_JI_numberOfLeadingZeros b_JI_numberOfLeadingZeros 2 (some .int) :: gw
set_option maxHeartbeats 800000 in
set_option maxRecDepth 100000 in
theorem c_JI_numberOfLeadingZeros {l : Launch} {D : va_G} {tys : List (ClassId × FieldType)} {w0 : va_W} (x : Int32) : xR l y_JI_numberOfLeadingZeros w_JI_numberOfLeadingZeros ({ frames := 0, cells := 0, slots := 0, locals := 0 }) D cls0 tys [.int x] w0 (some (.int (jNlz x))) := by
  refine xR.ofWF (cc := b_JI_numberOfLeadingZeros) (maxL := 2) (ret := some .int) (by decide +kernel) rfl (Nat.le_of_ble_eq_true rfl) ?_
  intro p e s m below meth c ls hx hb hr hml hown hts hlocks hK hP hl
  have hts : ∀ w ∈ gw, w.before ([.int x]).toArray s = true := fun w h => hts w (List.mem_cons_of_mem _ h)
  have hown : s.vm.findClass "java/lang/Integer" = some m.cls := hown
  have hl : lv_has ls 2 [(0, .int x)] := hl
  refine lv_iload_n hx hb d_JI_numberOfLeadingZeros_0 rfl (lv_at hl 0 rfl) ?_
  refine lv_if_gt (tgt := 15) hx hb d_JI_numberOfLeadingZeros_1 (by decide) (fun c_1 => ?_) (fun c_1 => ?_)
  · refine lv_bipush (v := nI 31) hx hb d_JI_numberOfLeadingZeros_15 (by decide) ?_
    refine lv_istore_n (lv' := [(1, .int (nI 31)), (0, .int x)]) hx hb d_JI_numberOfLeadingZeros_17 rfl hl (by decide) rfl (fun ls hl => ?_)
    rw [show jNlz x = jz0 x (nI 31) from if_pos c_1]
    exact js_JI_numberOfLeadingZeros_18 hx hb hr hown hts hlocks _ _ ls (lv_sub hl [1, 0] rfl)
  · refine lv_iload_n hx hb d_JI_numberOfLeadingZeros_4 rfl (lv_at hl 0 rfl) ?_
    refine lv_if_ne (tgt := 13) hx hb d_JI_numberOfLeadingZeros_5 (by decide) (fun c_2 => ?_) (fun c_2 => ?_)
    · refine lv_iconst (v := nI 0) hx hb d_JI_numberOfLeadingZeros_13 (by decide) ?_
      exact xr_iret hx hb hr hlocks d_JI_numberOfLeadingZeros_14 (by unfold jNlz; first | rw [if_neg (by assumption), if_pos (by assumption)] | rw [if_neg (by assumption), if_neg (by assumption)])
    · refine lv_bipush (v := nI 32) hx hb d_JI_numberOfLeadingZeros_8 (by decide) ?_
      refine lv_goto (tgt := 14) hx hb d_JI_numberOfLeadingZeros_10 (by decide) ?_
      exact xr_iret hx hb hr hlocks d_JI_numberOfLeadingZeros_14 (by unfold jNlz; first | rw [if_neg (by assumption), if_pos (by assumption)] | rw [if_neg (by assumption), if_neg (by assumption)])
abbrev w_JI_numberOfTrailingZeros : List Cond := .code y_JI_numberOfTrailingZeros b_JI_numberOfTrailingZeros 2 (some .int) :: gw
set_option maxHeartbeats 800000 in
set_option maxRecDepth 100000 in
theorem c_JI_numberOfTrailingZeros {l : Launch} {D : va_G} {tys : List (ClassId × FieldType)} {w0 : va_W} (x : Int32) : xR l y_JI_numberOfTrailingZeros w_JI_numberOfTrailingZeros ({ frames := 0, cells := 0, slots := 0, locals := 0 }) D cls0 tys [.int x] w0 (some (.int (jNtz x))) := by
  refine xR.ofWF (cc := b_JI_numberOfTrailingZeros) (maxL := 2) (ret := some .int) (by decide +kernel) rfl (Nat.le_of_ble_eq_true rfl) ?_
  intro p e s m below meth c ls hx hb hr hml hown hts hlocks hK hP hl
  have hts : ∀ w ∈ gw, w.before ([.int x]).toArray s = true := fun w h => hts w (List.mem_cons_of_mem _ h)
  have hown : s.vm.findClass "java/lang/Integer" = some m.cls := hown
  have hl : lv_has ls 2 [(0, .int x)] := hl
  refine lv_iload_n hx hb d_JI_numberOfTrailingZeros_0 rfl (lv_at hl 0 rfl) ?_
  refine lv_iconst (v := -1) hx hb d_JI_numberOfTrailingZeros_1 (by decide) ?_
  refine lv_ixor hx hb d_JI_numberOfTrailingZeros_2 ?_
  refine lv_iload_n hx hb d_JI_numberOfTrailingZeros_3 rfl (lv_at hl 0 rfl) ?_
  refine lv_iconst (v := nI 1) hx hb d_JI_numberOfTrailingZeros_4 (by decide) ?_
  refine lv_isub hx hb d_JI_numberOfTrailingZeros_5 ?_
  refine lv_iand hx hb d_JI_numberOfTrailingZeros_6 ?_
  refine lv_istore_n (lv' := [(0, .int ((x ^^^ (-1)) &&& (x - (nI 1))))]) hx hb d_JI_numberOfTrailingZeros_7 rfl hl (by decide) rfl (fun ls hl => ?_)
  refine lv_iload_n hx hb d_JI_numberOfTrailingZeros_8 rfl (lv_at hl 0 rfl) ?_
  refine lv_if_gt (tgt := 17) hx hb d_JI_numberOfTrailingZeros_9 (by decide) (fun c_1 => ?_) (fun c_1 => ?_)
  · refine lv_iconst (v := nI 1) hx hb d_JI_numberOfTrailingZeros_17 (by decide) ?_
    refine lv_istore_n (lv' := [(1, .int (nI 1)), (0, .int ((x ^^^ (-1)) &&& (x - (nI 1))))]) hx hb d_JI_numberOfTrailingZeros_18 rfl hl (by decide) rfl (fun ls hl => ?_)
    rw [show jNtz x = jt0 ((x ^^^ (-1)) &&& (x - nI 1)) (nI 1) from if_pos c_1]
    exact js_JI_numberOfTrailingZeros_19 hx hb hr hown hts hlocks _ _ ls (lv_sub hl [1, 0] rfl)
  · refine lv_iload_n hx hb d_JI_numberOfTrailingZeros_12 rfl (lv_at hl 0 rfl) ?_
    refine lv_bipush (v := nI 32) hx hb d_JI_numberOfTrailingZeros_13 (by decide) ?_
    refine lv_iand hx hb d_JI_numberOfTrailingZeros_15 ?_
    exact xr_iret hx hb hr hlocks d_JI_numberOfTrailingZeros_16 (by rw [show jNtz x = ((x ^^^ (-1)) &&& (x - nI 1)) &&& nI 32 from if_neg c_1])
