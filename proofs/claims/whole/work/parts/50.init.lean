/-! The constructors. -/
theorem va_D_nd {A : Nat → Prop} {ws : va_W} (h : va_D A ws) : (ws.map (fun q => q.1)).Nodup := by
  unfold List.Nodup
  rw [List.pairwise_iff_getElem]
  intro i j hi hj hij e
  have hj' : j < ws.length := by simpa using hj
  have hi' : i < ws.length := by omega
  simp only [List.getElem_map] at e
  have := h.1 i j _ _ (List.getElem?_eq_getElem hi') (List.getElem?_eq_getElem hj') e
  omega
theorem va_D_of {A : Nat → Prop} {ws : va_W} (hn : (ws.map (fun q => q.1)).Nodup) (hA : ∀ q ∈ ws, A q.1) : va_D A ws := by
  unfold List.Nodup at hn
  rw [List.pairwise_iff_getElem] at hn
  refine ⟨fun i j p q hi hj e => ?_, fun k q hk => hA q (List.mem_of_getElem? hk)⟩
  obtain ⟨hi', hi2⟩ := List.getElem?_eq_some_iff.mp hi
  obtain ⟨hj', hj2⟩ := List.getElem?_eq_some_iff.mp hj
  rcases Nat.lt_trichotomy i j with h | h | h
  · refine absurd ?_ (hn i j (by simpa using hi') (by simpa using hj') h)
    simp only [List.getElem_map, hi2, hj2, e]
  · exact h
  · refine absurd ?_ (hn j i (by simpa using hj') (by simpa using hi') h)
    simp only [List.getElem_map, hi2, hj2, e]
theorem va_D_perm {A : Nat → Prop} {ws ws' : va_W} (h : va_D A ws) (hp : ws.Perm ws') : va_D A ws' :=
  va_D_of ((hp.map _).nodup_iff.mp (va_D_nd h)) (fun q hq => by
    obtain ⟨k, hk⟩ := List.mem_iff_getElem?.mp (hp.mem_iff.mpr hq)
    exact h.2 k q hk)
theorem va_P_perm {D : va_G} {cl : List vw_C} {ws ws' : va_W} {H : Heap} (h : va_P D cl ws H) (hp : ws.Perm ws') : va_P D cl ws' H := va_P_mem h (fun q hq => hp.mem_iff.mpr hq)
def rc1 (ro la : Nat → Nat) (i : Nat) : Nat × va_E := (ro i, .inr (0, [.ref (la i), .int (nI 1)]))
def rc2 (cA : ClassId) (la : Nat → Nat) (i : Nat) : Nat × va_E := (la i, .inl (cA, 1, .inl (fun _ => 0)))
def pool (cA : ClassId) (ro la : Nat → Nat) (k : Nat) : va_W := (List.range k).flatMap (fun i => [rc1 ro la i, rc2 cA la i])
theorem pool_perm (cA : ClassId) (ro la : Nat → Nat) : ∀ k : Nat, (pool cA ro la k).Perm ((List.range k).map (rc1 ro la) ++ (List.range k).map (rc2 cA la))
  | 0 => List.Perm.refl _
  | k + 1 => by
    unfold pool
    rw [List.range_succ, List.flatMap_append, List.map_append, List.map_append]
    simp only [List.flatMap_cons, List.flatMap_nil, List.append_nil, List.map_cons, List.map_nil]
    have h := pool_perm cA ro la k
    unfold pool at h
    refine (List.Perm.append_right _ h).trans ?_
    simp only [List.append_assoc]
    refine List.Perm.append_left _ ?_
    rw [← List.append_assoc]
    refine List.perm_append_comm.trans ?_
    simp only [List.cons_append, List.nil_append, List.append_assoc]
    refine List.Perm.cons _ ?_
    exact List.perm_append_comm (l₁ := [rc2 cA la k])
theorem pool_up (cA : ClassId) (ro la : Nat → Nat) (k q a : Nat) : pool cA (va_up ro k q) (va_up la k a) (k + 1) = pool cA ro la k ++ [(q, .inr (0, [.ref a, .int (nI 1)])), (a, .inl (cA, 1, .inl (fun _ => 0)))] := by
  unfold pool
  rw [List.range_succ, List.flatMap_append]
  congr 1
  · rw [List.flatMap_def, List.flatMap_def]
    congr 1
    apply List.map_congr_left
    intro i hi
    have : i ≠ k := by have := List.mem_range.mp hi; omega
    unfold rc1 rc2 va_up
    simp only [if_neg this]
  · simp [rc1, rc2, va_up]
