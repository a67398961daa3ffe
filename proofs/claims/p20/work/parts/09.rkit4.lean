def mL (M : rMem) (N : Nat) : va_W := (List.range N).filterMap (fun q => (M q).map (fun x => (q, x)))
theorem mL_mem {M : rMem} {N a : Nat} {x : va_E} : (a, x) ∈ mL M N ↔ a < N ∧ M a = some x := by
  unfold mL
  rw [List.mem_filterMap]
  constructor
  · rintro ⟨q, h1, h2⟩
    cases h : M q with
    | none => rw [h] at h2; cases h2
    | some y =>
      rw [h] at h2
      cases h2
      exact ⟨List.mem_range.mp h1, h⟩
  · rintro ⟨h1, h2⟩
    exact ⟨a, List.mem_range.mpr h1, by rw [h2]; rfl⟩
theorem mL_nodup (M : rMem) (N : Nat) : ((mL M N).map Prod.fst).Nodup := by
  unfold mL
  induction N with
  | zero => exact List.nodup_nil
  | succ N ih =>
    rw [List.range_succ, List.filterMap_append, List.map_append, List.nodup_append]
    refine ⟨ih, ?_, ?_⟩
    · cases h : M N <;> simp [h]
    · intro a ha b hb
      obtain ⟨⟨a1, x⟩, h1, rfl⟩ := List.mem_map.mp ha
      have h2 : a1 < N := (mL_mem (M := M) (N := N).mp h1).1
      cases h : M N with
      | none => simp [h] at hb
      | some y =>
        simp [h] at hb
        subst hb
        exact Nat.ne_of_lt h2
section RK4
variable {p : Program} {l : Launch} {e : Env} {R : Room} {s : State} {m : MethodId} {args : Array Value} {below : List Frame} {meth : Method} {c : Code} {cc : ByteArray} {nL : Nat} {own : String} {D : va_G} {A : Nat → Prop} {Q : State → Prop} {M : rMem} {k n pc : Nat} {lv lv' : List (Option Value)} {st : List Value}
theorem rS.list {H : Heap} {locs : List Loc} (hS : rS D A s M H locs) : ∃ ws : va_W, va_P D vwCl ws H ∧ va_D A ws ∧ (∀ a x, M a = some x → ∃ i : Nat, ws[i]? = some (a, x)) ∧ ∀ (i : Nat) (q : Nat × va_E), ws[i]? = some q → M q.1 = some q.2 := by
  have hin : ∀ (i : Nat) (q : Nat × va_E), (mL M H.size)[i]? = some q → M q.1 = some q.2 := fun i q hq => by
    obtain ⟨a, x⟩ := q
    exact (mL_mem.mp (List.mem_of_getElem? hq)).2
  refine ⟨mL M H.size, fun i q hq => ?_, ⟨fun i j p q hi hj hpq => ?_, fun i q hq => hS.2.1 _ _ (hin i q hq)⟩, fun a x hx => ?_, hin⟩
  · obtain ⟨a, x⟩ := q
    exact hS.1 a x (hin i _ hq)
  · have h1 : ((mL M H.size).map Prod.fst)[i]? = some p.1 := by rw [List.getElem?_map, hi]; rfl
    have h2 : ((mL M H.size).map Prod.fst)[j]? = some p.1 := by rw [List.getElem?_map, hj, hpq]; rfl
    obtain ⟨l1, e1⟩ := List.getElem?_eq_some_iff.mp h1
    obtain ⟨l2, e2⟩ := List.getElem?_eq_some_iff.mp h2
    have hnd := List.pairwise_iff_getElem.mp (mL_nodup M H.size)
    rcases Nat.lt_trichotomy i j with h | h | h
    · exact absurd (e1.trans e2.symm) (hnd i j l1 l2 h)
    · exact h
    · exact absurd (e2.trans e1.symm) (hnd j i l2 l1 h)
  · have h1 : (a, x) ∈ mL M H.size := mL_mem.mpr ⟨(hS.1 a x hx).lt, hx⟩
    obtain ⟨i, hi⟩ := List.getElem?_of_mem h1
    exact ⟨i, hi⟩
theorem rS.back {H1 : Heap} {locs1 : List Loc} {ws : va_W} {i a : Nat} {x y : va_E} (h1 : ∀ a x, M a = some x → ∃ i : Nat, ws[i]? = some (a, x)) (hi : ws[i]? = some (a, x)) (hP : va_P D vwCl (ws.set i (a, y)) H1) (hD : va_D A (ws.set i (a, y))) (hS : va_S A s.heap H1 locs1) : rS D A s (mset M a y) H1 locs1 := by
  have key : ∀ b z, mset M a y b = some z → ∃ j : Nat, (ws.set i (a, y))[j]? = some (b, z) := by
    intro b z hb
    by_cases hba : b = a
    · subst hba
      rw [mset_eq] at hb
      cases hb
      exact ⟨i, List.getElem?_set_self (List.getElem?_eq_some_iff.mp hi).1⟩
    · rw [mset_ne hba] at hb
      obtain ⟨j, hj⟩ := h1 b z hb
      refine ⟨j, ?_⟩
      rw [List.getElem?_set_ne]
      · exact hj
      · intro e
        subst e
        rw [hi] at hj
        cases hj
        exact hba rfl
  exact ⟨fun b z hb => by obtain ⟨j, hj⟩ := key b z hb; exact hP j _ hj, fun b z hb => by obtain ⟨j, hj⟩ := key b z hb; exact hD.2 j _ hj, hS⟩
theorem rg_aastN (F : rF p l e R s m args below meth c cc nL own D A) {a len j : Nat} {f : Nat → Option Nat} (hm : M a = some (.inl (D.1 8, (len, .inr (.inr (.inr (.inr f))))))) (hj : j < len) (hl2 : len < 2 ^ 31) (hd : decode cc pc = .ok (.aastore, 1)) (kk : rG p l e R s m args below meth c D A nL Q (mset M a (.inl (D.1 8, (len, .inr (.inr (.inr (.inr (va_up f j none))))))))  k n lv (pc + 1) st) : rG p l e R s m args below meth c D A nL Q M k n lv pc (.null :: .int (nI j) :: .ref a :: st) := by
  intro H locs ls hS hl
  obtain ⟨ws, hP, hD, h1, -⟩ := hS.list
  obtain ⟨i, hi⟩ := h1 a _ hm
  have hcl : (nI j).toNatClampNeg = j := nI_clamp (by omega)
  refine va_astqN F.1 F.2.1 F.2.2.2.2.2.1 hP hD hS.2.2 i 2 hi rfl (vp_in_nI hj hl2) hd (fun H1 locs1 hP1 hD1 hS1 => ?_)
  rw [hcl] at hP1 hD1
  exact kk H1 locs1 ls (rS.back h1 hi hP1 hD1 hS1) hl
/-- System.arraycopy of references: from a0 to a -/
theorem rg_copyQ (F : rF p l e R s m args below meth c cc nL own D A) {i a a0 n0 n1 sp dp z : Nat} {f g : Nat → Option Nat} (hm0 : M a0 = some (.inl (D.1 8, (n0, .inr (.inr (.inr (.inr f))))))) (hm1 : M a = some (.inl (D.1 8, (n1, .inr (.inr (.inr (.inr g)))))))
    (hw : Cond.methodLink own i arraycopyName ∈ wsL_law) (hw2 : Cond.native arraycopyName ∈ wsL_law) (hw3 : Cond.static arraycopyName ∈ wsL_law) (hw4 : Cond.initialized "java/lang/System" ∈ wsL_law)
    (h4 : sp + z ≤ n0) (h5 : dp + z ≤ n1) (hz0 : n0 < 2 ^ 31) (hz1 : n1 < 2 ^ 31) (hel : ∀ j, j < z → ∀ y, f (sp + j) = some y → ∃ (ci : Nat) (C : String) (T : u_T) (N : Nat) (fs : List Value), M y = some (.inr (ci, fs)) ∧ vwCl[ci]? = some (C, T, N) ∧ Cond.castable C "java/lang/Object" ∈ tables_1)
    (hfr : 1 ≤ R.frames) (hlo : (st.map fun v => v.category).sum + (nativeFrameWords "java/lang/System" "arraycopy" 5 + 11) ≤ R.locals) (hd : decode cc pc = .ok (.invokestatic i, 3))
    (kk : rG p l e R s m args below meth c D A nL Q (mset M a (.inl (D.1 8, (n1, .inr (.inr (.inr (.inr (va_cpy f g sp dp z)))))))) k n lv (pc + 3) st) : rG p l e R s m args below meth c D A nL Q M k n lv pc (.int (nI z) :: .int (nI dp) :: .ref a :: .int (nI sp) :: .ref a0 :: st) := by
  intro H locs ls hS hl
  obtain ⟨ws, hP, hD, h1, hin⟩ := hS.list
  obtain ⟨q0, hq0⟩ := h1 a0 _ hm0
  obtain ⟨q1, hq1⟩ := h1 a _ hm1
  have e1 : (nI sp).toNatClampNeg = sp := nI_clamp (by omega)
  have e2 : (nI dp).toNatClampNeg = dp := nI_clamp (by omega)
  have e3 : (nI z).toNatClampNeg = z := nI_clamp (by omega)
  refine va_copyM F.1 F.2.1 (by rw [F.2.2.1]; exact hl.2.1.symm) F.2.2.2.1 (F.2.2.2.2.1 _ hw) (F.2.2.2.2.1 _ hw2) (F.2.2.2.2.1 _ hw3) (F.2.2.2.2.1 _ hw4) F.2.2.2.2.2.1 hP hD hS.2.2 q0 q1 2 2 hq0 hq1 rfl rfl (nI_pos (by omega)) (nI_pos (by omega)) (nI_pos (by omega)) (by rw [e1, e3]; exact h4) (by rw [e2, e3]; exact h5) ?_ hfr hlo hd (fun H1 locs1 hP1 hD1 hS1 => ?_)
  · intro j hj y hy
    rw [e1] at hy
    rw [e3] at hj
    obtain ⟨ci, C, T, N, fs, g1, g2, g3⟩ := hel j hj y hy
    have hn : va_Nw (.castable C "java/lang/Object") s := F.2.2.2.2.2.2.2.1.2.2.2.2.2.2.2.2.2.1 _ g3 rfl
    obtain ⟨c0, t0, k0, k1, k2⟩ := Cond.castable_spec hn
    exact va_rAny F.2.2.2.2.2.1 (rG_arr1 (hS.1 y _ g1)) (q0 := 0) rfl g2 (fun comp c1 h1 h2 => by cases h1.symm.trans k1; cases h2.symm.trans k0; exact k2)
  · rw [e1, e2, e3] at hP1 hD1
    exact kk H1 locs1 ls (rS.back h1 hq1 hP1 hD1 hS1) hl
/-- System.arraycopy within one row of ints -/
theorem rg_max (F : rF p l e R s m args below meth c cc nL own D A) {i : Nat} {x y v : Int32} (hw : Cond.methodLink own i Lib.Math.max.name ∈ wsL_law) (hw2 : Cond.static Lib.Math.max.name ∈ wsL_law) (hw3 : Cond.initialized "java/lang/Math" ∈ wsL_law) (hw4 : Cond.code Lib.Math.max.name Lib.Math.max.code 2 (some .int) ∈ wsL_law) (hfr : 1 ≤ R.frames) (hlo : (st.map fun v => v.category).sum + 13 ≤ R.locals) (hc : k ≤ R.cells ∧ n ≤ R.slots) (hv : (if x < y then y else x) = v) (hd : decode cc pc = .ok (.invokestatic i, 3)) (kk : rG p l e R s m args below meth c D A nL Q M k n lv (pc + 3) (.int v :: st)) : rG p l e R s m args below meth c D A nL Q M k n lv pc (.int y :: .int x :: st) := fun H locs ls hS hl =>
  va_mmax F.1 F.2.1 (by rw [F.2.2.1]; exact hl.2.1.symm) F.2.2.2.1 (F.2.2.2.2.1 _ hw) (F.2.2.2.2.1 _ hw2) (F.2.2.2.2.1 _ hw3) (F.2.2.2.2.1 _ hw4) hfr hlo hc.1 hc.2 hd (by rw [hv]; exact kk H locs ls hS hl)
theorem rg_min (F : rF p l e R s m args below meth c cc nL own D A) {i : Nat} {x y v : Int32} (hw : Cond.methodLink own i Lib.Math.min.name ∈ wsL_law) (hw2 : Cond.static Lib.Math.min.name ∈ wsL_law) (hw3 : Cond.initialized "java/lang/Math" ∈ wsL_law) (hw4 : Cond.code Lib.Math.min.name Lib.Math.min.code 2 (some .int) ∈ wsL_law) (hfr : 1 ≤ R.frames) (hlo : (st.map fun v => v.category).sum + 13 ≤ R.locals) (hc : k ≤ R.cells ∧ n ≤ R.slots) (hv : (if y < x then y else x) = v) (hd : decode cc pc = .ok (.invokestatic i, 3)) (kk : rG p l e R s m args below meth c D A nL Q M k n lv (pc + 3) (.int v :: st)) : rG p l e R s m args below meth c D A nL Q M k n lv pc (.int y :: .int x :: st) := fun H locs ls hS hl =>
  va_mmin F.1 F.2.1 (by rw [F.2.2.1]; exact hl.2.1.symm) F.2.2.2.1 (F.2.2.2.2.1 _ hw) (F.2.2.2.2.1 _ hw2) (F.2.2.2.2.1 _ hw3) (F.2.2.2.2.1 _ hw4) hfr hlo hc.1 hc.2 hd (by rw [hv]; exact kk H locs ls hS hl)
theorem rn_max (a b : Nat) (ha : a < 2 ^ 31) (hb : b < 2 ^ 31) : (if nI a < nI b then nI b else nI a) = nI (max a b) := by
  by_cases h : a < b
  · rw [if_pos ((nI_ltI ha hb).mpr h), Nat.max_eq_right (Nat.le_of_lt h)]
  · rw [if_neg (fun z => h ((nI_ltI ha hb).mp z)), Nat.max_eq_left (Nat.not_lt.mp h)]
theorem rn_min (a b : Nat) (ha : a < 2 ^ 31) (hb : b < 2 ^ 31) : (if nI b < nI a then nI b else nI a) = nI (min a b) := by
  by_cases h : b < a
  · rw [if_pos ((nI_ltI hb ha).mpr h), Nat.min_eq_right (Nat.le_of_lt h)]
  · rw [if_neg (fun z => h ((nI_ltI hb ha).mp z)), Nat.min_eq_left (Nat.not_lt.mp h)]
theorem rg_acmp_ne (F : rF p l e R s m args below meth c cc nL own D A) {x y : Nat} {off : Int} {tgt : Nat} (hd : decode cc pc = .ok (.if_acmp .ne off, 3)) (ht : (pc : Int) + off = (tgt : Int)) (kt : ¬ x = y → rG p l e R s m args below meth c D A nL Q M k n lv tgt st) (kf : x = y → rG p l e R s m args below meth c D A nL Q M k n lv (pc + 3) st) : rG p l e R s m args below meth c D A nL Q M k n lv pc (.ref y :: .ref x :: st) := fun H locs ls hS hl =>
  lv_acmp_ne (rx := some x) (ry := some y) F.1 F.2.1 hd ht (fun h => kt (fun e => h (by rw [e])) H locs ls hS hl) (fun h => kf (Option.some.inj h) H locs ls hS hl)
theorem rg_acmp_eq (F : rF p l e R s m args below meth c cc nL own D A) {x y : Nat} {off : Int} {tgt : Nat} (hd : decode cc pc = .ok (.if_acmp .eq off, 3)) (ht : (pc : Int) + off = (tgt : Int)) (kt : x = y → rG p l e R s m args below meth c D A nL Q M k n lv tgt st) (kf : ¬ x = y → rG p l e R s m args below meth c D A nL Q M k n lv (pc + 3) st) : rG p l e R s m args below meth c D A nL Q M k n lv pc (.ref y :: .ref x :: st) := fun H locs ls hS hl =>
  lv_acmp_eq (rx := some x) (ry := some y) F.1 F.2.1 hd ht (fun h => kt (Option.some.inj h) H locs ls hS hl) (fun h => kf (fun e => h (by rw [e])) H locs ls hS hl)
/-- the class of a row of Objects, asked of the row and as a constant, is one object -/
theorem rg_getC (F : rF p l e R s m args below meth c cc nL own D A) {i a len mi : Nat} {f : Nat → Option Nat} (hmi : va_Mi "[Ljava/lang/Object;" mi s) (hm : M a = some (.inl (D.1 8, (len, .inr (.inr (.inr (.inr f))))))) (hw : Cond.methodLink own i ⟨"java/lang/Object", "getClass", "()Ljava/lang/Class;"⟩ ∈ wsL_law) (hdc : Cond.declares ⟨"java/lang/Object", "getClass", "()Ljava/lang/Class;"⟩ ∈ tables_1) (hw2 : Cond.selects "[Ljava/lang/Object;" ⟨"java/lang/Object", "getClass", "()Ljava/lang/Class;"⟩ ⟨"java/lang/Object", "getClass", "()Ljava/lang/Class;"⟩ ∈ wsL_law) (hw3 : Cond.instanceMethod ⟨"java/lang/Object", "getClass", "()Ljava/lang/Class;"⟩ ∈ wsL_law) (hw4 : Cond.native ⟨"java/lang/Object", "getClass", "()Ljava/lang/Class;"⟩ ∈ wsL_law) (hfr : 1 ≤ R.frames) (hlo : (st.map fun v => v.category).sum + 14 ≤ R.locals) (hd : decode cc pc = .ok (.invokevirtual i, 3)) (kk : rG p l e R s m args below meth c D A nL Q M k n lv (pc + 3) (.ref mi :: st)) : rG p l e R s m args below meth c D A nL Q M k n lv pc (.ref a :: st) := fun H locs ls hS hl =>
  va_getC F.1 F.2.1 (by rw [F.2.2.1]; exact hl.2.1.symm) F.2.2.2.1 (F.2.2.2.2.1 _ hw) (va_Nw.use rfl (F.2.2.2.2.2.2.2.1.2.2.2.2.2.2.2.2.2.1 _ hdc rfl)) (F.2.2.2.2.1 _ hw2) (F.2.2.2.2.1 _ hw3) (F.2.2.2.2.1 _ hw4) hmi ⟨_, hS.1 a _ hm, rfl, va_nmO (F.2.2.2.2.2.1.2 2 _ rfl).2 rfl⟩ hfr hlo hd (kk H locs ls hS hl)
theorem rg_ldcM (F : rF p l e R s m args below meth c cc nL own D A) {i mi : Nat} {C : String} (hmi : va_Mi C mi s) (hw : Cond.classLink own i C ∈ wsL_law) (hd : decode cc pc = .ok (.ldc i, 2)) (kk : rG p l e R s m args below meth c D A nL Q M k n lv (pc + 2) (.ref mi :: st)) : rG p l e R s m args below meth c D A nL Q M k n lv pc st := fun H locs ls hS hl =>
  va_ldcM F.1 F.2.1 F.2.2.2.1 (F.2.2.2.2.1 _ hw) hmi hd (kk H locs ls hS hl)
theorem rg_dup2 (F : rF p l e R s m args below meth c cc nL own D A) {v w : Value} (hd : decode cc pc = .ok (.dup2, 1)) (hv : v.category = 1) (hw : w.category = 1) (kk : rG p l e R s m args below meth c D A nL Q M k n lv (pc + 1) (v :: w :: v :: w :: st)) : rG p l e R s m args below meth c D A nL Q M k n lv pc (v :: w :: st) := fun H locs ls hS hl =>
  lv_dup2_11 F.1 F.2.1 hd hv hw (kk H locs ls hS hl)
end RK4
