section RH
variable {p : Program} {l : Launch} {e : Env} {R : Room} {s : State} {m : MethodId} {args : Array Value} {below : List Frame} {meth : Method} {c : Code} {cc : ByteArray} {nL : Nat} {own : String} {D : va_G} {A : Nat → Prop} {Q : State → Prop} {M : rMem} {k n pc : Nat} {lv lv' : List (Option Value)} {st : List Value}
theorem rS.set {H H1 : Heap} {locs : List Loc} {a i : Nat} {x y : va_E} (hS : rS D A s M H locs) (hm : M a = some x) (hy : va_at D vwCl (a, y) H1) (hz : H1.size = H.size) (ho : ∀ q : Nat, q ≠ a → H1[q]? = H[q]?) : rS D A s (mset M a y) H1 (locs ++ [⟨a, i⟩]) := by
  refine ⟨?_, ?_, hS.2.2.put hz ho (hS.2.1 a _ hm)⟩
  · intro b z hb
    by_cases hba : b = a
    · subst hba
      rw [mset_eq] at hb
      cases hb
      exact hy
    · rw [mset_ne hba] at hb
      exact (hS.1 b z hb).kept (ho b hba)
  · intro b z hb
    by_cases hba : b = a
    · subst hba; exact hS.2.1 b _ hm
    · rw [mset_ne hba] at hb
      exact hS.2.1 b z hb
theorem rS.new {H H1 : Heap} {locs : List Loc} {y : va_E} (hS : rS D A s M H locs) (hA : ∀ q, s.heap.size ≤ q → A q) (hy : va_at D vwCl (H.size, y) H1) (hz : H1.size = H.size + 1) (ho : ∀ q : Nat, q < H.size → H1[q]? = H[q]?) : M H.size = none ∧ rS D A s (mset M H.size y) H1 locs := by
  have hno : M H.size = none := by
    cases h : M H.size with
    | none => rfl
    | some x => exact absurd (hS.1 _ x h).lt (Nat.lt_irrefl _)
  refine ⟨hno, ?_, ?_, Nat.le_trans hS.2.2.1 (by omega), fun x h1 h2 => (ho x (Nat.lt_of_lt_of_le h1 hS.2.2.1)).trans (hS.2.2.2.1 x h1 h2), hS.2.2.2.2⟩
  · intro b z hb
    by_cases hba : b = H.size
    · subst hba
      rw [mset_eq] at hb
      cases hb
      exact hy
    · rw [mset_ne hba] at hb
      exact (hS.1 b z hb).kept (ho b (hS.1 b z hb).lt)
  · intro b z hb
    by_cases hba : b = H.size
    · subst hba; exact hA _ hS.2.2.1
    · rw [mset_ne hba] at hb
      exact hS.2.1 b z hb
theorem rS.newOut {H H1 : Heap} {locs : List Loc} (hS : rS D A s M H locs) (hz : H.size ≤ H1.size) (ho : ∀ q : Nat, q < H.size → H1[q]? = H[q]?) : rS D A s M H1 locs :=
  ⟨fun b z hb => (hS.1 b z hb).kept (ho b (hS.1 b z hb).lt), hS.2.1, Nat.le_trans hS.2.2.1 hz, fun x h1 h2 => (ho x (Nat.lt_of_lt_of_le h1 hS.2.2.1)).trans (hS.2.2.2.1 x h1 h2), hS.2.2.2.2⟩
theorem rK_arr (hK : va_K D vwCl (rTy D) s) (t : Nat) {cA : ClassId} {ty : FieldType} (ht : (rTy D)[t]? = some (cA, ty)) : ArrOfT s cA ty := (hK.2 t _ ht).1
theorem rG_arr1 {H : Heap} {a : Nat} {x : va_E} (h : va_at D vwCl (a, x) H) : va_P D vwCl [(a, x)] H := fun q y hy => by
  cases q with
  | zero => cases hy; exact h
  | succ q => simp at hy
theorem rg_lald (F : rF p l e R s m args below meth c cc nL own D A) {a len j : Nat} {f : Nat → Int64} {x : Int64} (hm : M a = some (.inl (D.1 7, (len, .inr (.inl f))))) (hj : j < len) (hl2 : len < 2 ^ 31) (hx : f j = x) (hd : decode cc pc = .ok (.laload, 1)) (kk : rG p l e R s m args below meth c D A nL Q M k n lv (pc + 1) (.long x :: st)) : rG p l e R s m args below meth c D A nL Q M k n lv pc (.int (nI j) :: .ref a :: st) := by
  intro H locs ls hS hl
  have h := kk H locs ls hS hl
  rw [← hx, ← show (nI j).toNatClampNeg = j from nI_clamp (by omega)] at h
  exact va_lald F.1 F.2.1 F.2.2.2.2.2.1 (rG_arr1 (hS.1 a _ hm)) 0 1 rfl rfl (vp_in_nI hj hl2) hd h
theorem rg_aald (F : rF p l e R s m args below meth c cc nL own D A) {a len j : Nat} {f : Nat → Option Nat} {x : Value} (hm : M a = some (.inl (D.1 8, (len, .inr (.inr (.inr (.inr f))))))) (hj : j < len) (hl2 : len < 2 ^ 31) (hx : va_rf (f j) = x) (hd : decode cc pc = .ok (.aaload, 1)) (kk : rG p l e R s m args below meth c D A nL Q M k n lv (pc + 1) (x :: st)) : rG p l e R s m args below meth c D A nL Q M k n lv pc (.int (nI j) :: .ref a :: st) := by
  intro H locs ls hS hl
  have h := kk H locs ls hS hl
  rw [← hx, ← show (nI j).toNatClampNeg = j from nI_clamp (by omega)] at h
  exact va_aldq F.1 F.2.1 F.2.2.2.2.2.1 (rG_arr1 (hS.1 a _ hm)) 0 2 rfl rfl (vp_in_nI hj hl2) hd h
theorem rg_last (F : rF p l e R s m args below meth c cc nL own D A) {a len j : Nat} {f : Nat → Int64} {x : Int64} (hm : M a = some (.inl (D.1 7, (len, .inr (.inl f))))) (hj : j < len) (hl2 : len < 2 ^ 31) (hd : decode cc pc = .ok (.lastore, 1)) (kk : rG p l e R s m args below meth c D A nL Q (mset M a (.inl (D.1 7, (len, .inr (.inl (vp_updL f j x)))))) k n lv (pc + 1) st) : rG p l e R s m args below meth c D A nL Q M k n lv pc (.long x :: .int (nI j) :: .ref a :: st) := by
  intro H locs ls hS hl
  have hin := vp_in_nI hj hl2
  have hcl : (nI j).toNatClampNeg = j := nI_clamp (by omega)
  refine W.last F.1 F.2.1 (hS.1 a _ hm) (rK_arr F.2.2.2.2.2.1 1 rfl len (fun j => .long (f j))) (fun q => by cases q) (by show ¬ (nI j < 0 ∨ (arrV _ _ _).slots.size ≤ _); rw [arrV_size]; exact hin) rfl rfl hd fun H1 e9 z oq => ?_
  refine kk H1 _ ls (hS.set hm ?_ z oq) hl
  show H1[a]? = some (vp_cell _ _)
  rw [e9, vp_cell_l, vp_cell_l, arrV_store, hcl]
  congr 2
  funext q
  by_cases hq : q = j
  · subst hq; simp [updV, vp_updL]
  · simp [updV, vp_updL, hq]
/-- an object goes into an array of Objects -/
theorem rg_aast (F : rF p l e R s m args below meth c cc nL own D A) {a len j v ci : Nat} {f : Nat → Option Nat} {vs : List Value} {C : String} {T : u_T} {N : Nat} (hm : M a = some (.inl (D.1 8, (len, .inr (.inr (.inr (.inr f))))))) (hv : M v = some (.inr (ci, vs))) (hc : vwCl[ci]? = some (C, T, N)) (hw : Cond.castable C "java/lang/Object" ∈ tables_1) (hj : j < len) (hl2 : len < 2 ^ 31) (hd : decode cc pc = .ok (.aastore, 1)) (kk : rG p l e R s m args below meth c D A nL Q (mset M a (.inl (D.1 8, (len, .inr (.inr (.inr (.inr (va_up f j (some v))))))))) k n lv (pc + 1) st) : rG p l e R s m args below meth c D A nL Q M k n lv pc (.ref v :: .int (nI j) :: .ref a :: st) := by
  intro H locs ls hS hl
  have hin := vp_in_nI hj hl2
  have hcl : (nI j).toNatClampNeg = j := nI_clamp (by omega)
  have hK := F.2.2.2.2.2.1
  have hn : va_Nw (.castable C "java/lang/Object") s := F.2.2.2.2.2.2.2.1.2.2.2.2.2.2.2.2.2.1 _ hw rfl
  obtain ⟨c0, t0, g0, g1, g2⟩ := Cond.castable_spec hn
  have hany : va_Any "java/lang/Object" s H v := va_rAny hK (rG_arr1 (hS.1 v _ hv)) (q0 := 0) rfl hc (fun comp c1 h1 h2 => by cases h1.symm.trans g1; cases h2.symm.trans g0; exact g2)
  have hva : v ≠ a := mne_oa hv hm
  have hD2 : va_D A [(a, .inl (D.1 8, (len, .inr (.inr (.inr (.inr f))))))] := ⟨fun i j p q hi hj _ => by (have := (List.getElem?_eq_some_iff.mp hi).1; have := (List.getElem?_eq_some_iff.mp hj).1; simp at *; omega), fun i q hi => by (cases i with | zero => cases hi; exact hS.2.1 a _ hm | succ i => simp at hi)⟩
  obtain ⟨cellV, v1, v2, ⟨kv, v3⟩, v4⟩ := hany
  obtain ⟨kA, comp, k1, k2, k3, -⟩ := (hK.2 2 _ rfl).2
  obtain ⟨kcomp, hkc, -⟩ := Vm.findClass_spec k3
  refine W.aast F.1 F.2.1 (hS.1 a _ hm) (fun q h => by cases h) (fun h => by cases h) k1 k2 rfl hkc ⟨fun q => hin (Or.inl q), by show _ < (arrV _ _ _).slots.size; rw [arrV_size]; exact Nat.not_le.mp (fun q => hin (Or.inr q))⟩ v1 (fun q h => by rw [h] at v2; cases v2) v3 (v4 comp k3) rfl rfl hd fun H1 e9 z oq => ?_
  refine kk H1 _ ls (hS.set hm ?_ z oq) hl
  show H1[a]? = some (vp_cell _ _)
  rw [e9, vp_cell_q, vp_cell_q, arrV_store, hcl]
  congr 2
  funext q
  by_cases hq : q = j
  · subst hq; simp [updV, va_up, va_rf]
  · simp [updV, va_up, hq]
theorem rg_alen (F : rF p l e R s m args below meth c cc nL own D A) {a len t : Nat} {cA : ClassId} {ty : FieldType} {x : (Nat → Int32) ⊕ (Nat → Int64) ⊕ (Nat → UInt32) ⊕ (Nat → UInt64) ⊕ (Nat → Option Nat)} (hm : M a = some (.inl (cA, (len, x)))) (ht : (rTy D)[t]? = some (cA, ty)) (hd : decode cc pc = .ok (.arraylength, 1)) (kk : rG p l e R s m args below meth c D A nL Q M k n lv (pc + 1) (.int (nI len) :: st)) : rG p l e R s m args below meth c D A nL Q M k n lv pc (.ref a :: st) := fun H locs ls hS hl =>
  va_alen (D := D) F.1 F.2.1 F.2.2.2.2.2.1 (rG_arr1 (hS.1 a _ hm)) 0 t rfl ht rfl hd (kk H locs ls hS hl)
/-- the empty array of ArrayList -/
theorem rg_alenT0 (F : rF p l e R s m args below meth c cc nL own D A) (hd : decode cc pc = .ok (.arraylength, 1)) (kk : rG p l e R s m args below meth c D A nL Q M k n lv (pc + 1) (.int (nI 0) :: st)) : rG p l e R s m args below meth c D A nL Q M k n lv pc (.ref (rT0 D) :: st) := fun H locs ls hS hl =>
  va_tlen F.1 F.2.1 F.2.2.2.2.2.2.2.1.1 hS.2.2 rfl hd (kk H locs ls hS hl)
theorem rg_getsT0 (F : rF p l e R s m args below meth c cc nL own D A) {i : Nat} (hw : Cond.fieldLink own i "java/util/ArrayList" "DEFAULTCAPACITY_EMPTY_ELEMENTDATA" "[Ljava/lang/Object;" ∈ wsL_law) (hd : decode cc pc = .ok (.getstatic i, 3)) (kk : rG p l e R s m args below meth c D A nL Q M k n lv (pc + 3) (.ref (rT0 D) :: st)) : rG p l e R s m args below meth c D A nL Q M k n lv pc st := fun H locs ls hS hl =>
  va_gets F.1 F.2.1 F.2.2.2.2.2.2.2.1.2.1 hS.2.2 F.2.2.2.1 (F.2.2.2.2.1 _ hw) (fun _ h => h) hd (kk H locs ls hS hl)
/-- new arrays, new objects -/
theorem rg_newL (F : rF p l e R s m args below meth c cc nL own D A) {N : Nat} (hN : N < 10000) (hcells : k + 1 ≤ R.cells) (hslots : n + N ≤ R.slots) (hw : Cond.arrayClass .long ∈ wsL_law) (hd : decode cc pc = .ok (.newarray .long, 2)) (kk : ∀ a : Nat, M a = none → rG p l e R s m args below meth c D A nL Q (mset M a (.inl (D.1 7, (N, .inr (.inl (fun _ => 0)))))) (k + 1) (n + N) lv (pc + 2) (.ref a :: st)) : rG p l e R s m args below meth c D A nL Q M k n lv pc (.int (nI N) :: st) := by
  intro H locs ls hS hl
  refine va_newaK F.1 F.2.1 (atype := .long) (F.2.2.2.2.1 _ hw) rfl hd rfl (nI_pos (by omega)) (nI_clamp (by omega)) (by show N * 8 ≤ _; omega) hcells hslots rfl fun H1 cA e1 z1 o1 hAr hNm => ?_
  have hcA : cA = D.1 7 := Option.some.inj (hNm.symm.trans (F.2.2.2.2.2.1.2 1 _ rfl).2)
  subst hcA
  obtain ⟨h1, h2⟩ := hS.new (y := .inl (D.1 7, (N, .inr (.inl (fun _ => 0))))) F.2.2.2.2.2.2.1 (H1 := H1) e1 z1 o1
  exact kk _ h1 H1 locs ls h2 hl
theorem rg_newA (F : rF p l e R s m args below meth c cc nL own D A) {N i : Nat} (hN : N < 100000) (hcells : k + 1 ≤ R.cells) (hslots : n + N ≤ R.slots) (hw : Cond.classLink own i "java/lang/Object" ∈ wsL_law) (hover : Cond.arrayOver (.object "java/lang/Object") ∈ tables_1) (hd : decode cc pc = .ok (.anewarray i, 3)) (kk : ∀ a : Nat, M a = none → a ≠ rT0 D → rG p l e R s m args below meth c D A nL Q (mset M a (.inl (D.1 8, (N, .inr (.inr (.inr (.inr (fun _ => none)))))))) (k + 1) (n + N) lv (pc + 3) (.ref a :: st)) : rG p l e R s m args below meth c D A nL Q M k n lv pc (.int (nI N) :: st) := by
  intro H locs ls hS hl
  have hcl : (nI N).toNatClampNeg = N := nI_clamp (by omega)
  have hov : va_AO "java/lang/Object" s := F.2.2.2.2.2.2.2.1.2.2.2.2.2.2.2.2.2.1 _ hover rfl
  refine W.anew F.1 F.2.1 F.2.2.2.1 (F.2.2.2.2.1 _ hw) (va_AO.use hov) rfl hd rfl (nI_pos (by omega)) (by rw [hcl]; omega) hcells (by rw [hcl]; exact hslots) fun cA kA comp f1 f2 f3 f4 => ?_
  have hcA : cA = D.1 8 := by
    obtain ⟨_, _, -, -, -, h4⟩ := (F.2.2.2.2.2.1.2 2 _ rfl).2
    exact Option.some.inj (f1.symm.trans h4)
  subst hcA
  rw [hcl]
  generalize hH1 : H.push ({ cls := D.1 8, slots := Array.replicate N .null, vm := .none } : Cell) = H1
  have z1 : H1.size = H.size + 1 := by rw [← hH1, Array.size_push]
  have e1 : H1[H.size]? = some (arrV (D.1 8) N (fun _ => .null)) := by rw [← hH1, Array.getElem?_push_size, ← arrV_new]
  have o1 : ∀ q : Nat, q < H.size → H1[q]? = H[q]? := fun q hq => by rw [← hH1, Array.getElem?_push, if_neg (Nat.ne_of_lt hq)]
  obtain ⟨h1, h2⟩ := hS.new (y := .inl (D.1 8, (N, .inr (.inr (.inr (.inr (fun _ => none))))))) F.2.2.2.2.2.2.1 (H1 := H1) e1 z1 o1
  have hT : H.size ≠ rT0 D := by
    obtain ⟨cell, hc, -⟩ := F.2.2.2.2.2.2.2.1.1
    have h3 := (Array.getElem?_eq_some_iff.mp hc).1
    have h4 := hS.2.2.1
    omega
  exact kk _ h1 hT H1 locs ls h2 hl
theorem rg_new (F : rF p l e R s m args below meth c cc nL own D A) {C : String} {T : u_T} {N ci i : Nat} {fs : List Value} (hc : vwCl[ci]? = some (C, T, N)) (hin : ∀ w ∈ u_ws C T N, w ∈ wsL_law) (ty : Nat → FieldType) (hty : ∀ j, j < N → parseFieldDescriptor (T j).2.2.1 = some (ty j)) (hfs : ∀ j, j < N → defaultValue (ty j) = vp_V fs j) (hw : Cond.classLink own i C ∈ wsL_law) (hw2 : Cond.instantiable C N ∈ wsL_law) (hw3 : Cond.initialized C ∈ wsL_law) (hcells : k + 1 ≤ R.cells) (hslots : n + N ≤ R.slots) (hd : decode cc pc = .ok (.new i, 3)) (kk : ∀ a : Nat, M a = none → rG p l e R s m args below meth c D A nL Q (mset M a (.inr (ci, fs))) (k + 1) (n + N) lv (pc + 3) (.ref a :: st)) : rG p l e R s m args below meth c D A nL Q M k n lv pc st := by
  intro H locs ls hS hl
  have hK := F.2.2.2.2.2.1
  have hts : ∀ w ∈ u_ws C T N, w.before args s = true := fun w h => F.2.2.2.2.1 _ (hin w h)
  have hKn := hK.1 ci _ hc
  refine W.newcK F.1 F.2.1 F.2.2.2.1 (F.2.2.2.2.1 _ hw) (F.2.2.2.2.1 _ hw2) (F.2.2.2.2.1 _ hw3) rfl hd hcells hslots hKn.2.1 rfl fun H1 kC hkC e1 z1 o1 => ?_
  obtain ⟨h1, h2⟩ := hS.new (y := .inr (ci, fs)) F.2.2.2.2.2.2.1 (H1 := H1) ⟨_, hc, (u_born ty hts (fun w h => h) hKn hkC e1 hty).to hfs⟩ z1 o1
  exact kk _ h1 H1 locs ls h2 hl
theorem rg_cast (F : rF p l e R s m args below meth c cc nL own D A) {C : String} {T : u_T} {N ci i a : Nat} {fs : List Value} (hc : vwCl[ci]? = some (C, T, N)) (hm : M a = some (.inr (ci, fs))) (hw : Cond.classLink own i C ∈ wsL_law) (hd : decode cc pc = .ok (.checkcast i, 3)) (kk : rG p l e R s m args below meth c D A nL Q M k n lv (pc + 3) (.ref a :: st)) : rG p l e R s m args below meth c D A nL Q M k n lv pc (.ref a :: st) := fun H locs ls hS hl =>
  va_castS F.1 F.2.1 F.2.2.2.1 (F.2.2.2.2.1 _ hw) (F.2.2.2.2.2.1.1 ci _ hc).2 (va_recv F.2.2.2.2.2.1 (rG_arr1 (hS.1 a _ hm)) (q0 := 0) hc rfl) hd (kk H locs ls hS hl)
theorem rg_objInit (F : rF p l e R s m args below meth c cc nL own D A) {i a : Nat} (hw : Cond.methodLink own i objectInit ∈ wsL_law) (hw2 : Cond.instanceMethod objectInit ∈ wsL_law) (hw3 : Cond.code objectInit ⟨#[0xb1]⟩ 1 none ∈ wsL_law) (hd : decode cc pc = .ok (.invokespecial i, 3)) (hfr : 1 ≤ R.frames) (hlo : (st.map fun v => v.category).sum + 12 ≤ R.locals) (kk : rG p l e R s m args below meth c D A nL Q M k n lv (pc + 3) st) : rG p l e R s m args below meth c D A nL Q M k n lv pc (.ref a :: st) := fun H locs ls hS hl =>
  W.objInit F.1 F.2.1 F.2.2.2.1 (F.2.2.2.2.1 _ hw) (F.2.2.2.2.1 _ hw2) (F.2.2.2.2.1 _ hw3) rfl (by rw [F.2.2.1]; exact hl.2.1) rfl hd hfr (by have : 2 * (F0 m pc ls (.ref a :: st)).monitorRoom = 0 := rfl; rw [this]; omega) (W.eq (g2 := F0 m (pc + 3) ls st) rfl (kk H locs ls hS hl))
end RH
