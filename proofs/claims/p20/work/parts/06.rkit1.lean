abbrev rMem : Type := Nat → Option va_E
def mset (M : rMem) (a : Nat) (e : va_E) : rMem := fun b => if b = a then some e else M b
theorem mset_eq {M : rMem} {a : Nat} {e : va_E} : mset M a e a = some e := if_pos rfl
theorem mset_ne {M : rMem} {a b : Nat} {e : va_E} (h : b ≠ a) : mset M a e b = M b := if_neg h
theorem mset_keep {M : rMem} {a b : Nat} {e x : va_E} (hb : M b = some x) (h : b ≠ a) : mset M a e b = some x := (mset_ne h).trans hb
theorem mne {M : rMem} {a b : Nat} {x y : va_E} (ha : M a = some x) (hb : M b = some y) (h : x ≠ y) : a ≠ b := fun e => h (by subst e; exact Option.some.inj (ha.symm.trans hb))
theorem mne_ci {M : rMem} {a b i j : Nat} {x y : List Value} (ha : M a = some (.inr (i, x))) (hb : M b = some (.inr (j, y))) (h : i ≠ j) : a ≠ b := mne ha hb (fun e => h (congrArg Prod.fst (Sum.inr.inj e)))
theorem mne_oa {M : rMem} {a b : Nat} {x : Nat × List Value} {y : ClassId × vp_A} (ha : M a = some (.inr x)) (hb : M b = some (.inl y)) : a ≠ b := mne ha hb (fun e => by cases e)
theorem mne_ao {M : rMem} {a b : Nat} {x : ClassId × vp_A} {y : Nat × List Value} (ha : M a = some (.inl x)) (hb : M b = some (.inr y)) : a ≠ b := mne ha hb (fun e => by cases e)
theorem mne_none {M : rMem} {a b : Nat} {x : va_E} (ha : M a = some x) (hb : M b = none) : a ≠ b := fun e => by subst e; rw [hb] at ha; cases ha
theorem mset_none {M : rMem} {a b : Nat} {e : va_E} (h : mset M a e b = none) : M b = none := by
  by_cases hb : b = a
  · rw [hb, mset_eq] at h; cases h
  · rwa [mset_ne hb] at h
theorem mset_mset {M : rMem} {a : Nat} {e e2 : va_E} : mset (mset M a e) a e2 = mset M a e2 := by
  funext b
  unfold mset
  by_cases h : b = a <;> simp [h]
theorem mset_self {M : rMem} {a : Nat} {e : va_E} (h : M a = some e) : mset M a e = M := by
  funext b
  unfold mset
  by_cases hb : b = a
  · subst hb; simp [h]
  · simp [hb]
theorem mset_comm {M : rMem} {a b : Nat} {e f : va_E} (h : a ≠ b) : mset (mset M a e) b f = mset (mset M b f) a e := by
  funext q
  unfold mset
  by_cases h1 : q = b
  · have h2 : q ≠ a := fun z => h (z.symm.trans h1)
    simp [h1, h2, Ne.symm h]
  · simp [h1]
def rP (D : va_G) (M : rMem) (H : Heap) : Prop := ∀ a e, M a = some e → va_at D vwCl (a, e) H
def rI (A : Nat → Prop) (M : rMem) : Prop := ∀ a e, M a = some e → A a
def fr (M : rMem) (sz : Nat) : Nat → Prop := fun q => (∃ e, M q = some e) ∨ sz ≤ q
abbrev rTy (D : va_G) : List (ClassId × FieldType) := [(D.1 7, .long), (D.1 7, .long), (D.1 8, .object "java/lang/Object")]
def rT0 (D : va_G) : Nat := D.2 9 0
def rT1 (D : va_G) : Nat := D.2 9 1
def rT2 (D : va_G) : Nat := D.2 9 2
def rT3 (D : va_G) : Nat := D.2 9 3
def rFoot (j : Nat) : Nat := if j < 2 then 2 else 3
def rBeat (j : Nat) : Nat := if j = 0 then 1 else if j = 2 then 2 else 0
def rStr : List (Nat × String) := [(28, "syllables are 1 to 4, and the stress is a set of them"), (37, "vowel and end are 0 to 9"), (45, "there are 30 words"), (172, "there is no such number"), (73, "a metre is 0 to 3, feet are 1 to 6, a mark is 0 to 5"), (75, "there are 10 lines"), (100, "the line has 8 words"), (110, "the line has no words")]
/-- words that are carried beside the list: they stay true as things are resolved -/
def rNk : Cond → Bool
  | .fieldLinkNest .. => true
  | .methodLinkNest .. => true
  | .castable .. => true
  | .declares .. => true
  | .arrayOver (.object _) => true
  | _ => false
theorem rNk_warm {w : Cond} (hk : rNk w = true) {s U : State} (hW : s.WarmedH U.vm) (h : va_Nw w s) : va_Nw w U := by
  cases w
  case fieldLinkNest => exact va_Nw.warmF hW h
  case methodLinkNest => exact va_Nw.warmM hW h
  case castable => exact va_Nw.warmC hW h
  case declares => exact va_Nw.warmD hW h
  case arrayOver ty => cases ty <;> first | exact va_AO.moved hW.alike h | exact Bool.noConfusion (show false = true from hk)
  all_goals exact Bool.noConfusion (show false = true from hk)
/-- the script: where it lies, how long it is, what it holds -/
def rSb (D : va_G) : Nat := D.2 9 1
def rSn (D : va_G) : Nat := D.2 10 0
def rSx (D : va_G) (j : Nat) : Int32 := nI (D.2 11 j)
def rScr (D : va_G) (A : Nat → Prop) (U : State) (H : Heap) : Prop := va_X (rSb D) (rSn D) (rSx D) U H ∧ ¬ A (rSb D) ∧ rSn D ≤ 260
theorem va_X_lt {b L : Nat} {xs : Nat → Int32} {U : State} {H : Heap} (h : va_X b L xs U H) : b < H.size := by
  obtain ⟨scr, h1, -⟩ := h
  rcases Nat.lt_or_ge b H.size with h2 | h2
  · exact h2
  · rw [Array.getElem?_eq_none h2] at h1
    cases h1
theorem rScr.moved {D : va_G} {A : Nat → Prop} {u U : State} {H : Heap} (hvm : u.vm.Alike U.vm) (h : rScr D A u H) : rScr D A U H := ⟨h.1.moved hvm, h.2⟩
theorem rScr.kept {D : va_G} {A : Nat → Prop} {U : State} {H H1 : Heap} (h : rScr D A U H) (hq : ∀ a : Nat, a < H.size → ¬ A a → H1[a]? = H[a]?) : rScr D A U H1 := ⟨h.1.kept (hq _ (va_X_lt h.1) h.2.1), h.2⟩
theorem rScr.narrow {D : va_G} {A B : Nat → Prop} {U : State} {H : Heap} (h : rScr D A U H) (hAB : ∀ q, B q → A q) : rScr D B U H := ⟨h.1, fun z => h.2.1 (hAB _ z), h.2.2⟩
/-- the statics that the runs read, and that nothing writes -/
def rStat (D : va_G) (A : Nat → Prop) (U : State) (H : Heap) : Prop :=
  va_T (.object "java/lang/Object") (rT0 D) 0 (fun _ => .null) A U H ∧ va_Z "java/util/ArrayList" "DEFAULTCAPACITY_EMPTY_ELEMENTDATA" "[Ljava/lang/Object;" (.ref (rT0 D)) A U H ∧
  vx_Zq Bundle.tN "UNASSIGNED_STACK" Bundle.steD A U H ∧ vx_Zq Bundle.tN "SUPPRESSED_SENTINEL" Bundle.listD A U H ∧
  rScr D A U H ∧ va_Z "java/util/ArrayList" "DEFAULTCAPACITY_EMPTY_ELEMENTDATA" "[Ljava/lang/Object;" (.ref (rT0 D)) A U H ∧
  va_T (.object "java/lang/Object") (rT0 D) 0 (fun _ => .null) A U H ∧ va_Z "java/util/ArrayList" "DEFAULTCAPACITY_EMPTY_ELEMENTDATA" "[Ljava/lang/Object;" (.ref (rT0 D)) A U H ∧ (∀ q ∈ rStr, ∃ a, vk_R RX3 q.1 q.2 a U) ∧ (∀ w ∈ tables_1, rNk w = true → va_Nw w U) ∧ va_Mi "[Ljava/lang/Object;" (rT3 D) U
theorem rStat.moved {D : va_G} {A : Nat → Prop} {u U : State} {H : Heap} (hW : u.WarmedH U.vm) (h : rStat D A u H) : rStat D A U H :=
  ⟨h.1.moved hW.alike, h.2.1.moved hW.alike, h.2.2.1.moved hW.alike, h.2.2.2.1.moved hW.alike, h.2.2.2.2.1.moved hW.alike, h.2.2.2.2.2.1.moved hW.alike, h.2.2.2.2.2.2.1.moved hW.alike, h.2.2.2.2.2.2.2.1.moved hW.alike, fun q hq => by obtain ⟨a, ha⟩ := h.2.2.2.2.2.2.2.2.1 q hq; exact ⟨a, vk_R.warm hW ha⟩, fun w hw hk => rNk_warm hk hW (h.2.2.2.2.2.2.2.2.2.1 w hw hk), h.2.2.2.2.2.2.2.2.2.2.moved hW.alike⟩
theorem rStat.kept {D : va_G} {A : Nat → Prop} {U : State} {H H1 : Heap} (h : rStat D A U H) (hq : ∀ a : Nat, a < H.size → ¬ A a → H1[a]? = H[a]?) : rStat D A U H1 :=
  ⟨h.1.kept hq, h.2.1.kept hq, h.2.2.1.kept hq, h.2.2.2.1.kept hq, h.2.2.2.2.1.kept hq, h.2.2.2.2.2.1.kept hq, h.2.2.2.2.2.2.1.kept hq, h.2.2.2.2.2.2.2.1.kept hq, h.2.2.2.2.2.2.2.2⟩
theorem rStat.narrow {D : va_G} {A B : Nat → Prop} {U : State} {H : Heap} (h : rStat D A U H) (hAB : ∀ q, B q → A q) : rStat D B U H :=
  ⟨h.1.narrow hAB, h.2.1.narrow hAB, h.2.2.1.narrow hAB, h.2.2.2.1.narrow hAB, h.2.2.2.2.1.narrow hAB, h.2.2.2.2.2.1.narrow hAB, h.2.2.2.2.2.2.1.narrow hAB, h.2.2.2.2.2.2.2.1.narrow hAB, h.2.2.2.2.2.2.2.2⟩
/-- what stays the same along a whole body -/
def rF (p : Program) (l : Launch) (e : Env) (R : Room) (s : State) (m : MethodId) (args : Array Value) (below : List Frame) (meth : Method) (c : Code) (cc : ByteArray) (nL : Nat) (own : String) (D : va_G) (A : Nat → Prop) : Prop :=
  p.tables.exec = Jvm.exec ∧ c.code = cc ∧ c.maxLocals = nL ∧ s.vm.findClass own = some m.cls ∧ (∀ w ∈ wsL_law, w.before args s = true) ∧ va_K D vwCl (rTy D) s ∧ (∀ q, s.heap.size ≤ q → A q) ∧ rStat D A s s.heap ∧ meth.locks = false
def rS (D : va_G) (A : Nat → Prop) (s : State) (M : rMem) (H : Heap) (locs : List Loc) : Prop := rP D M H ∧ rI A M ∧ va_S A s.heap H locs
def lvA (lv : List (Option Value)) : List (Nat × Value) := lv.zipIdx.filterMap (fun q => q.1.map (fun v => (q.2, v)))
theorem lvA_mem {lv : List (Option Value)} {i : Nat} {v : Value} : (i, v) ∈ lvA lv ↔ lv[i]? = some (some v) := by
  unfold lvA
  rw [List.mem_filterMap]
  constructor
  · rintro ⟨⟨x, j⟩, h1, h2⟩
    rw [List.mem_zipIdx_iff_getElem?] at h1
    cases x with
    | none => cases h2
    | some w => cases h2; exact h1
  · intro h
    exact ⟨(some v, i), List.mem_zipIdx_iff_getElem?.mpr h, rfl⟩
def rL (ls : Array Slot) (nL : Nat) (lv : List (Option Value)) : Prop := lv.length = nL ∧ lv_has ls nL (lvA lv)
theorem rL.at {ls : Array Slot} {nL : Nat} {lv : List (Option Value)} (h : rL ls nL lv) {i : Nat} {v : Value} (hv : lv[i]? = some (some v)) : ls[i]? = some (.val v) := h.2.2.2 (i, v) (lvA_mem.mpr hv)
/-- locals behind a store of one slot, of two -/
def rclr (lv : List (Option Value)) (i : Nat) : List (Option Value) := match lv[i]? with
    | some (some w) => if w.category = 2 then lv.set i none else lv
    | _ => lv
def rcl (lv : List (Option Value)) : Nat → List (Option Value)
  | 0 => lv
  | i + 1 => rclr lv i
def rst1 (lv : List (Option Value)) (i : Nat) (v : Value) : List (Option Value) := (rcl lv i).set i (some v)
def rst2 (lv : List (Option Value)) (i : Nat) (v : Value) : List (Option Value) := ((rcl lv i).set i (some v)).set (i + 1) none
theorem rclr_len (lv : List (Option Value)) (i : Nat) : (rclr lv i).length = lv.length := by
  unfold rclr
  split
  · split
    · rw [List.length_set]
    · rfl
  · rfl
theorem rcl_len (lv : List (Option Value)) (i : Nat) : (rcl lv i).length = lv.length := by
  cases i with
  | zero => rfl
  | succ i => exact rclr_len lv i
theorem rclr_get {lv : List (Option Value)} {i j : Nat} {w : Value} (h : (rclr lv i)[j]? = some (some w)) : lv[j]? = some (some w) ∧ (j = i → w.category ≠ 2) := by
  unfold rclr at h
  split at h
  · rename_i w0 hw0
    split at h
    · by_cases hj : j = i
      · subst hj
        have hlt : j < lv.length := (List.getElem?_eq_some_iff.mp hw0).1
        rw [List.getElem?_set_self hlt] at h
        cases h
      · rw [List.getElem?_set_ne (Ne.symm hj)] at h
        exact ⟨h, fun e => absurd e hj⟩
    · rename_i hc
      refine ⟨h, fun e => ?_⟩
      subst e
      rw [hw0] at h
      cases h
      exact hc
  · rename_i hn
    refine ⟨h, fun e => ?_⟩
    subst e
    exact absurd h (hn w)
theorem rcl_get {lv : List (Option Value)} {i j : Nat} {w : Value} (h : (rcl lv i)[j]? = some (some w)) : lv[j]? = some (some w) ∧ (j + 1 = i → w.category ≠ 2) := by
  cases i with
  | zero => exact ⟨h, fun e => by omega⟩
  | succ i =>
    obtain ⟨h1, h2⟩ := rclr_get h
    exact ⟨h1, fun e => h2 (by omega)⟩
theorem rL.st1 {ls ls' : Array Slot} {nL i : Nat} {v : Value} {lv lv' : List (Option Value)} (h : rL ls nL lv) (hl : rst1 lv i v = lv')
    (h' : lv_has ls' nL ((i, v) :: (lvA lv).filter (fun q => !(q.1 == i) && !(q.1 + 1 == i && q.2.category == 2)))) : rL ls' nL lv' := by
  subst hl
  refine ⟨by unfold rst1; rw [List.length_set, rcl_len]; exact h.1, h'.1, h'.2.1, fun q hq => ?_⟩
  obtain ⟨j, w⟩ := q
  have hq := lvA_mem.mp hq
  unfold rst1 at hq
  by_cases hj : j = i
  · subst hj
    have hlt : j < (rcl lv j).length := by
      have := (List.getElem?_eq_some_iff.mp hq).1
      simpa using this
    rw [List.getElem?_set_self hlt] at hq
    cases hq
    exact h'.2.2 (j, v) List.mem_cons_self
  · rw [List.getElem?_set_ne (Ne.symm hj)] at hq
    obtain ⟨h1, h2⟩ := rcl_get hq
    refine h'.2.2 (j, w) (List.mem_cons_of_mem _ (List.mem_filter.mpr ⟨lvA_mem.mpr h1, ?_⟩))
    simp only [Bool.and_eq_true, Bool.not_eq_true', beq_eq_false_iff_ne, Bool.and_eq_false_iff, ne_eq]
    refine ⟨hj, ?_⟩
    by_cases e : j + 1 = i
    · exact Or.inr (h2 e)
    · exact Or.inl e
theorem rL.st2 {ls ls' : Array Slot} {nL i : Nat} {v : Value} {lv lv' : List (Option Value)} (h : rL ls nL lv) (hl : rst2 lv i v = lv')
    (h' : lv_has ls' nL ((i, v) :: (lvA lv).filter (fun q => !(q.1 == i) && (!(q.1 == i + 1) && !(q.1 + 1 == i && q.2.category == 2))))) : rL ls' nL lv' := by
  subst hl
  refine ⟨by unfold rst2; rw [List.length_set, List.length_set, rcl_len]; exact h.1, h'.1, h'.2.1, fun q hq => ?_⟩
  obtain ⟨j, w⟩ := q
  have hq := lvA_mem.mp hq
  unfold rst2 at hq
  by_cases hj1 : j = i + 1
  · subst hj1
    have hlt : i + 1 < ((rcl lv i).set i (some v)).length := by
      have := (List.getElem?_eq_some_iff.mp hq).1
      simpa using this
    rw [List.getElem?_set_self hlt] at hq
    cases hq
  · rw [List.getElem?_set_ne (Ne.symm hj1)] at hq
    by_cases hj : j = i
    · subst hj
      have hlt : j < (rcl lv j).length := by
        have := (List.getElem?_eq_some_iff.mp hq).1
        simpa using this
      rw [List.getElem?_set_self hlt] at hq
      cases hq
      exact h'.2.2 (j, v) List.mem_cons_self
    · rw [List.getElem?_set_ne (Ne.symm hj)] at hq
      obtain ⟨h1, h2⟩ := rcl_get hq
      refine h'.2.2 (j, w) (List.mem_cons_of_mem _ (List.mem_filter.mpr ⟨lvA_mem.mpr h1, ?_⟩))
      simp only [Bool.and_eq_true, Bool.not_eq_true', beq_eq_false_iff_ne, Bool.and_eq_false_iff, ne_eq]
      refine ⟨hj, hj1, ?_⟩
      by_cases e : j + 1 = i
      · exact Or.inr (h2 e)
      · exact Or.inl e
/-- fewer locals known -/
theorem rL.sub {ls : Array Slot} {nL : Nat} {lv lv' : List (Option Value)} (h : rL ls nL lv) (hn : lv'.length = lv.length) (hs : ∀ (i : Nat) (v : Value), lv'[i]? = some (some v) → lv[i]? = some (some v)) : rL ls nL lv' :=
  ⟨hn.trans h.1, h.2.1, h.2.2.1, fun q hq => h.2.2.2 q (by obtain ⟨i, v⟩ := q; exact lvA_mem.mpr (hs i v (lvA_mem.mp hq)))⟩
def rsub : List (Option Value) → List (Option Value) → Prop
  | [], [] => True
  | none :: a, _ :: b => rsub a b
  | some x :: a, some y :: b => x = y ∧ rsub a b
  | _, _ => False
theorem rsub_get : ∀ (a b : List (Option Value)), rsub a b → a.length = b.length ∧ ∀ (i : Nat) (v : Value), a[i]? = some (some v) → b[i]? = some (some v)
  | [], [], _ => ⟨rfl, fun i v h => h⟩
  | none :: a, x :: b, h => by
    obtain ⟨h1, h2⟩ := rsub_get a b h
    refine ⟨by simp [h1], fun i v hi => ?_⟩
    cases i with
    | zero => cases hi
    | succ i => exact h2 i v hi
  | some x :: a, some y :: b, h => by
    obtain ⟨e, h⟩ := h
    subst e
    obtain ⟨h1, h2⟩ := rsub_get a b h
    refine ⟨by simp [h1], fun i v hi => ?_⟩
    cases i with
    | zero => exact hi
    | succ i => exact h2 i v hi
  | some x :: a, none :: b, h => h.elim
  | some x :: a, [], h => h.elim
  | none :: a, [], h => h.elim
  | [], x :: b, h => h.elim
def rG (p : Program) (l : Launch) (e : Env) (R : Room) (s : State) (m : MethodId) (args : Array Value) (below : List Frame) (meth : Method) (c : Code) (D : va_G) (A : Nat → Prop) (nL : Nat) (Q : State → Prop) (M : rMem) (k n : Nat) (lv : List (Option Value)) (pc : Nat) (st : List Value) : Prop :=
  ∀ (H : Heap) (locs : List Loc) (ls : Array Slot), rS D A s M H locs → rL ls nL lv → W p l e R s m args below meth c H locs k n Q (F0 m pc ls st)
section RG
variable {p : Program} {l : Launch} {e : Env} {R : Room} {s : State} {m : MethodId} {args : Array Value} {below : List Frame} {meth : Method} {c : Code} {cc : ByteArray} {nL : Nat} {own : String} {D : va_G} {A : Nat → Prop} {Q : State → Prop} {M : rMem} {k n pc : Nat} {lv lv' : List (Option Value)} {st : List Value}
theorem rg_iload_n (F : rF p l e R s m args below meth c cc nL own D A) {i : Fin 4} {x : Int32} (hd : decode cc pc = .ok (.iload_n i, 1)) (hv : lv[(i : Nat)]? = some (some (.int x))) (kk : rG p l e R s m args below meth c D A nL Q M k n lv (pc + 1) (.int x :: st)) : rG p l e R s m args below meth c D A nL Q M k n lv pc (st) := fun H locs ls hS hl => lv_iload_n F.1 F.2.1 hd rfl (hl.at hv) (kk H locs ls hS hl)
theorem rg_iload (F : rF p l e R s m args below meth c cc nL own D A) {i : Nat} {x : Int32} (hd : decode cc pc = .ok (.iload i, 2)) (hv : lv[i]? = some (some (.int x))) (kk : rG p l e R s m args below meth c D A nL Q M k n lv (pc + 2) (.int x :: st)) : rG p l e R s m args below meth c D A nL Q M k n lv pc (st) := fun H locs ls hS hl => lv_iload F.1 F.2.1 hd (hl.at hv) (kk H locs ls hS hl)
theorem rg_lload_n (F : rF p l e R s m args below meth c cc nL own D A) {i : Fin 4} {x : Int64} (hd : decode cc pc = .ok (.lload_n i, 1)) (hv : lv[(i : Nat)]? = some (some (.long x))) (kk : rG p l e R s m args below meth c D A nL Q M k n lv (pc + 1) (.long x :: st)) : rG p l e R s m args below meth c D A nL Q M k n lv pc (st) := fun H locs ls hS hl => lv_lload_n F.1 F.2.1 hd rfl (hl.at hv) (kk H locs ls hS hl)
theorem rg_lload (F : rF p l e R s m args below meth c cc nL own D A) {i : Nat} {x : Int64} (hd : decode cc pc = .ok (.lload i, 2)) (hv : lv[i]? = some (some (.long x))) (kk : rG p l e R s m args below meth c D A nL Q M k n lv (pc + 2) (.long x :: st)) : rG p l e R s m args below meth c D A nL Q M k n lv pc (st) := fun H locs ls hS hl => lv_lload F.1 F.2.1 hd (hl.at hv) (kk H locs ls hS hl)
theorem rg_dload_n (F : rF p l e R s m args below meth c cc nL own D A) {i : Fin 4} {x : UInt64} (hd : decode cc pc = .ok (.dload_n i, 1)) (hv : lv[(i : Nat)]? = some (some (.double x))) (kk : rG p l e R s m args below meth c D A nL Q M k n lv (pc + 1) (.double x :: st)) : rG p l e R s m args below meth c D A nL Q M k n lv pc (st) := fun H locs ls hS hl => lv_dload_n F.1 F.2.1 hd rfl (hl.at hv) (kk H locs ls hS hl)
theorem rg_dload (F : rF p l e R s m args below meth c cc nL own D A) {i : Nat} {x : UInt64} (hd : decode cc pc = .ok (.dload i, 2)) (hv : lv[i]? = some (some (.double x))) (kk : rG p l e R s m args below meth c D A nL Q M k n lv (pc + 2) (.double x :: st)) : rG p l e R s m args below meth c D A nL Q M k n lv pc (st) := fun H locs ls hS hl => lv_dload F.1 F.2.1 hd (hl.at hv) (kk H locs ls hS hl)
theorem rg_aload_n (F : rF p l e R s m args below meth c cc nL own D A) {i : Fin 4} {x : Nat} (hd : decode cc pc = .ok (.aload_n i, 1)) (hv : lv[(i : Nat)]? = some (some (.ref x))) (kk : rG p l e R s m args below meth c D A nL Q M k n lv (pc + 1) (.ref x :: st)) : rG p l e R s m args below meth c D A nL Q M k n lv pc (st) := fun H locs ls hS hl => lv_aload_n F.1 F.2.1 hd rfl (hl.at hv) (kk H locs ls hS hl)
theorem rg_aload (F : rF p l e R s m args below meth c cc nL own D A) {i : Nat} {x : Nat} (hd : decode cc pc = .ok (.aload i, 2)) (hv : lv[i]? = some (some (.ref x))) (kk : rG p l e R s m args below meth c D A nL Q M k n lv (pc + 2) (.ref x :: st)) : rG p l e R s m args below meth c D A nL Q M k n lv pc (st) := fun H locs ls hS hl => lv_aload F.1 F.2.1 hd (hl.at hv) (kk H locs ls hS hl)
theorem rg_aload_nN (F : rF p l e R s m args below meth c cc nL own D A) {i : Fin 4} (hd : decode cc pc = .ok (.aload_n i, 1)) (hv : lv[(i : Nat)]? = some (some .null)) (kk : rG p l e R s m args below meth c D A nL Q M k n lv (pc + 1) (.null :: st)) : rG p l e R s m args below meth c D A nL Q M k n lv pc (st) := fun H locs ls hS hl => lv_aload_nN F.1 F.2.1 hd rfl (hl.at hv) (kk H locs ls hS hl)
theorem rg_aloadN (F : rF p l e R s m args below meth c cc nL own D A) {i : Nat} (hd : decode cc pc = .ok (.aload i, 2)) (hv : lv[i]? = some (some .null)) (kk : rG p l e R s m args below meth c D A nL Q M k n lv (pc + 2) (.null :: st)) : rG p l e R s m args below meth c D A nL Q M k n lv pc (st) := fun H locs ls hS hl => lv_aloadN F.1 F.2.1 hd (hl.at hv) (kk H locs ls hS hl)
theorem rg_istore_n (F : rF p l e R s m args below meth c cc nL own D A) {i : Fin 4} {x : Int32} (hd : decode cc pc = .ok (.istore_n i, 1)) (hi : (i : Nat) < nL) (hlv : rst1 lv (i : Nat) (.int x) = lv') (kk : rG p l e R s m args below meth c D A nL Q M k n lv' (pc + 1) (st)) : rG p l e R s m args below meth c D A nL Q M k n lv pc (.int x :: st) := fun H locs ls hS hl => lv_istore_n F.1 F.2.1 hd rfl hl.2 hi rfl (fun ls9 h9 => kk H locs ls9 hS (hl.st1 hlv h9))
theorem rg_istore (F : rF p l e R s m args below meth c cc nL own D A) {i : Nat} {x : Int32} (hd : decode cc pc = .ok (.istore i, 2)) (hi : i < nL) (hlv : rst1 lv i (.int x) = lv') (kk : rG p l e R s m args below meth c D A nL Q M k n lv' (pc + 2) (st)) : rG p l e R s m args below meth c D A nL Q M k n lv pc (.int x :: st) := fun H locs ls hS hl => lv_istore F.1 F.2.1 hd hl.2 hi rfl (fun ls9 h9 => kk H locs ls9 hS (hl.st1 hlv h9))
theorem rg_astore_n (F : rF p l e R s m args below meth c cc nL own D A) {i : Fin 4} {x : Nat} (hd : decode cc pc = .ok (.astore_n i, 1)) (hi : (i : Nat) < nL) (hlv : rst1 lv (i : Nat) (.ref x) = lv') (kk : rG p l e R s m args below meth c D A nL Q M k n lv' (pc + 1) (st)) : rG p l e R s m args below meth c D A nL Q M k n lv pc (.ref x :: st) := fun H locs ls hS hl => lv_astore_n F.1 F.2.1 hd rfl hl.2 hi rfl (fun ls9 h9 => kk H locs ls9 hS (hl.st1 hlv h9))
theorem rg_astore (F : rF p l e R s m args below meth c cc nL own D A) {i : Nat} {x : Nat} (hd : decode cc pc = .ok (.astore i, 2)) (hi : i < nL) (hlv : rst1 lv i (.ref x) = lv') (kk : rG p l e R s m args below meth c D A nL Q M k n lv' (pc + 2) (st)) : rG p l e R s m args below meth c D A nL Q M k n lv pc (.ref x :: st) := fun H locs ls hS hl => lv_astore F.1 F.2.1 hd hl.2 hi rfl (fun ls9 h9 => kk H locs ls9 hS (hl.st1 hlv h9))
theorem rg_lstore_n (F : rF p l e R s m args below meth c cc nL own D A) {i : Fin 4} {x : Int64} (hd : decode cc pc = .ok (.lstore_n i, 1)) (hi : (i : Nat) + 1 < nL) (hlv : rst2 lv (i : Nat) (.long x) = lv') (kk : rG p l e R s m args below meth c D A nL Q M k n lv' (pc + 1) (st)) : rG p l e R s m args below meth c D A nL Q M k n lv pc (.long x :: st) := fun H locs ls hS hl => lv_lstore_n F.1 F.2.1 hd rfl hl.2 hi rfl (fun ls9 h9 => kk H locs ls9 hS (hl.st2 hlv h9))
theorem rg_lstore (F : rF p l e R s m args below meth c cc nL own D A) {i : Nat} {x : Int64} (hd : decode cc pc = .ok (.lstore i, 2)) (hi : i + 1 < nL) (hlv : rst2 lv i (.long x) = lv') (kk : rG p l e R s m args below meth c D A nL Q M k n lv' (pc + 2) (st)) : rG p l e R s m args below meth c D A nL Q M k n lv pc (.long x :: st) := fun H locs ls hS hl => lv_lstore F.1 F.2.1 hd hl.2 hi rfl (fun ls9 h9 => kk H locs ls9 hS (hl.st2 hlv h9))
theorem rg_dstore_n (F : rF p l e R s m args below meth c cc nL own D A) {i : Fin 4} {x : UInt64} (hd : decode cc pc = .ok (.dstore_n i, 1)) (hi : (i : Nat) + 1 < nL) (hlv : rst2 lv (i : Nat) (.double x) = lv') (kk : rG p l e R s m args below meth c D A nL Q M k n lv' (pc + 1) (st)) : rG p l e R s m args below meth c D A nL Q M k n lv pc (.double x :: st) := fun H locs ls hS hl => lv_dstore_n F.1 F.2.1 hd rfl hl.2 hi rfl (fun ls9 h9 => kk H locs ls9 hS (hl.st2 hlv h9))
theorem rg_dstore (F : rF p l e R s m args below meth c cc nL own D A) {i : Nat} {x : UInt64} (hd : decode cc pc = .ok (.dstore i, 2)) (hi : i + 1 < nL) (hlv : rst2 lv i (.double x) = lv') (kk : rG p l e R s m args below meth c D A nL Q M k n lv' (pc + 2) (st)) : rG p l e R s m args below meth c D A nL Q M k n lv pc (.double x :: st) := fun H locs ls hS hl => lv_dstore F.1 F.2.1 hd hl.2 hi rfl (fun ls9 h9 => kk H locs ls9 hS (hl.st2 hlv h9))
theorem rg_astore_nN (F : rF p l e R s m args below meth c cc nL own D A) {i : Fin 4} (hd : decode cc pc = .ok (.astore_n i, 1)) (hi : (i : Nat) < nL) (hlv : rst1 lv (i : Nat) .null = lv') (kk : rG p l e R s m args below meth c D A nL Q M k n lv' (pc + 1) (st)) : rG p l e R s m args below meth c D A nL Q M k n lv pc (.null :: st) := fun H locs ls hS hl => lv_astore_nN F.1 F.2.1 hd rfl hl.2 hi rfl (fun ls9 h9 => kk H locs ls9 hS (hl.st1 hlv h9))
theorem rg_astoreN (F : rF p l e R s m args below meth c cc nL own D A) {i : Nat} (hd : decode cc pc = .ok (.astore i, 2)) (hi : i < nL) (hlv : rst1 lv i .null = lv') (kk : rG p l e R s m args below meth c D A nL Q M k n lv' (pc + 2) (st)) : rG p l e R s m args below meth c D A nL Q M k n lv pc (.null :: st) := fun H locs ls hS hl => lv_astoreN F.1 F.2.1 hd hl.2 hi rfl (fun ls9 h9 => kk H locs ls9 hS (hl.st1 hlv h9))
theorem rg_iconst (F : rF p l e R s m args below meth c cc nL own D A) {i : Int} {v : Int32} (hd : decode cc pc = .ok (.iconst i, 1)) (hv : Int32.ofInt i = v) (kk : rG p l e R s m args below meth c D A nL Q M k n lv (pc + 1) (.int v :: st)) : rG p l e R s m args below meth c D A nL Q M k n lv pc (st) := fun H locs ls hS hl => lv_iconst F.1 F.2.1 hd hv (kk H locs ls hS hl)
theorem rg_bipush (F : rF p l e R s m args below meth c cc nL own D A) {i : Int} {v : Int32} (hd : decode cc pc = .ok (.bipush i, 2)) (hv : (Int8.ofInt i).toInt32 = v) (kk : rG p l e R s m args below meth c D A nL Q M k n lv (pc + 2) (.int v :: st)) : rG p l e R s m args below meth c D A nL Q M k n lv pc (st) := fun H locs ls hS hl => lv_bipush F.1 F.2.1 hd hv (kk H locs ls hS hl)
theorem rg_sipush (F : rF p l e R s m args below meth c cc nL own D A) {i : Int} {v : Int32} (hd : decode cc pc = .ok (.sipush i, 3)) (hv : (Int16.ofInt i).toInt32 = v) (kk : rG p l e R s m args below meth c D A nL Q M k n lv (pc + 3) (.int v :: st)) : rG p l e R s m args below meth c D A nL Q M k n lv pc (st) := fun H locs ls hS hl => lv_sipush F.1 F.2.1 hd hv (kk H locs ls hS hl)
theorem rg_lconst (F : rF p l e R s m args below meth c cc nL own D A) {i : Fin 2} {v : Int64} (hd : decode cc pc = .ok (.lconst i, 1)) (hv : Int64.ofNat (i : Nat) = v) (kk : rG p l e R s m args below meth c D A nL Q M k n lv (pc + 1) (.long v :: st)) : rG p l e R s m args below meth c D A nL Q M k n lv pc (st) := fun H locs ls hS hl => lv_lconst F.1 F.2.1 hd hv (kk H locs ls hS hl)
theorem rg_null (F : rF p l e R s m args below meth c cc nL own D A) (hd : decode cc pc = .ok (.aconst_null, 1)) (kk : rG p l e R s m args below meth c D A nL Q M k n lv (pc + 1) (.null :: st)) : rG p l e R s m args below meth c D A nL Q M k n lv pc (st) := fun H locs ls hS hl => lv_null F.1 F.2.1 hd (kk H locs ls hS hl)
theorem rg_ldc (F : rF p l e R s m args below meth c cc nL own D A) {i : Nat} {v : Int32} (hw : Cond.constant own i v ∈ wsL_law) (hd : decode cc pc = .ok (.ldc i, 2)) (kk : rG p l e R s m args below meth c D A nL Q M k n lv (pc + 2) (.int v :: st)) : rG p l e R s m args below meth c D A nL Q M k n lv pc (st) := fun H locs ls hS hl => lv_ldc F.1 F.2.1 F.2.2.2.1 (F.2.2.2.2.1 _ hw) hd (kk H locs ls hS hl)
theorem rg_ldcw (F : rF p l e R s m args below meth c cc nL own D A) {i : Nat} {v : Int32} (hw : Cond.constant own i v ∈ wsL_law) (hd : decode cc pc = .ok (.ldc_w i, 3)) (kk : rG p l e R s m args below meth c D A nL Q M k n lv (pc + 3) (.int v :: st)) : rG p l e R s m args below meth c D A nL Q M k n lv pc (st) := fun H locs ls hS hl => lv_ldcw F.1 F.2.1 F.2.2.2.1 (F.2.2.2.2.1 _ hw) hd (kk H locs ls hS hl)
theorem rg_ldc2 (F : rF p l e R s m args below meth c cc nL own D A) {i : Nat} {v : Int64} (hw : Cond.constantLong own i v ∈ wsL_law) (hd : decode cc pc = .ok (.ldc2_w i, 3)) (kk : rG p l e R s m args below meth c D A nL Q M k n lv (pc + 3) (.long v :: st)) : rG p l e R s m args below meth c D A nL Q M k n lv pc (st) := fun H locs ls hS hl => lv_ldc2 F.1 F.2.1 F.2.2.2.1 (F.2.2.2.2.1 _ hw) hd (kk H locs ls hS hl)
theorem rg_iinc (F : rF p l e R s m args below meth c cc nL own D A) {i : Nat} {j : Int} {x v : Int32} (hd : decode cc pc = .ok (.iinc i j, 3)) (hx : lv[i]? = some (some (.int x))) (hv : x + Int32.ofInt j = v) (hi : i < nL) (hlv : rst1 lv i (.int v) = lv') (kk : rG p l e R s m args below meth c D A nL Q M k n lv' (pc + 3) st) : rG p l e R s m args below meth c D A nL Q M k n lv pc st := fun H locs ls hS hl => by
  obtain ⟨q, hq⟩ := List.getElem?_of_mem (lvA_mem.mpr hx)
  exact lv_iinc F.1 F.2.1 hd hl.2 hq hv hi rfl (fun ls9 h9 => kk H locs ls9 hS (hl.st1 hlv h9))
theorem rg_iadd (F : rF p l e R s m args below meth c cc nL own D A) {x y v : Int32} (hd : decode cc pc = .ok (.iadd, 1)) (hv : x + y = v) (kk : rG p l e R s m args below meth c D A nL Q M k n lv (pc + 1) (.int v :: st)) : rG p l e R s m args below meth c D A nL Q M k n lv pc (.int y :: .int x :: st) := fun H locs ls hS hl => by subst hv; exact lv_iadd F.1 F.2.1 hd (kk H locs ls hS hl)
theorem rg_isub (F : rF p l e R s m args below meth c cc nL own D A) {x y v : Int32} (hd : decode cc pc = .ok (.isub, 1)) (hv : x - y = v) (kk : rG p l e R s m args below meth c D A nL Q M k n lv (pc + 1) (.int v :: st)) : rG p l e R s m args below meth c D A nL Q M k n lv pc (.int y :: .int x :: st) := fun H locs ls hS hl => by subst hv; exact lv_isub F.1 F.2.1 hd (kk H locs ls hS hl)
theorem rg_imul (F : rF p l e R s m args below meth c cc nL own D A) {x y v : Int32} (hd : decode cc pc = .ok (.imul, 1)) (hv : x * y = v) (kk : rG p l e R s m args below meth c D A nL Q M k n lv (pc + 1) (.int v :: st)) : rG p l e R s m args below meth c D A nL Q M k n lv pc (.int y :: .int x :: st) := fun H locs ls hS hl => by subst hv; exact lv_imul F.1 F.2.1 hd (kk H locs ls hS hl)
theorem rg_iand (F : rF p l e R s m args below meth c cc nL own D A) {x y v : Int32} (hd : decode cc pc = .ok (.iand, 1)) (hv : x &&& y = v) (kk : rG p l e R s m args below meth c D A nL Q M k n lv (pc + 1) (.int v :: st)) : rG p l e R s m args below meth c D A nL Q M k n lv pc (.int y :: .int x :: st) := fun H locs ls hS hl => by subst hv; exact lv_iand F.1 F.2.1 hd (kk H locs ls hS hl)
theorem rg_ior (F : rF p l e R s m args below meth c cc nL own D A) {x y v : Int32} (hd : decode cc pc = .ok (.ior, 1)) (hv : x ||| y = v) (kk : rG p l e R s m args below meth c D A nL Q M k n lv (pc + 1) (.int v :: st)) : rG p l e R s m args below meth c D A nL Q M k n lv pc (.int y :: .int x :: st) := fun H locs ls hS hl => by subst hv; exact lv_ior F.1 F.2.1 hd (kk H locs ls hS hl)
theorem rg_ixor (F : rF p l e R s m args below meth c cc nL own D A) {x y v : Int32} (hd : decode cc pc = .ok (.ixor, 1)) (hv : x ^^^ y = v) (kk : rG p l e R s m args below meth c D A nL Q M k n lv (pc + 1) (.int v :: st)) : rG p l e R s m args below meth c D A nL Q M k n lv pc (.int y :: .int x :: st) := fun H locs ls hS hl => by subst hv; exact lv_ixor F.1 F.2.1 hd (kk H locs ls hS hl)
theorem rg_ladd (F : rF p l e R s m args below meth c cc nL own D A) {x y v : Int64} (hd : decode cc pc = .ok (.ladd, 1)) (hv : x + y = v) (kk : rG p l e R s m args below meth c D A nL Q M k n lv (pc + 1) (.long v :: st)) : rG p l e R s m args below meth c D A nL Q M k n lv pc (.long y :: .long x :: st) := fun H locs ls hS hl => by subst hv; exact lv_ladd F.1 F.2.1 hd (kk H locs ls hS hl)
theorem rg_lsub (F : rF p l e R s m args below meth c cc nL own D A) {x y v : Int64} (hd : decode cc pc = .ok (.lsub, 1)) (hv : x - y = v) (kk : rG p l e R s m args below meth c D A nL Q M k n lv (pc + 1) (.long v :: st)) : rG p l e R s m args below meth c D A nL Q M k n lv pc (.long y :: .long x :: st) := fun H locs ls hS hl => by subst hv; exact lv_lsub F.1 F.2.1 hd (kk H locs ls hS hl)
theorem rg_lmul (F : rF p l e R s m args below meth c cc nL own D A) {x y v : Int64} (hd : decode cc pc = .ok (.lmul, 1)) (hv : x * y = v) (kk : rG p l e R s m args below meth c D A nL Q M k n lv (pc + 1) (.long v :: st)) : rG p l e R s m args below meth c D A nL Q M k n lv pc (.long y :: .long x :: st) := fun H locs ls hS hl => by subst hv; exact lv_lmul F.1 F.2.1 hd (kk H locs ls hS hl)
theorem rg_land (F : rF p l e R s m args below meth c cc nL own D A) {x y v : Int64} (hd : decode cc pc = .ok (.land, 1)) (hv : x &&& y = v) (kk : rG p l e R s m args below meth c D A nL Q M k n lv (pc + 1) (.long v :: st)) : rG p l e R s m args below meth c D A nL Q M k n lv pc (.long y :: .long x :: st) := fun H locs ls hS hl => by subst hv; exact lv_land F.1 F.2.1 hd (kk H locs ls hS hl)
theorem rg_lor (F : rF p l e R s m args below meth c cc nL own D A) {x y v : Int64} (hd : decode cc pc = .ok (.lor, 1)) (hv : x ||| y = v) (kk : rG p l e R s m args below meth c D A nL Q M k n lv (pc + 1) (.long v :: st)) : rG p l e R s m args below meth c D A nL Q M k n lv pc (.long y :: .long x :: st) := fun H locs ls hS hl => by subst hv; exact lv_lor F.1 F.2.1 hd (kk H locs ls hS hl)
theorem rg_lxor (F : rF p l e R s m args below meth c cc nL own D A) {x y v : Int64} (hd : decode cc pc = .ok (.lxor, 1)) (hv : x ^^^ y = v) (kk : rG p l e R s m args below meth c D A nL Q M k n lv (pc + 1) (.long v :: st)) : rG p l e R s m args below meth c D A nL Q M k n lv pc (.long y :: .long x :: st) := fun H locs ls hS hl => by subst hv; exact lv_lxor F.1 F.2.1 hd (kk H locs ls hS hl)
theorem rg_ishl (F : rF p l e R s m args below meth c cc nL own D A) {x y v : Int32} (hd : decode cc pc = .ok (.ishl, 1)) (hv : x <<< (y &&& 31) = v) (kk : rG p l e R s m args below meth c D A nL Q M k n lv (pc + 1) (.int v :: st)) : rG p l e R s m args below meth c D A nL Q M k n lv pc (.int y :: .int x :: st) := fun H locs ls hS hl => by subst hv; exact lv_ishl F.1 F.2.1 hd (kk H locs ls hS hl)
theorem rg_ishr (F : rF p l e R s m args below meth c cc nL own D A) {x y v : Int32} (hd : decode cc pc = .ok (.ishr, 1)) (hv : x >>> (y &&& 31) = v) (kk : rG p l e R s m args below meth c D A nL Q M k n lv (pc + 1) (.int v :: st)) : rG p l e R s m args below meth c D A nL Q M k n lv pc (.int y :: .int x :: st) := fun H locs ls hS hl => by subst hv; exact lv_ishr F.1 F.2.1 hd (kk H locs ls hS hl)
theorem rg_iushr (F : rF p l e R s m args below meth c cc nL own D A) {x y v : Int32} (hd : decode cc pc = .ok (.iushr, 1)) (hv : (x.toUInt32 >>> (y.toUInt32 &&& Int32.toUInt32 31)).toInt32 = v) (kk : rG p l e R s m args below meth c D A nL Q M k n lv (pc + 1) (.int v :: st)) : rG p l e R s m args below meth c D A nL Q M k n lv pc (.int y :: .int x :: st) := fun H locs ls hS hl => lv_iushr F.1 F.2.1 hd hv (kk H locs ls hS hl)
theorem rg_idiv (F : rF p l e R s m args below meth c cc nL own D A) {x y v : Int32} (hd : decode cc pc = .ok (.idiv, 1)) (hne : ¬ y = 0) (hv : x / y = v) (kk : rG p l e R s m args below meth c D A nL Q M k n lv (pc + 1) (.int v :: st)) : rG p l e R s m args below meth c D A nL Q M k n lv pc (.int y :: .int x :: st) := fun H locs ls hS hl => by subst hv; exact lv_idiv F.1 F.2.1 hd hne (kk H locs ls hS hl)
theorem rg_irem (F : rF p l e R s m args below meth c cc nL own D A) {x y v : Int32} (hd : decode cc pc = .ok (.irem, 1)) (hne : ¬ y = 0) (hv : x - x / y * y = v) (kk : rG p l e R s m args below meth c D A nL Q M k n lv (pc + 1) (.int v :: st)) : rG p l e R s m args below meth c D A nL Q M k n lv pc (.int y :: .int x :: st) := fun H locs ls hS hl => by subst hv; exact lv_irem F.1 F.2.1 hd hne (kk H locs ls hS hl)
theorem rg_lshl (F : rF p l e R s m args below meth c cc nL own D A) {x v : Int64} {y : Int32} (hd : decode cc pc = .ok (.lshl, 1)) (hv : x <<< (y.toInt64 &&& 63) = v) (kk : rG p l e R s m args below meth c D A nL Q M k n lv (pc + 1) (.long v :: st)) : rG p l e R s m args below meth c D A nL Q M k n lv pc (.int y :: .long x :: st) := fun H locs ls hS hl => lv_lshl F.1 F.2.1 hd hv (kk H locs ls hS hl)
theorem rg_lushr (F : rF p l e R s m args below meth c cc nL own D A) {x v : Int64} {y : Int32} (hd : decode cc pc = .ok (.lushr, 1)) (hv : (x.toUInt64 >>> (y.toInt64.toUInt64 &&& Int64.toUInt64 63)).toInt64 = v) (kk : rG p l e R s m args below meth c D A nL Q M k n lv (pc + 1) (.long v :: st)) : rG p l e R s m args below meth c D A nL Q M k n lv pc (.int y :: .long x :: st) := fun H locs ls hS hl => lv_lushr F.1 F.2.1 hd hv (kk H locs ls hS hl)
theorem rg_i2l (F : rF p l e R s m args below meth c cc nL own D A) {x : Int32} {v : Int64} (hd : decode cc pc = .ok (.i2l, 1)) (hv : x.toInt64 = v) (kk : rG p l e R s m args below meth c D A nL Q M k n lv (pc + 1) (.long v :: st)) : rG p l e R s m args below meth c D A nL Q M k n lv pc (.int x :: st) := fun H locs ls hS hl => lv_i2l F.1 F.2.1 hd hv (kk H locs ls hS hl)
theorem rg_l2i (F : rF p l e R s m args below meth c cc nL own D A) {x : Int64} {v : Int32} (hd : decode cc pc = .ok (.l2i, 1)) (hv : x.toInt32 = v) (kk : rG p l e R s m args below meth c D A nL Q M k n lv (pc + 1) (.int v :: st)) : rG p l e R s m args below meth c D A nL Q M k n lv pc (.long x :: st) := fun H locs ls hS hl => lv_l2i F.1 F.2.1 hd hv (kk H locs ls hS hl)
theorem rg_lcmp (F : rF p l e R s m args below meth c cc nL own D A) {x y : Int64} {v : Int32} (hd : decode cc pc = .ok (.lcmp, 1)) (hv : lg_cmp x y = v) (kk : rG p l e R s m args below meth c D A nL Q M k n lv (pc + 1) (.int v :: st)) : rG p l e R s m args below meth c D A nL Q M k n lv pc (.long y :: .long x :: st) := fun H locs ls hS hl => by subst hv; exact W.lcmp F.1 F.2.1 hd (kk H locs ls hS hl)
theorem rg_i2d (F : rF p l e R s m args below meth c cc nL own D A) {x : Int32} (hd : decode cc pc = .ok (.i2d, 1)) (kk : rG p l e R s m args below meth c D A nL Q M k n lv (pc + 1) (.double (FP.i2d x) :: st)) : rG p l e R s m args below meth c D A nL Q M k n lv pc (.int x :: st) := fun H locs ls hS hl => lv_i2d F.1 F.2.1 hd (kk H locs ls hS hl)
theorem rg_dcmp (F : rF p l e R s m args below meth c cc nL own D A) {x y : UInt64} {op : CmpOp} (hd : decode cc pc = .ok (.dcmp op, 1)) (kk : rG p l e R s m args below meth c D A nL Q M k n lv (pc + 1) (.int (Op.cmpValue (FP.dcmp x y) op) :: st)) : rG p l e R s m args below meth c D A nL Q M k n lv pc (.double y :: .double x :: st) := fun H locs ls hS hl => lv_dcmp F.1 F.2.1 hd (kk H locs ls hS hl)
theorem rg_ddiv (F : rF p l e R s m args below meth c cc nL own D A) {x y : UInt64} (hd : decode cc pc = .ok (.ddiv, 1)) (hne : vf_n64 (FP.ddiv x y)) (kk : rG p l e R s m args below meth c D A nL Q M k n lv (pc + 1) (.double (FP.ddiv x y) :: st)) : rG p l e R s m args below meth c D A nL Q M k n lv pc (.double y :: .double x :: st) := fun H locs ls hS hl => lv_ddiv F.1 F.2.1 hd hne (kk H locs ls hS hl)
theorem rg_dconst0 (F : rF p l e R s m args below meth c cc nL own D A) (hd : decode cc pc = .ok (.dconst 0, 1)) (kk : rG p l e R s m args below meth c D A nL Q M k n lv (pc + 1) (.double 0 :: st)) : rG p l e R s m args below meth c D A nL Q M k n lv pc (st) := fun H locs ls hS hl => lv_dconst0 F.1 F.2.1 hd (kk H locs ls hS hl)
theorem rg_dup (F : rF p l e R s m args below meth c cc nL own D A) {v : Value} (hd : decode cc pc = .ok (.dup, 1)) (hv : v.category = 1) (kk : rG p l e R s m args below meth c D A nL Q M k n lv (pc + 1) (v :: v :: st)) : rG p l e R s m args below meth c D A nL Q M k n lv pc (v :: st) := fun H locs ls hS hl => lv_dup F.1 F.2.1 hd hv (kk H locs ls hS hl)
theorem rg_pop (F : rF p l e R s m args below meth c cc nL own D A) {v : Value} (hd : decode cc pc = .ok (.pop, 1)) (hv : v.category = 1) (kk : rG p l e R s m args below meth c D A nL Q M k n lv (pc + 1) (st)) : rG p l e R s m args below meth c D A nL Q M k n lv pc (v :: st) := fun H locs ls hS hl => lv_pop F.1 F.2.1 hd hv (kk H locs ls hS hl)
theorem rg_dup_x1 (F : rF p l e R s m args below meth c cc nL own D A) {v w : Value} (hd : decode cc pc = .ok (.dup_x1, 1)) (hv : v.category = 1) (hw : w.category = 1) (kk : rG p l e R s m args below meth c D A nL Q M k n lv (pc + 1) (v :: w :: v :: st)) : rG p l e R s m args below meth c D A nL Q M k n lv pc (v :: w :: st) := fun H locs ls hS hl => lv_dup_x1 F.1 F.2.1 hd hv hw (kk H locs ls hS hl)
theorem rg_goto (F : rF p l e R s m args below meth c cc nL own D A) {off : Int} {tgt : Nat} (hd : decode cc pc = .ok (.goto off, 3)) (ht : (pc : Int) + off = (tgt : Int)) (kk : rG p l e R s m args below meth c D A nL Q M k n lv tgt st) : rG p l e R s m args below meth c D A nL Q M k n lv pc st := fun H locs ls hS hl => lv_goto F.1 F.2.1 hd ht (kk H locs ls hS hl)
theorem rg_if_eq (F : rF p l e R s m args below meth c cc nL own D A) {x : Int32} {off : Int} {tgt : Nat} (hd : decode cc pc = .ok (.ifCond .eq off, 3)) (ht : (pc : Int) + off = (tgt : Int)) (kt : x = 0 → rG p l e R s m args below meth c D A nL Q M k n lv tgt st) (kf : ¬ x = 0 → rG p l e R s m args below meth c D A nL Q M k n lv (pc + 3) st) : rG p l e R s m args below meth c D A nL Q M k n lv pc (.int x :: st) := fun H locs ls hS hl => lv_if_eq F.1 F.2.1 hd ht (fun h => kt h H locs ls hS hl) (fun h => kf h H locs ls hS hl)
theorem rg_if_ne (F : rF p l e R s m args below meth c cc nL own D A) {x : Int32} {off : Int} {tgt : Nat} (hd : decode cc pc = .ok (.ifCond .ne off, 3)) (ht : (pc : Int) + off = (tgt : Int)) (kt : ¬ x = 0 → rG p l e R s m args below meth c D A nL Q M k n lv tgt st) (kf : x = 0 → rG p l e R s m args below meth c D A nL Q M k n lv (pc + 3) st) : rG p l e R s m args below meth c D A nL Q M k n lv pc (.int x :: st) := fun H locs ls hS hl => lv_if_ne F.1 F.2.1 hd ht (fun h => kt h H locs ls hS hl) (fun h => kf h H locs ls hS hl)
theorem rg_if_lt (F : rF p l e R s m args below meth c cc nL own D A) {x : Int32} {off : Int} {tgt : Nat} (hd : decode cc pc = .ok (.ifCond .lt off, 3)) (ht : (pc : Int) + off = (tgt : Int)) (kt : x < 0 → rG p l e R s m args below meth c D A nL Q M k n lv tgt st) (kf : ¬ x < 0 → rG p l e R s m args below meth c D A nL Q M k n lv (pc + 3) st) : rG p l e R s m args below meth c D A nL Q M k n lv pc (.int x :: st) := fun H locs ls hS hl => lv_if_lt F.1 F.2.1 hd ht (fun h => kt h H locs ls hS hl) (fun h => kf h H locs ls hS hl)
theorem rg_if_ge (F : rF p l e R s m args below meth c cc nL own D A) {x : Int32} {off : Int} {tgt : Nat} (hd : decode cc pc = .ok (.ifCond .ge off, 3)) (ht : (pc : Int) + off = (tgt : Int)) (kt : 0 ≤ x → rG p l e R s m args below meth c D A nL Q M k n lv tgt st) (kf : ¬ 0 ≤ x → rG p l e R s m args below meth c D A nL Q M k n lv (pc + 3) st) : rG p l e R s m args below meth c D A nL Q M k n lv pc (.int x :: st) := fun H locs ls hS hl => lv_if_ge F.1 F.2.1 hd ht (fun h => kt h H locs ls hS hl) (fun h => kf h H locs ls hS hl)
theorem rg_if_gt (F : rF p l e R s m args below meth c cc nL own D A) {x : Int32} {off : Int} {tgt : Nat} (hd : decode cc pc = .ok (.ifCond .gt off, 3)) (ht : (pc : Int) + off = (tgt : Int)) (kt : 0 < x → rG p l e R s m args below meth c D A nL Q M k n lv tgt st) (kf : ¬ 0 < x → rG p l e R s m args below meth c D A nL Q M k n lv (pc + 3) st) : rG p l e R s m args below meth c D A nL Q M k n lv pc (.int x :: st) := fun H locs ls hS hl => lv_if_gt F.1 F.2.1 hd ht (fun h => kt h H locs ls hS hl) (fun h => kf h H locs ls hS hl)
theorem rg_if_le (F : rF p l e R s m args below meth c cc nL own D A) {x : Int32} {off : Int} {tgt : Nat} (hd : decode cc pc = .ok (.ifCond .le off, 3)) (ht : (pc : Int) + off = (tgt : Int)) (kt : x ≤ 0 → rG p l e R s m args below meth c D A nL Q M k n lv tgt st) (kf : ¬ x ≤ 0 → rG p l e R s m args below meth c D A nL Q M k n lv (pc + 3) st) : rG p l e R s m args below meth c D A nL Q M k n lv pc (.int x :: st) := fun H locs ls hS hl => lv_if_le F.1 F.2.1 hd ht (fun h => kt h H locs ls hS hl) (fun h => kf h H locs ls hS hl)
theorem rg_icmp_eq (F : rF p l e R s m args below meth c cc nL own D A) {x y : Int32} {off : Int} {tgt : Nat} (hd : decode cc pc = .ok (.if_icmp .eq off, 3)) (ht : (pc : Int) + off = (tgt : Int)) (kt : x = y → rG p l e R s m args below meth c D A nL Q M k n lv tgt st) (kf : ¬ x = y → rG p l e R s m args below meth c D A nL Q M k n lv (pc + 3) st) : rG p l e R s m args below meth c D A nL Q M k n lv pc (.int y :: .int x :: st) := fun H locs ls hS hl => lv_icmp_eq F.1 F.2.1 hd ht (fun h => kt h H locs ls hS hl) (fun h => kf h H locs ls hS hl)
theorem rg_icmp_ne (F : rF p l e R s m args below meth c cc nL own D A) {x y : Int32} {off : Int} {tgt : Nat} (hd : decode cc pc = .ok (.if_icmp .ne off, 3)) (ht : (pc : Int) + off = (tgt : Int)) (kt : ¬ x = y → rG p l e R s m args below meth c D A nL Q M k n lv tgt st) (kf : x = y → rG p l e R s m args below meth c D A nL Q M k n lv (pc + 3) st) : rG p l e R s m args below meth c D A nL Q M k n lv pc (.int y :: .int x :: st) := fun H locs ls hS hl => lv_icmp_ne F.1 F.2.1 hd ht (fun h => kt h H locs ls hS hl) (fun h => kf h H locs ls hS hl)
theorem rg_icmp_lt (F : rF p l e R s m args below meth c cc nL own D A) {x y : Int32} {off : Int} {tgt : Nat} (hd : decode cc pc = .ok (.if_icmp .lt off, 3)) (ht : (pc : Int) + off = (tgt : Int)) (kt : x < y → rG p l e R s m args below meth c D A nL Q M k n lv tgt st) (kf : ¬ x < y → rG p l e R s m args below meth c D A nL Q M k n lv (pc + 3) st) : rG p l e R s m args below meth c D A nL Q M k n lv pc (.int y :: .int x :: st) := fun H locs ls hS hl => lv_icmp_lt F.1 F.2.1 hd ht (fun h => kt h H locs ls hS hl) (fun h => kf h H locs ls hS hl)
theorem rg_icmp_ge (F : rF p l e R s m args below meth c cc nL own D A) {x y : Int32} {off : Int} {tgt : Nat} (hd : decode cc pc = .ok (.if_icmp .ge off, 3)) (ht : (pc : Int) + off = (tgt : Int)) (kt : y ≤ x → rG p l e R s m args below meth c D A nL Q M k n lv tgt st) (kf : ¬ y ≤ x → rG p l e R s m args below meth c D A nL Q M k n lv (pc + 3) st) : rG p l e R s m args below meth c D A nL Q M k n lv pc (.int y :: .int x :: st) := fun H locs ls hS hl => lv_icmp_ge F.1 F.2.1 hd ht (fun h => kt h H locs ls hS hl) (fun h => kf h H locs ls hS hl)
theorem rg_icmp_gt (F : rF p l e R s m args below meth c cc nL own D A) {x y : Int32} {off : Int} {tgt : Nat} (hd : decode cc pc = .ok (.if_icmp .gt off, 3)) (ht : (pc : Int) + off = (tgt : Int)) (kt : y < x → rG p l e R s m args below meth c D A nL Q M k n lv tgt st) (kf : ¬ y < x → rG p l e R s m args below meth c D A nL Q M k n lv (pc + 3) st) : rG p l e R s m args below meth c D A nL Q M k n lv pc (.int y :: .int x :: st) := fun H locs ls hS hl => lv_icmp_gt F.1 F.2.1 hd ht (fun h => kt h H locs ls hS hl) (fun h => kf h H locs ls hS hl)
theorem rg_icmp_le (F : rF p l e R s m args below meth c cc nL own D A) {x y : Int32} {off : Int} {tgt : Nat} (hd : decode cc pc = .ok (.if_icmp .le off, 3)) (ht : (pc : Int) + off = (tgt : Int)) (kt : x ≤ y → rG p l e R s m args below meth c D A nL Q M k n lv tgt st) (kf : ¬ x ≤ y → rG p l e R s m args below meth c D A nL Q M k n lv (pc + 3) st) : rG p l e R s m args below meth c D A nL Q M k n lv pc (.int y :: .int x :: st) := fun H locs ls hS hl => lv_icmp_le F.1 F.2.1 hd ht (fun h => kt h H locs ls hS hl) (fun h => kf h H locs ls hS hl)
theorem rg_ncmp_eq (F : rF p l e R s m args below meth c cc nL own D A) {a b : Nat} {off : Int} {tgt : Nat} (hd : decode cc pc = .ok (.if_icmp .eq off, 3)) (ht : (pc : Int) + off = (tgt : Int)) (ha : a < 2 ^ 31) (hb : b < 2 ^ 31) (kt : a = b → rG p l e R s m args below meth c D A nL Q M k n lv tgt st) (kf : ¬ a = b → rG p l e R s m args below meth c D A nL Q M k n lv (pc + 3) st) : rG p l e R s m args below meth c D A nL Q M k n lv pc (.int (nI b) :: .int (nI a) :: st) := rg_icmp_eq F hd ht (fun h => kt ((nI_eq ha hb).mp h)) (fun h => kf (fun z => h ((nI_eq ha hb).mpr z)))
theorem rg_ncmp_ne (F : rF p l e R s m args below meth c cc nL own D A) {a b : Nat} {off : Int} {tgt : Nat} (hd : decode cc pc = .ok (.if_icmp .ne off, 3)) (ht : (pc : Int) + off = (tgt : Int)) (ha : a < 2 ^ 31) (hb : b < 2 ^ 31) (kt : ¬ a = b → rG p l e R s m args below meth c D A nL Q M k n lv tgt st) (kf : a = b → rG p l e R s m args below meth c D A nL Q M k n lv (pc + 3) st) : rG p l e R s m args below meth c D A nL Q M k n lv pc (.int (nI b) :: .int (nI a) :: st) := rg_icmp_ne F hd ht (fun h => kt (fun z => h ((nI_eq ha hb).mpr z))) (fun h => kf ((nI_eq ha hb).mp h))
theorem rg_ncmp_lt (F : rF p l e R s m args below meth c cc nL own D A) {a b : Nat} {off : Int} {tgt : Nat} (hd : decode cc pc = .ok (.if_icmp .lt off, 3)) (ht : (pc : Int) + off = (tgt : Int)) (ha : a < 2 ^ 31) (hb : b < 2 ^ 31) (kt : a < b → rG p l e R s m args below meth c D A nL Q M k n lv tgt st) (kf : b ≤ a → rG p l e R s m args below meth c D A nL Q M k n lv (pc + 3) st) : rG p l e R s m args below meth c D A nL Q M k n lv pc (.int (nI b) :: .int (nI a) :: st) := rg_icmp_lt F hd ht (fun h => kt ((nI_ltI ha hb).mp h)) (fun h => kf (Nat.not_lt.mp (fun z => h ((nI_ltI ha hb).mpr z))))
theorem rg_ncmp_ge (F : rF p l e R s m args below meth c cc nL own D A) {a b : Nat} {off : Int} {tgt : Nat} (hd : decode cc pc = .ok (.if_icmp .ge off, 3)) (ht : (pc : Int) + off = (tgt : Int)) (ha : a < 2 ^ 31) (hb : b < 2 ^ 31) (kt : b ≤ a → rG p l e R s m args below meth c D A nL Q M k n lv tgt st) (kf : a < b → rG p l e R s m args below meth c D A nL Q M k n lv (pc + 3) st) : rG p l e R s m args below meth c D A nL Q M k n lv pc (.int (nI b) :: .int (nI a) :: st) := rg_icmp_ge F hd ht (fun h => kt ((nI_leI hb ha).mp h)) (fun h => kf (Nat.not_le.mp (fun z => h ((nI_leI hb ha).mpr z))))
theorem rg_ncmp_gt (F : rF p l e R s m args below meth c cc nL own D A) {a b : Nat} {off : Int} {tgt : Nat} (hd : decode cc pc = .ok (.if_icmp .gt off, 3)) (ht : (pc : Int) + off = (tgt : Int)) (ha : a < 2 ^ 31) (hb : b < 2 ^ 31) (kt : b < a → rG p l e R s m args below meth c D A nL Q M k n lv tgt st) (kf : a ≤ b → rG p l e R s m args below meth c D A nL Q M k n lv (pc + 3) st) : rG p l e R s m args below meth c D A nL Q M k n lv pc (.int (nI b) :: .int (nI a) :: st) := rg_icmp_gt F hd ht (fun h => kt ((nI_ltI hb ha).mp h)) (fun h => kf (Nat.not_lt.mp (fun z => h ((nI_ltI hb ha).mpr z))))
theorem rg_ncmp_le (F : rF p l e R s m args below meth c cc nL own D A) {a b : Nat} {off : Int} {tgt : Nat} (hd : decode cc pc = .ok (.if_icmp .le off, 3)) (ht : (pc : Int) + off = (tgt : Int)) (ha : a < 2 ^ 31) (hb : b < 2 ^ 31) (kt : a ≤ b → rG p l e R s m args below meth c D A nL Q M k n lv tgt st) (kf : b < a → rG p l e R s m args below meth c D A nL Q M k n lv (pc + 3) st) : rG p l e R s m args below meth c D A nL Q M k n lv pc (.int (nI b) :: .int (nI a) :: st) := rg_icmp_le F hd ht (fun h => kt ((nI_leI ha hb).mp h)) (fun h => kf (Nat.not_le.mp (fun z => h ((nI_leI ha hb).mpr z))))
theorem rg_nif_eq (F : rF p l e R s m args below meth c cc nL own D A) {a : Nat} {off : Int} {tgt : Nat} (hd : decode cc pc = .ok (.ifCond .eq off, 3)) (ht : (pc : Int) + off = (tgt : Int)) (ha : a < 2 ^ 31) (kt : a = 0 → rG p l e R s m args below meth c D A nL Q M k n lv tgt st) (kf : ¬ a = 0 → rG p l e R s m args below meth c D A nL Q M k n lv (pc + 3) st) : rG p l e R s m args below meth c D A nL Q M k n lv pc (.int (nI a) :: st) := rg_if_eq F hd ht (fun h => kt ((nI_eq ha (by decide)).mp h)) (fun h => kf (fun z => h (by rw [z]; rfl)))
theorem rg_nif_ne (F : rF p l e R s m args below meth c cc nL own D A) {a : Nat} {off : Int} {tgt : Nat} (hd : decode cc pc = .ok (.ifCond .ne off, 3)) (ht : (pc : Int) + off = (tgt : Int)) (ha : a < 2 ^ 31) (kt : ¬ a = 0 → rG p l e R s m args below meth c D A nL Q M k n lv tgt st) (kf : a = 0 → rG p l e R s m args below meth c D A nL Q M k n lv (pc + 3) st) : rG p l e R s m args below meth c D A nL Q M k n lv pc (.int (nI a) :: st) := rg_if_ne F hd ht (fun h => kt (fun z => h (by rw [z]; rfl))) (fun h => kf ((nI_eq ha (by decide)).mp h))
theorem rg_nif_gt (F : rF p l e R s m args below meth c cc nL own D A) {a : Nat} {off : Int} {tgt : Nat} (hd : decode cc pc = .ok (.ifCond .gt off, 3)) (ht : (pc : Int) + off = (tgt : Int)) (ha : a < 2 ^ 31) (kt : 0 < a → rG p l e R s m args below meth c D A nL Q M k n lv tgt st) (kf : a = 0 → rG p l e R s m args below meth c D A nL Q M k n lv (pc + 3) st) : rG p l e R s m args below meth c D A nL Q M k n lv pc (.int (nI a) :: st) := rg_if_gt F hd ht (fun h => kt ((nI_ltI (a := 0) (by decide) ha).mp h)) (fun h => kf (Nat.eq_zero_of_not_pos (fun z : 0 < a => h ((nI_ltI (a := 0) (by decide) ha).mpr z))))
theorem rg_nif_le (F : rF p l e R s m args below meth c cc nL own D A) {a : Nat} {off : Int} {tgt : Nat} (hd : decode cc pc = .ok (.ifCond .le off, 3)) (ht : (pc : Int) + off = (tgt : Int)) (ha : a < 2 ^ 31) (kt : a = 0 → rG p l e R s m args below meth c D A nL Q M k n lv tgt st) (kf : 0 < a → rG p l e R s m args below meth c D A nL Q M k n lv (pc + 3) st) : rG p l e R s m args below meth c D A nL Q M k n lv pc (.int (nI a) :: st) := rg_if_le F hd ht (fun h => kt (Nat.le_zero.mp ((nI_leI (b := 0) ha (by decide)).mp h))) (fun h => kf (Nat.pos_of_ne_zero (fun z => h ((nI_leI (b := 0) ha (by decide)).mpr (Nat.le_of_eq z)))))
theorem rg_bif_eq (F : rF p l e R s m args below meth c cc nL own D A) {b : Bool} {off : Int} {tgt : Nat} (hd : decode cc pc = .ok (.ifCond .eq off, 3)) (ht : (pc : Int) + off = (tgt : Int)) (kt : b = false → rG p l e R s m args below meth c D A nL Q M k n lv tgt st) (kf : b = true → rG p l e R s m args below meth c D A nL Q M k n lv (pc + 3) st) : rG p l e R s m args below meth c D A nL Q M k n lv pc (.int (nI b.toNat) :: st) := rg_nif_eq F hd ht (by cases b <;> decide) (fun h => kt (by cases b <;> simp_all)) (fun h => kf (by cases b <;> simp_all))
theorem rg_bif_ne (F : rF p l e R s m args below meth c cc nL own D A) {b : Bool} {off : Int} {tgt : Nat} (hd : decode cc pc = .ok (.ifCond .ne off, 3)) (ht : (pc : Int) + off = (tgt : Int)) (kt : b = true → rG p l e R s m args below meth c D A nL Q M k n lv tgt st) (kf : b = false → rG p l e R s m args below meth c D A nL Q M k n lv (pc + 3) st) : rG p l e R s m args below meth c D A nL Q M k n lv pc (.int (nI b.toNat) :: st) := rg_nif_ne F hd ht (by cases b <;> decide) (fun h => kt (by cases b <;> simp_all)) (fun h => kf (by cases b <;> simp_all))
theorem rg_ifnull (F : rF p l e R s m args below meth c cc nL own D A) {x : Nat} {off : Int} (hd : decode cc pc = .ok (.ifnull off, 3)) (kk : rG p l e R s m args below meth c D A nL Q M k n lv (pc + 3) st) : rG p l e R s m args below meth c D A nL Q M k n lv pc (.ref x :: st) := fun H locs ls hS hl => lv_ifnull F.1 F.2.1 hd (kk H locs ls hS hl)
theorem rg_ifnullN (F : rF p l e R s m args below meth c cc nL own D A) {off : Int} {tgt : Nat} (hd : decode cc pc = .ok (.ifnull off, 3)) (ht : (pc : Int) + off = (tgt : Int)) (kk : rG p l e R s m args below meth c D A nL Q M k n lv tgt st) : rG p l e R s m args below meth c D A nL Q M k n lv pc (.null :: st) := fun H locs ls hS hl => lv_ifnullN F.1 F.2.1 hd ht (kk H locs ls hS hl)
theorem rg_ifnonnull (F : rF p l e R s m args below meth c cc nL own D A) {x : Nat} {off : Int} {tgt : Nat} (hd : decode cc pc = .ok (.ifnonnull off, 3)) (ht : (pc : Int) + off = (tgt : Int)) (kk : rG p l e R s m args below meth c D A nL Q M k n lv tgt st) : rG p l e R s m args below meth c D A nL Q M k n lv pc (.ref x :: st) := fun H locs ls hS hl => lv_ifnonnull F.1 F.2.1 hd ht (kk H locs ls hS hl)
theorem rg_ifnonnullN (F : rF p l e R s m args below meth c cc nL own D A) {off : Int} (hd : decode cc pc = .ok (.ifnonnull off, 3)) (kk : rG p l e R s m args below meth c D A nL Q M k n lv (pc + 3) st) : rG p l e R s m args below meth c D A nL Q M k n lv pc (.null :: st) := fun H locs ls hS hl => lv_ifnonnullN F.1 F.2.1 hd (kk H locs ls hS hl)
theorem rg_tab (F : rF p l e R s m args below meth c cc nL own D A) {dflt lo hi : Int} {offs : Array Int} {len : Nat} {x : Int32} {off : Int} {tgt : Nat} (hd : decode cc pc = .ok (.tableswitch dflt lo hi offs, len)) (h1 : ¬ x.toInt < lo) (h2 : ¬ hi < x.toInt) (ho : offs[(x.toInt - lo).toNat]? = some off) (ht : (pc : Int) + off = (tgt : Int)) (kk : rG p l e R s m args below meth c D A nL Q M k n lv tgt st) : rG p l e R s m args below meth c D A nL Q M k n lv pc (.int x :: st) := fun H locs ls hS hl => lv_tableIn F.1 F.2.1 hd h1 h2 ho ht (kk H locs ls hS hl)
theorem rg_tabO (F : rF p l e R s m args below meth c cc nL own D A) {dflt lo hi : Int} {offs : Array Int} {len : Nat} {x : Int32} {tgt : Nat} (hd : decode cc pc = .ok (.tableswitch dflt lo hi offs, len)) (h : x.toInt < lo ∨ hi < x.toInt) (ht : (pc : Int) + dflt = (tgt : Int)) (kk : rG p l e R s m args below meth c D A nL Q M k n lv tgt st) : rG p l e R s m args below meth c D A nL Q M k n lv pc (.int x :: st) := fun H locs ls hS hl => lv_tableOut F.1 F.2.1 hd h ht (kk H locs ls hS hl)
theorem rg_top {v v2 : Value} (hv : v = v2) (kk : rG p l e R s m args below meth c D A nL Q M k n lv pc (v2 :: st)) : rG p l e R s m args below meth c D A nL Q M k n lv pc (v :: st) := hv ▸ kk
theorem rg_widen {k2 n2 : Nat} (h1 : k ≤ k2) (h2 : n ≤ n2) (kk : rG p l e R s m args below meth c D A nL Q M k2 n2 lv pc st) : rG p l e R s m args below meth c D A nL Q M k n lv pc st := fun H locs ls hS hl => W.widen h1 h2 (kk H locs ls hS hl)
theorem rg_sub (h : rsub lv' lv) (kk : rG p l e R s m args below meth c D A nL Q M k n lv' pc st) : rG p l e R s m args below meth c D A nL Q M k n lv pc st := fun H locs ls hS hl => kk H locs ls hS (hl.sub (rsub_get _ _ h).1 (rsub_get _ _ h).2)
theorem rg_mem {M2 : rMem} (h : M = M2) (kk : rG p l e R s m args below meth c D A nL Q M2 k n lv pc st) : rG p l e R s m args below meth c D A nL Q M k n lv pc st := h ▸ kk
theorem rS.sub {M2 : rMem} {H : Heap} {locs : List Loc} (h : rS D A s M H locs) (hs : ∀ a e, M2 a = some e → M a = some e) : rS D A s M2 H locs := ⟨fun a e he => h.1 a e (hs a e he), fun a e he => h.2.1 a e (hs a e he), h.2.2⟩
theorem rg_memsub {M2 : rMem} (h : ∀ a e, M2 a = some e → M a = some e) (kk : rG p l e R s m args below meth c D A nL Q M2 k n lv pc st) : rG p l e R s m args below meth c D A nL Q M k n lv pc st := fun H locs ls hS hl => kk H locs ls (hS.sub h) hl
theorem rg_eq {lv2 : List (Option Value)} {st2 : List Value} {pc2 : Nat} (h1 : lv = lv2) (h2 : st = st2) (h3 : pc = pc2) (kk : rG p l e R s m args below meth c D A nL Q M k n lv2 pc2 st2) : rG p l e R s m args below meth c D A nL Q M k n lv pc st := by subst h1 h2 h3; exact kk
theorem rg_get (F : rF p l e R s m args below meth c cc nL own D A) {ref C : String} {T : u_T} {N ci i a : Nat} {fs : List Value} {v : Value} (hc : vwCl[ci]? = some (C, T, N)) (hin : ∀ w ∈ u_ws C T N, w ∈ wsL_law) (hm : M a = some (.inr (ci, fs))) (j : Nat) (hj : j < N) (hw : Cond.fieldLink own i ref (T j).2.1 (T j).2.2.1 ∈ wsL_law) (hsame : ∀ x, s.fieldFound? (T j).1 (T j).2.1 (T j).2.2.1 = some x → s.fieldFound? ref (T j).2.1 (T j).2.2.1 = some x) (hv : fs[j]? = some v) (hd : decode cc pc = .ok (.getfield i, 3)) (kk : rG p l e R s m args below meth c D A nL Q M k n lv (pc + 3) (v :: st)) : rG p l e R s m args below meth c D A nL Q M k n lv pc (.ref a :: st) := fun H locs ls hS hl =>
  va_get (D := D) (ws := [(a, .inr (ci, fs))]) F.1 F.2.1 F.2.2.2.2.1 hin F.2.2.2.1 F.2.2.2.2.2.1 (fun q x hx => by cases q with | zero => cases hx; exact hS.1 a _ hm | succ q => simp at hx) 0 rfl hc j hj (F.2.2.2.2.1 _ hw) hsame hv hd (kk H locs ls hS hl)
theorem rg_put (F : rF p l e R s m args below meth c cc nL own D A) {ref C : String} {T : u_T} {N ci i a : Nat} {fs : List Value} {v : Value} {ty : FieldType} (hc : vwCl[ci]? = some (C, T, N)) (hin : ∀ w ∈ u_ws C T N, w ∈ wsL_law) (ty0 : Nat → FieldType) (hty : ∀ j, j < N → parseFieldDescriptor (T j).2.2.1 = some (ty0 j)) (hnm : ∀ a, a < N → ∀ b, b < N → a ≠ b → (T a).2.1 ≠ (T b).2.1) (hm : M a = some (.inr (ci, fs))) (j : Nat) (hj : j < N) (hw : Cond.fieldLink own i ref (T j).2.1 (T j).2.2.1 ∈ wsL_law) (hsame : ∀ x, s.fieldFound? (T j).1 (T j).2.1 (T j).2.2.1 = some x → s.fieldFound? ref (T j).2.1 (T j).2.2.1 = some x) (hfin : (T j).2.2.2 = false) (hty1 : parseFieldDescriptor (T j).2.2.1 = some ty) (hn : narrow ty v = v) (hfit : fits ty v = true) (hlen : j < fs.length) (hd : decode cc pc = .ok (.putfield i, 3)) (kk : rG p l e R s m args below meth c D A nL Q (mset M a (.inr (ci, fs.set j v))) k n lv (pc + 3) st) : rG p l e R s m args below meth c D A nL Q M k n lv pc (v :: .ref a :: st) := by
  intro H locs ls hS hl
  have hK := F.2.2.2.2.2.1
  have hts := F.2.2.2.2.1
  have hin9 : ∀ w ∈ u_ws C T N, w.before args s = true := fun w h => hts w (hin w h)
  have hap := va_apart (own := own) hin9 (fun w h => h) ty0 hty hnm hK hc
  obtain ⟨r, h1, cell, q1, q2, q3, q4⟩ := hS.1 a _ hm
  have hr : r = (C, T, N) := Option.some.inj (h1.symm.trans hc)
  subst hr
  obtain ⟨hSl, hfc, kC, hkC, hkind⟩ := hK.1 ci _ hc
  obtain ⟨cf, kf, fi, f, hi, hsl⟩ := hSl j hj
  have hlay := hin9 _ (u_in_lay hj)
  unfold u_lay at hlay
  rw [if_neg (by rw [hfin]; decide)] at hlay
  have hst := (u_facts hfc hkC (u_lays hin9 (fun w h => h) hj) hi).1
  have h6 := u_store hfc hkC hkind hlay hi hty1 hn hfit
  refine W.putK F.1 F.2.1 (f := f) ⟨F.2.2.2.1, hts _ hw, ⟨_, _, _, hsame _ hi⟩, hst⟩ (by rw [q2]; exact h6) q1 q3 (by rw [hsl]; exact k2_hasslot (q4 j hj)) rfl rfl hd fun H' e1 e2 e3 => ?_
  rw [hsl] at e1
  refine kk H' _ ls ⟨?_, ?_, hS.2.2.put e2 e3 (hS.2.1 a _ hm)⟩ hl
  · intro b x hb
    by_cases hba : b = a
    · subst hba
      rw [mset_eq] at hb
      cases hb
      exact ⟨_, hc, t_OB.to (V := updV (vp_V fs) j v) ⟨_, e1, q2, q3, t_set q4 hap hj v⟩ (fun j _ => vp_updV_set hlen v j)⟩
    · rw [mset_ne hba] at hb
      exact (hS.1 b x hb).kept (e3 b hba)
  · intro b x hb
    by_cases hba : b = a
    · subst hba; exact hS.2.1 b _ hm
    · rw [mset_ne hba] at hb
      exact hS.2.1 b x hb
theorem rg_putF (F : rF p l e R s m args below meth c cc nL own D A) {ref C : String} {T : u_T} {N ci i a : Nat} {fs : List Value} {v : Value} {ty : FieldType} (hc : vwCl[ci]? = some (C, T, N)) (hin : ∀ w ∈ u_ws C T N, w ∈ wsL_law) (ty0 : Nat → FieldType) (hty : ∀ j, j < N → parseFieldDescriptor (T j).2.2.1 = some (ty0 j)) (hnm : ∀ a, a < N → ∀ b, b < N → a ≠ b → (T a).2.1 ≠ (T b).2.1) (hm : M a = some (.inr (ci, fs))) (j : Nat) (hj : j < N) (hw : Cond.fieldLink own i ref (T j).2.1 (T j).2.2.1 ∈ wsL_law) (hsame : ∀ x, s.fieldFound? (T j).1 (T j).2.1 (T j).2.2.1 = some x → s.fieldFound? ref (T j).2.1 (T j).2.2.1 = some x) (hfin : (T j).2.2.2 = true) (hin2 : meth.name = "<init>") (hdecl : (T j).1 = own) (hty1 : parseFieldDescriptor (T j).2.2.1 = some ty) (hn : narrow ty v = v) (hfit : fits ty v = true) (hlen : j < fs.length) (hd : decode cc pc = .ok (.putfield i, 3)) (kk : rG p l e R s m args below meth c D A nL Q (mset M a (.inr (ci, fs.set j v))) k n lv (pc + 3) st) : rG p l e R s m args below meth c D A nL Q M k n lv pc (v :: .ref a :: st) := by
  intro H locs ls hS hl
  have hK := F.2.2.2.2.2.1
  have hts := F.2.2.2.2.1
  have hin9 : ∀ w ∈ u_ws C T N, w.before args s = true := fun w h => hts w (hin w h)
  have hap := va_apart (own := own) hin9 (fun w h => h) ty0 hty hnm hK hc
  obtain ⟨r, h1, cell, q1, q2, q3, q4⟩ := hS.1 a _ hm
  have hr : r = (C, T, N) := Option.some.inj (h1.symm.trans hc)
  subst hr
  obtain ⟨hSl, hfc, kC, hkC, hkind⟩ := hK.1 ci _ hc
  obtain ⟨cf, kf, fi, f, hi, hsl⟩ := hSl j hj
  have hlay := hin9 _ (u_in_lay hj)
  unfold u_lay at hlay
  rw [if_pos hfin] at hlay
  have hst := (u_facts hfc hkC (u_lays hin9 (fun w h => h) hj) hi).1
  have hcf : m.cls = cf := by
    obtain ⟨_, _, c', _, _, _, -, -, hf', -, -, -, hown2, -⟩ := Cond.laysFinal_spec hlay
    have e1 : c' = cf := by have := hi.symm.trans hf'; simp at this; exact this.1.symm
    rw [hdecl] at hown2
    rw [← e1]; exact Option.some.inj (F.2.2.2.1.symm.trans hown2)
  have h6 := u_fits hfc hkC hkind (Or.inr hlay) hi hty1 hn hfit
  refine W.putFinK F.1 F.2.1 F.2.2.2.1 (hts _ hw) (hsame _ hi) hst hcf hin2 (by rw [q2]; exact h6) q1 q3 (by rw [hsl]; exact k2_hasslot (q4 j hj)) rfl rfl hd fun H' e1 e2 e3 => ?_
  rw [hsl] at e1
  refine kk H' _ ls ⟨?_, ?_, hS.2.2.put e2 e3 (hS.2.1 a _ hm)⟩ hl
  · intro b x hb
    by_cases hba : b = a
    · subst hba
      rw [mset_eq] at hb
      cases hb
      exact ⟨_, hc, t_OB.to (V := updV (vp_V fs) j v) ⟨_, e1, q2, q3, t_set q4 hap hj v⟩ (fun j _ => vp_updV_set hlen v j)⟩
    · rw [mset_ne hba] at hb
      exact (hS.1 b x hb).kept (e3 b hba)
  · intro b x hb
    by_cases hba : b = a
    · subst hba; exact hS.2.1 b _ hm
    · rw [mset_ne hba] at hb
      exact hS.2.1 b x hb
end RG
