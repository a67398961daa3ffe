/-! two memories apart, and calls on one of them -/
def mjoin (M N : rMem) : rMem := fun a => match M a with
  | some e => some e
  | none => N a
theorem mj_l {M N : rMem} {a : Nat} {e : va_E} (h : M a = some e) : mjoin M N a = some e := by unfold mjoin; rw [h]
theorem mj_r {M N : rMem} {a : Nat} (h : M a = none) : mjoin M N a = N a := by unfold mjoin; rw [h]
def mdis (M N : rMem) : Prop := ∀ a, M a = none ∨ N a = none
theorem mdis.sym {M N : rMem} (h : mdis M N) : mdis N M := fun a => (h a).symm
theorem mdis.l {M N : rMem} (h : mdis M N) {a : Nat} {e : va_E} (hn : N a = some e) : M a = none := (h a).resolve_right (fun z => by rw [hn] at z; cases z)
theorem mdis.r {M N : rMem} (h : mdis M N) {a : Nat} {e : va_E} (hm : M a = some e) : N a = none := (h a).resolve_left (fun z => by rw [hm] at z; cases z)
theorem mj_in {M N : rMem} (h : mdis M N) {a : Nat} {e : va_E} (hn : N a = some e) : mjoin M N a = some e := (mj_r (h.l hn)).trans hn
theorem mj_comm {M N : rMem} (h : mdis M N) : mjoin M N = mjoin N M := by
  funext a
  cases h1 : M a with
  | some e => rw [mj_l h1, mj_r (h.r h1), h1]
  | none =>
    rw [mj_r h1]
    cases h2 : N a with
    | some e => rw [mj_l h2]
    | none => rw [mj_r h2, h1]
def mone (o : Nat) (e : va_E) : rMem := fun a => if a = o then some e else none
theorem mone_eq {o : Nat} {e : va_E} : mone o e o = some e := if_pos rfl
theorem mone_ne {o a : Nat} {e : va_E} (h : a ≠ o) : mone o e a = none := if_neg h
theorem mone_dis {M : rMem} {o : Nat} {e : va_E} (h : M o = none) : mdis M (mone o e) := fun a => by
  by_cases c : a = o
  · exact Or.inl (by rw [c]; exact h)
  · exact Or.inr (mone_ne c)
theorem dis_mone {M : rMem} {o : Nat} {e : va_E} (h : mdis M (mone o e)) : M o = none := h.l mone_eq
theorem mj_set {M : rMem} {o : Nat} {e e2 : va_E} (ho : M o = none) : mset (mjoin M (mone o e)) o e2 = mjoin M (mone o e2) := by
  funext a
  unfold mset
  by_cases c : a = o
  · subst c
    rw [if_pos rfl, mj_r ho, mone_eq]
  · rw [if_neg c]
    cases h : M a with
    | some x => rw [mj_l h, mj_l h]
    | none => rw [mj_r h, mj_r h, mone_ne c, mone_ne c]
theorem mj_new {M : rMem} {o : Nat} {e : va_E} (ho : M o = none) : mset M o e = mjoin M (mone o e) := by
  funext a
  unfold mset
  by_cases c : a = o
  · subst c
    rw [if_pos rfl, mj_r ho, mone_eq]
  · rw [if_neg c]
    cases h : M a with
    | some x => rw [mj_l h]
    | none => rw [mj_r h, mone_ne c]
theorem mj_assoc {A B C : rMem} : mjoin (mjoin A B) C = mjoin A (mjoin B C) := by
  funext a
  cases h : A a with
  | some x => rw [mj_l h, mj_l (mj_l h)]
  | none =>
    rw [mj_r h]
    cases h2 : B a with
    | some x => rw [mj_l h2, mj_l ((mj_r h).trans h2)]
    | none => rw [mj_r h2, mj_r ((mj_r h).trans h2)]
theorem mj_none {A B : rMem} {a : Nat} (h : mjoin A B a = none) : A a = none ∧ B a = none := by
  cases h1 : A a with
  | some x => rw [mj_l h1] at h; cases h
  | none => exact ⟨rfl, (mj_r h1).symm.trans h⟩
theorem mdis_j {A B C : rMem} : mdis (mjoin A B) C ↔ mdis A C ∧ mdis B C := by
  constructor
  · intro h
    exact ⟨fun a => (h a).imp_left (fun z => (mj_none z).1), fun a => (h a).imp_left (fun z => (mj_none z).2)⟩
  · intro h a
    rcases h.1 a with h1 | h1
    · rcases h.2 a with h2 | h2
      · exact Or.inl ((mj_r h1).trans h2)
      · exact Or.inr h2
    · exact Or.inr h1
section RFR
variable {p : Program} {l : Launch} {e : Env} {R : Room} {s : State} {m : MethodId} {args : Array Value} {below : List Frame} {meth : Method} {c : Code} {cc : ByteArray} {nL : Nat} {own : String} {D : va_G} {A : Nat → Prop} {Q : State → Prop} {M N : rMem} {k n pc : Nat} {lv lv' : List (Option Value)} {st : List Value} {mc ms : Nat} {E : String}
theorem rS.jl {H : Heap} {locs : List Loc} (h : rS D A s (mjoin M N) H locs) : rS D A s M H locs := h.sub (fun a e he => mj_l he)
theorem rC_postF (F : rF p l e R s m args below meth c cc nL own D A) {H H1 : Heap} {locs locs1 : List Loc} {M1 : rMem} {t : State} (hd : mdis M N) (hS : rS D A s (mjoin M N) H locs) (hB : cB D (fr M H.size) M1 t) (ht : t.heap = H1) (hk : ∀ q : Nat, q < H.size → ¬ fr M H.size q → H1[q]? = H[q]?) (hS1 : va_S A s.heap H1 locs1) : mdis M1 N ∧ rS D A s (mjoin M1 N) H1 locs1 := by
  have hN : ∀ a x, N a = some x → mjoin M N a = some x ∧ a < H.size ∧ ¬ fr M H.size a := fun a x h => by
    have hin := mj_in hd h
    have hlt : a < H.size := (hS.1 a x hin).lt
    refine ⟨hin, hlt, fun z => ?_⟩
    rcases z with ⟨y, hy⟩ | hy
    · rw [hd.l h] at hy; cases hy
    · exact absurd hlt (Nat.not_lt.mpr hy)
  have hdis : mdis M1 N := fun a => by
    cases h1 : M1 a with
    | none => exact Or.inl rfl
    | some x =>
      refine Or.inr ?_
      cases h2 : N a with
      | none => rfl
      | some y => exact absurd (hB.2 a x h1) (hN a y h2).2.2
  refine ⟨hdis, fun a x h => ?_, fun a x h => ?_, hS1⟩
  · cases h1 : M1 a with
    | some y => rw [mj_l h1] at h; rw [← ht]; exact hB.1 a x (h1.trans h)
    | none =>
      rw [mj_r h1] at h
      obtain ⟨g1, g2, g3⟩ := hN a x h
      exact (hS.1 a x g1).kept (hk a g2 g3)
  · cases h1 : M1 a with
    | some y => exact rC_fr F hS.jl a (hB.2 a y h1)
    | none =>
      rw [mj_r h1] at h
      exact hS.2.1 a x (hN a x h).1

theorem rg_fVi (F : rF p l e R s m args below meth c cc nL own D A) {y : MethodName} {cc2 : ByteArray} {maxL lev mc2 ms2 i np : Nat} {ret : Option FieldType} {post : Int32 → rMem → Prop} {b ci N9 : Nat} {T : u_T} {fs : List Value} {As rest : List Value} (hM : CMi l D y cc2 maxL ret lev mc2 ms2 M (.ref b :: As) post) (hw : Cond.methodLink own i y ∈ wsL_law) (hq : rVq y cc2 maxL ret np) (hrc : vwCl[ci]? = some (y.cls, T, N9)) (hrm : M b = some (.inr (ci, fs))) (hn : As.length = np) (hst : st = As.reverse ++ .ref b :: rest) (hcat : (rest.map fun v => v.category).sum ≤ 8) (hlev : lev + 1 ≤ R.frames) (hloc : 8 + (maxL + 11) + 32 * lev ≤ R.locals) (hcs : k + mc2 ≤ R.cells ∧ n + ms2 ≤ R.slots) (hdis : mdis M N) (hd : decode cc pc = .ok (.invokevirtual i, 3)) (kk : ∀ (r : Int32) (M1 : rMem), post r M1 → mdis M1 N → rG p l e R s m args below meth c D A nL Q (mjoin M1 N) (k + mc2) (n + ms2) lv (pc + 3) (.int r :: rest)) : rG p l e R s m args below meth c D A nL Q (mjoin M N) k n lv pc st := by
  subst hst
  intro H locs ls hS0 hl
  have hS := hS0.jl
  exact va_calli (va_runV (As := As) (rest := rest) ⟨F.1, F.2.1, F.2.2.1, F.2.2.2.1, F.2.2.2.2.1⟩ (hM H.size) (cwV (own := own) np F.2.2.2.2.1 (rGV hw np hq) rfl rfl rfl ⟨rfl, hq.2.2.2.2⟩ ⟨hlev, by show 8 + (maxL + 11) + 32 * lev ≤ R.locals; exact hloc⟩) ⟨cPre_blind, va_recv F.2.2.2.2.2.1 (rG_arr1 (hS.1 b _ hrm)) (q0 := 0) hrc rfl, rC_pre F hS _⟩ rfl hn hl.2.1 rfl (lv_room hcat) hd hcs) hS.2.2 (fun q _ h => rC_fr F hS q h) (fun q h => rC_fr F hS q h) (fun r u t H1 locs1 ht hvm hp hB hz hk hS1 => kk r u hp (rC_postF F hdis hS0 hB ht hk hS1).1 H1 locs1 ls (rC_postF F hdis hS0 hB ht hk hS1).2 hl)

theorem rg_fVl (F : rF p l e R s m args below meth c cc nL own D A) {y : MethodName} {cc2 : ByteArray} {maxL lev mc2 ms2 i np : Nat} {ret : Option FieldType} {post : Int64 → rMem → Prop} {b ci N9 : Nat} {T : u_T} {fs : List Value} {As rest : List Value} (hM : CMl l D y cc2 maxL ret lev mc2 ms2 M (.ref b :: As) post) (hw : Cond.methodLink own i y ∈ wsL_law) (hq : rVq y cc2 maxL ret np) (hrc : vwCl[ci]? = some (y.cls, T, N9)) (hrm : M b = some (.inr (ci, fs))) (hn : As.length = np) (hst : st = As.reverse ++ .ref b :: rest) (hcat : (rest.map fun v => v.category).sum ≤ 8) (hlev : lev + 1 ≤ R.frames) (hloc : 8 + (maxL + 11) + 32 * lev ≤ R.locals) (hcs : k + mc2 ≤ R.cells ∧ n + ms2 ≤ R.slots) (hdis : mdis M N) (hd : decode cc pc = .ok (.invokevirtual i, 3)) (kk : ∀ (r : Int64) (M1 : rMem), post r M1 → mdis M1 N → rG p l e R s m args below meth c D A nL Q (mjoin M1 N) (k + mc2) (n + ms2) lv (pc + 3) (.long r :: rest)) : rG p l e R s m args below meth c D A nL Q (mjoin M N) k n lv pc st := by
  subst hst
  intro H locs ls hS0 hl
  have hS := hS0.jl
  exact va_calll (va_runV (As := As) (rest := rest) ⟨F.1, F.2.1, F.2.2.1, F.2.2.2.1, F.2.2.2.2.1⟩ (hM H.size) (cwV (own := own) np F.2.2.2.2.1 (rGV hw np hq) rfl rfl rfl ⟨rfl, hq.2.2.2.2⟩ ⟨hlev, by show 8 + (maxL + 11) + 32 * lev ≤ R.locals; exact hloc⟩) ⟨cPre_blind, va_recv F.2.2.2.2.2.1 (rG_arr1 (hS.1 b _ hrm)) (q0 := 0) hrc rfl, rC_pre F hS _⟩ rfl hn hl.2.1 rfl (lv_room hcat) hd hcs) hS.2.2 (fun q _ h => rC_fr F hS q h) (fun q h => rC_fr F hS q h) (fun r u t H1 locs1 ht hvm hp hB hz hk hS1 => kk r u hp (rC_postF F hdis hS0 hB ht hk hS1).1 H1 locs1 ls (rC_postF F hdis hS0 hB ht hk hS1).2 hl)

theorem rg_fVd (F : rF p l e R s m args below meth c cc nL own D A) {y : MethodName} {cc2 : ByteArray} {maxL lev mc2 ms2 i np : Nat} {ret : Option FieldType} {post : UInt64 → rMem → Prop} {b ci N9 : Nat} {T : u_T} {fs : List Value} {As rest : List Value} (hM : CMd l D y cc2 maxL ret lev mc2 ms2 M (.ref b :: As) post) (hw : Cond.methodLink own i y ∈ wsL_law) (hq : rVq y cc2 maxL ret np) (hrc : vwCl[ci]? = some (y.cls, T, N9)) (hrm : M b = some (.inr (ci, fs))) (hn : As.length = np) (hst : st = As.reverse ++ .ref b :: rest) (hcat : (rest.map fun v => v.category).sum ≤ 8) (hlev : lev + 1 ≤ R.frames) (hloc : 8 + (maxL + 11) + 32 * lev ≤ R.locals) (hcs : k + mc2 ≤ R.cells ∧ n + ms2 ≤ R.slots) (hdis : mdis M N) (hd : decode cc pc = .ok (.invokevirtual i, 3)) (kk : ∀ (r : UInt64) (M1 : rMem), post r M1 → mdis M1 N → rG p l e R s m args below meth c D A nL Q (mjoin M1 N) (k + mc2) (n + ms2) lv (pc + 3) (.double r :: rest)) : rG p l e R s m args below meth c D A nL Q (mjoin M N) k n lv pc st := by
  subst hst
  intro H locs ls hS0 hl
  have hS := hS0.jl
  exact va_calld (va_runV (As := As) (rest := rest) ⟨F.1, F.2.1, F.2.2.1, F.2.2.2.1, F.2.2.2.2.1⟩ (hM H.size) (cwV (own := own) np F.2.2.2.2.1 (rGV hw np hq) rfl rfl rfl ⟨rfl, hq.2.2.2.2⟩ ⟨hlev, by show 8 + (maxL + 11) + 32 * lev ≤ R.locals; exact hloc⟩) ⟨cPre_blind, va_recv F.2.2.2.2.2.1 (rG_arr1 (hS.1 b _ hrm)) (q0 := 0) hrc rfl, rC_pre F hS _⟩ rfl hn hl.2.1 rfl (lv_room hcat) hd hcs) hS.2.2 (fun q _ h => rC_fr F hS q h) (fun q h => rC_fr F hS q h) (fun r u t H1 locs1 ht hvm hp hB hz hk hS1 => kk r u hp (rC_postF F hdis hS0 hB ht hk hS1).1 H1 locs1 ls (rC_postF F hdis hS0 hB ht hk hS1).2 hl)

theorem rg_fIv (F : rF p l e R s m args below meth c cc nL own D A) {y : MethodName} {cc2 : ByteArray} {maxL lev mc2 ms2 i np : Nat} {post : rMem → Prop} {b : Nat} {As rest : List Value} (hM : CMv l D y cc2 maxL lev mc2 ms2 M (.ref b :: As) post) (hw : Cond.methodLink own i y ∈ wsL_law) (hq : rIq y cc2 maxL np) (hn : As.length = np) (hst : st = As.reverse ++ .ref b :: rest) (hcat : (rest.map fun v => v.category).sum ≤ 8) (hlev : lev + 1 ≤ R.frames) (hloc : 8 + (maxL + 11) + 32 * lev ≤ R.locals) (hcs : k + mc2 ≤ R.cells ∧ n + ms2 ≤ R.slots) (hdis : mdis M N) (hd : decode cc pc = .ok (.invokespecial i, 3)) (kk : ∀ M1 : rMem, post M1 → mdis M1 N → rG p l e R s m args below meth c D A nL Q (mjoin M1 N) (k + mc2) (n + ms2) lv (pc + 3) rest) : rG p l e R s m args below meth c D A nL Q (mjoin M N) k n lv pc st := by
  subst hst
  intro H locs ls hS0 hl
  have hS := hS0.jl
  exact va_callv (va_runI (As := As) (rest := rest) ⟨F.1, F.2.1, F.2.2.1, F.2.2.2.1, F.2.2.2.2.1⟩ (hM H.size) (cwI (own := own) np F.2.2.2.2.1 (rGI hq.2.2.1) rfl rfl rfl (F.2.2.2.2.1 _ hq.2.1) (F.2.2.2.2.1 _ hw) (F.2.2.2.2.1 _ hq.1) hq.2.2.2.1 hq.2.2.2.2 ⟨hlev, by show 8 + (maxL + 11) + 32 * lev ≤ R.locals; exact hloc⟩) ⟨cPre_blind, rC_pre F hS _⟩ rfl hn hl.2.1 rfl (lv_room hcat) hd hcs) hS.2.2 (fun q _ h => rC_fr F hS q h) (fun q h => rC_fr F hS q h) (fun u t H1 locs1 ht hvm hp hB hz hk hS1 => kk u hp (rC_postF F hdis hS0 hB ht hk hS1).1 H1 locs1 ls (rC_postF F hdis hS0 hB ht hk hS1).2 hl)

/-- a call that always throws an E, caught here -/
theorem rg_xV (F : rF p l e R s m args below meth c cc nL own D A) {y : MethodName} {cc2 : ByteArray} {maxL lev mc2 ms2 i np : Nat} {ret : Option FieldType} {b ci N9 : Nat} {T : u_T} {fs : List Value} {As rest : List Value} {name : String} (pre : List ExceptionTableEntry) (x : ExceptionTableEntry) (suf : List ExceptionTableEntry) (hsplit : c.exceptionTable.toList = pre ++ x :: suf)
    (hpass : ∀ z ∈ pre, covers z pc = false ∨ (z.catchType ≠ 0 ∧ ∃ nm : String, (Cond.classLink own z.catchType nm).before args s = true ∧ va_Nc E nm s)) (hx : covers x pc = true) (h0 : x.catchType ≠ 0) (hlink : Cond.classLink own x.catchType name ∈ wsL_law) (hcast : Cond.castable E name ∈ tables_1)
    (hM : CX l D y cc2 maxL ret lev mc2 ms2 M (.ref b :: As) E) (hw : Cond.methodLink own i y ∈ wsL_law) (hq : rVq y cc2 maxL ret np) (hrc : vwCl[ci]? = some (y.cls, T, N9)) (hrm : M b = some (.inr (ci, fs))) (hn : As.length = np) (hst : st = As.reverse ++ .ref b :: rest) (hcat : (rest.map fun v => v.category).sum ≤ 8) (hlev : lev + 1 ≤ R.frames) (hloc : 8 + (maxL + 11) + 32 * lev ≤ R.locals) (hcs : k + mc2 ≤ R.cells ∧ n + ms2 ≤ R.slots) (hd : decode cc pc = .ok (.invokevirtual i, 3))
    (kk : ∀ q9 : Nat, rG p l e R s m args below meth c D A nL Q M (k + mc2) (n + ms2) lv x.handlerPc [.ref q9]) : rG p l e R s m args below meth c D A nL Q M k n lv pc st := by
  subst hst
  intro H locs ls hS hl
  exact vx_callF (vx_runV (As := As) (rest := rest) ⟨F.1, F.2.1, F.2.2.1, F.2.2.2.1, F.2.2.2.2.1⟩ (hM H.size) (cwV (own := own) np F.2.2.2.2.1 (rGV hw np hq) rfl rfl rfl ⟨rfl, hq.2.2.2.2⟩ ⟨hlev, by show 8 + (maxL + 11) + 32 * lev ≤ R.locals; exact hloc⟩) ⟨cPre_blind, va_recv F.2.2.2.2.2.1 (rG_arr1 (hS.1 b _ hrm)) (q0 := 0) hrc rfl, rC_pre F hS _⟩ rfl hn hl.2.1 rfl (lv_room hcat) hd hcs) hS.2.2 (fun q h => rC_fr F hS q h) (fun q _ h => rC_fr F hS q h) (fun E' ce q9 u t H1 locs1 e1 hvm hp hB hS1 hce hcv hcl => by
    obtain ⟨rfl, hB2⟩ := hB
    exact vx_catch F.2.2.2.1 pre x suf hsplit hpass hx h0 (F.2.2.2.2.1 _ hlink) (va_Nw.use rfl (F.2.2.2.2.2.2.2.1.2.2.2.2.2.2.2.2.2.1 _ hcast rfl)) hce hcv hcl (kk q9 H1 locs1 ls ⟨by rw [← e1]; exact hB2, hS.2.1, hS1⟩ hl))

end RFR

/-! helpers with a table of exceptions -/
def rNc (U : State) : Prop := va_Nc "java/lang/IllegalStateException" "java/lang/IllegalArgumentException" U ∧ va_Nc "java/lang/IllegalStateException" "java/lang/IndexOutOfBoundsException" U
theorem rNc.moved {u U : State} (hvm : u.vm.Alike U.vm) (h : rNc u) : rNc U := ⟨h.1.moved hvm, h.2.moved hvm⟩
def hPre (D : va_G) (M : rMem) (sz : Nat) (av : List Value) : Array Value → State → Prop := va_Pc av (fun U => U.heap.size = sz ∧ rP D M U.heap ∧ va_K D vwCl (rTy D) U ∧ rStat D (fr M sz) U U.heap ∧ rNc U)
theorem hPre_blind {D : va_G} {M : rMem} {sz : Nat} {av : List Value} : FrameBlind (hPre D M sz av) := fun a U g mk h => ⟨h.1, h.2.1, h.2.2.1, va_K.moved (u := U) (U := U.calling g mk a) (Vm.Alike.refl U.vm) h.2.2.2.1, rStat.moved (u := U) (U := U.calling g mk a) (State.WarmedH.refl U) h.2.2.2.2.1, rNc.moved (u := U) (U := U.calling g mk a) (Vm.Alike.refl U.vm) h.2.2.2.2.2⟩
def CH (l : Launch) (D : va_G) (y : MethodName) (cc : ByteArray) (maxL : Nat) (hh : List (Nat × Nat × Nat × Nat)) (lev mc ms : Nat) (M : rMem) (av : List Value) (post : Int32 → rMem → Prop) : Prop :=
  ∀ sz : Nat, Met l y (Cond.codeWith y cc maxL (some .int) hh :: wsL_law) (rR lev mc ms) (hPre D M sz av) (va_Qi post (cB D (fr M sz)) (fr M sz)) mc ms (fr M sz)
theorem met_ofWH {l : Launch} {y : MethodName} {ws ws' : List Cond} {rm : Room} {Pc : Array Value → State → Prop} {Qc : Array Value → State → Outcome → State → Prop} {mc ms : Nat} {free : Addr → Prop} {cc : ByteArray} {maxL : Nat} {ret : Option FieldType} {hh : List (Nat × Nat × Nat × Nat)}
    (hy : plainName y.cls = true) (hw : ws = Cond.codeWith y cc maxL ret hh :: ws')
    (body : ∀ p e s m args below meth c s₁, BodyLoose p l y (headSpec ws rm) cc maxL ret e s m args below meth c s₁ → c.maxLocals = maxL → Pc args s →
      W p l e (headSpec ws rm).room s m args below meth c s.heap [] 0 0 (MQ below Qc args s mc ms free) (entryFrame m args maxL)) : Met l y ws rm Pc Qc mc ms free := by
  refine MetFree.of_bodyS (code := cc) (maxLocals := maxL) (ret := ret) hy ?_ ?_
  · intro args s m h hn
    obtain ⟨m9, meth, c, hn9, h1, h2, h3, h4, -, h5, h6, -⟩ := Cond.codeWith_spec (atoms_spec (ws := ws) h _ (by rw [hw]; exact List.mem_cons_self))
    cases hn.symm.trans hn9
    exact ⟨meth, c, h1, h2, h3, h4, h5, h6⟩
  · intro p e s m args below meth c s₁ B hml hP _
    have hh0 : s₁.heap = s.heap := by rw [B.state]; rfl
    obtain ⟨t, a1, o, b1, b2, b3⟩ := body p e s m args below meth c s₁ B hml hP s₁ hh0 (Stand.of_body B)
    exact ⟨t, o, a1, b1, b2, ⟨b3.1, b3.2⟩⟩
theorem rMH {l : Launch} {D : va_G} {y : MethodName} {cc : ByteArray} {maxL : Nat} {hh : List (Nat × Nat × Nat × Nat)} {lev mc ms : Nat} {M : rMem} {av : List Value} {post : Int32 → rMem → Prop} {lv0 : List (Option Value)}
    (hy : plainName y.cls = true) (hl0 : lvA lv0 = lv_args 0 av) (hn0 : lv0.length = maxL) (hsl : (lg_sl av).length ≤ maxL)
    (body : ∀ (p : Program) (e : Env) (s : State) (m : MethodId) (args : Array Value) (below : List Frame) (meth : Method) (c : Code) (A : Nat → Prop), rF p l e (rR lev mc ms) s m args below meth c cc maxL y.cls D A → meth.sig.returnType = some .int → c.exceptionTable.toList = tableOf hh → rNc s → rG p l e (rR lev mc ms) s m args below meth c D A maxL (MQ below (va_Qi post (cB D A) A) args s mc ms A) M 0 0 lv0 0 []) : CH l D y cc maxL hh lev mc ms M av post := by
  intro sz
  refine met_ofWH (cc := cc) (maxL := maxL) (ret := some .int) (hh := hh) hy rfl ?_
  intro p e s m args below meth c s₁ B hml hv
  obtain ⟨rfl, hsz, hP, hK, hSt, hNc⟩ := hv
  subst hsz
  have hts := atoms_spec (ws := Cond.codeWith y cc maxL (some .int) hh :: wsL_law) B.pre
  have F : rF p l e (rR lev mc ms) s m av.toArray below meth c cc maxL y.cls D (fr M s.heap.size) := ⟨B.exec, B.bytes, hml, findClass_of_methodNamed B.named, fun w h => hts w (List.mem_cons_of_mem _ h), hK, fun q h => Or.inr h, hSt, B.notSynchronized⟩
  have h := body p e s m av.toArray below meth c _ F B.returns (vx_table (x := y) B (hts _ List.mem_cons_self)) hNc
  have hl := lv_entry av hsl
  rw [lg_entry_eq]
  exact h s.heap [] _ ⟨hP, fun a x hx => Or.inl ⟨x, hx⟩, va_S.rf⟩ ⟨hn0, by rw [hl0]; exact hl⟩
def rHq (y : MethodName) (cc : ByteArray) (maxL : Nat) (hh : List (Nat × Nat × Nat × Nat)) (n : Nat) : Prop := Cond.static y ∈ wsL_law ∧ Cond.initialized y.cls ∈ wsL_law ∧ Cond.codeWith y cc maxL (some .int) hh ∈ wsL_law ∧ rOk y n
theorem rGH {y : MethodName} {cc : ByteArray} {maxL : Nat} {hh : List (Nat × Nat × Nat × Nat)} {i : Nat} {own : String} (h1 : Cond.methodLink own i y ∈ wsL_law) (n : Nat) (h : rHq y cc maxL hh n) : GoodIn wsL_law (va_wsS own i y (Cond.codeWith y cc maxL (some .int) hh :: wsL_law)) := by
  intro w hw
  have hm : w ∈ wsL_law := by
    simp only [va_wsS, List.mem_append, List.mem_cons, List.not_mem_nil, or_false] at hw
    rcases hw with (rfl | rfl | rfl) | rfl | hw
    · exact h1
    · exact h.1
    · exact h.2.1
    · exact h.2.2.1
    · exact hw
  exact wsL_gi w hm
theorem rg_fH {p : Program} {l : Launch} {e : Env} {R : Room} {s : State} {m : MethodId} {args : Array Value} {below : List Frame} {meth : Method} {c : Code} {cc : ByteArray} {nL : Nat} {own : String} {D : va_G} {A : Nat → Prop} {Q : State → Prop} {M N : rMem} {k n pc : Nat} {lv : List (Option Value)} {st : List Value} (F : rF p l e R s m args below meth c cc nL own D A) (hNc : rNc s) {y : MethodName} {cc2 : ByteArray} {maxL lev mc2 ms2 i np : Nat} {hh : List (Nat × Nat × Nat × Nat)} {post : Int32 → rMem → Prop} {As rest : List Value} (hM : CH l D y cc2 maxL hh lev mc2 ms2 M As post) (hw : Cond.methodLink own i y ∈ wsL_law) (hq : rHq y cc2 maxL hh np) (hn : As.length = np) (hst : st = As.reverse ++ rest) (hcat : (rest.map fun v => v.category).sum ≤ 8) (hlev : lev + 1 ≤ R.frames) (hloc : 8 + (maxL + 11) + 32 * lev ≤ R.locals) (hcs : k + mc2 ≤ R.cells ∧ n + ms2 ≤ R.slots) (hdis : mdis M N) (hd : decode cc pc = .ok (.invokestatic i, 3)) (kk : ∀ (r : Int32) (M1 : rMem), post r M1 → mdis M1 N → rG p l e R s m args below meth c D A nL Q (mjoin M1 N) (k + mc2) (n + ms2) lv (pc + 3) (.int r :: rest)) : rG p l e R s m args below meth c D A nL Q (mjoin M N) k n lv pc st := by
  subst hst
  intro H locs ls hS0 hl
  have hS := hS0.jl
  exact va_calli (vx_runSW (As := As) (rest := rest) ⟨F.1, F.2.1, F.2.2.1, F.2.2.2.1, F.2.2.2.2.1⟩ (hM H.size) (vx_cwSW (own := own) np F.2.2.2.2.1 (rGH hw np hq) rfl rfl rfl hq.2.2.2 ⟨hlev, by show 8 + (maxL + 11) + 32 * lev ≤ R.locals; exact hloc⟩) ⟨hPre_blind, fun U hU hW => by
    obtain ⟨g1, g2, g3, g4, g5⟩ := rC_pre F hS As U hU hW
    exact ⟨g1, g2, g3, g4, g5, hNc.moved hW.alike⟩⟩ rfl hn hl.2.1 rfl (lv_room hcat) hd hcs) hS.2.2 (fun q _ h => rC_fr F hS q h) (fun q h => rC_fr F hS q h) (fun r u t H1 locs1 ht hvm hp hB hz hk hS1 => kk r u hp (rC_postF F hdis hS0 hB ht hk hS1).1 H1 locs1 ls (rC_postF F hdis hS0 hB ht hk hS1).2 hl)
