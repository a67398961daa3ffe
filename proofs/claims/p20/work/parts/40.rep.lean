/-! the class's memory: x the object, u where its parts lie (lists, rows, words, lines, the flow), and whose each list, row and line is -/
abbrev gw (u : Nat → Nat → Nat) : Nat := u 0 0
abbrev gl (u : Nat → Nat → Nat) : Nat := u 0 1
abbrev gf (u : Nat → Nat → Nat) : Nat := u 0 2
abbrev ga (u : Nat → Nat → Nat) : Nat := u 0 3
abbrev gbw (u : Nat → Nat → Nat) : Nat := u 0 4
abbrev gbl (u : Nat → Nat → Nat) : Nat := u 0 5
abbrev wa (u : Nat → Nat → Nat) (w : Nat) : Nat := u 1 w
abbrev la (u : Nat → Nat → Nat) (i : Nat) : Nat := u 2 i
abbrev ra (u : Nat → Nat → Nat) (i : Nat) : Nat := u 3 i
abbrev rb (u : Nat → Nat → Nat) (i : Nat) : Nat := u 4 i
abbrev ow (u : Nat → Nat → Nat) (a : Nat) : Nat := u 5 a
def isL2 (D : va_G) (M : rMem) (a bk n : Nat) (g : Nat → Nat) : Prop := ∃ md : Int32, isL D M a md bk n g
def cL (D : va_G) (nL : Nat) (u : Nat → Nat → Nat) : Prop := ow u (gw u) = 0 ∧ (gbw u ≠ rT0 D → ow u (gbw u) = 0) ∧ ow u (gl u) = 1 ∧ (gbl u ≠ rT0 D → ow u (gbl u) = 1) ∧ ∀ i, i < nL → ow u (ra u i) = i + 2 ∧ ow u (la u i) = i + 2 ∧ (rb u i ≠ rT0 D → ow u (rb u i) = i + 2)
def cS (D : va_G) (M : rMem) (x : Nat) (P : Poem) (nW nL : Nat) (u : Nat → Nat → Nat) : Prop :=
  zOk P nW nL ∧ M x = some (.inr (4, [.ref (gw u), .ref (gl u), .ref (gf u)])) ∧ isL2 D M (gw u) (gbw u) nW (wa u) ∧ isL2 D M (gl u) (gbl u) nL (la u) ∧
  (∀ w, w < nW → M (wa u w) = some (.inr (3, wo P w))) ∧ (∀ i, i < nL → isL2 D M (ra u i) (rb u i) (zC P i) (fun j => wa u (zR P i j))) ∧ cL D nL u
abbrev cpt (P : Poem) (u : Nat → Nat → Nat) (i : Nat) : Option Nat := (zNear P (zK P i) i).map (la u)
abbrev lu (P : Poem) (i : Nat) (pt : Option Nat) (ro : Nat) (x8 x9 x10 x11 : Int32) (x12 : Int64) (x13 x14 x15 x16 : Int32) : List Value := [.int (nI (zM P i)), .int (nI (zF P i)), .int (nI (zK P i)), va_rf pt, .ref ro, .long (lN (zb P i)), .int (nI (zo P i)), .int (nI (zOM P i (zC P i))), .int x8, .int x9, .int x10, .int x11, .long x12, .int x13, .int x14, .int x15, .int x16]
abbrev ls1 (P : Poem) (i : Nat) (pt : Option Nat) (ro : Nat) (x15 x16 : Int32) : List Value := lu P i pt ro (nI (zSt P i)) (nI (zCa P i)) (nI (zStay P i)) (nI (zOv P i)) (lN (zBits P i)) (nI (zOff P i)) (nI (zLack P i)) x15 x16
def lC (M : rMem) (P : Poem) (u : Nat → Nat → Nat) (i : Nat) : Prop := M (la u i) = some (.inr (2, lo P i (cpt P u i) (ra u i)))
def lU (M : rMem) (P : Poem) (u : Nat → Nat → Nat) (i : Nat) : Prop := ∃ (x8 x9 x10 x11 : Int32) (x12 : Int64) (x13 x14 x15 x16 : Int32), M (la u i) = some (.inr (2, lu P i (cpt P u i) (ra u i) x8 x9 x10 x11 x12 x13 x14 x15 x16))
def cF (D : va_G) (M : rMem) (u : Nat → Nat → Nat) (G en : Nat) : Prop := ∃ f : Nat → Int64, M (gf u) = some (.inr (1, [.ref (ga u), .int (nI en)])) ∧ M (ga u) = some (.inl (D.1 7, (5, .inr (.inl f)))) ∧ ∀ q, q < 5 → f q = lN (fc G q)
/-- all is scanned -/
def cR (D : va_G) (M : rMem) (x : Nat) (P : Poem) (nW nL : Nat) (u : Nat → Nat → Nat) : Prop := cS D M x P nW nL u ∧ (∀ i, i < nL → lC M P u i) ∧ cF D M u (zFl P nL) (zBg P nL)
/-- all lines ahead of k are scanned -/
def cK (D : va_G) (M : rMem) (P : Poem) (nL : Nat) (u : Nat → Nat → Nat) (k : Nat) : Prop := (∀ i, i < k → lC M P u i) ∧ (∀ i, k ≤ i → i < nL → lU M P u i) ∧ cF D M u (zFl P k) (zBg P k)
/-- what a change of lines' cells and of the flow leaves -/
def kK (M M2 : rMem) : Prop := (∀ (b ci : Nat) (y : List Value), ci ≠ 2 → ci ≠ 1 → M b = some (.inr (ci, y)) → M2 b = some (.inr (ci, y))) ∧ ∀ (b : Nat) (c : ClassId) (n : Nat) (f : Nat → Option Nat), M b = some (.inl (c, (n, .inr (.inr (.inr (.inr f)))))) → M2 b = some (.inl (c, (n, .inr (.inr (.inr (.inr f))))))
theorem kK.rf (M : rMem) : kK M M := ⟨fun _ _ _ _ _ h => h, fun _ _ _ _ h => h⟩
theorem kK.tr {M M2 M3 : rMem} (h : kK M M2) (h2 : kK M2 M3) : kK M M3 := ⟨fun b ci y n1 n2 hb => h2.1 b ci y n1 n2 (h.1 b ci y n1 n2 hb), fun b c n f hb => h2.2 b c n f (h.2 b c n f hb)⟩
theorem kK.ln {M : rMem} {a : Nat} {x : List Value} {e : va_E} (hm : M a = some (.inr (2, x))) : kK M (mset M a e) := ⟨fun b ci y n1 _ hb => mset_keep hb (mne_ci hb hm n1), fun b c n f hb => mset_keep hb (mne_ao hb hm)⟩
theorem kK.fl {M : rMem} {a : Nat} {x : List Value} {e : va_E} (hm : M a = some (.inr (1, x))) : kK M (mset M a e) := ⟨fun b ci y _ n2 hb => mset_keep hb (mne_ci hb hm n2), fun b c n f hb => mset_keep hb (mne_ao hb hm)⟩
theorem kK.fa {M : rMem} {a n : Nat} {c : ClassId} {f : Nat → Int64} {e : va_E} (hm : M a = some (.inl (c, (n, .inr (.inl f))))) : kK M (mset M a e) := ⟨fun b ci y _ _ hb => mset_keep hb (mne_oa hb hm), fun b c n f hb => mset_keep hb (mne hb hm (fun e => by cases e))⟩
theorem isL_kK {D : va_G} {M M2 : rMem} {a : Nat} {md : Int32} {bk n : Nat} {g : Nat → Nat} (h : isL D M a md bk n g) (hk : kK M M2) : isL D M2 a md bk n g := by
  refine ⟨hk.1 _ _ _ (by decide) (by decide) h.1, ?_⟩
  rcases h.2 with h3 | ⟨cap, f, h3, h4⟩
  · exact Or.inl h3
  · exact Or.inr ⟨cap, f, hk.2 _ _ _ _ h3, h4⟩
theorem cS.keep {D : va_G} {M M2 : rMem} {x : Nat} {P : Poem} {nW nL : Nat} {u : Nat → Nat → Nat} (h : cS D M x P nW nL u) (hk : kK M M2) : cS D M2 x P nW nL u := by
  obtain ⟨h1, h2, ⟨m3, h3⟩, ⟨m4, h4⟩, h5, h6, h7⟩ := h
  exact ⟨h1, hk.1 _ _ _ (by decide) (by decide) h2, ⟨m3, isL_kK h3 hk⟩, ⟨m4, isL_kK h4 hk⟩, fun w hw => hk.1 _ _ _ (by decide) (by decide) (h5 w hw), fun i hi => by obtain ⟨m6, h6⟩ := h6 i hi; exact ⟨m6, isL_kK h6 hk⟩, h7⟩
theorem la_ne {D : va_G} {M : rMem} {x : Nat} {P : Poem} {nW nL : Nat} {u : Nat → Nat → Nat} (h : cS D M x P nW nL u) {i j : Nat} (hi : i < nL) (hj : j < nL) (hij : i ≠ j) : la u i ≠ la u j := by
  intro e
  have h1 := (h.2.2.2.2.2.2.2.2.2.2 i hi).2.1
  have h2 := (h.2.2.2.2.2.2.2.2.2.2 j hj).2.1
  rw [e] at h1
  omega
theorem zNear_lt {P : Poem} {mk : Nat} : ∀ {i k : Nat}, zNear P mk i = some k → k < i ∧ zK P k = mk
  | 0, k, h => by cases h
  | i + 1, k, h => by
    unfold zNear at h
    split at h
    · rename_i h2
      cases h
      exact ⟨Nat.lt_succ_self _, h2⟩
    · obtain ⟨h3, h4⟩ := zNear_lt h
      exact ⟨by omega, h4⟩
theorem lU_of {M : rMem} {P : Poem} {u : Nat → Nat → Nat} {i : Nat} (h : lC M P u i) : lU M P u i := ⟨_, _, _, _, _, _, _, _, _, h⟩
/-- one line is scanned: what holds behind scanIn -/
theorem scan_step {D : va_G} {M : rMem} {x : Nat} {P : Poem} {nW nL : Nat} {u : Nat → Nat → Nat} {i : Nat} {x15 x16 : Int32} {y : List Value} {f f2 : Nat → Int64} {en : Nat} (hS : cS D M x P nW nL u) (hi : i < nL) (h1 : ∀ j, j < i → lC M P u j) (h2 : ∀ j, i ≤ j → j < nL → lU M P u j) (hm : M (la u i) = some (.inr (2, y)))
    (hf : M (gf u) = some (.inr (1, [.ref (ga u), .int (nI en)]))) (ha : M (ga u) = some (.inl (D.1 7, (5, .inr (.inl f))))) (hf2 : ∀ q, q < 5 → f2 q = lN (fc (zFl P (i + 1)) q)) {M2 : rMem}
    (hM : M2 = mset (mset (mset M (la u i) (.inr (2, ls1 P i (cpt P u i) (ra u i) x15 x16))) (ga u) (.inl (D.1 7, (5, .inr (.inl f2))))) (gf u) (.inr (1, [.ref (ga u), .int (nI (zBg P (i + 1)))]))) :
    kK M M2 ∧ (∀ j, j < i → lC M2 P u j) ∧ (∀ j, i < j → j < nL → lU M2 P u j) ∧ M2 (la u i) = some (.inr (2, ls1 P i (cpt P u i) (ra u i) x15 x16)) ∧ cF D M2 u (zFl P (i + 1)) (zBg P (i + 1)) := by
  subst hM
  have keep : ∀ (b : Nat) (z : List Value), M b = some (.inr (2, z)) → b ≠ la u i → mset (mset (mset M (la u i) (.inr (2, ls1 P i (cpt P u i) (ra u i) x15 x16))) (ga u) (.inl (D.1 7, (5, .inr (.inl f2))))) (gf u) (.inr (1, [.ref (ga u), .int (nI (zBg P (i + 1)))])) b = some (.inr (2, z)) := fun b z hb hne =>
    mset_keep (mset_keep (mset_keep hb hne) (mne_oa hb ha)) (mne_ci hb hf (by decide))
  have haf : ga u ≠ gf u := mne_ao ha hf
  refine ⟨((kK.ln hm).tr (kK.fa (mset_keep ha (mne_ao ha hm)))).tr (kK.fl (mset_keep (mset_keep hf (mne_ci hf hm (by decide))) haf.symm)), fun j hj => keep _ _ (h1 j hj) (la_ne hS (by omega) hi (by omega)), fun j hj hjn => ?_, ?_, f2, mset_eq, mset_keep mset_eq haf, hf2⟩
  · obtain ⟨a8, a9, a10, a11, a12, a13, a14, a15, a16, h⟩ := h2 j (by omega) hjn
    exact ⟨a8, a9, a10, a11, a12, a13, a14, a15, a16, keep _ _ h (la_ne hS hjn hi (by omega))⟩
  · exact mset_keep (mset_keep mset_eq (mne_oa hm ha)) (mne_ci hm hf (by decide))
theorem pay_step {D : va_G} {M : rMem} {x : Nat} {P : Poem} {nW nL : Nat} {u : Nat → Nat → Nat} {i : Nat} {y : List Value} (hS : cS D M x P nW nL u) (hi : i < nL) (h1 : ∀ j, j < i → lC M P u j) (h2 : ∀ j, i < j → j < nL → lU M P u j) (hm : M (la u i) = some (.inr (2, y))) (hF : cF D M u (zFl P (i + 1)) (zBg P (i + 1))) {M2 : rMem}
    (hM : M2 = mset M (la u i) (.inr (2, lo P i (cpt P u i) (ra u i)))) : kK M M2 ∧ cK D M2 P nL u (i + 1) := by
  subst hM
  obtain ⟨f, g1, g2, g3⟩ := hF
  refine ⟨kK.ln hm, fun j hj => ?_, fun j hj hjn => ?_, f, mset_keep g1 (mne_ci g1 hm (by decide)), mset_keep g2 (mne_ao g2 hm), g3⟩
  · by_cases e : j = i
    · subst e; exact mset_eq
    · exact mset_keep (h1 j (by omega)) (la_ne hS (by omega) hi e)
  · obtain ⟨a8, a9, a10, a11, a12, a13, a14, a15, a16, h⟩ := h2 j (by omega) hjn
    exact ⟨a8, a9, a10, a11, a12, a13, a14, a15, a16, mset_keep h (la_ne hS hjn hi (by omega))⟩
