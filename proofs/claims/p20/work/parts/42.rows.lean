/-! two poems that agree on a line -/
def zSame (P P' : Poem) (i : Nat) : Prop := P.1 = P'.1 ∧ (∀ f, P.2.1 f i = P'.2.1 f i) ∧ ∀ q, P.2.2 i q = P'.2.2 i q
theorem zW_ag {P P' : Poem} (h : P.1 = P'.1) (w : Nat) : zS P w = zS P' w ∧ zT P w = zT P' w ∧ zV P w = zV P' w ∧ zE P w = zE P' w ∧ zO P w = zO P' w := by
  unfold zS zT zV zE zO
  rw [h]
  exact ⟨rfl, rfl, rfl, rfl, rfl⟩
theorem wo_ag {P P' : Poem} (h : P.1 = P'.1) (w : Nat) : wo P w = wo P' w := by
  obtain ⟨h1, h2, h3, h4, h5⟩ := zW_ag h w
  unfold wo
  rw [h1, h2, h3, h4, h5]
theorem zOL_ag {P P' : Poem} {i : Nat} (h : P.1 = P'.1) (hr : ∀ q, zR P i q = zR P' i q) : ∀ j, zOL P i j = zOL P' i j ∧ zOB P i j = zOB P' i j ∧ zOM P i j = zOM P' i j
  | 0 => ⟨rfl, rfl, rfl⟩
  | j + 1 => by
    obtain ⟨h1, h2, h3⟩ := zOL_ag h hr j
    have hm : zMelt P i j = zMelt P' i j := by
      unfold zMelt
      rw [hr, hr, (zW_ag h _).2.2.2.1, (zW_ag h _).2.2.2.2]
    obtain ⟨w1, w2, -⟩ := zW_ag h (zR P' i j)
    refine ⟨?_, ?_, ?_⟩
    · rw [zOLs, zOLs, h1, hm, hr, w1]
    · rw [zOBs, zOBs, h1, h2, hm, hr, w2]
    · rw [zOMs, zOMs, h3, hm]
theorem zSame.ln {P P' : Poem} {i : Nat} (h : zSame P P' i) : zM P i = zM P' i ∧ zF P i = zF P' i ∧ zK P i = zK P' i ∧ zC P i = zC P' i ∧ zo P i = zo P' i ∧ zb P i = zb P' i ∧ zOM P i (zC P i) = zOM P' i (zC P' i) ∧ zRm P i = zRm P' i := by
  have h0 : zM P i = zM P' i := h.2.1 0
  have h1 : zF P i = zF P' i := h.2.1 1
  have h2 : zK P i = zK P' i := h.2.1 2
  have h3 : zC P i = zC P' i := h.2.1 3
  obtain ⟨a1, a2, a3⟩ := zOL_ag h.1 h.2.2 (zC P i)
  refine ⟨h0, h1, h2, h3, ?_, ?_, ?_, ?_⟩
  · unfold zo; rw [a1, h3]
  · unfold zb; rw [a2, h3]
  · rw [a3, h3]
  · unfold zRm; rw [h0, h1]
theorem zPre {P P' : Poem} : ∀ {i : Nat}, (∀ j, j < i → zSame P P' j) → zBg P i = zBg P' i ∧ zFl P i = zFl P' i ∧ zSt P i = zSt P' i
  | 0, _ => ⟨rfl, rfl, rfl⟩
  | i + 1, h => by
    obtain ⟨h1, h2, h3⟩ := zPre (i := i) (fun j hj => h j (by omega))
    obtain ⟨-, -, -, -, e1, e2, -, e3⟩ := (h i (by omega)).ln
    refine ⟨?_, ?_, ?_⟩
    · show zBg P i + zo P i = zBg P' i + zo P' i
      rw [h1, e1]
    · show (zFl P i ||| zb P i * 2 ^ zBg P i) = (zFl P' i ||| zb P' i * 2 ^ zBg P' i)
      rw [h1, h2, e2]
    · show zSt P i + min (zBg P i - zSt P i + zo P i) (zRm P i) = zSt P' i + min (zBg P' i - zSt P' i + zo P' i) (zRm P' i)
      rw [h1, h3, e1, e3]
theorem zNear_ag {P P' : Poem} {mk : Nat} : ∀ {i : Nat}, (∀ j, j < i → zK P j = zK P' j) → zNear P mk i = zNear P' mk i
  | 0, _ => rfl
  | i + 1, h => by
    unfold zNear
    rw [h i (Nat.lt_succ_self _), zNear_ag (fun j hj => h j (by omega))]
theorem zRh_ag {P P' : Poem} {i k : Nat} (hi : zSame P P' i) (hk : zSame P P' k) : zRh P i k = zRh P' i k := by
  have h1 := hi.ln.2.2.2.1
  have h2 := hk.ln.2.2.2.1
  have h3 : ∀ q, zR P i q = zR P' i q := hi.2.2
  have h4 : ∀ q, zR P k q = zR P' k q := hk.2.2
  unfold zRh zRhW
  rw [h1, h2, h3, h4]
  obtain ⟨a1, a2, a3, a4, a5⟩ := zW_ag hi.1 (zR P' i (zC P' i - 1))
  obtain ⟨b1, b2, b3, b4, b5⟩ := zW_ag hi.1 (zR P' k (zC P' k - 1))
  rw [a1, a2, a3, a4, b1, b2, b3, b4]
theorem zScan_ag {P P' : Poem} {i : Nat} (h : ∀ j, j ≤ i → zSame P P' j) : zSt P i = zSt P' i ∧ zCa P i = zCa P' i ∧ zStay P i = zStay P' i ∧ zOv P i = zOv P' i ∧ zBits P i = zBits P' i ∧ zOff P i = zOff P' i ∧ zLack P i = zLack P' i ∧ zPaid P i = zPaid P' i ∧ zTax P i = zTax P' i := by
  obtain ⟨h1, h2, h3⟩ := zPre (i := i) (fun j hj => h j (by omega))
  obtain ⟨-, h5, -⟩ := zPre (i := i + 1) (fun j hj => h j (by omega))
  obtain ⟨m0, m1, m2, m3, e1, e2, -, e3⟩ := (h i (Nat.le_refl _)).ln
  have c1 : zCa P i = zCa P' i := by unfold zCa; rw [h1, h3]
  have c2 : zStay P i = zStay P' i := by unfold zStay; rw [c1, e1, e3]
  have c3 : zOv P i = zOv P' i := by unfold zOv; rw [c1, c2, e1]
  have c4 : zBits P i = zBits P' i := by unfold zBits; rw [h5, h3, c2]
  have c5 : zOff P i = zOff P' i := by unfold zOff; rw [m0, c4, c2]
  have c6 : zLack P i = zLack P' i := by unfold zLack; rw [e3, c2]
  have c7 : zPaid P i = zPaid P' i := by
    have hn : zNear P (zK P i) i = zNear P' (zK P' i) i := by rw [m2]; exact zNear_ag (fun j hj => (h j (by omega)).ln.2.2.1)
    unfold zPaid
    rw [← hn]
    cases hz : zNear P (zK P i) i with
    | none => rfl
    | some k => exact zRh_ag (h i (Nat.le_refl _)) (h k (by have := (zNear_lt hz).1; omega))
  refine ⟨h3, c1, c2, c3, c4, c5, c6, c7, ?_⟩
  unfold zTax
  rw [m3, m1, c4, c5, c6, c7]
theorem lo_ag {P P' : Poem} {i : Nat} (h : ∀ j, j ≤ i → zSame P P' j) (pt : Option Nat) (ro : Nat) : lo P i pt ro = lo P' i pt ro := by
  obtain ⟨a1, a2, a3, a4, a5, a6, a7, a8, a9⟩ := zScan_ag h
  obtain ⟨m0, m1, m2, m3, e1, e2, e4, e3⟩ := (h i (Nat.le_refl _)).ln
  unfold lo
  rw [a1, a2, a3, a4, a5, a6, a7, a8, a9, m0, m1, m2, e1, e2, e4]
theorem zAll_ag {P P' : Poem} : ∀ {i : Nat}, (∀ j, j < i → zSame P P' j) → zAll P i = zAll P' i
  | 0, _ => rfl
  | i + 1, h => by
    show zAll P i + zTax P i = zAll P' i + zTax P' i
    rw [zAll_ag (fun j hj => h j (by omega)), (zScan_ag (i := i) (fun j hj => h j (by omega))).2.2.2.2.2.2.2.2]
theorem zBg_mono (P : Poem) {i : Nat} : ∀ {j : Nat}, i ≤ j → zBg P i ≤ zBg P j
  | 0, h => by have : i = 0 := by omega
               subst this; exact Nat.le_refl _
  | j + 1, h => by
    by_cases e : i = j + 1
    · subst e; exact Nat.le_refl _
    · have := zBg_mono P (i := i) (j := j) (by omega)
      show zBg P i ≤ zBg P j + zo P j
      omega
theorem zFl_pre {P : Poem} {nW nL : Nat} (hP : zOk P nW nL) {i : Nat} : ∀ {j : Nat}, i ≤ j → j ≤ nL → zFl P j % 2 ^ zBg P i = zFl P i
  | 0, h, hj => by
    have : i = 0 := by omega
    subst this
    exact Nat.mod_eq_of_lt (zFl_lt hP 0 (by omega))
  | j + 1, h, hj => by
    by_cases e : i = j + 1
    · subst e
      exact Nat.mod_eq_of_lt (zFl_lt hP _ hj)
    · have h1 := zFl_pre hP (i := i) (j := j) (by omega) (by omega)
      have h2 := zBg_mono P (i := i) (j := j) (by omega)
      show (zFl P j ||| zb P j * 2 ^ zBg P j) % 2 ^ zBg P i = zFl P i
      rw [Nat.or_mod_two_pow, h1, show zb P j * 2 ^ zBg P j % 2 ^ zBg P i = 0 from ?_, Nat.or_zero]
      rw [show zBg P j = (zBg P j - zBg P i) + zBg P i by omega, Nat.pow_add, ← Nat.mul_assoc]
      exact Nat.mul_mod_left _ _
theorem isL_cg {D : va_G} {M : rMem} {a : Nat} {md : Int32} {bk n : Nat} {g g2 : Nat → Nat} (h : isL D M a md bk n g) (hg : ∀ j, j < n → g j = g2 j) : isL D M a md bk n g2 := by
  refine ⟨h.1, ?_⟩
  rcases h.2 with h3 | ⟨cap, f, h3, h4, h5, h6, h7, h8⟩
  · exact Or.inl h3
  · exact Or.inr ⟨cap, f, h3, h4, h5, h6, h7, fun i hi => by rw [h8 i hi, hg i hi]⟩
/-- another list changes: this one stays -/
theorem isL_ch {D : va_G} {M M1 : rMem} {a bk n : Nat} {g : Nat → Nat} {a2 : Nat} {md2 : Int32} {bk2 n2 : Nat} {g2 : Nat → Nat} (hc : lCh D M M1 a bk n g) (h : isL D M a2 md2 bk2 n2 g2) (h1 : a2 ≠ a) (h2 : bk2 ≠ rT0 D → bk ≠ rT0 D → bk2 ≠ bk) : isL D M1 a2 md2 bk2 n2 g2 := by
  refine ⟨hc.2.1 _ _ h.1 h1, ?_⟩
  rcases h.2 with h3 | ⟨cap, f, h3, h4, h5⟩
  · exact Or.inl h3
  · refine Or.inr ⟨cap, f, hc.2.2 _ _ h3 ?_, h4, h5⟩
    by_cases e : bk = rT0 D
    · exact Or.inr e
    · exact Or.inl (h2 h4 e)
/-- the same ghosts, but the rows' own arrays and who owns what -/
def ueq (u u' : Nat → Nat → Nat) : Prop := ∀ a b, a ≠ 4 → a ≠ 5 → u' a b = u a b
theorem ueq.rf (u : Nat → Nat → Nat) : ueq u u := fun _ _ _ _ => rfl
theorem ueq.tr {u u' u'' : Nat → Nat → Nat} (h : ueq u u') (h2 : ueq u' u'') : ueq u u'' := fun a b h4 h5 => (h2 a b h4 h5).trans (h a b h4 h5)
theorem lC_u {M : rMem} {P : Poem} {u u' : Nat → Nat → Nat} {i : Nat} (h : ueq u u') (hc : lC M P u i) : lC M P u' i := by
  have h2 : la u' = la u := funext fun j => h 2 j (by decide) (by decide)
  have h3 : ra u' i = ra u i := h 3 i (by decide) (by decide)
  unfold lC cpt
  rw [h2, h3]
  exact hc
theorem cpt_ag {P P' : Poem} {u u' : Nat → Nat → Nat} {i : Nat} (hu : ueq u u') (hk : ∀ j, zK P j = zK P' j) : cpt P u i = cpt P' u' i := by
  have h2 : la u' = la u := funext fun j => hu 2 j (by decide) (by decide)
  unfold cpt
  rw [h2, hk i, zNear_ag (fun j _ => hk j)]
theorem lu_ag {P P' : Poem} {i : Nat} (h : zSame P P' i) (pt : Option Nat) (ro : Nat) (x8 x9 x10 x11 : Int32) (x12 : Int64) (x13 x14 x15 x16 : Int32) : lu P i pt ro x8 x9 x10 x11 x12 x13 x14 x15 x16 = lu P' i pt ro x8 x9 x10 x11 x12 x13 x14 x15 x16 := by
  obtain ⟨m0, m1, m2, m3, e1, e2, e4, e3⟩ := h.ln
  unfold lu
  rw [m0, m1, m2, e1, e2, e4]
theorem isL_in {D : va_G} {M : rMem} {a : Nat} {md : Int32} {bk n : Nat} {g : Nat → Nat} (h : isL D M a md bk n g) (hb : bk ≠ rT0 D) : ∃ y, M bk = some y := by
  rcases h.2 with h3 | ⟨cap, f, h3, -⟩
  · exact absurd h3.2 hb
  · exact ⟨_, h3⟩
/-- a row of a list has changed, and its line's own part: what holds before the lines are scanned again -/
theorem row_step {D : va_G} {M M1 M2 : rMem} {x : Nat} {P P' : Poem} {nW nL : Nat} {u : Nat → Nat → Nat} {i : Nat} {g2 : Nat → Nat} {x8 x9 x10 x11 : Int32} {x12 : Int64} {x13 x14 x15 x16 : Int32} (hR : cR D M x P nW nL u) (hi : i < nL) (hP : zOk P' nW nL) (hf : ∀ f j, f ≠ 3 → P.2.1 f j = P'.2.1 f j) (hj : ∀ j, j ≠ i → zSame P P' j) (hw : P.1 = P'.1)
    (hc : lCh D M M1 (ra u i) (rb u i) (zC P' i) g2) (hg : ∀ q, q < zC P' i → g2 q = wa u (zR P' i q)) (hM : M2 = mset M1 (la u i) (.inr (2, lu P' i (cpt P u i) (ra u i) x8 x9 x10 x11 x12 x13 x14 x15 x16))) :
    ∃ u', ueq u u' ∧ cS D M2 x P' nW nL u' ∧ (∀ j, j < i → lC M2 P' u' j) ∧ (∀ j, i ≤ j → j < nL → lU M2 P' u' j) ∧ cF D M2 u' (zFl P nL) (zBg P nL) ∧ zFl P nL % 2 ^ zBg P' i = zFl P' i := by
  obtain ⟨hS, hl, ff, f1, f2, f3⟩ := hR
  have hS0 := hS
  obtain ⟨hP0, hx, ⟨m3, h3⟩, ⟨m4, h4⟩, h5, h6, L1, L2, L3, L4, L5⟩ := hS
  obtain ⟨⟨md2, bk2, hL2, hb2⟩, hob, har⟩ := hc
  have hch : lCh D M M1 (ra u i) (rb u i) (zC P' i) g2 := ⟨⟨md2, bk2, hL2, hb2⟩, hob, har⟩
  obtain ⟨mi, hri⟩ := h6 i hi
  have hk : ∀ j, zK P j = zK P' j := fun j => hf 2 j (by decide)
  have hli := hl i hi
  -- the ghosts
  obtain ⟨u', hu, hbi, hbo, LL⟩ : ∃ u', ueq u u' ∧ rb u' i = bk2 ∧ (∀ j, j ≠ i → rb u' j = rb u j) ∧ cL D nL u' := by
    by_cases e : bk2 = rb u i
    · exact ⟨u, ueq.rf u, e.symm, fun _ _ => rfl, L1, L2, L3, L4, L5⟩
    · have hno : M bk2 = none := hb2.resolve_left e
      have ne : ∀ a y, M a = some y → a ≠ bk2 := fun a y h => mne_none h hno
      refine ⟨fun a b => if a = 4 ∧ b = i then bk2 else if a = 5 ∧ b = bk2 then i + 2 else u a b, fun a b h4 h5 => ?_, ?_, fun j hj => ?_, ?_⟩
      · dsimp only
        rw [if_neg (fun z => h4 z.1), if_neg (fun z => h5 z.1)]
      · simp
      · simp [rb, hj]
      · have o : ∀ a y, M a = some y → (if 5 = 4 ∧ a = i then bk2 else if 5 = 5 ∧ a = bk2 then i + 2 else u 5 a) = u 5 a := fun a y h => by
          rw [if_neg (by omega), if_neg (fun z => ne a y h z.2)]
        refine ⟨?_, ?_, ?_, ?_, fun j hjn => ⟨?_, ?_, ?_⟩⟩
        · exact (o (u 0 0) _ h3.1).trans L1
        · intro hT
          obtain ⟨y, hy⟩ := isL_in h3 hT
          exact (o (u 0 4) _ hy).trans (L2 hT)
        · exact (o (u 0 1) _ h4.1).trans L3
        · intro hT
          obtain ⟨y, hy⟩ := isL_in h4 hT
          exact (o (u 0 5) _ hy).trans (L4 hT)
        · obtain ⟨mj, hrj⟩ := h6 j hjn
          exact (o (u 3 j) _ hrj.1).trans (L5 j hjn).1
        · exact (o (u 2 j) _ (hl j hjn)).trans (L5 j hjn).2.1
        · intro hT
          by_cases hji : j = i
          · subst hji
            show (if 5 = 4 ∧ _ then _ else if 5 = 5 ∧ (if 4 = 4 ∧ j = j then bk2 else _) = bk2 then j + 2 else _) = j + 2
            simp
          · obtain ⟨mj, hrj⟩ := h6 j hjn
            have e4 : (if 4 = 4 ∧ j = i then bk2 else if 4 = 5 ∧ j = bk2 then i + 2 else u 4 j) = u 4 j := by simp [hji]
            have hT2 : u 4 j ≠ rT0 D := fun z => hT (e4.trans z)
            obtain ⟨y, hy⟩ := isL_in hrj hT2
            exact (congrArg (fun v => if 5 = 4 ∧ v = i then bk2 else if 5 = 5 ∧ v = bk2 then i + 2 else u 5 v) e4).trans ((o (u 4 j) _ hy).trans ((L5 j hjn).2.2 hT2))
  have eg : ∀ b, u' 0 b = u 0 b := fun b => hu 0 b (by decide) (by decide)
  have ew : ∀ b, u' 1 b = u 1 b := fun b => hu 1 b (by decide) (by decide)
  have el : ∀ b, u' 2 b = u 2 b := fun b => hu 2 b (by decide) (by decide)
  have er : ∀ b, u' 3 b = u 3 b := fun b => hu 3 b (by decide) (by decide)
  have ewf : u' 1 = u 1 := funext ew
  have elf : u' 2 = u 2 := funext el
  have hm1 : M1 (la u i) = some (.inr (2, lo P i (cpt P u i) (ra u i))) := hob _ _ hli (mne_ci hli hri.1 (by decide))
  have hkk : kK M1 M2 := by rw [hM]; exact kK.ln hm1
  have oi := (L5 i hi)
  have hS1 : cS D M1 x P' nW nL u' := by
    refine ⟨hP, ?_, ⟨m3, ?_⟩, ⟨m4, ?_⟩, fun w hwn => ?_, fun j hjn => ?_, LL⟩
    · show M1 x = some (.inr (4, [.ref (u' 0 0), .ref (u' 0 1), .ref (u' 0 2)]))
      rw [eg, eg, eg]
      exact hob _ _ hx (mne_ci hx hri.1 (by decide))
    · show isL D M1 (u' 0 0) m3 (u' 0 4) nW (u' 1)
      rw [eg, eg, ewf]
      refine isL_ch hch h3 (fun z => ?_) (fun hT hT2 z => ?_)
      · have := oi.1; rw [← show gw u = ra u i from z, L1] at this; omega
      · have := oi.2.2 hT2; rw [← show gbw u = rb u i from z, L2 hT] at this; omega
    · show isL D M1 (u' 0 1) m4 (u' 0 5) nL (u' 2)
      rw [eg, eg, elf]
      refine isL_ch hch h4 (fun z => ?_) (fun hT hT2 z => ?_)
      · have := oi.1; rw [← show gl u = ra u i from z, L3] at this; omega
      · have := oi.2.2 hT2; rw [← show gbl u = rb u i from z, L4 hT] at this; omega
    · show M1 (u' 1 w) = _
      rw [ew, ← wo_ag hw w]
      exact hob _ _ (h5 w hwn) (mne_ci (h5 w hwn) hri.1 (by decide))
    · by_cases hji : j = i
      · subst hji
        refine ⟨md2, ?_⟩
        rw [hbi]
        show isL D M1 (u' 3 j) md2 bk2 (zC P' j) (fun q => u' 1 (zR P' j q))
        rw [er, ewf]
        exact isL_cg hL2 hg
      · obtain ⟨mj, hrj⟩ := h6 j hjn
        refine ⟨mj, ?_⟩
        rw [hbo j hji]
        show isL D M1 (u' 3 j) mj (rb u j) (zC P' j) (fun q => u' 1 (zR P' j q))
        rw [er, ewf, ← (hj j hji).ln.2.2.2.1]
        have h9 : isL D M1 (u 3 j) mj (rb u j) (zC P j) (fun q => u 1 (zR P j q)) := by
          refine isL_ch hch hrj (fun z => ?_) (fun hT hT2 z => ?_)
          · have h7 := oi.1; have h8 := (L5 j hjn).1; rw [← show ra u j = ra u i from z, h8] at h7; omega
          · have h7 := oi.2.2 hT2; have h8 := (L5 j hjn).2.2 hT; rw [← show rb u j = rb u i from z, h8] at h7; omega
        refine isL_cg h9 (fun q _ => ?_)
        show u 1 (P.2.2 j q) = u 1 (P'.2.2 j q)
        rw [(hj j hji).2.2 q]
  have hln : ∀ j, j < nL → j ≠ i → M2 (la u j) = some (.inr (2, lo P j (cpt P u j) (ra u j))) := fun j hjn hji => by
    rw [hM]
    have h7 := hl j hjn
    exact mset_keep (hob _ _ h7 (mne_ci h7 hri.1 (by decide))) (la_ne hS0 hjn hi hji)
  refine ⟨u', hu, hS1.keep hkk, fun j hjn => ?_, fun j hij hjn => ?_, ?_, ?_⟩
  · show M2 (u' 2 j) = some (.inr (2, lo P' j (cpt P' u' j) (u' 3 j)))
    rw [el, er, ← cpt_ag hu hk, ← lo_ag (fun k hk => hj k (by omega))]
    exact hln j (by omega) (by omega)
  · by_cases hji : j = i
    · subst hji
      refine ⟨x8, x9, x10, x11, x12, x13, x14, x15, x16, ?_⟩
      show M2 (u' 2 j) = some (.inr (2, lu P' j (cpt P' u' j) (u' 3 j) _ _ _ _ _ _ _ _ _))
      rw [el, er, ← cpt_ag hu hk, hM]
      exact mset_eq
    · have h7 := hln j hjn hji
      obtain ⟨a8, a9, a10, a11, a12, a13, a14, a15, a16, h8⟩ := lU_of (show lC M2 P u j from h7)
      refine ⟨a8, a9, a10, a11, a12, a13, a14, a15, a16, ?_⟩
      · show M2 (u' 2 j) = some (.inr (2, lu P' j (cpt P' u' j) (u' 3 j) _ _ _ _ _ _ _ _ _))
        rw [el, er, ← cpt_ag hu hk, ← lu_ag (hj j hji)]
        exact h8
  · refine ⟨ff, ?_, ?_, f3⟩
    · show M2 (u' 0 2) = some (.inr (1, [.ref (u' 0 3), _]))
      rw [eg, eg, hM]
      exact mset_keep (hob _ _ f1 (mne_ci f1 hri.1 (by decide))) (mne_ci f1 hli (by decide))
    · show M2 (u' 0 3) = _
      rw [eg, hM]
      refine mset_keep (har _ _ f2 ?_) (mne_ao f2 hli)
      by_cases e : rb u i = rT0 D
      · exact Or.inr e
      · rcases hri.2 with h9 | ⟨cap, f9, h9, -⟩
        · exact absurd h9.2 e
        · exact Or.inl (mne f2 h9 (fun z => by have h := congrArg (fun q : ClassId × vp_A => q.2.2) (Sum.inl.inj z); cases h))
  · obtain ⟨e1, e2, -⟩ := zPre (P := P) (P' := P') (i := i) (fun j hjj => hj j (by omega))
    rw [← e1, ← e2]
    exact zFl_pre hP0 (Nat.le_of_lt hi) (Nat.le_refl _)
