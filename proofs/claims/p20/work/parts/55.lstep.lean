theorem near_map {P : Poem} {mk i : Nat} {f g : Nat → Nat} (h : ∀ k, k < i → f k = g k) : (zNear P mk i).map f = (zNear P mk i).map g := by
  cases hz : zNear P mk i with
  | none => rfl
  | some k => exact congrArg some (h k (zNear_lt hz).1)
/-- a new line -/
def zNewL (P : Poem) (n m f k : Nat) : Poem := (P.1, fun g i => if i = n then (if g = 0 then m else if g = 1 then f else if g = 2 then k else 0) else P.2.1 g i, P.2.2)
theorem zNewL_n (P : Poem) (n m f k : Nat) : zM (zNewL P n m f k) n = m ∧ zF (zNewL P n m f k) n = f ∧ zK (zNewL P n m f k) n = k ∧ zC (zNewL P n m f k) n = 0 := by
  unfold zM zF zK zC zNewL
  simp
theorem zNewL_sam (P : Poem) (n m f k : Nat) {j : Nat} (h : j ≠ n) : zSame P (zNewL P n m f k) j := ⟨rfl, fun _ => (if_neg h).symm, fun _ => rfl⟩
theorem zNewL_ok {P : Poem} {nW nL : Nat} (hP : zOk P nW nL) (hn : nL < 10) {m f k : Nat} (h1 : m < 4) (h2 : 1 ≤ f) (h3 : f ≤ 6) (h4 : k < 6) : zOk (zNewL P nL m f k) nW (nL + 1) := by
  refine ⟨hP.1, by omega, fun i hi => ?_⟩
  by_cases e : i = nL
  · subst e
    obtain ⟨a, b, c, d⟩ := zNewL_n P i m f k
    unfold zLok
    rw [a, b, c, d]
    exact ⟨h1, h2, h3, h4, by omega, fun j hj => absurd hj (Nat.not_lt_zero _)⟩
  · obtain ⟨a, b, c, d, -⟩ := (zNewL_sam P nL m f k e).ln
    have h9 := hP.2.2 i (by omega)
    unfold zLok at h9 ⊢
    rw [← a, ← b, ← c, ← d]
    exact h9
/-- a line has been added -/
theorem line_step {D : va_G} {M M1 M2 : rMem} {x : Nat} {P P' : Poem} {nW nL : Nat} {u : Nat → Nat → Nat} {a r : Nat} {y : List Value} (hR : cR D M x P nW nL u) (ha : M a = none) (hr : M r = none) (hne : a ≠ r) (hP : zOk P' nW (nL + 1)) (hs : ∀ j, j ≠ nL → zSame P P' j) (hw : P.1 = P'.1) (h0 : zC P' nL = 0)
    (hM : M1 = mset (mset M a (.inr (2, y))) r (.inr (0, [.int (nI 0), .ref (rT0 D), .int (nI 0)]))) (hy : ∃ (x8 x9 x10 x11 : Int32) (x12 : Int64) (x13 x14 x15 x16 : Int32), y = lu P' nL (cpt P' u nL) r x8 x9 x10 x11 x12 x13 x14 x15 x16) (hc : lCh D M1 M2 (gl u) (gbl u) (nL + 1) (va_up (la u) nL a)) :
    ∃ u', cS D M2 x P' nW (nL + 1) u' ∧ (∀ j, j < nL → lC M2 P' u' j) ∧ (∀ j, nL ≤ j → j < nL + 1 → lU M2 P' u' j) ∧ cF D M2 u' (zFl P nL) (zBg P nL) ∧ zFl P nL % 2 ^ zBg P' nL = zFl P' nL := by
  obtain ⟨hS, hl, ff, f1, f2, f3⟩ := hR
  obtain ⟨hP0, hx, ⟨m3, h3⟩, ⟨m4, h4⟩, h5, h6, L1, L2, L3, L4, L5⟩ := hS
  subst hM
  have hch := hc
  obtain ⟨⟨md2, bk2, hL2, hb2⟩, hob, har⟩ := hc
  have hr1 : mset M a (.inr (2, y)) r = none := by unfold mset; rw [if_neg hne.symm]; exact hr
  have hT2 : bk2 ≠ rT0 D := (isL_bk hL2 (by omega)).1
  have in1 : ∀ b z, M b = some z → mset (mset M a (.inr (2, y))) r (.inr (0, [.int (nI 0), .ref (rT0 D), .int (nI 0)])) b = some z := fun b z h => mset_in hr1 (mset_in ha h)
  have lin : ∀ {a2 : Nat} {mm : Int32} {bb n : Nat} {g : Nat → Nat}, isL D M a2 mm bb n g → isL D (mset (mset M a (.inr (2, y))) r (.inr (0, [.int (nI 0), .ref (rT0 D), .int (nI 0)]))) a2 mm bb n g := fun h => isL_new (isL_new h ha) hr1
  have ma : mset (mset M a (.inr (2, y))) r (.inr (0, [.int (nI 0), .ref (rT0 D), .int (nI 0)])) a = some (.inr (2, y)) := mset_keep mset_eq hne
  have mr : mset (mset M a (.inr (2, y))) r (.inr (0, [.int (nI 0), .ref (rT0 D), .int (nI 0)])) r = some (.inr (0, [.int (nI 0), .ref (rT0 D), .int (nI 0)])) := mset_eq
  have ob : ∀ b z, M b = some (.inr z) → b ≠ gl u → M2 b = some (.inr z) := fun b z h hn => hob b z (in1 _ _ h) hn
  have nbk : ∀ b z, M b = some z → bk2 = b → bk2 = gbl u := fun b z h e => by
    rcases hb2 with hb2 | hb2
    · exact hb2
    · rw [e, in1 _ _ h] at hb2; cases hb2
  have nba : a ≠ bk2 := fun e => by
    rcases hb2 with hb2 | hb2
    · have hT : gbl u ≠ rT0 D := by rw [← hb2]; exact hT2
      obtain ⟨z, hz⟩ := isL_in h4 hT
      rw [← hb2, ← e, ha] at hz; cases hz
    · rw [← e, ma] at hb2; cases hb2
  have nbr : r ≠ bk2 := fun e => by
    rcases hb2 with hb2 | hb2
    · have hT : gbl u ≠ rT0 D := by rw [← hb2]; exact hT2
      obtain ⟨z, hz⟩ := isL_in h4 hT
      rw [← hb2, ← e, hr] at hz; cases hz
    · rw [← e, mr] at hb2; cases hb2
  -- who is neither new nor the new array
  have o : ∀ b c, u 5 b = c → (∃ z, M b = some z) → (if b = a ∨ b = r then nL + 2 else if b = bk2 then 1 else u 5 b) = c := fun b c h h2 => by
    obtain ⟨z, h2⟩ := h2
    have n1 : ¬ (b = a ∨ b = r) := fun q => by rcases q with q | q; (rw [q, ha] at h2; cases h2); rw [q, hr] at h2; cases h2
    rw [if_neg n1]
    by_cases e : b = bk2
    · rw [if_pos e]
      have e2 := nbk b z h2 e.symm
      have := L4 (by rw [← e2]; exact hT2)
      rw [e, e2] at h
      rw [← this]; exact h
    · rw [if_neg e]; exact h
  obtain ⟨u', e00, e01, e02, e03, e04, e05, e1, e2, e2n, e3, e3n, e4, e4n, e5⟩ : ∃ u' : Nat → Nat → Nat, u' 0 0 = u 0 0 ∧ u' 0 1 = u 0 1 ∧ u' 0 2 = u 0 2 ∧ u' 0 3 = u 0 3 ∧ u' 0 4 = u 0 4 ∧ u' 0 5 = bk2 ∧ u' 1 = u 1 ∧ (∀ i, i < nL → u' 2 i = u 2 i) ∧ u' 2 nL = a ∧ (∀ i, i < nL → u' 3 i = u 3 i) ∧ u' 3 nL = r ∧ (∀ i, i < nL → u' 4 i = u 4 i) ∧ u' 4 nL = rT0 D ∧ ∀ b, u' 5 b = if b = a ∨ b = r then nL + 2 else if b = bk2 then 1 else u 5 b := by
    refine ⟨fun p q => if p = 2 ∧ q = nL then a else if p = 3 ∧ q = nL then r else if p = 4 ∧ q = nL then rT0 D else if p = 0 ∧ q = 5 then bk2 else if p = 5 then (if q = a ∨ q = r then nL + 2 else if q = bk2 then 1 else u 5 q) else u p q, ?_, ?_, ?_, ?_, ?_, ?_, ?_, fun w hw => ?_, ?_, fun w hw => ?_, ?_, fun w hw => ?_, ?_, fun b => ?_⟩
    · simp
    · simp
    · simp
    · simp
    · simp
    · simp
    · funext b; simp
    · simp [show w ≠ nL by omega]
    · simp
    · simp [show w ≠ nL by omega]
    · simp
    · simp [show w ≠ nL by omega]
    · simp
    · simp
  have L5a : ∀ i, i < nL → u 5 (u 3 i) = i + 2 := fun i hi => (L5 i hi).1
  have L5b : ∀ i, i < nL → u 5 (u 2 i) = i + 2 := fun i hi => (L5 i hi).2.1
  have hK : ∀ j, j < nL → zK P j = zK P' j := fun j hj => (hs j (by omega)).ln.2.2.1
  have hln : ∀ i, i < nL → M2 (u' 2 i) = some (.inr (2, lo P' i (cpt P' u' i) (u' 3 i))) := fun i hi => by
    rw [e2 i hi, e3 i hi]
    have e9 : cpt P' u' i = cpt P u i := by
      show (zNear P' (zK P' i) i).map (u' 2) = (zNear P (zK P i) i).map (u 2)
      rw [hK i hi, ← zNear_ag (P := P) (P' := P') (fun j hj => hK j (by omega))]
      exact near_map (fun k hk => e2 k (by omega))
    rw [e9, ← lo_ag (fun j hj => hs j (by omega))]
    exact ob _ _ (hl i hi) (mne_ci (hl i hi) h4.1 (by decide))
  refine ⟨u', ⟨hP, ?_, ⟨m3, ?_⟩, ⟨md2, ?_⟩, fun w hwn => ?_, fun i hi => ?_, ?_⟩, hln, fun i h1 h2 => ?_, ⟨ff, ?_, ?_, f3⟩, ?_⟩
  · show M2 x = some (.inr (4, [.ref (u' 0 0), .ref (u' 0 1), .ref (u' 0 2)]))
    rw [e00, e01, e02]
    exact ob _ _ hx (mne_ci hx h4.1 (by decide))
  · show isL D M2 (u' 0 0) m3 (u' 0 4) nW (u' 1)
    rw [e00, e04, e1]
    refine isL_ch hch (lin h3) (fun z => ?_) (fun hT hT3 z => ?_)
    · have h7 : u 5 (u 0 1) = 1 := L3; rw [← show u 0 0 = u 0 1 from z, show u 5 (u 0 0) = 0 from L1] at h7; omega
    · have h7 : u 5 (u 0 5) = 1 := L4 hT3; rw [← show u 0 4 = u 0 5 from z, show u 5 (u 0 4) = 0 from L2 hT] at h7; omega
  · show isL D M2 (u' 0 1) md2 (u' 0 5) (nL + 1) (u' 2)
    rw [e01, e05]
    refine isL_cg hL2 (fun j hj => ?_)
    unfold va_up
    by_cases e : j = nL
    · rw [if_pos e, e, e2n]
    · rw [if_neg e, e2 j (by omega)]
  · show M2 (u' 1 w) = _
    rw [e1, ← wo_ag hw w]
    exact ob _ _ (h5 w hwn) (mne_ci (h5 w hwn) h4.1 (by decide))
  · by_cases e : i = nL
    · subst e
      refine ⟨nI 0, ?_⟩
      show isL D M2 (u' 3 i) (nI 0) (u' 4 i) (zC P' i) (fun q => u' 1 (zR P' i q))
      rw [e3n, e4n, h0]
      exact ⟨hob _ _ mr (Ne.symm (mne_none h4.1 hr)), Or.inl ⟨rfl, rfl⟩⟩
    · have hi2 : i < nL := by omega
      obtain ⟨mi, hri⟩ := h6 i hi2
      refine ⟨mi, ?_⟩
      show isL D M2 (u' 3 i) mi (u' 4 i) (zC P' i) (fun q => u' 1 (zR P' i q))
      rw [e3 i hi2, e4 i hi2, e1, ← (hs i e).ln.2.2.2.1]
      have h9 : isL D M2 (u 3 i) mi (u 4 i) (zC P i) (fun q => u 1 (zR P i q)) := by
        refine isL_ch hch (lin hri) (fun z => ?_) (fun hT hT3 z => ?_)
        · have h7 := L5a i hi2; rw [show u 3 i = u 0 1 from z, show u 5 (u 0 1) = 1 from L3] at h7; omega
        · have h7 : u 5 (u 4 i) = i + 2 := (L5 i hi2).2.2 hT; rw [show u 4 i = u 0 5 from z, show u 5 (u 0 5) = 1 from L4 hT3] at h7; omega
      refine isL_cg h9 (fun q _ => ?_)
      show u 1 (P.2.2 i q) = u 1 (P'.2.2 i q)
      rw [(hs i e).2.2 q]
  · refine ⟨?_, fun hT => ?_, ?_, fun _ => ?_, fun i hi => ?_⟩
    · show u' 5 (u' 0 0) = 0
      rw [e00, e5]; exact o _ _ L1 ⟨_, h3.1⟩
    · show u' 5 (u' 0 4) = 0
      have hT9 : u 0 4 ≠ rT0 D := by rw [← e04]; exact hT
      rw [e04, e5]; exact o _ _ (L2 hT9) (isL_in h3 hT9)
    · show u' 5 (u' 0 1) = 1
      rw [e01, e5]; exact o _ _ L3 ⟨_, h4.1⟩
    · show u' 5 (u' 0 5) = 1
      rw [e05, e5, if_neg (fun q => by rcases q with q | q; exact nba q.symm; exact nbr q.symm), if_pos rfl]
    · by_cases e : i = nL
      · subst e
        refine ⟨?_, ?_, fun hT => absurd e4n hT⟩
        · show u' 5 (u' 3 i) = i + 2
          rw [e3n, e5, if_pos (Or.inr rfl)]
        · show u' 5 (u' 2 i) = i + 2
          rw [e2n, e5, if_pos (Or.inl rfl)]
      · have hi2 : i < nL := by omega
        obtain ⟨mi, hri⟩ := h6 i hi2
        refine ⟨?_, ?_, fun hT => ?_⟩
        · show u' 5 (u' 3 i) = i + 2
          rw [e3 i hi2, e5]; exact o _ _ (L5a i hi2) ⟨_, hri.1⟩
        · show u' 5 (u' 2 i) = i + 2
          rw [e2 i hi2, e5]; exact o _ _ (L5b i hi2) ⟨_, hl i hi2⟩
        · show u' 5 (u' 4 i) = i + 2
          have hT9 : u 4 i ≠ rT0 D := by rw [← e4 i hi2]; exact hT
          rw [e4 i hi2, e5]; exact o _ _ ((L5 i hi2).2.2 hT9) (isL_in hri hT9)
  · have e : i = nL := by omega
    subst e
    obtain ⟨x8, x9, x10, x11, x12, x13, x14, x15, x16, hy⟩ := hy
    refine ⟨x8, x9, x10, x11, x12, x13, x14, x15, x16, ?_⟩
    show M2 (u' 2 i) = some (.inr (2, lu P' i (cpt P' u' i) (u' 3 i) x8 x9 x10 x11 x12 x13 x14 x15 x16))
    have e9 : cpt P' u' i = cpt P' u i := near_map (fun k hk => e2 k hk)
    rw [e2n, e3n, e9, ← hy]
    exact hob _ _ ma (Ne.symm (mne_none h4.1 ha))
  · show M2 (u' 0 2) = some (.inr (1, [.ref (u' 0 3), .int (nI (zBg P nL))]))
    rw [e02, e03]
    exact ob _ _ f1 (mne_ci f1 h4.1 (by decide))
  · show M2 (u' 0 3) = _
    rw [e03]
    refine har _ _ (in1 _ _ f2) ?_
    by_cases e : gbl u = rT0 D
    · exact Or.inr e
    · rcases h4.2 with h9 | ⟨cap, f9, h9, -⟩
      · exact absurd h9.2 e
      · exact Or.inl (mne f2 h9 (fun z => by have h := congrArg (fun q : ClassId × vp_A => q.2.2) (Sum.inl.inj z); cases h))
  · obtain ⟨q1, q2, -⟩ := zPre (P := P) (P' := P') (i := nL) (fun j hj => hs j (by omega))
    rw [← q1, ← q2]
    exact Nat.mod_eq_of_lt (zFl_lt hP0 nL (Nat.le_refl _))
