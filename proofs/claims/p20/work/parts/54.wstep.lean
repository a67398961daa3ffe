theorem mset_in {M : rMem} {a : Nat} {e : va_E} (ha : M a = none) {b : Nat} {y : va_E} (h : M b = some y) : mset M a e b = some y := mset_keep h (mne_none h ha)
theorem mset_out {M : rMem} {a : Nat} {e : va_E} {b : Nat} (h : mset M a e b = none) : M b = none ∧ b ≠ a := by
  by_cases e2 : b = a
  · subst e2
    rw [mset_eq] at h
    cases h
  · refine ⟨?_, e2⟩
    have h3 : mset M a e b = M b := by unfold mset; exact if_neg e2
    rw [← h3]; exact h
theorem isL_bk {D : va_G} {M : rMem} {a : Nat} {md : Int32} {bk n : Nat} {g : Nat → Nat} (h : isL D M a md bk n g) (hn : 0 < n) : bk ≠ rT0 D ∧ ∃ y, M bk = some (.inl y) := by
  rcases h.2 with h3 | ⟨cap, f, h3, h4, -⟩
  · exact absurd h3.1 (by omega)
  · exact ⟨h4, _, h3⟩
/-- a word has been added -/
theorem word_step {D : va_G} {M M1 M2 : rMem} {x : Nat} {P P' : Poem} {nW nL : Nat} {u : Nat → Nat → Nat} {a : Nat} (hR : cR D M x P nW nL u) (ha : M a = none) (hP : zOk P' (nW + 1) nL) (hs : ∀ i, i < nL → zSam nW P P' i) (hb : ∀ f w, w < nW → P.1 f w = P'.1 f w)
    (hM : M1 = mset M a (.inr (3, wo P' nW))) (hc : lCh D M1 M2 (gw u) (gbw u) (nW + 1) (va_up (wa u) nW a)) : ∃ u', cR D M2 x P' (nW + 1) nL u' := by
  obtain ⟨hS, hl, ff, f1, f2, f3⟩ := hR
  obtain ⟨hP0, hx, ⟨m3, h3⟩, ⟨m4, h4⟩, h5, h6, L1, L2, L3, L4, L5⟩ := hS
  subst hM
  have hch := hc
  obtain ⟨⟨md2, bk2, hL2, hb2⟩, hob, har⟩ := hc
  have hT2 : bk2 ≠ rT0 D := (isL_bk hL2 (by omega)).1
  have hL1 : isL D (mset M a (.inr (3, wo P' nW))) (gw u) m3 (gbw u) nW (wa u) := isL_new h3 ha
  have ob : ∀ b y, M b = some (.inr y) → b ≠ gw u → M2 b = some (.inr y) := fun b y h hn => hob b y (mset_in ha h) hn
  -- who is not the new array
  have o : ∀ b c, u 5 b = c → (c = 0 ∨ ∃ y, M b = some y) → (if b = bk2 then 0 else u 5 b) = c := fun b c h h2 => by
    by_cases e : b = bk2
    · rw [if_pos e]
      rcases h2 with h2 | ⟨y, h2⟩
      · exact h2.symm
      · rcases hb2 with hb2 | hb2
        · rw [e, hb2] at h
          have := L2 (by rw [← hb2]; exact hT2)
          rw [← this]; exact h
        · rw [← e] at hb2
          rw [(mset_out hb2).1] at h2
          cases h2
    · rw [if_neg e]; exact h
  obtain ⟨u', e00, e01, e02, e03, e04, e05, e1, e1n, e2, e3, e4, e5⟩ : ∃ u' : Nat → Nat → Nat, u' 0 0 = u 0 0 ∧ u' 0 1 = u 0 1 ∧ u' 0 2 = u 0 2 ∧ u' 0 3 = u 0 3 ∧ u' 0 4 = bk2 ∧ u' 0 5 = u 0 5 ∧ (∀ w, w < nW → u' 1 w = u 1 w) ∧ u' 1 nW = a ∧ u' 2 = u 2 ∧ u' 3 = u 3 ∧ u' 4 = u 4 ∧ ∀ b, u' 5 b = if b = bk2 then 0 else u 5 b := by
    refine ⟨fun p q => if p = 1 ∧ q = nW then a else if p = 0 ∧ q = 4 then bk2 else if p = 5 ∧ q = bk2 then 0 else u p q, ?_, ?_, ?_, ?_, ?_, ?_, fun w hw => ?_, ?_, ?_, ?_, ?_, fun b => ?_⟩
    · simp
    · simp
    · simp
    · simp
    · simp
    · simp
    · simp [show w ≠ nW by omega]
    · simp
    · funext b; simp
    · funext b; simp
    · funext b; simp
    · simp
  have L5a : ∀ i, i < nL → u 5 (u 3 i) = i + 2 := fun i hi => (L5 i hi).1
  have L5b : ∀ i, i < nL → u 5 (u 2 i) = i + 2 := fun i hi => (L5 i hi).2.1
  have egw : ow u (gw u) = 0 := L1
  refine ⟨u', ⟨hP, ?_, ⟨md2, ?_⟩, ⟨m4, ?_⟩, fun w hwn => ?_, fun i hi => ?_, ?_⟩, fun i hi => ?_, ff, ?_, ?_, ?_⟩
  · show M2 x = some (.inr (4, [.ref (u' 0 0), .ref (u' 0 1), .ref (u' 0 2)]))
    rw [e00, e01, e02]
    exact ob _ _ hx (mne_ci hx h3.1 (by decide))
  · show isL D M2 (u' 0 0) md2 (u' 0 4) (nW + 1) (u' 1)
    rw [e00, e04]
    refine isL_cg hL2 (fun j hj => ?_)
    unfold va_up
    by_cases e : j = nW
    · rw [if_pos e, e, e1n]
    · rw [if_neg e, e1 j (by omega)]
  · show isL D M2 (u' 0 1) m4 (u' 0 5) nL (u' 2)
    rw [e01, e05, e2]
    refine isL_ch hch (isL_new h4 ha) (fun z => ?_) (fun hT hT3 z => ?_)
    · have h7 : u 5 (u 0 1) = 1 := L3; rw [show u 0 1 = u 0 0 from z, show u 5 (u 0 0) = 0 from L1] at h7; omega
    · have h7 : u 5 (u 0 5) = 1 := L4 hT; rw [show u 0 5 = u 0 4 from z, show u 5 (u 0 4) = 0 from L2 hT3] at h7; omega
  · show M2 (u' 1 w) = _
    by_cases e : w = nW
    · rw [e, e1n]
      exact hob _ _ mset_eq (Ne.symm (mne_none h3.1 ha))
    · rw [e1 w (by omega), ← wo_agn hb (show w < nW by omega)]
      exact ob _ _ (h5 w (by omega)) (mne_ci (h5 w (by omega)) h3.1 (by decide))
  · obtain ⟨mi, hri⟩ := h6 i hi
    refine ⟨mi, ?_⟩
    show isL D M2 (u' 3 i) mi (u' 4 i) (zC P' i) (fun q => u' 1 (zR P' i q))
    rw [e3, e4, ← (hs i hi).ln.2.2.2.1]
    have h9 : isL D M2 (u 3 i) mi (u 4 i) (zC P i) (fun q => u 1 (zR P i q)) := by
      refine isL_ch hch (isL_new hri ha) (fun z => ?_) (fun hT hT3 z => ?_)
      · have h7 := L5a i hi; rw [show u 3 i = u 0 0 from z, show u 5 (u 0 0) = 0 from L1] at h7; omega
      · have h7 : u 5 (u 4 i) = i + 2 := (L5 i hi).2.2 hT; rw [show u 4 i = u 0 4 from z, show u 5 (u 0 4) = 0 from L2 hT3] at h7; omega
    refine isL_cg h9 (fun q hq => ?_)
    rw [show zR P' i q = zR P i q from ((hs i hi).2.2.1 q).symm, e1 _ ((hs i hi).2.2.2 q hq)]
  · refine ⟨?_, fun _ => ?_, ?_, fun hT => ?_, fun i hi => ⟨?_, ?_, fun hT => ?_⟩⟩
    · show u' 5 (u' 0 0) = 0
      rw [e00, e5]; exact o _ _ L1 (Or.inl rfl)
    · show u' 5 (u' 0 4) = 0
      rw [e04, e5, if_pos rfl]
    · show u' 5 (u' 0 1) = 1
      rw [e01, e5]; exact o _ _ L3 (Or.inr ⟨_, h4.1⟩)
    · show u' 5 (u' 0 5) = 1
      have hT9 : u 0 5 ≠ rT0 D := by rw [← e05]; exact hT
      rw [e05, e5]; exact o _ _ (L4 hT9) (Or.inr (isL_in h4 hT9))
    · show u' 5 (u' 3 i) = i + 2
      obtain ⟨mi, hri⟩ := h6 i hi
      rw [e3, e5]; exact o _ _ (L5a i hi) (Or.inr ⟨_, hri.1⟩)
    · show u' 5 (u' 2 i) = i + 2
      rw [e2, e5]; exact o _ _ (L5b i hi) (Or.inr ⟨_, hl i hi⟩)
    · show u' 5 (u' 4 i) = i + 2
      obtain ⟨mi, hri⟩ := h6 i hi
      have hT9 : u 4 i ≠ rT0 D := by rw [← e4]; exact hT
      rw [e4, e5]; exact o _ _ ((L5 i hi).2.2 hT9) (Or.inr (isL_in hri hT9))
  · show M2 (u' 2 i) = some (.inr (2, lo P' i ((zNear P' (zK P' i) i).map (u' 2)) (u' 3 i)))
    rw [e2, e3, ← lo_agn (fun j hj => hs j (by omega)), ← (hs i hi).ln.2.2.1, ← zNear_ag (P := P) (P' := P') (fun j hj => (hs j (by omega)).ln.2.2.1)]
    exact ob _ _ (hl i hi) (mne_ci (hl i hi) h3.1 (by decide))
  · show M2 (u' 0 2) = some (.inr (1, [.ref (u' 0 3), .int (nI (zBg P' nL))]))
    rw [e02, e03, ← (zPren (n := nW) (i := nL) (fun j hj => hs j hj)).1]
    exact ob _ _ f1 (mne_ci f1 h3.1 (by decide))
  · show M2 (u' 0 3) = _
    rw [e03]
    refine har _ _ (mset_in ha f2) ?_
    by_cases e : gbw u = rT0 D
    · exact Or.inr e
    · rcases h3.2 with h9 | ⟨cap, f9, h9, -⟩
      · exact absurd h9.2 e
      · exact Or.inl (mne f2 h9 (fun z => by have h := congrArg (fun q : ClassId × vp_A => q.2.2) (Sum.inl.inj z); cases h))
  · intro q hq
    rw [← (zPren (n := nW) (i := nL) (fun j hj => hs j hj)).2.1]
    exact f3 q hq
