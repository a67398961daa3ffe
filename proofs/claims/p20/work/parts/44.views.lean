/-- the class's memory, seen by what stays: u without the rows' own arrays -/
def cV (D : va_G) (M : rMem) (x : Nat) (P : Poem) (nW nL : Nat) (u : Nat → Nat → Nat) : Prop := ∃ u1, ueq u u1 ∧ cR D M x P nW nL u1
def cO (D : va_G) (M : rMem) (x : Nat) (P : Poem) (nW nL : Nat) (u : Nat → Nat → Nat) : Prop :=
  zOk P nW nL ∧ M x = some (.inr (4, [.ref (gw u), .ref (gl u), .ref (gf u)])) ∧ isL2 D M (gw u) (gbw u) nW (wa u) ∧ isL2 D M (gl u) (gbl u) nL (la u) ∧
  (∀ w, w < nW → M (wa u w) = some (.inr (3, wo P w))) ∧ (∀ i, i < nL → ∃ bk, isL2 D M (ra u i) bk (zC P i) (fun j => wa u (zR P i j))) ∧ (∀ i, i < nL → lC M P u i) ∧ cF D M u (zFl P nL) (zBg P nL)
theorem cV_see {D : va_G} {M : rMem} {x : Nat} {P : Poem} {nW nL : Nat} {u : Nat → Nat → Nat} (h : cV D M x P nW nL u) : cO D M x P nW nL u := by
  obtain ⟨u1, hu, ⟨h1, h2, h3, h4, h5, h6, -⟩, h7, h8⟩ := h
  have e0 : ∀ b, u1 0 b = u 0 b := fun b => hu 0 b (by decide) (by decide)
  have e1 : u1 1 = u 1 := funext fun b => hu 1 b (by decide) (by decide)
  have e2 : u1 2 = u 2 := funext fun b => hu 2 b (by decide) (by decide)
  have e3 : u1 3 = u 3 := funext fun b => hu 3 b (by decide) (by decide)
  unfold gw gl gf at h2
  unfold gw gbw wa at h3
  unfold gl gbl la at h4
  unfold wa at h5
  unfold ra wa at h6
  rw [e0, e0, e0] at h2
  rw [e0, e0, e1] at h3
  rw [e0, e0, e2] at h4
  rw [e1] at h5
  rw [e1, e3] at h6
  refine ⟨h1, h2, h3, h4, h5, fun i hi => ⟨rb u1 i, h6 i hi⟩, fun i hi => ?_, ?_⟩
  · have h9 := h7 i hi
    unfold lC cpt la ra at h9 ⊢
    rw [e2, e3] at h9
    exact h9
  · unfold cF gf ga at h8 ⊢
    rw [e0, e0] at h8
    exact h8
theorem c_nwV (l : Launch) (D : va_G) (M : rMem) (x : Nat) (P : Poem) (nW nL : Nat) (u : Nat → Nat → Nat) (w : Nat) (hV : cV D M x P nW nL u) (h : w < nW) : CMq l D yX3_neededWord cX3_neededWord 2 (some (.object "RhymeTax$Word")) 4 0 0 M [.ref x, .int (nI w)] (fun r M' => r = some (wa u w) ∧ M' = M) := by
  obtain ⟨u1, hu, hR⟩ := hV
  have e := c_nw l D M x P nW nL u1 w hR h
  rw [show wa u1 w = wa u w from hu 1 w (by decide) (by decide)] at e
  exact e
theorem c_nlV (l : Launch) (D : va_G) (M : rMem) (x : Nat) (P : Poem) (nW nL : Nat) (u : Nat → Nat → Nat) (i : Nat) (hV : cV D M x P nW nL u) (h : i < nL) : CMq l D yX3_neededLine cX3_neededLine 2 (some (.object "RhymeTax$Line")) 4 0 0 M [.ref x, .int (nI i)] (fun r M' => r = some (la u i) ∧ M' = M) := by
  obtain ⟨u1, hu, hR⟩ := hV
  have e := c_nl l D M x P nW nL u1 i hR h
  rw [show la u1 i = la u i from hu 2 i (by decide) (by decide)] at e
  exact e
theorem c_nwoV (l : Launch) (D : va_G) (M : rMem) (x : Nat) (P : Poem) (nW nL : Nat) (u : Nat → Nat → Nat) (i p : Nat) (hV : cV D M x P nW nL u) (h : i < nL) (hp : p < zC P i) : CMq l D yX3_neededWordOf cX3_neededWordOf 2 (some (.object "RhymeTax$Word")) 4 0 0 M [.ref (la u i), .int (nI p)] (fun r M' => r = some (wa u (zR P i p)) ∧ M' = M) := by
  obtain ⟨u1, hu, hR⟩ := hV
  have e := c_nwo l D M x P nW nL u1 i p hR h hp
  rw [show wa u1 (zR P i p) = wa u (zR P i p) from hu 1 _ (by decide) (by decide), show la u1 i = la u i from hu 2 i (by decide) (by decide)] at e
  exact e
theorem c_allV (l : Launch) (D : va_G) (M : rMem) (x : Nat) (P : Poem) (nW nL : Nat) (u : Nat → Nat → Nat) (hV : cV D M x P nW nL u) : CMi l D yX3_allTaxes cX3_allTaxes 3 (some .int) 4 0 0 M [.ref x] (fun r M' => r = nI (zAll P nL) ∧ M' = M) := by
  obtain ⟨u1, hu, hR⟩ := hV
  exact c_all l D M x P nW nL u1 hR
theorem c_pwBV (l : Launch) (D : va_G) (M : rMem) (x : Nat) (P : Poem) (nW nL : Nat) (u : Nat → Nat → Nat) (i p w : Nat) (hV : cV D M x P nW nL u) (hi : i < nL) (hw : w < nW) (hp : p < zC P i) : CMv l D yX3_replaceWord cX3_replaceWord 4 8 0 0 M [.ref x, .int (nI i), .int (nI p), .ref (wa u w)] (fun M' => cV D M' x (zPut P i p w) nW nL u) := by
  obtain ⟨u1, hu, hR⟩ := hV
  have e := c_pwB l D M x P nW nL u1 i p w hR hi hw hp
  rw [show wa u1 w = wa u w from hu 1 w (by decide) (by decide)] at e
  exact CMv_imp e (fun M' h => by obtain ⟨u2, h1, h2⟩ := h; exact ⟨u2, hu.tr h1, h2⟩)
/-! what would be -/
def zTry (P : Poem) (i p w nL : Nat) : Nat := zAll (zPut P i p w) nL
/-- the least taxes among the first words, and the word -/
def zBst (P : Poem) (i p nL b0 : Nat) : Nat → Nat × Nat
  | 0 => (2147483647, b0)
  | w + 1 => if zTry P i p w nL < (zBst P i p nL b0 w).1 then (zTry P i p w nL, w) else zBst P i p nL b0 w
/-- what the class keeps as the least till now: 0 ahead of the first word -/
def zLs (P : Poem) (i p nL b0 : Nat) : Nat → Nat
  | 0 => 0
  | w + 1 => (zBst P i p nL b0 (w + 1)).1
theorem zLs_ne (P : Poem) (i p nL b0 : Nat) : ∀ w, w ≠ 0 → zLs P i p nL b0 w = (zBst P i p nL b0 w).1
  | 0, h => absurd rfl h
  | _ + 1, _ => rfl
theorem zLs_le (P : Poem) (i p nL b0 : Nat) : ∀ w, zLs P i p nL b0 w ≤ (zBst P i p nL b0 w).1
  | 0 => Nat.zero_le _
  | _ + 1 => Nat.le_refl _
def zBest (P : Poem) (i p nL nW : Nat) : Nat := (zBst P i p nL (zR P i p) nW).2
def zWs (P : Poem) (nW nL i p : Nat) (s : Nat × Int32) : Nat × Int32 := if zTry P i p (zBest P i p nL nW) nL < s.1 then (zTry P i p (zBest P i p nL nW) nL, nI (10 * i + p)) else s
def zWi (P : Poem) (nW nL i : Nat) (s : Nat × Int32) : Nat → Nat × Int32
  | 0 => s
  | p + 1 => zWs P nW nL i p (zWi P nW nL i s p)
def zWo (P : Poem) (nW nL : Nat) : Nat → Nat × Int32
  | 0 => (zAll P nL, -1)
  | i + 1 => zWi P nW nL i (zWo P nW nL i) (zC P i)
theorem zPut_put (P : Poem) (i p w w2 : Nat) (hp : p < zC P i) : zPut (zPut P i p w) i p w2 = zPut P i p w2 := by
  have hc : zC (zPut P i p w) i = zC P i := zPut_b hp
  refine Prod.ext rfl (Prod.ext (funext fun f => funext fun k => ?_) (funext fun k => funext fun j => ?_))
  · show (if f = 3 ∧ k = i ∧ p = zC (zPut P i p w) i then p + 1 else (if f = 3 ∧ k = i ∧ p = zC P i then p + 1 else P.2.1 f k)) = (if f = 3 ∧ k = i ∧ p = zC P i then p + 1 else P.2.1 f k)
    rw [if_neg (fun z => by have h2 := z.2.2; rw [hc] at h2; omega)]
  · show (if k = i ∧ j = p then w2 else (if k = i ∧ j = p then w else P.2.2 k j)) = (if k = i ∧ j = p then w2 else P.2.2 k j)
    by_cases h : k = i ∧ j = p
    · rw [if_pos h, if_pos h]
    · rw [if_neg h, if_neg h, if_neg h]
theorem zPut_same (P : Poem) (i p : Nat) (hp : p < zC P i) : zPut P i p (zR P i p) = P := by
  unfold zPut
  refine Prod.ext rfl (Prod.ext ?_ ?_)
  · funext f k
    dsimp only
    rw [if_neg (fun z => by have h2 : p = zC P i := z.2.2; omega)]
  · funext k j
    dsimp only
    by_cases h : k = i ∧ j = p
    · rw [if_pos h, h.1, h.2]
      rfl
    · rw [if_neg h]
theorem zTry_le {P : Poem} {nW nL i p w : Nat} (hP : zOk P nW nL) (hi : i < nL) (hp : p < zC P i) (hw : w < nW) : zTry P i p w nL ≤ 2000 := by
  have h1 : zOk (zPut P i p w) nW nL := ⟨hP.1, hP.2.1, fun k hk => zPut_ok (hP.2.2 i hi) (hP.2.2 k hk) hw (Nat.le_of_lt hp) (by have := (hP.2.2 i hi).2.2.2.2.1; omega)⟩
  have h2 := zAll_le h1 nL (Nat.le_refl _)
  have h3 := hP.2.1
  unfold zTry
  omega
theorem zBst_le {P : Poem} {nW nL i p b0 : Nat} (hP : zOk P nW nL) (hi : i < nL) (hp : p < zC P i) (hb : b0 < nW) : ∀ w, w ≤ nW → (zBst P i p nL b0 w).1 < 2 ^ 31 ∧ (zBst P i p nL b0 w).2 < nW
  | 0, _ => ⟨show 2147483647 < 2 ^ 31 by decide, hb⟩
  | w + 1, h => by
    obtain ⟨h1, h2⟩ := zBst_le hP hi hp hb w (by omega)
    have h3 := zTry_le hP hi hp (w := w) (by omega)
    unfold zBst
    split
    · exact ⟨by dsimp only; omega, by dsimp only; omega⟩
    · exact ⟨h1, h2⟩
