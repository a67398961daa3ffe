/-! two poems that agree on a line and on the first words, when the line has those alone -/
def zSam (n : Nat) (P P' : Poem) (i : Nat) : Prop := (∀ f w, w < n → P.1 f w = P'.1 f w) ∧ (∀ f, P.2.1 f i = P'.2.1 f i) ∧ (∀ q, P.2.2 i q = P'.2.2 i q) ∧ ∀ q, q < zC P i → zR P i q < n
theorem zW_agn {n : Nat} {P P' : Poem} (h : ∀ f w, w < n → P.1 f w = P'.1 f w) {w : Nat} (hw : w < n) : zS P w = zS P' w ∧ zT P w = zT P' w ∧ zV P w = zV P' w ∧ zE P w = zE P' w ∧ zO P w = zO P' w := ⟨h 0 w hw, h 1 w hw, h 2 w hw, h 3 w hw, h 4 w hw⟩
theorem wo_agn {n : Nat} {P P' : Poem} (h : ∀ f w, w < n → P.1 f w = P'.1 f w) {w : Nat} (hw : w < n) : wo P w = wo P' w := by
  obtain ⟨h1, h2, h3, h4, h5⟩ := zW_agn h hw
  unfold wo
  rw [h1, h2, h3, h4, h5]
theorem zOL_agn {n : Nat} {P P' : Poem} {i : Nat} (h : zSam n P P' i) : ∀ j, j ≤ zC P i → zOL P i j = zOL P' i j ∧ zOB P i j = zOB P' i j ∧ zOM P i j = zOM P' i j
  | 0, _ => ⟨rfl, rfl, rfl⟩
  | j + 1, hj => by
    obtain ⟨h1, h2, h3⟩ := zOL_agn h j (by omega)
    have hr : ∀ q, zR P i q = zR P' i q := h.2.2.1
    have b1 := h.2.2.2 j (by omega)
    have b2 := h.2.2.2 (j - 1) (by omega)
    have hm : zMelt P i j = zMelt P' i j := by
      unfold zMelt
      rw [(zW_agn h.1 b2).2.2.2.1, (zW_agn h.1 b1).2.2.2.2, hr, hr]
    obtain ⟨w1, w2, -⟩ := zW_agn h.1 b1
    refine ⟨?_, ?_, ?_⟩
    · rw [zOLs, zOLs, h1, hm, w1, hr]
    · rw [zOBs, zOBs, h1, h2, hm, w2, hr]
    · rw [zOMs, zOMs, h3, hm]
theorem zSam.ln {n : Nat} {P P' : Poem} {i : Nat} (h : zSam n P P' i) : zM P i = zM P' i ∧ zF P i = zF P' i ∧ zK P i = zK P' i ∧ zC P i = zC P' i ∧ zo P i = zo P' i ∧ zb P i = zb P' i ∧ zOM P i (zC P i) = zOM P' i (zC P' i) ∧ zRm P i = zRm P' i := by
  have h0 : zM P i = zM P' i := h.2.1 0
  have h1 : zF P i = zF P' i := h.2.1 1
  have h2 : zK P i = zK P' i := h.2.1 2
  have h3 : zC P i = zC P' i := h.2.1 3
  obtain ⟨a1, a2, a3⟩ := zOL_agn h (zC P i) (Nat.le_refl _)
  refine ⟨h0, h1, h2, h3, ?_, ?_, ?_, ?_⟩
  · unfold zo; rw [a1, h3]
  · unfold zb; rw [a2, h3]
  · rw [a3, h3]
  · unfold zRm; rw [h0, h1]
theorem zPren {n : Nat} {P P' : Poem} : ∀ {i : Nat}, (∀ j, j < i → zSam n P P' j) → zBg P i = zBg P' i ∧ zFl P i = zFl P' i ∧ zSt P i = zSt P' i
  | 0, _ => ⟨rfl, rfl, rfl⟩
  | i + 1, h => by
    obtain ⟨h1, h2, h3⟩ := zPren (i := i) (fun j hj => h j (by omega))
    obtain ⟨-, -, -, -, e1, e2, -, e3⟩ := (h i (by omega)).ln
    refine ⟨?_, ?_, ?_⟩
    · show zBg P i + zo P i = zBg P' i + zo P' i
      rw [h1, e1]
    · show (zFl P i ||| zb P i * 2 ^ zBg P i) = (zFl P' i ||| zb P' i * 2 ^ zBg P' i)
      rw [h1, h2, e2]
    · show zSt P i + min (zBg P i - zSt P i + zo P i) (zRm P i) = zSt P' i + min (zBg P' i - zSt P' i + zo P' i) (zRm P' i)
      rw [h1, h3, e1, e3]
theorem zRh_agn {n : Nat} {P P' : Poem} {i k : Nat} (hi : zSam n P P' i) (hk : zSam n P P' k) : zRh P i k = zRh P' i k := by
  have h1 := hi.ln.2.2.2.1
  have h2 := hk.ln.2.2.2.1
  have h3 : ∀ q, zR P i q = zR P' i q := hi.2.2.1
  have h4 : ∀ q, zR P k q = zR P' k q := hk.2.2.1
  unfold zRh
  rw [← h1, ← h2]
  by_cases h0 : zC P i = 0 ∨ zC P k = 0
  · rw [if_pos h0, if_pos h0]
  · rw [if_neg h0, if_neg h0]
    obtain ⟨a1, a2, a3, a4, a5⟩ := zW_agn hi.1 (hi.2.2.2 (zC P i - 1) (by omega))
    obtain ⟨b1, b2, b3, b4, b5⟩ := zW_agn hi.1 (hk.2.2.2 (zC P k - 1) (by omega))
    unfold zRhW
    rw [a1, a2, a3, a4, b1, b2, b3, b4, h3, h4]
theorem zScan_agn {n : Nat} {P P' : Poem} {i : Nat} (h : ∀ j, j ≤ i → zSam n P P' j) : zSt P i = zSt P' i ∧ zCa P i = zCa P' i ∧ zStay P i = zStay P' i ∧ zOv P i = zOv P' i ∧ zBits P i = zBits P' i ∧ zOff P i = zOff P' i ∧ zLack P i = zLack P' i ∧ zPaid P i = zPaid P' i ∧ zTax P i = zTax P' i := by
  obtain ⟨h1, h2, h3⟩ := zPren (n := n) (i := i) (fun j hj => h j (by omega))
  obtain ⟨-, h5, -⟩ := zPren (n := n) (i := i + 1) (fun j hj => h j (by omega))
  obtain ⟨m0, m1, m2, m3, e1, e2, -, e3⟩ := (h i (Nat.le_refl _)).ln
  have c1 : zCa P i = zCa P' i := by unfold zCa; rw [h1, h3]
  have c2 : zStay P i = zStay P' i := by unfold zStay; rw [c1, e1, e3]
  have c3 : zOv P i = zOv P' i := by unfold zOv; rw [c1, c2, e1]
  have c4 : zBits P i = zBits P' i := by unfold zBits; rw [h5, h3, c2]
  have c5 : zOff P i = zOff P' i := by unfold zOff; rw [m0, c4, c2]
  have c6 : zLack P i = zLack P' i := by unfold zLack; rw [e3, c2]
  have c7 : zPaid P i = zPaid P' i := by
    have hn : zNear P (zK P i) i = zNear P' (zK P' i) i := by rw [m2]; exact zNear_ag (fun j hj => (h j (by omega)).ln.2.2.1)
    unfold zPaid
    rw [← hn]
    cases hz : zNear P (zK P i) i with
    | none => rfl
    | some k => exact zRh_agn (h i (Nat.le_refl _)) (h k (by have := (zNear_lt hz).1; omega))
  refine ⟨h3, c1, c2, c3, c4, c5, c6, c7, ?_⟩
  unfold zTax
  rw [m3, m1, c4, c5, c6, c7]
theorem lo_agn {n : Nat} {P P' : Poem} {i : Nat} (h : ∀ j, j ≤ i → zSam n P P' j) (pt : Option Nat) (ro : Nat) : lo P i pt ro = lo P' i pt ro := by
  obtain ⟨a1, a2, a3, a4, a5, a6, a7, a8, a9⟩ := zScan_agn h
  obtain ⟨m0, m1, m2, m3, e1, e2, e4, e3⟩ := (h i (Nat.le_refl _)).ln
  unfold lo
  rw [a1, a2, a3, a4, a5, a6, a7, a8, a9, m0, m1, m2, e1, e2, e4]
/-- a new word -/
def zNewW (P : Poem) (n s t v e o : Nat) : Poem := (fun f w => if w = n then (if f = 0 then s else if f = 1 then t else if f = 2 then v else if f = 3 then e else o) else P.1 f w, P.2.1, P.2.2)
theorem zNewW_n (P : Poem) (n s t v e o : Nat) : zS (zNewW P n s t v e o) n = s ∧ zT (zNewW P n s t v e o) n = t ∧ zV (zNewW P n s t v e o) n = v ∧ zE (zNewW P n s t v e o) n = e ∧ zO (zNewW P n s t v e o) n = o := by
  unfold zS zT zV zE zO zNewW
  simp
theorem zNewW_o (P : Poem) (n s t v e o : Nat) {w : Nat} (h : w ≠ n) (f : Nat) : (zNewW P n s t v e o).1 f w = P.1 f w := if_neg h
theorem zNewW_sam {P : Poem} {nW nL : Nat} (hP : zOk P nW nL) (s t v e o : Nat) {i : Nat} (hi : i < nL) : zSam nW P (zNewW P nW s t v e o) i := ⟨fun f w hw => (zNewW_o P nW s t v e o (by omega) f).symm, fun _ => rfl, fun _ => rfl, fun q hq => (hP.2.2 i hi).2.2.2.2.2 q hq⟩
theorem zNewW_ok {P : Poem} {nW nL : Nat} (hP : zOk P nW nL) (hn : nW < 30) {s t v e o : Nat} (h1 : 1 ≤ s) (h2 : s ≤ 4) (h3 : t < 2 ^ s) (h4 : v < 10) (h5 : e < 10) (h6 : o < 2) : zOk (zNewW P nW s t v e o) (nW + 1) nL := by
  refine ⟨⟨by omega, fun w hw => ?_⟩, hP.2.1, fun i hi => ?_⟩
  · by_cases hwn : w = nW
    · subst hwn
      obtain ⟨a, b, c, d, f⟩ := zNewW_n P w s t v e o
      rw [a, b, c, d, f]
      exact ⟨h1, h2, h3, h4, h5, h6⟩
    · obtain ⟨a, b, c, d, f⟩ := zW_agn (n := nW) (P := P) (P' := zNewW P nW s t v e o) (fun f w hw => (zNewW_o P nW s t v e o (by omega) f).symm) (w := w) (by omega)
      rw [← a, ← b, ← c, ← d, ← f]
      exact hP.1.2 w (by omega)
  · obtain ⟨a, b, c, d, f, g⟩ := hP.2.2 i hi
    exact ⟨a, b, c, d, f, fun j hj => Nat.lt_succ_of_lt (g j hj)⟩
