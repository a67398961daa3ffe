/-! a line with another metre -/
def zMet (P : Poem) (i o : Nat) : Poem := (P.1, fun f k => if f = 0 ∧ k = i then o else P.2.1 f k, P.2.2)
theorem zMet_f (P : Poem) (i o f k : Nat) (h : f ≠ 0 ∨ k ≠ i) : (zMet P i o).2.1 f k = P.2.1 f k := if_neg (fun z => by rcases h with h | h; exact h z.1; exact h z.2)
theorem zMet_m (P : Poem) (i o : Nat) : zM (zMet P i o) i = o := if_pos ⟨rfl, rfl⟩
theorem zMet_c (P : Poem) (i o k : Nat) : zF (zMet P i o) k = zF P k ∧ zK (zMet P i o) k = zK P k ∧ zC (zMet P i o) k = zC P k := ⟨zMet_f P i o 1 k (Or.inl (by decide)), zMet_f P i o 2 k (Or.inl (by decide)), zMet_f P i o 3 k (Or.inl (by decide))⟩
theorem zMet_same (P : Poem) (i : Nat) : zMet P i (zM P i) = P := by
  refine Prod.ext rfl (Prod.ext (funext fun f => funext fun k => ?_) rfl)
  show (if f = 0 ∧ k = i then P.2.1 0 i else P.2.1 f k) = P.2.1 f k
  by_cases c : f = 0 ∧ k = i
  · rw [if_pos c, c.1, c.2]
  · rw [if_neg c]
theorem zMet_met (P : Poem) (i q o : Nat) : zMet (zMet P i q) i o = zMet P i o := by
  refine Prod.ext rfl (Prod.ext (funext fun f => funext fun k => ?_) rfl)
  show (if f = 0 ∧ k = i then o else if f = 0 ∧ k = i then q else P.2.1 f k) = if f = 0 ∧ k = i then o else P.2.1 f k
  by_cases c : f = 0 ∧ k = i
  · rw [if_pos c, if_pos c]
  · rw [if_neg c, if_neg c, if_neg c]
theorem zMet_ok {P : Poem} {nW nL i o : Nat} (hP : zOk P nW nL) (ho : o < 4) : zOk (zMet P i o) nW nL := by
  refine ⟨hP.1, hP.2.1, fun k hk => ?_⟩
  have h := hP.2.2 k hk
  have h0 : zM (zMet P i o) k < 4 := by
    by_cases c : k = i
    · rw [c, zMet_m]; exact ho
    · rw [show zM (zMet P i o) k = zM P k from zMet_f P i o 0 k (Or.inr c)]; exact h.1
  obtain ⟨e1, e2, e3⟩ := zMet_c P i o k
  unfold zLok at h ⊢
  rw [e1, e2, e3]
  exact ⟨h0, h.2⟩
theorem zMet_sam (P : Poem) (i o : Nat) {j : Nat} (h : j ≠ i) : zSame P (zMet P i o) j := ⟨rfl, fun f => (zMet_f P i o f j (Or.inr h)).symm, fun _ => rfl⟩
theorem zMet_own (P : Poem) (i o : Nat) : zo (zMet P i o) i = zo P i ∧ zb (zMet P i o) i = zb P i := by
  obtain ⟨a1, a2, a3⟩ := zOL_ag (P := P) (P' := zMet P i o) (i := i) rfl (fun _ => rfl) (zC P i)
  obtain ⟨e1, e2, e3⟩ := zMet_c P i o i
  unfold zo zb
  rw [e3, ← a1, ← a2]
  exact ⟨rfl, rfl⟩
theorem zCut {N B s c : Nat} (h : s + c ≤ B) : N % 2 ^ B / 2 ^ s % 2 ^ c = N / 2 ^ s % 2 ^ c := by
  apply Nat.eq_of_testBit_eq
  intro q
  rw [tb_mod, tb_mod, tb_div, tb_div, tb_mod]
  by_cases c : q < c
  · rw [decide_eq_true (show q + s < B by omega), Bool.true_and]
  · rw [decide_eq_false c]
    rfl
theorem zMet_flt {P : Poem} {nW nL i o : Nat} (hP : zOk P nW nL) (hi : i < nL) : zOff (zMet P i o) i + zLack (zMet P i o) i = zFlt P nL i o := by
  obtain ⟨b1, b2, b3⟩ := zPre (P := P) (P' := zMet P i o) (i := i) (fun j hj => zMet_sam P i o (by omega))
  obtain ⟨o1, o2⟩ := zMet_own P i o
  have hc : zCa (zMet P i o) i = zCa P i := by unfold zCa; rw [← b1, ← b3]
  have hr : zRm (zMet P i o) i = rFoot o * zF P i := by unfold zRm; rw [zMet_m, (zMet_c P i o i).1]
  have hs : zStay (zMet P i o) i = min (zCa P i + zo P i) (rFoot o * zF P i) := by unfold zStay; rw [hc, o1, hr]
  have hf : zFl (zMet P i o) (i + 1) = zFl P (i + 1) := by
    show (zFl (zMet P i o) i ||| zb (zMet P i o) i * 2 ^ zBg (zMet P i o) i) = (zFl P i ||| zb P i * 2 ^ zBg P i)
    rw [← b2, o2, ← b1]
  have hb : zBits (zMet P i o) i = zFl P nL / 2 ^ zSt P i % 2 ^ min (zCa P i + zo P i) (rFoot o * zF P i) := by
    unfold zBits
    rw [hf, hs, ← b3, ← zFl_pre hP (i := i + 1) (j := nL) hi (Nat.le_refl _)]
    refine zCut ?_
    have h1 := zBg_eq P i
    have h2 : zBg P (i + 1) = zBg P i + zo P i := rfl
    have h3 : min (zCa P i + zo P i) (rFoot o * zF P i) ≤ zCa P i + zo P i := Nat.min_le_left _ _
    omega
  unfold zOff zLack zFlt
  rw [zMet_m, hb, hs, hr]
  exact (Nat.add_sub_assoc (Nat.min_le_right _ _) _).symm
theorem mB_met {P : Poem} {nW nL i o : Nat} {F : Nat → Nat → Int32} (h : mB P nW nL F) : mB (zMet P i o) nW nL (sf F 5 (upd (F 5) i (nI o))) := by
  obtain ⟨h1, h2, h3, h4, h5⟩ := h
  refine ⟨fun w hw => h1 w hw, fun q hq => ?_, fun q hq => ?_, fun q hq hq2 => h4 q hq hq2, fun q hq j hj => ?_⟩
  · have h := h2 q hq
    show upd (F 5) i (nI o) q = nI (zM (zMet P i o) q) ∧ F 6 q = nI (zF (zMet P i o) q) ∧ F 7 q = nI (zK (zMet P i o) q)
    rw [(zMet_c P i o q).1, (zMet_c P i o q).2.1]
    refine ⟨?_, h.2⟩
    by_cases c : q = i
    · rw [c, upd_eq, zMet_m]
    · rw [upd_ne c, h.1]
      exact congrArg nI (zMet_f P i o 0 q (Or.inr c)).symm
  · show F 8 q = _
    rw [(zMet_c P i o q).2.2]
    exact h3 q hq
  · rw [(zMet_c P i o q).2.2] at hj
    exact h5 q hq j hj
def zSc2 (P : Poem) (nL i : Nat) : Nat → Nat × Nat
  | 0 => (2147483647, 0)
  | o + 1 => if zFlt P nL i o < (zSc2 P nL i o).1 then (zFlt P nL i o, o) else zSc2 P nL i o
theorem zSc2_s {P : Poem} {nW nL i : Nat} (hi : zLok P nW i) : ∀ m, zSc2 P nL i (m + 1) = zScn P nL i m
  | 0 => by
    have h := zFlt_le hi nL 0
    show (if zFlt P nL i 0 < 2147483647 then (zFlt P nL i 0, 0) else (2147483647, 0)) = (zFlt P nL i 0, 0)
    rw [if_pos (by omega)]
  | m + 1 => by
    show (if zFlt P nL i (m + 1) < (zSc2 P nL i (m + 1)).1 then (zFlt P nL i (m + 1), m + 1) else zSc2 P nL i (m + 1)) = (if zFlt P nL i (m + 1) < (zScn P nL i m).1 then (zFlt P nL i (m + 1), m + 1) else zScn P nL i m)
    rw [zSc2_s hi m]
theorem zSc2_b {P : Poem} {nW nL i : Nat} (hi : zLok P nW i) : ∀ o, (zSc2 P nL i o).1 ≤ 2147483647 ∧ (zSc2 P nL i o).2 ≤ o
  | 0 => ⟨Nat.le_refl _, Nat.le_refl _⟩
  | o + 1 => by
    obtain ⟨h1, h2⟩ := zSc2_b hi (nL := nL) o
    have h := zFlt_le hi nL o
    unfold zSc2
    split
    · exact ⟨by dsimp only; omega, Nat.le_succ _⟩
    · exact ⟨h1, by omega⟩
theorem zBst_eq {P : Poem} {nW nL i p b0 : Nat} (hP : zOk P nW nL) (hi : i < nL) (hp : p < zC P i) : ∀ w, 0 < w → w ≤ nW → (zBst P i p nL b0 w).1 = zTry P i p (zBst P i p nL b0 w).2 nL
  | 0, h, _ => absurd h (Nat.lt_irrefl _)
  | w + 1, _, h => by
    have h3 := zTry_le hP hi hp (w := w) (by omega)
    unfold zBst
    split
    · rfl
    · rename_i h4
      rcases Nat.eq_zero_or_pos w with h5 | h5
      · subst h5
        exact absurd (show zTry P i p 0 nL < 2147483647 by omega) h4
      · exact zBst_eq hP hi hp w h5 (by omega)
def zIn (P : Poem) (nL k i b0 : Nat) (s : Nat × Int32) (w : Nat) : Nat × Int32 := if (zBst P k i nL b0 w).1 < s.1 then ((zBst P k i nL b0 w).1, nI (10 * k + i)) else s
theorem zIn_0 {P : Poem} {nL k i b0 : Nat} {s : Nat × Int32} (h : s.1 ≤ 2147483647) : zIn P nL k i b0 s 0 = s := by
  unfold zIn
  rw [if_neg (by show ¬ 2147483647 < s.1; omega)]
theorem zIn_t {P : Poem} {nL k i b0 : Nat} {s : Nat × Int32} {w : Nat} (h : zTry P k i w nL < (zIn P nL k i b0 s w).1) : zIn P nL k i b0 s (w + 1) = (zTry P k i w nL, nI (10 * k + i)) := by
  have h2 : zTry P k i w nL < (zBst P k i nL b0 w).1 ∧ zTry P k i w nL < s.1 := by
    unfold zIn at h
    split at h
    · exact ⟨h, by dsimp only at h; omega⟩
    · exact ⟨by omega, h⟩
  unfold zIn
  rw [show zBst P k i nL b0 (w + 1) = (zTry P k i w nL, w) from if_pos h2.1]
  exact if_pos h2.2
theorem zIn_f {P : Poem} {nL k i b0 : Nat} {s : Nat × Int32} {w : Nat} (h : (zIn P nL k i b0 s w).1 ≤ zTry P k i w nL) : zIn P nL k i b0 s (w + 1) = zIn P nL k i b0 s w := by
  by_cases c : zTry P k i w nL < (zBst P k i nL b0 w).1
  · have e : zBst P k i nL b0 (w + 1) = (zTry P k i w nL, w) := if_pos c
    unfold zIn at h ⊢
    rw [e]
    split at h
    · dsimp only at h; omega
    · rename_i h4
      rw [if_neg (by show ¬ zTry P k i w nL < s.1; omega), if_neg h4]
  · have e : zBst P k i nL b0 (w + 1) = zBst P k i nL b0 w := if_neg c
    unfold zIn
    rw [e]
theorem zIn_n {P : Poem} {nW nL k i : Nat} {s : Nat × Int32} (hP : zOk P nW nL) (hk : k < nL) (hi : i < zC P k) (h0 : 0 < nW) : zIn P nL k i (zR P k i) s nW = zWs P nW nL k i s := by
  have e := zBst_eq hP hk hi (b0 := zR P k i) nW h0 (Nat.le_refl _)
  unfold zIn zWs
  rw [e]
  rfl
theorem zIn_le {P : Poem} {nL k i b0 : Nat} {s : Nat × Int32} (w : Nat) : (zIn P nL k i b0 s w).1 ≤ s.1 := by
  unfold zIn
  split
  · dsimp only; omega
  · exact Nat.le_refl _
