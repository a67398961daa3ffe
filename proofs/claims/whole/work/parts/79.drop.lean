theorem mB_drop {P : Poem} {nW nL i : Nat} {F : Nat → Nat → Int32} (h : mB P nW nL F) (hi : i < nL) : mB (zDrop P i) nW nL (sf F 8 (upd (F 8) i (nI (zC P i - 1)))) := by
  obtain ⟨h1, h2, h3, h4, h5⟩ := h
  have e : ∀ f q, f ≠ 3 → (zDrop P i).2.1 f q = P.2.1 f q := fun f q hf => zDrop_f P i f q (Or.inl hf)
  refine ⟨fun w hw => h1 w hw, fun q hq => ?_, fun q hq => ?_, fun q hq hq2 => ?_, fun q hq j hj => ?_⟩
  · have h := h2 q hq
    unfold zM zF zK at h ⊢
    rw [e 0 q (by decide), e 1 q (by decide), e 2 q (by decide)]
    exact h
  · rw [sf_eq]
    unfold upd
    by_cases c : q = i
    · rw [if_pos c, c, zDrop_c]
    · rw [if_neg c, h3 q hq]
      exact congrArg nI (zDrop_f P i 3 q (Or.inr c)).symm
  · rw [sf_eq]
    unfold upd
    rw [if_neg (by omega)]
    exact h4 q hq hq2
  · refine h5 q hq j ?_
    by_cases c : q = i
    · rw [c, zDrop_c] at hj
      rw [c]
      omega
    · have e2 : zC (zDrop P i) q = zC P q := zDrop_f P i 3 q (Or.inr c)
      rw [e2] at hj
      exact hj
