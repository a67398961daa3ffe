theorem mB_put {P : Poem} {nW nL i p w : Nat} {F : Nat → Nat → Int32} (hP : zOk P nW nL) (h : mB P nW nL F) (hi : i < nL) (hp : p < zC P i) : mB (zPut P i p w) nW nL (sf F 9 (upd (F 9) (8 * i + p) (nI w))) := by
  obtain ⟨h1, h2, h3, h4, h5⟩ := h
  have hc : ∀ q, zC (zPut P i p w) q = zC P q := fun q => by
    by_cases c : q = i
    · rw [c]; exact zPut_b hp
    · exact zPut_f P i p w 3 q (Or.inr c)
  refine ⟨fun w hw => h1 w hw, fun q hq => ?_, fun q hq => ?_, fun q hq hq2 => h4 q hq hq2, fun q hq j hj => ?_⟩
  · have h := h2 q hq
    unfold zM zF zK at h ⊢
    rw [zPut_f P i p w 0 q (Or.inl (by decide)), zPut_f P i p w 1 q (Or.inl (by decide)), zPut_f P i p w 2 q (Or.inl (by decide))]
    exact h
  · rw [hc]
    exact h3 q hq
  · rw [hc] at hj
    have b1 := (hP.2.2 q hq).2.2.2.2.1
    have b2 := (hP.2.2 i hi).2.2.2.2.1
    rw [sf_eq]
    unfold upd
    by_cases c : q = i ∧ j = p
    · rw [if_pos (by rw [c.1, c.2])]
      show nI w = nI (if q = i ∧ j = p then w else P.2.2 q j)
      rw [if_pos c]
    · rw [if_neg (by omega), h5 q hq j hj]
      show nI (P.2.2 q j) = nI (if q = i ∧ j = p then w else P.2.2 q j)
      rw [if_neg c]
