theorem mB_app {P : Poem} {nW nL i w : Nat} {F : Nat → Nat → Int32} (hP : zOk P nW nL) (h : mB P nW nL F) (hi : i < nL) (h8 : zC P i < 8) : mB (zPut P i (zC P i) w) nW nL (sf (sf F 9 (upd (F 9) (8 * i + zC P i) (nI w))) 8 (upd (F 8) i (nI (zC P i + 1)))) := by
  obtain ⟨h1, h2, h3, h4, h5⟩ := h
  have hc : ∀ q, q ≠ i → zC (zPut P i (zC P i) w) q = zC P q := fun q c => zPut_f P i _ w 3 q (Or.inr c)
  refine ⟨fun w hw => h1 w hw, fun q hq => ?_, fun q hq => ?_, fun q hq hq2 => ?_, fun q hq j hj => ?_⟩
  · have h := h2 q hq
    unfold zM zF zK at h ⊢
    rw [zPut_f P i _ w 0 q (Or.inl (by decide)), zPut_f P i _ w 1 q (Or.inl (by decide)), zPut_f P i _ w 2 q (Or.inl (by decide))]
    exact h
  · show upd (F 8) i _ q = _
    by_cases c : q = i
    · rw [c, upd_eq, zPut_a]
    · rw [upd_ne c, h3 q hq, hc q c]
  · show upd (F 8) i _ q = _
    rw [upd_ne (by omega)]
    exact h4 q hq hq2
  · show upd (F 9) (8 * i + zC P i) (nI w) (8 * q + j) = nI (if q = i ∧ j = zC P i then w else P.2.2 q j)
    have b1 := (hP.2.2 q hq).2.2.2.2.1
    by_cases c : q = i ∧ j = zC P i
    · rw [if_pos c, c.1, c.2, upd_eq]
    · have hj2 : j < zC P q := by
        by_cases d : q = i
        · rw [d, zPut_a] at hj
          rw [d]
          have : j ≠ zC P i := fun z => c ⟨d, z⟩
          omega
        · rw [hc q d] at hj
          exact hj
      rw [if_neg c, upd_ne (by omega), h5 q hq j hj2]
      rfl
