theorem upd_eq (f : Nat → Int32) (j : Nat) (v : Int32) : upd f j v j = v := by
  unfold upd
  exact if_pos rfl
theorem upd_ne {f : Nat → Int32} {j q : Nat} {v : Int32} (h : q ≠ j) : upd f j v q = f q := by
  unfold upd
  exact if_neg h
theorem mB_newW {P : Poem} {nW nL : Nat} {F : Nat → Nat → Int32} (s t v e o : Nat) (h : mB P nW nL F) : mB (zNewW P nW s t v e o) (nW + 1) nL (sf (sf (sf (sf (sf F 0 (upd (F 0) nW (nI s))) 1 (upd (F 1) nW (nI t))) 2 (upd (F 2) nW (nI v))) 3 (upd (F 3) nW (nI e))) 4 (upd (F 4) nW (nI o))) := by
  refine ⟨fun w hw => ?_, h.2.1, h.2.2.1, h.2.2.2.1, h.2.2.2.2⟩
  show upd (F 0) nW (nI s) w = _ ∧ upd (F 1) nW (nI t) w = _ ∧ upd (F 2) nW (nI v) w = _ ∧ upd (F 3) nW (nI e) w = _ ∧ upd (F 4) nW (nI o) w = _
  by_cases c : w = nW
  · subst c
    obtain ⟨a1, a2, a3, a4, a5⟩ := zNewW_n P w s t v e o
    rw [a1, a2, a3, a4, a5]
    exact ⟨upd_eq _ _ _, upd_eq _ _ _, upd_eq _ _ _, upd_eq _ _ _, upd_eq _ _ _⟩
  · rw [upd_ne c, upd_ne c, upd_ne c, upd_ne c, upd_ne c]
    obtain ⟨a1, a2, a3, a4, a5⟩ := zW_agn (n := nW) (P := P) (P' := zNewW P nW s t v e o) (fun f w hw => (zNewW_o P nW s t v e o (by omega) f).symm) (w := w) (by omega)
    rw [← a1, ← a2, ← a3, ← a4, ← a5]
    exact h.1 w (by omega)
