set_option maxHeartbeats 4000000 in
set_option maxRecDepth 100000 in
theorem c_strikeR (l : Launch) (D : va_G) (M : rMem) (x : Nat) (P : Poem) (nW nL : Nat) (u : Nat → Nat → Nat) (i : Nat) (hR : cR D M x P nW nL u) (hi : i < nL) (h0 : 0 < zC P i) : CMi l D yX3_strike cX3_strike 4 ((some .int)) 8 0 0 M [.ref (x), .int (nI i)] (fun r M' => r = nI (zR P i (zC P i - 1)) ∧ ∃ u', ueq u u' ∧ cR D M' x (zDrop P i) nW nL u') := by
  obtain ⟨hS, hl, ff, hf1, hf2, hf3⟩ := id hR
  obtain ⟨mdw, hLw⟩ := hS.2.2.1
  obtain ⟨mdl, hLl⟩ := hS.2.2.2.1
  have hn30 := hS.1.1.1
  have hn10 := hS.1.2.1
  refine rM (lv0 := [some (.ref (x)), some (.int (nI i)), none, none]) (by decide) rfl rfl (Nat.le_of_ble_eq_true rfl) (fun P0 E0 S0 m0 as0 bl0 mt0 c0 A F hrt9 hnm => ?_)
  obtain ⟨mdr, hr_mdr⟩ := hS.2.2.2.2.2.1 i (by omega)
  have hz8 := (hS.1.2.2 i hi).2.2.2.2.1
  have hzr := (hS.1.2.2 i hi).2.2.2.2.2 (zC P i - 1) (by omega)
  refine rg_aload_n F (pc := 0) dX3_strike_0 rfl ?_
  refine rg_iload_n F (pc := 1) dX3_strike_1 rfl ?_
  refine rg_callVq F (pc := 2) (As := [.int (nI i)]) (rest := []) (ci := 4) (c_nl l D _ x P nW nL u i hR (by omega)) q312 vq_X3_neededLine rfl hS.2.1 rfl rfl (Nat.le_of_ble_eq_true rfl) (Nat.le_of_ble_eq_true rfl) (Nat.le_of_ble_eq_true rfl) ⟨(Nat.le_of_ble_eq_true rfl), (Nat.le_of_ble_eq_true rfl)⟩ dX3_strike_2 (fun r9 M9 hp => ?_)
  refine rg_top (v2 := .ref (la u i)) (by rw [hp.1]; rfl) ?_
  refine rg_mem (M2 := M) hp.2 ?_
  refine rg_astore_n F (pc := 5) (lv' := [some (.ref (x)), some (.int (nI i)), some (.ref (la u i)), none]) dX3_strike_5 (Nat.le_of_ble_eq_true rfl) rfl ?_
  refine rg_aload_n F (pc := 6) dX3_strike_6 rfl ?_
  refine rg_callVq F (pc := 7) (As := []) (rest := []) (ci := 2) (c_last l D _ (la u i) _ _ _ _ (ra u i) _ _ _ _ _ _ _ _ _ _ _ _ mdr (rb u i) (fun j => wa u (zR P i j)) P i (hl i hi) hr_mdr (fun j hj => hS.2.2.2.2.1 _ ((hS.1.2.2 i hi).2.2.2.2.2 j hj)) hz8) q262 vq_X1_lastWord rfl (hl i (by omega)) rfl rfl (Nat.le_of_ble_eq_true rfl) (Nat.le_of_ble_eq_true rfl) (Nat.le_of_ble_eq_true rfl) ⟨(Nat.le_of_ble_eq_true rfl), (Nat.le_of_ble_eq_true rfl)⟩ dX3_strike_7 (fun r9 M9 hp => ?_)
  refine rg_top (v2 := .ref (wa u (zR P i (zC P i - 1)))) (by rw [hp.1, pv_pos h0]; rfl) ?_
  refine rg_mem (M2 := M) hp.2 ?_
  refine rg_astore_n F (pc := 10) (lv' := [some (.ref (x)), some (.int (nI i)), some (.ref (la u i)), some (.ref (wa u (zR P i (zC P i - 1))))]) dX3_strike_10 (Nat.le_of_ble_eq_true rfl) rfl ?_
  refine rg_aload_n F (pc := 11) dX3_strike_11 rfl ?_
  refine rg_ifnonnull F (pc := 12) (tgt := 25) dX3_strike_12 (by decide) ?_
  refine rg_aload_n F (pc := 25) dX3_strike_25 rfl ?_
  refine rg_callVv F (pc := 26) (As := []) (rest := []) (ci := 2) (c_drop l D _ (la u i) _ _ _ _ (ra u i) _ _ _ _ _ _ _ _ _ _ _ _ mdr (rb u i) (fun j => wa u (zR P i j)) P nW i (hl i hi) hr_mdr (fun j hj => hS.2.2.2.2.1 _ ((hS.1.2.2 i hi).2.2.2.2.2 j hj)) hS.1.1 (hS.1.2.2 i hi) h0) q322 vq_X1_dropLast rfl (hl i (by omega)) rfl rfl (Nat.le_of_ble_eq_true rfl) (Nat.le_of_ble_eq_true rfl) (Nat.le_of_ble_eq_true rfl) ⟨(Nat.le_of_ble_eq_true rfl), (Nat.le_of_ble_eq_true rfl)⟩ dX3_strike_26 (fun M2 hp => ?_)
  obtain ⟨M1, hch, hM1⟩ := hp
  have hP9 : zOk (zDrop P i) nW nL := ⟨hS.1.1, hS.1.2.1, fun j hj => zDrop_ok (hS.1.2.2 j hj)⟩
  have hsm : ∀ j, j ≠ i → zSame P (zDrop P i) j := fun j hj => ⟨rfl, fun f => (zDrop_f P i f j (Or.inr hj)).symm, fun q => rfl⟩
  obtain ⟨u', hu, hS2, hl2, hU2, ⟨f4, g1, g2, g3⟩, hG⟩ := row_step hR hi hP9 (fun f j hf => (zDrop_f P i f j (Or.inl hf)).symm) hsm rfl hch (fun q hq => rfl) hM1
  obtain ⟨mdl2, hLl2⟩ := hS2.2.2.2.1
  refine rg_aload_n F (pc := 29) dX3_strike_29 rfl ?_
  refine rg_iload_n F (pc := 30) dX3_strike_30 rfl ?_
  refine rg_callVv F (pc := 31) (As := [.int (nI i)]) (rest := []) (ci := 4) (c_scanFrom l D _ x (zDrop P i) nW nL u' i (zFl P nL) (zBg P nL) f4 hS2 (Nat.le_of_lt hi) hl2 hU2 g1 g2 g3 hG) q302 vq_X3_scanFrom rfl hS2.2.1 rfl rfl (Nat.le_of_ble_eq_true rfl) (Nat.le_of_ble_eq_true rfl) (Nat.le_of_ble_eq_true rfl) ⟨(Nat.le_of_ble_eq_true rfl), (Nat.le_of_ble_eq_true rfl)⟩ dX3_strike_31 (fun M3 hp => ?_)
  have hR3 : cR D M3 x (zDrop P i) nW nL u' := ⟨hS2.keep hp.1, hp.2.1, hp.2.2.2⟩
  have hw3 : M3 (wa u (zR P i (zC P i - 1))) = some (.inr (3, wo P (zR P i (zC P i - 1)))) := by have h := hR3.1.2.2.2.2.1 _ hzr; rw [show wa u' (zR P i (zC P i - 1)) = wa u (zR P i (zC P i - 1)) from hu 1 _ (by decide) (by decide)] at h; exact h
  refine rg_aload_n F (pc := 34) dX3_strike_34 rfl ?_
  refine rg_get F (pc := 35) (ci := 3) rfl inX2 hw3 0 (by decide) q219 (fun _ h9 => h9) rfl dX3_strike_35 ?_
  exact rg_iret F (pc := 38) hrt9 (by decide) (by decide) dX3_strike_38 ⟨rfl, u', hu, hR3⟩
theorem c_strike (l : Launch) (D : va_G) (M : rMem) (x : Nat) (P : Poem) (nW nL : Nat) (u : Nat → Nat → Nat) (i : Nat) (hV : cV D M x P nW nL u) (hi : i < nL) (h0 : 0 < zC P i) : CMi l D yX3_strike cX3_strike 4 (some .int) 8 0 0 M [.ref x, .int (nI i)] (fun r M' => r = nI (zR P i (zC P i - 1)) ∧ cV D M' x (zDrop P i) nW nL u) := by
  obtain ⟨u1, hu, hR⟩ := hV
  exact CMi_imp (c_strikeR l D M x P nW nL u1 i hR hi h0) (fun r M' h => by obtain ⟨h0, u2, h1, h2⟩ := h; exact ⟨h0, u2, hu.tr h1, h2⟩)
