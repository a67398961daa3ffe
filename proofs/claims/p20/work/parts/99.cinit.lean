theorem mset_nn {M : rMem} {a b : Nat} {e : va_E} (h : mset M b e a = none) : a ≠ b := fun z => by
  rw [z, mset_eq] at h
  cases h
set_option maxHeartbeats 4000000 in
set_option maxRecDepth 100000 in
theorem c_xInit2 (l : Launch) (D : va_G) (M : rMem) (x : Nat) (y0 y1 y2 : Option Nat) (hm : M x = some (.inr (4, [va_rf (y0), va_rf (y1), va_rf (y2)]))) : CMv l D yX3_init cX3_init 1 4 4 13 M [.ref (x)] (fun M' => ∃ w1 w2 w3 q6, M w1 = none ∧ M w2 = none ∧ M w3 = none ∧ M q6 = none ∧ w1 ≠ w2 ∧ w1 ≠ w3 ∧ w2 ≠ w3 ∧ w1 ≠ q6 ∧ w2 ≠ q6 ∧ w3 ≠ q6 ∧ M' = (mset (mset (mset (mset (mset M w1 (.inr (0, [.int (nI 0), .ref (rT0 D), .int (nI 0)]))) x (.inr (4, [.ref (w1), .ref (w2), .ref (w3)]))) w2 (.inr (0, [.int (nI 0), .ref (rT0 D), .int (nI 0)]))) w3 (.inr (1, [.ref (q6), .int (nI 0)]))) q6 (.inl (D.1 7, (5, .inr (.inl (fun _ => 0))))))) := by
  refine rM (lv0 := [some (.ref (x))]) (by decide) rfl rfl (Nat.le_of_ble_eq_true rfl) (fun P0 E0 S0 m0 as0 bl0 mt0 c0 A F hrt9 hnm => ?_)
  refine rg_aload_n F (pc := 0) dX3_init_0 rfl ?_
  refine rg_objInit F (pc := 1) q200 q11 q12 dX3_init_1 (Nat.le_of_ble_eq_true rfl) (Nat.le_of_ble_eq_true rfl) ?_
  refine rg_aload_n F (pc := 4) dX3_init_4 rfl ?_
  refine rg_new F (pc := 5) (ci := 0) (fs := [.int 0, .null, .int 0]) rfl inJx4a65c tyJx4a65c tyJx4a65c_ok (fun j hj => by rcases (show j = 0 ∨ j = 1 ∨ j = 2 by omega) with rfl | rfl | rfl <;> rfl) q201 q18 q19 (Nat.le_of_ble_eq_true rfl) (Nat.le_of_ble_eq_true rfl) dX3_init_5 (fun w1 hw1 => ?_)
  refine rg_widen (k2 := 1) (n2 := 3) (by decide) (by decide) ?_
  refine rg_mem (M2 := (mset M w1 (.inr (0, [.int (nI 0), .null, .int (nI 0)])))) rfl ?_
  refine rg_dup F (pc := 8) dX3_init_8 rfl ?_
  refine rg_callIv F (pc := 9) (As := []) (rest := [.ref (w1), .ref (x)]) (c_listInit l D _ w1 (nI 0) none (nI 0) mset_eq) q207 iq_Jx4a65c_init_da8c8 rfl rfl (Nat.le_of_ble_eq_true rfl) (Nat.le_of_ble_eq_true rfl) (Nat.le_of_ble_eq_true rfl) ⟨(Nat.le_of_ble_eq_true rfl), (Nat.le_of_ble_eq_true rfl)⟩ dX3_init_9 (fun M9 hp => ?_)
  refine rg_mem (M2 := (mset M w1 (.inr (0, [.int (nI 0), .ref (rT0 D), .int (nI 0)])))) (hp.trans mset_mset) ?_
  refine rg_putF F (pc := 12) (ci := 4) (ty := tyX3 0) rfl inX3 tyX3 tyX3_ok nmX3 (mset_keep hm (mne_none hm hw1)) 0 (by decide) q202 (fun _ h9 => h9) rfl (by rw [hnm]; rfl) rfl (tyX3_ok 0 (by decide)) rfl rfl (Nat.le_of_ble_eq_true rfl) dX3_init_12 ?_
  refine rg_mem (M2 := (mset (mset M w1 (.inr (0, [.int (nI 0), .ref (rT0 D), .int (nI 0)]))) x (.inr (4, [.ref (w1), va_rf (y1), va_rf (y2)])))) rfl ?_
  refine rg_aload_n F (pc := 15) dX3_init_15 rfl ?_
  refine rg_new F (pc := 16) (ci := 0) (fs := [.int 0, .null, .int 0]) rfl inJx4a65c tyJx4a65c tyJx4a65c_ok (fun j hj => by rcases (show j = 0 ∨ j = 1 ∨ j = 2 by omega) with rfl | rfl | rfl <;> rfl) q201 q18 q19 (Nat.le_of_ble_eq_true rfl) (Nat.le_of_ble_eq_true rfl) dX3_init_16 (fun w2 hw2 => ?_)
  refine rg_widen (k2 := 2) (n2 := 6) (by decide) (by decide) ?_
  refine rg_mem (M2 := (mset (mset (mset M w1 (.inr (0, [.int (nI 0), .ref (rT0 D), .int (nI 0)]))) x (.inr (4, [.ref (w1), va_rf (y1), va_rf (y2)]))) w2 (.inr (0, [.int (nI 0), .null, .int (nI 0)])))) rfl ?_
  refine rg_dup F (pc := 19) dX3_init_19 rfl ?_
  refine rg_callIv F (pc := 20) (As := []) (rest := [.ref (w2), .ref (x)]) (c_listInit l D _ w2 (nI 0) none (nI 0) mset_eq) q207 iq_Jx4a65c_init_da8c8 rfl rfl (Nat.le_of_ble_eq_true rfl) (Nat.le_of_ble_eq_true rfl) (Nat.le_of_ble_eq_true rfl) ⟨(Nat.le_of_ble_eq_true rfl), (Nat.le_of_ble_eq_true rfl)⟩ dX3_init_20 (fun M9 hp => ?_)
  refine rg_mem (M2 := (mset (mset (mset M w1 (.inr (0, [.int (nI 0), .ref (rT0 D), .int (nI 0)]))) x (.inr (4, [.ref (w1), va_rf (y1), va_rf (y2)]))) w2 (.inr (0, [.int (nI 0), .ref (rT0 D), .int (nI 0)])))) (hp.trans mset_mset) ?_
  refine rg_putF F (pc := 23) (ci := 4) (ty := tyX3 1) rfl inX3 tyX3 tyX3_ok nmX3 (mset_keep mset_eq (mne_none hm (mset_none (mset_none hw2)))) 1 (by decide) q203 (fun _ h9 => h9) rfl (by rw [hnm]; rfl) rfl (tyX3_ok 1 (by decide)) rfl rfl (Nat.le_of_ble_eq_true rfl) dX3_init_23 ?_
  refine rg_mem (M2 := (mset (mset (mset (mset M w1 (.inr (0, [.int (nI 0), .ref (rT0 D), .int (nI 0)]))) x (.inr (4, [.ref (w1), va_rf (y1), va_rf (y2)]))) w2 (.inr (0, [.int (nI 0), .ref (rT0 D), .int (nI 0)]))) x (.inr (4, [.ref (w1), .ref (w2), va_rf (y2)])))) rfl ?_
  refine rg_mem (M2 := (mset (mset (mset M w1 (.inr (0, [.int (nI 0), .ref (rT0 D), .int (nI 0)]))) x (.inr (4, [.ref (w1), .ref (w2), va_rf (y2)]))) w2 (.inr (0, [.int (nI 0), .ref (rT0 D), .int (nI 0)])))) (mset_swap (mne_none hm (mset_none (mset_none hw2)))) ?_
  refine rg_aload_n F (pc := 26) dX3_init_26 rfl ?_
  refine rg_new F (pc := 27) (ci := 1) (fs := [.null, .int 0]) rfl inX0 tyX0 tyX0_ok (fun j hj => by rcases (show j = 0 ∨ j = 1 by omega) with rfl | rfl <;> rfl) q204 q205 q162 (Nat.le_of_ble_eq_true rfl) (Nat.le_of_ble_eq_true rfl) dX3_init_27 (fun w3 hw3 => ?_)
  refine rg_widen (k2 := 3) (n2 := 8) (by decide) (by decide) ?_
  refine rg_mem (M2 := (mset (mset (mset (mset M w1 (.inr (0, [.int (nI 0), .ref (rT0 D), .int (nI 0)]))) x (.inr (4, [.ref (w1), .ref (w2), va_rf (y2)]))) w2 (.inr (0, [.int (nI 0), .ref (rT0 D), .int (nI 0)]))) w3 (.inr (1, [.null, .int (nI 0)])))) rfl ?_
  refine rg_dup F (pc := 30) dX3_init_30 rfl ?_
  refine rg_callIv F (pc := 31) (As := []) (rest := [.ref (w3), .ref (x)]) (c_flowInit l D _ w3 none mset_eq) q208 iq_X0_init rfl rfl (Nat.le_of_ble_eq_true rfl) (Nat.le_of_ble_eq_true rfl) (Nat.le_of_ble_eq_true rfl) ⟨(Nat.le_of_ble_eq_true rfl), (Nat.le_of_ble_eq_true rfl)⟩ dX3_init_31 (fun M9 hp => ?_)
  refine rg_widen (k2 := 4) (n2 := 13) (by decide) (by decide) ?_
  obtain ⟨q6, hq6, hM9⟩ := hp
  refine rg_mem (M2 := (mset (mset (mset (mset (mset M w1 (.inr (0, [.int (nI 0), .ref (rT0 D), .int (nI 0)]))) x (.inr (4, [.ref (w1), .ref (w2), va_rf (y2)]))) w2 (.inr (0, [.int (nI 0), .ref (rT0 D), .int (nI 0)]))) w3 (.inr (1, [.ref (q6), .int (nI 0)]))) q6 (.inl (D.1 7, (5, .inr (.inl (fun _ => 0))))))) (hM9.trans (by rw [mset_mset])) ?_
  refine rg_putF F (pc := 34) (ci := 4) (ty := tyX3 2) rfl inX3 tyX3 tyX3_ok nmX3 (mset_keep (mset_keep (mset_keep mset_eq (mne_none hm (mset_none (mset_none hw2)))) (mne_none hm (mset_none (mset_none (mset_none hw3))))) (mne_none hm (mset_none (mset_none (mset_none (mset_none hq6)))))) 2 (by decide) q206 (fun _ h9 => h9) rfl (by rw [hnm]; rfl) rfl (tyX3_ok 2 (by decide)) rfl rfl (Nat.le_of_ble_eq_true rfl) dX3_init_34 ?_
  refine rg_mem (M2 := (mset (mset (mset (mset (mset (mset M w1 (.inr (0, [.int (nI 0), .ref (rT0 D), .int (nI 0)]))) x (.inr (4, [.ref (w1), .ref (w2), va_rf (y2)]))) w2 (.inr (0, [.int (nI 0), .ref (rT0 D), .int (nI 0)]))) w3 (.inr (1, [.ref (q6), .int (nI 0)]))) q6 (.inl (D.1 7, (5, .inr (.inl (fun _ => 0)))))) x (.inr (4, [.ref (w1), .ref (w2), .ref (w3)])))) rfl ?_
  refine rg_mem (M2 := (mset (mset (mset (mset (mset M w1 (.inr (0, [.int (nI 0), .ref (rT0 D), .int (nI 0)]))) x (.inr (4, [.ref (w1), .ref (w2), .ref (w3)]))) w2 (.inr (0, [.int (nI 0), .ref (rT0 D), .int (nI 0)]))) w3 (.inr (1, [.ref (q6), .int (nI 0)]))) q6 (.inl (D.1 7, (5, .inr (.inl (fun _ => 0))))))) (by funext q9; by_cases h9 : q9 = x; (rw [h9]; simp [mset, (mne_none hm (mset_none (mset_none hw2))), (mne_none hm (mset_none (mset_none (mset_none hw3)))), (mne_none hm (mset_none (mset_none (mset_none (mset_none hq6)))))]); simp [mset, h9]) ?_
  exact rg_vret F (pc := 37) hrt9 (by decide) (by decide) dX3_init_37 ⟨w1, w2, w3, q6, hw1, (mset_none (mset_none hw2)), (mset_none (mset_none (mset_none hw3))), (mset_none (mset_none (mset_none (mset_none hq6)))), (Ne.symm (mset_nn (mset_none hw2))), (Ne.symm (mset_nn (mset_none (mset_none hw3)))), (Ne.symm (mset_nn hw3)), (Ne.symm (mset_nn (mset_none (mset_none (mset_none hq6))))), (Ne.symm (mset_nn (mset_none hq6))), (Ne.symm (mset_nn hq6)), rfl⟩
/-- the class's memory, just made -/
theorem cV_0 {D : va_G} {M M' : rMem} {x w1 w2 w3 q6 : Nat} {e0 : va_E} (hx : M x = some e0) (h1 : M w1 = none) (h2 : M w2 = none) (h3 : M w3 = none) (h6 : M q6 = none) (n12 : w1 ≠ w2) (n13 : w1 ≠ w3) (n23 : w2 ≠ w3) (n16 : w1 ≠ q6) (n26 : w2 ≠ q6) (n36 : w3 ≠ q6) (hM : M' = (mset (mset (mset (mset (mset M w1 (.inr (0, [.int (nI 0), .ref (rT0 D), .int (nI 0)]))) x (.inr (4, [.ref (w1), .ref (w2), .ref (w3)]))) w2 (.inr (0, [.int (nI 0), .ref (rT0 D), .int (nI 0)]))) w3 (.inr (1, [.ref (q6), .int (nI 0)]))) q6 (.inl (D.1 7, (5, .inr (.inl (fun _ => 0))))))) : ∃ u, cV D M' x zP0 0 0 u := by
  have x1 : x ≠ w1 := mne_none hx h1
  have x2 : x ≠ w2 := mne_none hx h2
  have x3 : x ≠ w3 := mne_none hx h3
  have x6 : x ≠ q6 := mne_none hx h6
  have g6 : M' q6 = some (.inl (D.1 7, (5, .inr (.inl (fun _ => 0))))) := by rw [hM]; exact mset_eq
  have g3 : M' w3 = some (.inr (1, [.ref q6, .int (nI 0)])) := by rw [hM]; exact mset_keep mset_eq n36
  have g2 : M' w2 = some (.inr (0, [.int (nI 0), .ref (rT0 D), .int (nI 0)])) := by rw [hM]; exact mset_keep (mset_keep mset_eq n23) n26
  have gx : M' x = some (.inr (4, [.ref w1, .ref w2, .ref w3])) := by rw [hM]; exact mset_keep (mset_keep (mset_keep mset_eq x2) x3) x6
  have g1 : M' w1 = some (.inr (0, [.int (nI 0), .ref (rT0 D), .int (nI 0)])) := by rw [hM]; exact mset_keep (mset_keep (mset_keep (mset_keep mset_eq x1.symm) n12) n13) n16
  refine ⟨fun p q => if p = 0 then (if q = 0 then w1 else if q = 1 then w2 else if q = 2 then w3 else if q = 3 then q6 else rT0 D) else if p = 5 ∧ q = w2 then 1 else 0, _, ueq.rf _, ⟨zP0_ok, gx, ⟨nI 0, g1, Or.inl ⟨rfl, rfl⟩⟩, ⟨nI 0, g2, Or.inl ⟨rfl, rfl⟩⟩, fun w hw => absurd hw (Nat.not_lt_zero _), fun w hw => absurd hw (Nat.not_lt_zero _), ?_, fun h => absurd rfl h, ?_, fun h => absurd rfl h, fun w hw => absurd hw (Nat.not_lt_zero _)⟩, fun w hw => absurd hw (Nat.not_lt_zero _), fun _ => 0, g3, g6, fun q _ => ?_⟩
  · show (if 5 = 5 ∧ w1 = w2 then 1 else 0) = 0
    rw [if_neg (fun z => n12 z.2)]
  · show (if 5 = 5 ∧ w2 = w2 then 1 else 0) = 1
    rw [if_pos ⟨rfl, rfl⟩]
  · show (0 : Int64) = lN (0 / 2 ^ (64 * q) % 2 ^ 64)
    rw [Nat.zero_div, Nat.zero_mod]
    rfl
