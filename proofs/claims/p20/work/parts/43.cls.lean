set_option maxHeartbeats 4000000 in
set_option maxRecDepth 100000 in
theorem c_ref (l : Launch) (D : va_G) (M : rMem) (j b : Nat) (hj : j < b) (hb : b < 2 ^ 31) : CMv l D yX3_refuseOutside cX3_refuseOutside 2 2 0 0 M [.int (nI j), .int (nI b)] (fun M' => M' = M) := by
  refine rM (lv0 := [some (.int (nI j)), some (.int (nI b))]) (by decide) rfl rfl (Nat.le_of_ble_eq_true rfl) (fun P0 E0 S0 m0 as0 bl0 mt0 c0 A F hrt9 hnm => ?_)
  refine rg_iload_n F (pc := 0) dX3_refuseOutside_0 rfl ?_
  refine rg_iload_n F (pc := 1) dX3_refuseOutside_1 rfl ?_
  refine rg_callSi F (pc := 2) (As := [.int (nI j), .int (nI b)]) (rest := []) (c_isBelow l D _ (nI j) b hb) q220 sq_X3_isBelow rfl rfl (Nat.le_of_ble_eq_true rfl) (Nat.le_of_ble_eq_true rfl) (Nat.le_of_ble_eq_true rfl) ⟨(Nat.le_of_ble_eq_true rfl), (Nat.le_of_ble_eq_true rfl)⟩ dX3_refuseOutside_2 (fun r9 M9 hp => ?_)
  refine rg_top (v2 := .int (nI (rBel (nI j) b).toNat)) (by first | (rw [hp.1]; done) | (rw [hp.1]; rfl)) ?_
  refine rg_mem (M2 := M) hp.2 ?_
  refine rg_bif_ne F (pc := 5) (tgt := 18) dX3_refuseOutside_5 (by decide) (fun c5 => ?_) (fun c5 => absurd c5 (by rw [rBel_nI (by omega), decide_eq_true hj]; decide))
  exact rg_vret F (pc := 18) hrt9 (by decide) (by decide) dX3_refuseOutside_18 rfl
set_option maxHeartbeats 4000000 in
set_option maxRecDepth 100000 in
theorem c_nw (l : Launch) (D : va_G) (M : rMem) (x : Nat) (P : Poem) (nW nL : Nat) (u : Nat → Nat → Nat) (w : Nat) (hR : cR D M x P nW nL u) (h : w < nW) : CMq l D yX3_neededWord cX3_neededWord 2 ((some (.object "RhymeTax$Word"))) 4 0 0 M [.ref (x), .int (nI w)] (fun r M' => r = some (wa u w) ∧ M' = M) := by
  obtain ⟨hS, hl, ff, hf1, hf2, hf3⟩ := id hR
  obtain ⟨mdw, hLw⟩ := hS.2.2.1
  obtain ⟨mdl, hLl⟩ := hS.2.2.2.1
  have hn30 := hS.1.1.1
  have hn10 := hS.1.2.1
  refine rM (lv0 := [some (.ref (x)), some (.int (nI w))]) (by decide) rfl rfl (Nat.le_of_ble_eq_true rfl) (fun P0 E0 S0 m0 as0 bl0 mt0 c0 A F hrt9 hnm => ?_)
  refine rg_iload_n F (pc := 0) dX3_neededWord_0 rfl ?_
  refine rg_aload_n F (pc := 1) dX3_neededWord_1 rfl ?_
  refine rg_get F (pc := 2) (ci := 4) rfl inX3 hS.2.1 0 (by decide) q202 (fun _ h9 => h9) rfl dX3_neededWord_2 ?_
  refine rg_callVi F (pc := 5) (As := []) (rest := [.int (nI w)]) (ci := 0) (c_size l D _ (gw u) mdw (gbw u) nW hLw.1) q221 vq_Jx4a65c_size_8abf5 rfl hLw.1 rfl rfl (Nat.le_of_ble_eq_true rfl) (Nat.le_of_ble_eq_true rfl) (Nat.le_of_ble_eq_true rfl) ⟨(Nat.le_of_ble_eq_true rfl), (Nat.le_of_ble_eq_true rfl)⟩ dX3_neededWord_5 (fun r9 M9 hp => ?_)
  refine rg_top (v2 := .int (nI nW)) (by first | (rw [hp.1]; done) | (rw [hp.1]; rfl)) ?_
  refine rg_mem (M2 := M) hp.2 ?_
  refine rg_callSv F (pc := 8) (As := [.int (nI w), .int (nI nW)]) (rest := []) (c_ref l D _ w nW (by omega) (by omega)) q233 sq_X3_refuseOutside rfl rfl (Nat.le_of_ble_eq_true rfl) (Nat.le_of_ble_eq_true rfl) (Nat.le_of_ble_eq_true rfl) ⟨(Nat.le_of_ble_eq_true rfl), (Nat.le_of_ble_eq_true rfl)⟩ dX3_neededWord_8 (fun M9 hp => ?_)
  refine rg_mem (M2 := M) hp ?_
  refine rg_aload_n F (pc := 11) dX3_neededWord_11 rfl ?_
  refine rg_get F (pc := 12) (ci := 4) rfl inX3 hS.2.1 0 (by decide) q202 (fun _ h9 => h9) rfl dX3_neededWord_12 ?_
  refine rg_iload_n F (pc := 15) dX3_neededWord_15 rfl ?_
  refine rg_callVq F (pc := 16) (As := [.int (nI w)]) (rest := []) (ci := 0) (c_lget l D _ (gw u) mdw (gbw u) nW (wa u) w hLw (by omega)) q237 vq_Jx4a65c_get_915e3 rfl hLw.1 rfl rfl (Nat.le_of_ble_eq_true rfl) (Nat.le_of_ble_eq_true rfl) (Nat.le_of_ble_eq_true rfl) ⟨(Nat.le_of_ble_eq_true rfl), (Nat.le_of_ble_eq_true rfl)⟩ dX3_neededWord_16 (fun r9 M9 hp => ?_)
  refine rg_top (v2 := .ref (wa u w)) (by rw [hp.1]; rfl) ?_
  refine rg_mem (M2 := M) hp.2 ?_
  refine rg_cast F (pc := 19) (ci := 3) rfl (hS.2.2.2.2.1 w (by omega)) q232 dX3_neededWord_19 ?_
  exact rg_aret F (pc := 22) (some (wa u w)) rfl hrt9 (Or.inl ⟨_, rfl⟩) (by decide) (by decide) dX3_neededWord_22 ⟨rfl, rfl⟩
set_option maxHeartbeats 4000000 in
set_option maxRecDepth 100000 in
theorem c_nl (l : Launch) (D : va_G) (M : rMem) (x : Nat) (P : Poem) (nW nL : Nat) (u : Nat → Nat → Nat) (i : Nat) (hR : cR D M x P nW nL u) (h : i < nL) : CMq l D yX3_neededLine cX3_neededLine 2 ((some (.object "RhymeTax$Line"))) 4 0 0 M [.ref (x), .int (nI i)] (fun r M' => r = some (la u i) ∧ M' = M) := by
  obtain ⟨hS, hl, ff, hf1, hf2, hf3⟩ := id hR
  obtain ⟨mdw, hLw⟩ := hS.2.2.1
  obtain ⟨mdl, hLl⟩ := hS.2.2.2.1
  have hn30 := hS.1.1.1
  have hn10 := hS.1.2.1
  refine rM (lv0 := [some (.ref (x)), some (.int (nI i))]) (by decide) rfl rfl (Nat.le_of_ble_eq_true rfl) (fun P0 E0 S0 m0 as0 bl0 mt0 c0 A F hrt9 hnm => ?_)
  refine rg_iload_n F (pc := 0) dX3_neededLine_0 rfl ?_
  refine rg_aload_n F (pc := 1) dX3_neededLine_1 rfl ?_
  refine rg_get F (pc := 2) (ci := 4) rfl inX3 hS.2.1 1 (by decide) q203 (fun _ h9 => h9) rfl dX3_neededLine_2 ?_
  refine rg_callVi F (pc := 5) (As := []) (rest := [.int (nI i)]) (ci := 0) (c_size l D _ (gl u) mdl (gbl u) nL hLl.1) q221 vq_Jx4a65c_size_8abf5 rfl hLl.1 rfl rfl (Nat.le_of_ble_eq_true rfl) (Nat.le_of_ble_eq_true rfl) (Nat.le_of_ble_eq_true rfl) ⟨(Nat.le_of_ble_eq_true rfl), (Nat.le_of_ble_eq_true rfl)⟩ dX3_neededLine_5 (fun r9 M9 hp => ?_)
  refine rg_top (v2 := .int (nI nL)) (by first | (rw [hp.1]; done) | (rw [hp.1]; rfl)) ?_
  refine rg_mem (M2 := M) hp.2 ?_
  refine rg_callSv F (pc := 8) (As := [.int (nI i), .int (nI nL)]) (rest := []) (c_ref l D _ i nL (by omega) (by omega)) q233 sq_X3_refuseOutside rfl rfl (Nat.le_of_ble_eq_true rfl) (Nat.le_of_ble_eq_true rfl) (Nat.le_of_ble_eq_true rfl) ⟨(Nat.le_of_ble_eq_true rfl), (Nat.le_of_ble_eq_true rfl)⟩ dX3_neededLine_8 (fun M9 hp => ?_)
  refine rg_mem (M2 := M) hp ?_
  refine rg_aload_n F (pc := 11) dX3_neededLine_11 rfl ?_
  refine rg_get F (pc := 12) (ci := 4) rfl inX3 hS.2.1 1 (by decide) q203 (fun _ h9 => h9) rfl dX3_neededLine_12 ?_
  refine rg_iload_n F (pc := 15) dX3_neededLine_15 rfl ?_
  refine rg_callVq F (pc := 16) (As := [.int (nI i)]) (rest := []) (ci := 0) (c_lget l D _ (gl u) mdl (gbl u) nL (la u) i hLl (by omega)) q237 vq_Jx4a65c_get_915e3 rfl hLl.1 rfl rfl (Nat.le_of_ble_eq_true rfl) (Nat.le_of_ble_eq_true rfl) (Nat.le_of_ble_eq_true rfl) ⟨(Nat.le_of_ble_eq_true rfl), (Nat.le_of_ble_eq_true rfl)⟩ dX3_neededLine_16 (fun r9 M9 hp => ?_)
  refine rg_top (v2 := .ref (la u i)) (by rw [hp.1]; rfl) ?_
  refine rg_mem (M2 := M) hp.2 ?_
  refine rg_cast F (pc := 19) (ci := 2) rfl (hl i (by omega)) q295 dX3_neededLine_19 ?_
  exact rg_aret F (pc := 22) (some (la u i)) rfl hrt9 (Or.inl ⟨_, rfl⟩) (by decide) (by decide) dX3_neededLine_22 ⟨rfl, rfl⟩
set_option maxHeartbeats 4000000 in
set_option maxRecDepth 100000 in
theorem c_nwo (l : Launch) (D : va_G) (M : rMem) (x : Nat) (P : Poem) (nW nL : Nat) (u : Nat → Nat → Nat) (i p : Nat) (hR : cR D M x P nW nL u) (h : i < nL) (hp9 : p < zC P i) : CMq l D yX3_neededWordOf cX3_neededWordOf 2 ((some (.object "RhymeTax$Word"))) 4 0 0 M [.ref (la u i), .int (nI p)] (fun r M' => r = some (wa u (zR P i p)) ∧ M' = M) := by
  obtain ⟨hS, hl, ff, hf1, hf2, hf3⟩ := id hR
  obtain ⟨mdw, hLw⟩ := hS.2.2.1
  obtain ⟨mdl, hLl⟩ := hS.2.2.2.1
  have hn30 := hS.1.1.1
  have hn10 := hS.1.2.1
  refine rM (lv0 := [some (.ref (la u i)), some (.int (nI p))]) (by decide) rfl rfl (Nat.le_of_ble_eq_true rfl) (fun P0 E0 S0 m0 as0 bl0 mt0 c0 A F hrt9 hnm => ?_)
  obtain ⟨mdr, hr_mdr⟩ := hS.2.2.2.2.2.1 i (by omega)
  have hzc := (hS.1.2.2 i h).2.2.2.2.1
  have hzr := (hS.1.2.2 i h).2.2.2.2.2 p hp9
  refine rg_iload_n F (pc := 0) dX3_neededWordOf_0 rfl ?_
  refine rg_aload_n F (pc := 1) dX3_neededWordOf_1 rfl ?_
  refine rg_get F (pc := 2) (ci := 2) rfl inX1 (hl i h) 4 (by decide) q311 (fun _ h9 => h9) rfl dX3_neededWordOf_2 ?_
  refine rg_callVi F (pc := 5) (As := []) (rest := [.int (nI p)]) (ci := 0) (c_size l D _ (ra u i) mdr (rb u i) (zC P i) hr_mdr.1) q221 vq_Jx4a65c_size_8abf5 rfl hr_mdr.1 rfl rfl (Nat.le_of_ble_eq_true rfl) (Nat.le_of_ble_eq_true rfl) (Nat.le_of_ble_eq_true rfl) ⟨(Nat.le_of_ble_eq_true rfl), (Nat.le_of_ble_eq_true rfl)⟩ dX3_neededWordOf_5 (fun r9 M9 hp => ?_)
  refine rg_top (v2 := .int (nI (zC P i))) (by first | (rw [hp.1]; done) | (rw [hp.1]; rfl)) ?_
  refine rg_mem (M2 := M) hp.2 ?_
  refine rg_callSv F (pc := 8) (As := [.int (nI p), .int (nI (zC P i))]) (rest := []) (c_ref l D _ p (zC P i) (by omega) (by omega)) q233 sq_X3_refuseOutside rfl rfl (Nat.le_of_ble_eq_true rfl) (Nat.le_of_ble_eq_true rfl) (Nat.le_of_ble_eq_true rfl) ⟨(Nat.le_of_ble_eq_true rfl), (Nat.le_of_ble_eq_true rfl)⟩ dX3_neededWordOf_8 (fun M9 hp => ?_)
  refine rg_mem (M2 := M) hp ?_
  refine rg_aload_n F (pc := 11) dX3_neededWordOf_11 rfl ?_
  refine rg_get F (pc := 12) (ci := 2) rfl inX1 (hl i h) 4 (by decide) q311 (fun _ h9 => h9) rfl dX3_neededWordOf_12 ?_
  refine rg_iload_n F (pc := 15) dX3_neededWordOf_15 rfl ?_
  refine rg_callVq F (pc := 16) (As := [.int (nI p)]) (rest := []) (ci := 0) (c_lget l D _ (ra u i) mdr (rb u i) (zC P i) (fun j => wa u (zR P i j)) p hr_mdr hp9) q237 vq_Jx4a65c_get_915e3 rfl hr_mdr.1 rfl rfl (Nat.le_of_ble_eq_true rfl) (Nat.le_of_ble_eq_true rfl) (Nat.le_of_ble_eq_true rfl) ⟨(Nat.le_of_ble_eq_true rfl), (Nat.le_of_ble_eq_true rfl)⟩ dX3_neededWordOf_16 (fun r9 M9 hp => ?_)
  refine rg_top (v2 := .ref (wa u (zR P i p))) (by rw [hp.1]; rfl) ?_
  refine rg_mem (M2 := M) hp.2 ?_
  refine rg_cast F (pc := 19) (ci := 3) rfl (hS.2.2.2.2.1 _ hzr) q232 dX3_neededWordOf_19 ?_
  exact rg_aret F (pc := 22) (some (wa u (zR P i p))) rfl hrt9 (Or.inl ⟨_, rfl⟩) (by decide) (by decide) dX3_neededWordOf_22 ⟨rfl, rfl⟩
set_option maxHeartbeats 4000000 in
set_option maxRecDepth 100000 in
theorem c_all (l : Launch) (D : va_G) (M : rMem) (x : Nat) (P : Poem) (nW nL : Nat) (u : Nat → Nat → Nat) (hR : cR D M x P nW nL u) : CMi l D yX3_allTaxes cX3_allTaxes 3 ((some .int)) 4 0 0 M [.ref (x)] (fun r M' => r = nI (zAll P nL) ∧ M' = M) := by
  obtain ⟨hS, hl, ff, hf1, hf2, hf3⟩ := id hR
  obtain ⟨mdw, hLw⟩ := hS.2.2.1
  obtain ⟨mdl, hLl⟩ := hS.2.2.2.1
  have hn30 := hS.1.1.1
  have hn10 := hS.1.2.1
  refine rM (lv0 := [some (.ref (x)), none, none]) (by decide) rfl rfl (Nat.le_of_ble_eq_true rfl) (fun P0 E0 S0 m0 as0 bl0 mt0 c0 A F hrt9 hnm => ?_)
  refine rg_iconst F (pc := 0) (v := nI 0) dX3_allTaxes_0 (by decide) ?_
  refine rg_istore_n F (pc := 1) (lv' := [some (.ref (x)), some (.int (nI 0)), none]) dX3_allTaxes_1 (Nat.le_of_ble_eq_true rfl) rfl ?_
  refine rg_iconst F (pc := 2) (v := nI 0) dX3_allTaxes_2 (by decide) ?_
  refine rg_istore_n F (pc := 3) (lv' := [some (.ref (x)), some (.int (nI 0)), some (.int (nI 0))]) dX3_allTaxes_3 (Nat.le_of_ble_eq_true rfl) rfl ?_
  suffices L0 : ∀ (d9 : Nat) (i : Nat), nL - i < d9 → (i ≤ nL) → rG P0 l E0 (rR 4 0 0) S0 m0 as0 bl0 mt0 c0 D A 3 (MQ bl0 (va_Qi (fun r M' => r = nI (zAll P nL) ∧ M' = M) (cB D A) A) as0 S0 0 0 A) M 0 0 [some (.ref (x)), some (.int (nI (zAll P i))), some (.int (nI i))] 4 [] from L0 _ 0 (Nat.lt_succ_self _) (Nat.zero_le _)
  intro d9
  induction d9 with
  | zero => intro i hd9; exact absurd hd9 (Nat.not_lt_zero _)
  | succ d9 ih =>
    intro i hd9 hi
    refine rg_iload_n F (pc := 4) dX3_allTaxes_4 rfl ?_
    refine rg_aload_n F (pc := 5) dX3_allTaxes_5 rfl ?_
    refine rg_get F (pc := 6) (ci := 4) rfl inX3 hS.2.1 1 (by decide) q203 (fun _ h9 => h9) rfl dX3_allTaxes_6 ?_
    refine rg_callVi F (pc := 9) (As := []) (rest := [.int (nI i)]) (ci := 0) (c_size l D _ (gl u) mdl (gbl u) nL hLl.1) q221 vq_Jx4a65c_size_8abf5 rfl hLl.1 rfl rfl (Nat.le_of_ble_eq_true rfl) (Nat.le_of_ble_eq_true rfl) (Nat.le_of_ble_eq_true rfl) ⟨(Nat.le_of_ble_eq_true rfl), (Nat.le_of_ble_eq_true rfl)⟩ dX3_allTaxes_9 (fun r9 M9 hp => ?_)
    refine rg_top (v2 := .int (nI nL)) (by first | (rw [hp.1]; done) | (rw [hp.1]; rfl)) ?_
    refine rg_mem (M2 := M) hp.2 ?_
    refine rg_ncmp_ge F (pc := 12) (tgt := 38) dX3_allTaxes_12 (by decide) (by omega) (by omega) (fun c12 => ?_) (fun c12 => ?_)
    · refine rg_iload_n F (pc := 38) dX3_allTaxes_38 rfl ?_
      have e9 : i = nL := by omega
      exact rg_iret F (pc := 39) hrt9 (by decide) (by decide) dX3_allTaxes_39 ⟨by rw [← e9], rfl⟩
    · refine rg_iload_n F (pc := 15) dX3_allTaxes_15 rfl ?_
      refine rg_aload_n F (pc := 16) dX3_allTaxes_16 rfl ?_
      refine rg_get F (pc := 17) (ci := 4) rfl inX3 hS.2.1 1 (by decide) q203 (fun _ h9 => h9) rfl dX3_allTaxes_17 ?_
      refine rg_iload_n F (pc := 20) dX3_allTaxes_20 rfl ?_
      refine rg_callVq F (pc := 21) (As := [.int (nI i)]) (rest := [.int (nI (zAll P i))]) (ci := 0) (c_lget l D _ (gl u) mdl (gbl u) nL (la u) i hLl (by omega)) q237 vq_Jx4a65c_get_915e3 rfl hLl.1 rfl rfl (Nat.le_of_ble_eq_true rfl) (Nat.le_of_ble_eq_true rfl) (Nat.le_of_ble_eq_true rfl) ⟨(Nat.le_of_ble_eq_true rfl), (Nat.le_of_ble_eq_true rfl)⟩ dX3_allTaxes_21 (fun r9 M9 hp => ?_)
      refine rg_top (v2 := .ref (la u i)) (by rw [hp.1]; rfl) ?_
      refine rg_mem (M2 := M) hp.2 ?_
      refine rg_cast F (pc := 24) (ci := 2) rfl (hl i (by omega)) q295 dX3_allTaxes_24 ?_
      refine rg_get F (pc := 27) (ci := 2) rfl inX1 (hl i (by omega)) 16 (by decide) q343 (fun _ h9 => h9) rfl dX3_allTaxes_27 ?_
      refine rg_iadd F (pc := 30) (v := nI (zAll P (i + 1))) dX3_allTaxes_30 (nI_add _ _) ?_
      refine rg_istore_n F (pc := 31) (lv' := [some (.ref (x)), some (.int (nI (zAll P (i + 1)))), some (.int (nI i))]) dX3_allTaxes_31 (Nat.le_of_ble_eq_true rfl) rfl ?_
      refine rg_iinc F (pc := 32) (v := nI (i + 1)) (lv' := [some (.ref (x)), some (.int (nI (zAll P (i + 1)))), some (.int (nI (i + 1)))]) dX3_allTaxes_32 rfl (nI_add _ 1) (Nat.le_of_ble_eq_true rfl) rfl ?_
      refine rg_goto F (pc := 35) (tgt := 4) dX3_allTaxes_35 (by decide) ?_
      exact ih (i + 1) (by omega) (by omega)
set_option maxHeartbeats 4000000 in
set_option maxRecDepth 100000 in
theorem c_pwB (l : Launch) (D : va_G) (M : rMem) (x : Nat) (P : Poem) (nW nL : Nat) (u : Nat → Nat → Nat) (i p w : Nat) (hR : cR D M x P nW nL u) (hi : i < nL) (hw : w < nW) (hp9 : p < zC P i) : CMv l D yX3_replaceWord cX3_replaceWord 4 8 0 0 M [.ref (x), .int (nI i), .int (nI p), .ref (wa u w)] (fun M' => ∃ u', ueq u u' ∧ cR D M' x (zPut P i p w) nW nL u') := by
  obtain ⟨hS, hl, ff, hf1, hf2, hf3⟩ := id hR
  obtain ⟨mdw, hLw⟩ := hS.2.2.1
  obtain ⟨mdl, hLl⟩ := hS.2.2.2.1
  have hn30 := hS.1.1.1
  have hn10 := hS.1.2.1
  refine rM (lv0 := [some (.ref (x)), some (.int (nI i)), some (.int (nI p)), some (.ref (wa u w))]) (by decide) rfl rfl (Nat.le_of_ble_eq_true rfl) (fun P0 E0 S0 m0 as0 bl0 mt0 c0 A F hrt9 hnm => ?_)
  obtain ⟨mdr, hr_mdr⟩ := hS.2.2.2.2.2.1 i (by omega)
  refine rg_iload_n F (pc := 0) dX3_replaceWord_0 rfl ?_
  refine rg_aload_n F (pc := 1) dX3_replaceWord_1 rfl ?_
  refine rg_get F (pc := 2) (ci := 4) rfl inX3 hS.2.1 1 (by decide) q203 (fun _ h9 => h9) rfl dX3_replaceWord_2 ?_
  refine rg_callVi F (pc := 5) (As := []) (rest := [.int (nI i)]) (ci := 0) (c_size l D _ (gl u) mdl (gbl u) nL hLl.1) q221 vq_Jx4a65c_size_8abf5 rfl hLl.1 rfl rfl (Nat.le_of_ble_eq_true rfl) (Nat.le_of_ble_eq_true rfl) (Nat.le_of_ble_eq_true rfl) ⟨(Nat.le_of_ble_eq_true rfl), (Nat.le_of_ble_eq_true rfl)⟩ dX3_replaceWord_5 (fun r9 M9 hp => ?_)
  refine rg_top (v2 := .int (nI nL)) (by first | (rw [hp.1]; done) | (rw [hp.1]; rfl)) ?_
  refine rg_mem (M2 := M) hp.2 ?_
  refine rg_callSi F (pc := 8) (As := [.int (nI i), .int (nI nL)]) (rest := []) (c_isBelow l D _ (nI i) nL (by omega)) q220 sq_X3_isBelow rfl rfl (Nat.le_of_ble_eq_true rfl) (Nat.le_of_ble_eq_true rfl) (Nat.le_of_ble_eq_true rfl) ⟨(Nat.le_of_ble_eq_true rfl), (Nat.le_of_ble_eq_true rfl)⟩ dX3_replaceWord_8 (fun r9 M9 hp => ?_)
  refine rg_top (v2 := .int (nI (rBel (nI i) nL).toNat)) (by first | (rw [hp.1]; done) | (rw [hp.1]; rfl)) ?_
  refine rg_mem (M2 := M) hp.2 ?_
  refine rg_bif_ne F (pc := 11) (tgt := 15) dX3_replaceWord_11 (by decide) (fun c11 => ?_) (fun c11 => absurd c11 (by rw [rBel_nI (by omega), decide_eq_true hi]; decide))
  refine rg_aload_n F (pc := 15) dX3_replaceWord_15 rfl ?_
  refine rg_get F (pc := 16) (ci := 4) rfl inX3 hS.2.1 1 (by decide) q203 (fun _ h9 => h9) rfl dX3_replaceWord_16 ?_
  refine rg_iload_n F (pc := 19) dX3_replaceWord_19 rfl ?_
  refine rg_callVq F (pc := 20) (As := [.int (nI i)]) (rest := []) (ci := 0) (c_lget l D _ (gl u) mdl (gbl u) nL (la u) i hLl hi) q237 vq_Jx4a65c_get_915e3 rfl hLl.1 rfl rfl (Nat.le_of_ble_eq_true rfl) (Nat.le_of_ble_eq_true rfl) (Nat.le_of_ble_eq_true rfl) ⟨(Nat.le_of_ble_eq_true rfl), (Nat.le_of_ble_eq_true rfl)⟩ dX3_replaceWord_20 (fun r9 M9 hp => ?_)
  refine rg_top (v2 := .ref (la u i)) (by rw [hp.1]; rfl) ?_
  refine rg_mem (M2 := M) hp.2 ?_
  refine rg_cast F (pc := 23) (ci := 2) rfl (hl i (by omega)) q295 dX3_replaceWord_23 ?_
  refine rg_iload_n F (pc := 26) dX3_replaceWord_26 rfl ?_
  refine rg_aload_n F (pc := 27) dX3_replaceWord_27 rfl ?_
  refine rg_callVv F (pc := 28) (As := [.int (nI p), .ref (wa u w)]) (rest := []) (ci := 2) (c_putB l D _ (la u i) _ _ _ _ (ra u i) _ _ _ _ _ _ _ _ _ _ _ _ mdr (rb u i) (fun j => wa u (zR P i j)) P nW i p w (wa u w) (hl i hi) hr_mdr (fun j hj => hS.2.2.2.2.1 _ ((hS.1.2.2 i hi).2.2.2.2.2 j hj)) hS.1.1 (hS.1.2.2 i hi) hw (hS.2.2.2.2.1 w hw) hp9) q307 vq_X1_replaceWord rfl (hl i (by omega)) rfl rfl (Nat.le_of_ble_eq_true rfl) (Nat.le_of_ble_eq_true rfl) (Nat.le_of_ble_eq_true rfl) ⟨(Nat.le_of_ble_eq_true rfl), (Nat.le_of_ble_eq_true rfl)⟩ dX3_replaceWord_28 (fun M2 hp => ?_)
  obtain ⟨M1, hch, hM1⟩ := hp
  have hP9 : zOk (zPut P i p w) nW nL := ⟨hS.1.1, hS.1.2.1, fun j hj => zPut_ok (hS.1.2.2 i hi) (hS.1.2.2 j hj) hw (Nat.le_of_lt hp9) (by have := (hS.1.2.2 i hi).2.2.2.2.1; omega)⟩
  have hsm : ∀ j, j ≠ i → zSame P (zPut P i p w) j := fun j hj => ⟨rfl, fun f => (zPut_f P i p w f j (Or.inr hj)).symm, fun q => (zPut_o P i p w j q hj).symm⟩
  obtain ⟨u', hu, hS2, hl2, hU2, ⟨f4, g1, g2, g3⟩, hG⟩ := row_step hR hi hP9 (fun f j hf => (zPut_f P i p w f j (Or.inl hf)).symm) hsm rfl hch (fun q hq => by rw [zPut_r]; unfold va_up; by_cases e : q = p <;> simp [e]) hM1
  obtain ⟨mdl2, hLl2⟩ := hS2.2.2.2.1
  refine rg_aload_n F (pc := 31) dX3_replaceWord_31 rfl ?_
  refine rg_iload_n F (pc := 32) dX3_replaceWord_32 rfl ?_
  refine rg_callVv F (pc := 33) (As := [.int (nI i)]) (rest := []) (ci := 4) (c_scanFrom l D _ x (zPut P i p w) nW nL u' i (zFl P nL) (zBg P nL) f4 hS2 (Nat.le_of_lt hi) hl2 hU2 g1 g2 g3 hG) q302 vq_X3_scanFrom rfl hS2.2.1 rfl rfl (Nat.le_of_ble_eq_true rfl) (Nat.le_of_ble_eq_true rfl) (Nat.le_of_ble_eq_true rfl) ⟨(Nat.le_of_ble_eq_true rfl), (Nat.le_of_ble_eq_true rfl)⟩ dX3_replaceWord_33 (fun M3 hp => ?_)
  have hR3 : cR D M3 x (zPut P i p w) nW nL u' := ⟨hS2.keep hp.1, hp.2.1, hp.2.2.2⟩
  exact rg_vret F (pc := 36) hrt9 (by decide) (by decide) dX3_replaceWord_36 ⟨u', hu, hR3⟩
set_option maxHeartbeats 4000000 in
set_option maxRecDepth 100000 in
theorem c_writeAR (l : Launch) (D : va_G) (M : rMem) (x : Nat) (P : Poem) (nW nL : Nat) (u : Nat → Nat → Nat) (i w : Nat) (hR : cR D M x P nW nL u) (hi : i < nL) (hw : w < nW) (hp9 : zC P i < 8) : CMi l D yX3_write cX3_write 7 ((some .int)) 10 1 100 M [.ref (x), .int (nI i), .int (nI (zC P i)), .int (nI w)] (fun r M' => r = nI (zC (zPut P i (zC P i) w) i) ∧ ∃ u', ueq u u' ∧ cR D M' x (zPut P i (zC P i) w) nW nL u') := by
  obtain ⟨hS, hl, ff, hf1, hf2, hf3⟩ := id hR
  obtain ⟨mdw, hLw⟩ := hS.2.2.1
  obtain ⟨mdl, hLl⟩ := hS.2.2.2.1
  have hn30 := hS.1.1.1
  have hn10 := hS.1.2.1
  refine rM (lv0 := [some (.ref (x)), some (.int (nI i)), some (.int (nI (zC P i))), some (.int (nI w)), none, none, none]) (by decide) rfl rfl (Nat.le_of_ble_eq_true rfl) (fun P0 E0 S0 m0 as0 bl0 mt0 c0 A F hrt9 hnm => ?_)
  have hz8 := (hS.1.2.2 i hi).2.2.2.2.1
  obtain ⟨mdr, hr_mdr⟩ := hS.2.2.2.2.2.1 i (by omega)
  refine rg_aload_n F (pc := 0) dX3_write_0 rfl ?_
  refine rg_iload_n F (pc := 1) dX3_write_1 rfl ?_
  refine rg_callVq F (pc := 2) (As := [.int (nI i)]) (rest := []) (ci := 4) (c_nl l D _ x P nW nL u i hR (by omega)) q312 vq_X3_neededLine rfl hS.2.1 rfl rfl (Nat.le_of_ble_eq_true rfl) (Nat.le_of_ble_eq_true rfl) (Nat.le_of_ble_eq_true rfl) ⟨(Nat.le_of_ble_eq_true rfl), (Nat.le_of_ble_eq_true rfl)⟩ dX3_write_2 (fun r9 M9 hp => ?_)
  refine rg_top (v2 := .ref (la u i)) (by rw [hp.1]; rfl) ?_
  refine rg_mem (M2 := M) hp.2 ?_
  refine rg_astore F (pc := 5) (lv' := [some (.ref (x)), some (.int (nI i)), some (.int (nI (zC P i))), some (.int (nI w)), some (.ref (la u i)), none, none]) dX3_write_5 (Nat.le_of_ble_eq_true rfl) rfl ?_
  refine rg_aload F (pc := 7) dX3_write_7 rfl ?_
  refine rg_get F (pc := 9) (ci := 2) rfl inX1 (hl i (by omega)) 4 (by decide) q311 (fun _ h9 => h9) rfl dX3_write_9 ?_
  refine rg_callVi F (pc := 12) (As := []) (rest := []) (ci := 0) (c_size l D _ (ra u i) mdr (rb u i) (zC P i) hr_mdr.1) q221 vq_Jx4a65c_size_8abf5 rfl hr_mdr.1 rfl rfl (Nat.le_of_ble_eq_true rfl) (Nat.le_of_ble_eq_true rfl) (Nat.le_of_ble_eq_true rfl) ⟨(Nat.le_of_ble_eq_true rfl), (Nat.le_of_ble_eq_true rfl)⟩ dX3_write_12 (fun r9 M9 hp => ?_)
  refine rg_top (v2 := .int (nI (zC P i))) (by first | (rw [hp.1]; done) | (rw [hp.1]; rfl)) ?_
  refine rg_mem (M2 := M) hp.2 ?_
  refine rg_istore F (pc := 15) (lv' := [some (.ref (x)), some (.int (nI i)), some (.int (nI (zC P i))), some (.int (nI w)), some (.ref (la u i)), some (.int (nI (zC P i))), none]) dX3_write_15 (Nat.le_of_ble_eq_true rfl) rfl ?_
  refine rg_iload_n F (pc := 17) dX3_write_17 rfl ?_
  refine rg_iload F (pc := 18) dX3_write_18 rfl ?_
  refine rg_iconst F (pc := 20) (v := nI 1) dX3_write_20 (by decide) ?_
  refine rg_iadd F (pc := 21) (v := nI ((zC P i) + 1)) dX3_write_21 (nI_add _ _) ?_
  refine rg_callSv F (pc := 22) (As := [.int (nI (zC P i)), .int (nI ((zC P i) + 1))]) (rest := []) (c_ref l D _ (zC P i) ((zC P i) + 1) (by omega) (by omega)) q233 sq_X3_refuseOutside rfl rfl (Nat.le_of_ble_eq_true rfl) (Nat.le_of_ble_eq_true rfl) (Nat.le_of_ble_eq_true rfl) ⟨(Nat.le_of_ble_eq_true rfl), (Nat.le_of_ble_eq_true rfl)⟩ dX3_write_22 (fun M9 hp => ?_)
  refine rg_mem (M2 := M) hp ?_
  refine rg_aload_n F (pc := 25) dX3_write_25 rfl ?_
  refine rg_iload_n F (pc := 26) dX3_write_26 rfl ?_
  refine rg_callVq F (pc := 27) (As := [.int (nI w)]) (rest := []) (ci := 4) (c_nw l D _ x P nW nL u w hR (by omega)) q253 vq_X3_neededWord rfl hS.2.1 rfl rfl (Nat.le_of_ble_eq_true rfl) (Nat.le_of_ble_eq_true rfl) (Nat.le_of_ble_eq_true rfl) ⟨(Nat.le_of_ble_eq_true rfl), (Nat.le_of_ble_eq_true rfl)⟩ dX3_write_27 (fun r9 M9 hp => ?_)
  refine rg_top (v2 := .ref (wa u w)) (by rw [hp.1]; rfl) ?_
  refine rg_mem (M2 := M) hp.2 ?_
  refine rg_astore F (pc := 30) (lv' := [some (.ref (x)), some (.int (nI i)), some (.int (nI (zC P i))), some (.int (nI w)), some (.ref (la u i)), some (.int (nI (zC P i))), some (.ref (wa u w))]) dX3_write_30 (Nat.le_of_ble_eq_true rfl) rfl ?_
  refine rg_iload_n F (pc := 32) dX3_write_32 rfl ?_
  refine rg_iload F (pc := 33) dX3_write_33 rfl ?_
  refine rg_ncmp_ge F (pc := 35) (tgt := 49) dX3_write_35 (by decide) (by omega) (by omega) (fun c35 => ?_) (fun c35 => by exfalso; omega)
  refine rg_iload F (pc := 49) dX3_write_49 rfl ?_
  refine rg_bipush F (pc := 51) (v := nI 8) dX3_write_51 (by decide) ?_
  refine rg_ncmp_lt F (pc := 53) (tgt := 66) dX3_write_53 (by decide) (by omega) (by omega) (fun c53 => ?_) (fun c53 => by exfalso; omega)
  refine rg_aload F (pc := 66) dX3_write_66 rfl ?_
  refine rg_aload F (pc := 68) dX3_write_68 rfl ?_
  refine rg_callVv F (pc := 70) (As := [.ref (wa u w)]) (rest := []) (ci := 2) (c_putA l D _ (la u i) _ _ _ _ (ra u i) _ _ _ _ _ _ _ _ _ _ _ _ mdr (rb u i) (fun j => wa u (zR P i j)) P nW i w (wa u w) (hl i hi) hr_mdr (fun j hj => hS.2.2.2.2.1 _ ((hS.1.2.2 i hi).2.2.2.2.2 j hj)) hS.1.1 (hS.1.2.2 i hi) hw (hS.2.2.2.2.1 w hw) hp9) q318 vq_X1_addWord rfl (hl i (by omega)) rfl rfl (Nat.le_of_ble_eq_true rfl) (Nat.le_of_ble_eq_true rfl) (Nat.le_of_ble_eq_true rfl) ⟨(Nat.le_of_ble_eq_true rfl), (Nat.le_of_ble_eq_true rfl)⟩ dX3_write_70 (fun M2 hp => ?_)
  refine rg_widen (k2 := 1) (n2 := 100) (by decide) (by decide) ?_
  obtain ⟨M1, hch, hM1⟩ := hp
  have hP9 : zOk (zPut P i (zC P i) w) nW nL := ⟨hS.1.1, hS.1.2.1, fun j hj => zPut_ok (hS.1.2.2 i hi) (hS.1.2.2 j hj) hw (Nat.le_refl _) hp9⟩
  have hsm : ∀ j, j ≠ i → zSame P (zPut P i (zC P i) w) j := fun j hj => ⟨rfl, fun f => (zPut_f P i (zC P i) w f j (Or.inr hj)).symm, fun q => (zPut_o P i (zC P i) w j q hj).symm⟩
  obtain ⟨u', hu, hS2, hl2, hU2, ⟨f4, g1, g2, g3⟩, hG⟩ := row_step hR hi hP9 (fun f j hf => (zPut_f P i (zC P i) w f j (Or.inl hf)).symm) hsm rfl hch (fun q hq => by rw [zPut_r]; unfold va_up; by_cases e : q = zC P i <;> simp [e]) hM1
  obtain ⟨mdl2, hLl2⟩ := hS2.2.2.2.1
  refine rg_aload_n F (pc := 73) dX3_write_73 rfl ?_
  refine rg_iload_n F (pc := 74) dX3_write_74 rfl ?_
  refine rg_callVv F (pc := 75) (As := [.int (nI i)]) (rest := []) (ci := 4) (c_scanFrom l D _ x (zPut P i (zC P i) w) nW nL u' i (zFl P nL) (zBg P nL) f4 hS2 (Nat.le_of_lt hi) hl2 hU2 g1 g2 g3 hG) q302 vq_X3_scanFrom rfl hS2.2.1 rfl rfl (Nat.le_of_ble_eq_true rfl) (Nat.le_of_ble_eq_true rfl) (Nat.le_of_ble_eq_true rfl) ⟨(Nat.le_of_ble_eq_true rfl), (Nat.le_of_ble_eq_true rfl)⟩ dX3_write_75 (fun M3 hp => ?_)
  have hR3 : cR D M3 x (zPut P i (zC P i) w) nW nL u' := ⟨hS2.keep hp.1, hp.2.1, hp.2.2.2⟩
  refine rg_iload F (pc := 78) dX3_write_78 rfl ?_
  refine rg_iconst F (pc := 80) (v := nI 1) dX3_write_80 (by decide) ?_
  refine rg_iadd F (pc := 81) (v := nI ((zC P i) + 1)) dX3_write_81 (nI_add _ _) ?_
  exact rg_iret F (pc := 82) hrt9 (by decide) (by decide) dX3_write_82 ⟨by rw [zPut_a], u', hu, hR3⟩
