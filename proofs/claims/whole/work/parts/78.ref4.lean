set_option maxHeartbeats 4000000 in
set_option maxRecDepth 100000 in
theorem r_written (l : Launch) (D : va_G) (M : rMem) (m : Nat) (P : Poem) (nW nL : Nat) (ad : Nat → Nat) (Fn : Nat → Nat → Int32) (t lo : Int32) (i p : Nat) (hV : mV D M m P nW nL ad Fn t lo) (hi : i < nL) (hp9 : p < zC P i) : CMi l D yX4_written cX4_written 3 ((some .int)) 3 0 0 M [.ref (m), .int (nI i), .int (nI p)] (fun r M' => r = nI (zR P i p) ∧ mV D M' m P nW nL ad Fn (nI 0) lo) := by
  obtain ⟨hP, hA, hB⟩ := id hV
  have hn30 := hP.1.1
  have hn10 := hP.2.1
  have hz8 := (hP.2.2 i hi).2.2.2.2.1
  refine rM (lv0 := [some (.ref (m)), some (.int (nI i)), some (.int (nI p))]) (by decide) rfl rfl (Nat.le_of_ble_eq_true rfl) (fun P0 E0 S0 m0 as0 bl0 mt0 c0 A F hrt9 hnm => ?_)
  refine rg_aload_n F (pc := 0) dX4_written_0 rfl ?_
  refine rg_iconst F (pc := 1) (v := nI 0) dX4_written_1 (by decide) ?_
  refine rg_put F (pc := 2) (ci := 5) (ty := tyX4 0) rfl inX4 tyX4 tyX4_ok nmX4 hA.1 0 (by decide) q395 (fun _ h9 => h9) rfl (tyX4_ok 0 (by decide)) rfl rfl (Nat.le_of_ble_eq_true rfl) dX4_written_2 ?_
  refine rm_mem hA (t2 := nI 0) (nW2 := nW) (nL2 := nL) (lo2 := lo) rfl (fun Ms1 hAs1 => ?_)
  refine rg_aload_n F (pc := 5) dX4_written_5 rfl ?_
  refine rg_iload_n F (pc := 6) dX4_written_6 rfl ?_
  refine rg_callVi F (pc := 7) (As := [.int (nI i)]) (rest := []) (ci := 5) (r_isLine l D _ m P nW nL ad Fn (nI 0) lo (nI i) ⟨hP, hAs1, hB⟩) q482 vq_X4_isLine rfl hAs1.1 rfl rfl (Nat.le_of_ble_eq_true rfl) (Nat.le_of_ble_eq_true rfl) (Nat.le_of_ble_eq_true rfl) ⟨(Nat.le_of_ble_eq_true rfl), (Nat.le_of_ble_eq_true rfl)⟩ dX4_written_7 (fun r9 M9 hp => ?_)
  refine rg_top (v2 := .int (nI (rBel (nI i) nL).toNat)) (by first | (rw [hp.1]; done) | (rw [hp.1]; rfl)) ?_
  refine rg_mem (M2 := Ms1) hp.2 ?_
  refine rg_bif_eq F (pc := 10) (tgt := 43) dX4_written_10 (by decide) (fun c10 => absurd c10 (by rw [rBel_nI (by omega), decide_eq_true hi]; decide)) (fun c10 => ?_)
  refine rg_iload_n F (pc := 13) dX4_written_13 rfl ?_
  refine rg_iconst F (pc := 14) (v := nI 0) dX4_written_14 (by decide) ?_
  refine rg_aload_n F (pc := 15) dX4_written_15 rfl ?_
  refine rg_get F (pc := 16) (ci := 5) rfl inX4 hAs1.1 11 (by decide) q407 (fun _ h9 => h9) rfl dX4_written_16 ?_
  refine rg_iload_n F (pc := 19) dX4_written_19 rfl ?_
  refine rm_ld F hAs1 (pc := 20) (q := 8) (j := i) (x := nI (zC P i)) (by decide) (show i < 10 by omega) (hB.2.2.1 i (by omega)) dX4_written_20 ?_
  refine rg_iconst F (pc := 21) (v := nI 1) dX4_written_21 (by decide) ?_
  refine rg_isub F (pc := 22) (v := nI (zC P i) - nI 1) dX4_written_22 rfl ?_
  refine rg_callSi F (pc := 23) (As := [.int (nI p), .int (nI 0), .int (nI (zC P i) - nI 1)]) (rest := []) (r_isIn l D _ (nI p) (nI 0) (nI (zC P i) - nI 1)) q401 sq_X4_isIn rfl rfl (Nat.le_of_ble_eq_true rfl) (Nat.le_of_ble_eq_true rfl) (Nat.le_of_ble_eq_true rfl) ⟨(Nat.le_of_ble_eq_true rfl), (Nat.le_of_ble_eq_true rfl)⟩ dX4_written_23 (fun r9 M9 hp => ?_)
  refine rg_top (v2 := .int (nI (mIn (nI p) (nI 0) (nI (zC P i) - nI 1)).toNat)) (by first | (rw [hp.1]; done) | (rw [hp.1]; rfl)) ?_
  refine rg_mem (M2 := Ms1) hp.2 ?_
  refine rg_bif_eq F (pc := 26) (tgt := 43) dX4_written_26 (by decide) (fun c26 => absurd c26 (by rw [mIn_bel (by omega), rBel_nI (by omega), decide_eq_true hp9]; decide)) (fun c26 => ?_)
  refine rg_aload_n F (pc := 29) dX4_written_29 rfl ?_
  refine rg_get F (pc := 30) (ci := 5) rfl inX4 hAs1.1 12 (by decide) q408 (fun _ h9 => h9) rfl dX4_written_30 ?_
  refine rg_bipush F (pc := 33) (v := nI 8) dX4_written_33 (by decide) ?_
  refine rg_iload_n F (pc := 35) dX4_written_35 rfl ?_
  refine rg_imul F (pc := 36) (v := nI (8 * i)) dX4_written_36 (pk_mul _ _) ?_
  refine rg_iload_n F (pc := 37) dX4_written_37 rfl ?_
  refine rg_iadd F (pc := 38) (v := nI ((8 * i) + p)) dX4_written_38 (nI_add _ _) ?_
  refine rm_ld F hAs1 (pc := 39) (q := 9) (j := (8 * i) + p) (x := nI (zR P i p)) (by decide) (show (8 * i) + p < 80 by omega) (hB.2.2.2.2 i (by omega) p (by omega)) dX4_written_39 ?_
  refine rg_goto F (pc := 40) (tgt := 48) dX4_written_40 (by decide) ?_
  exact rg_iret F (pc := 48) hrt9 (by decide) (by decide) dX4_written_48 ⟨rfl, hP, hAs1, hB⟩
set_option maxHeartbeats 4000000 in
set_option maxRecDepth 100000 in
theorem r_written1 (l : Launch) (D : va_G) (M : rMem) (m : Nat) (P : Poem) (nW nL : Nat) (ad : Nat → Nat) (Fn : Nat → Nat → Int32) (t lo : Int32) (j q : Int32) (hV : mV D M m P nW nL ad Fn t lo) (hb : rBel j nL = false) : CMi l D yX4_written cX4_written 3 ((some .int)) 3 0 0 M [.ref (m), .int (j), .int (q)] (fun r M' => mV D M' m P nW nL ad Fn (nI 1) lo) := by
  obtain ⟨hP, hA, hB⟩ := id hV
  have hn30 := hP.1.1
  have hn10 := hP.2.1
  refine rM (lv0 := [some (.ref (m)), some (.int (j)), some (.int (q))]) (by decide) rfl rfl (Nat.le_of_ble_eq_true rfl) (fun P0 E0 S0 m0 as0 bl0 mt0 c0 A F hrt9 hnm => ?_)
  refine rg_aload_n F (pc := 0) dX4_written_0 rfl ?_
  refine rg_iconst F (pc := 1) (v := nI 0) dX4_written_1 (by decide) ?_
  refine rg_put F (pc := 2) (ci := 5) (ty := tyX4 0) rfl inX4 tyX4 tyX4_ok nmX4 hA.1 0 (by decide) q395 (fun _ h9 => h9) rfl (tyX4_ok 0 (by decide)) rfl rfl (Nat.le_of_ble_eq_true rfl) dX4_written_2 ?_
  refine rm_mem hA (t2 := nI 0) (nW2 := nW) (nL2 := nL) (lo2 := lo) rfl (fun Ms1 hAs1 => ?_)
  refine rg_aload_n F (pc := 5) dX4_written_5 rfl ?_
  refine rg_iload_n F (pc := 6) dX4_written_6 rfl ?_
  refine rg_callVi F (pc := 7) (As := [.int (j)]) (rest := []) (ci := 5) (r_isLine l D _ m P nW nL ad Fn (nI 0) lo j ⟨hP, hAs1, hB⟩) q482 vq_X4_isLine rfl hAs1.1 rfl rfl (Nat.le_of_ble_eq_true rfl) (Nat.le_of_ble_eq_true rfl) (Nat.le_of_ble_eq_true rfl) ⟨(Nat.le_of_ble_eq_true rfl), (Nat.le_of_ble_eq_true rfl)⟩ dX4_written_7 (fun r9 M9 hp => ?_)
  refine rg_top (v2 := .int (nI (rBel j nL).toNat)) (by first | (rw [hp.1]; done) | (rw [hp.1]; rfl)) ?_
  refine rg_mem (M2 := Ms1) hp.2 ?_
  refine rg_bif_eq F (pc := 10) (tgt := 43) dX4_written_10 (by decide) (fun c10 => ?_) (fun c10 => absurd c10 (by rw [hb]; decide))
  refine rg_aload_n F (pc := 43) dX4_written_43 rfl ?_
  refine rg_iconst F (pc := 44) (v := nI 1) dX4_written_44 (by decide) ?_
  refine rg_callVi F (pc := 45) (As := [.int (nI 1)]) (rest := []) (ci := 5) (r_no l D _ m P nW nL ad Fn (nI 0) lo (nI 1) ⟨hP, hAs1, hB⟩) q415 vq_X4_no rfl hAs1.1 rfl rfl (Nat.le_of_ble_eq_true rfl) (Nat.le_of_ble_eq_true rfl) (Nat.le_of_ble_eq_true rfl) ⟨(Nat.le_of_ble_eq_true rfl), (Nat.le_of_ble_eq_true rfl)⟩ dX4_written_45 (fun r9 Mn hp => ?_)
  refine rg_top (v2 := .int (nI 0)) (by rw [hp.1]) ?_
  exact rg_iret F (pc := 48) hrt9 (by decide) (by decide) dX4_written_48 ⟨hP, hp.2.2.1, hB⟩
set_option maxHeartbeats 4000000 in
set_option maxRecDepth 100000 in
theorem r_written2 (l : Launch) (D : va_G) (M : rMem) (m : Nat) (P : Poem) (nW nL : Nat) (ad : Nat → Nat) (Fn : Nat → Nat → Int32) (t lo : Int32) (i : Nat) (j : Int32) (hV : mV D M m P nW nL ad Fn t lo) (hi : i < nL) (hb : rBel j (zC P i) = false) : CMi l D yX4_written cX4_written 3 ((some .int)) 3 0 0 M [.ref (m), .int (nI i), .int (j)] (fun r M' => mV D M' m P nW nL ad Fn (nI 1) lo) := by
  obtain ⟨hP, hA, hB⟩ := id hV
  have hn30 := hP.1.1
  have hn10 := hP.2.1
  have hz8 := (hP.2.2 i hi).2.2.2.2.1
  refine rM (lv0 := [some (.ref (m)), some (.int (nI i)), some (.int (j))]) (by decide) rfl rfl (Nat.le_of_ble_eq_true rfl) (fun P0 E0 S0 m0 as0 bl0 mt0 c0 A F hrt9 hnm => ?_)
  refine rg_aload_n F (pc := 0) dX4_written_0 rfl ?_
  refine rg_iconst F (pc := 1) (v := nI 0) dX4_written_1 (by decide) ?_
  refine rg_put F (pc := 2) (ci := 5) (ty := tyX4 0) rfl inX4 tyX4 tyX4_ok nmX4 hA.1 0 (by decide) q395 (fun _ h9 => h9) rfl (tyX4_ok 0 (by decide)) rfl rfl (Nat.le_of_ble_eq_true rfl) dX4_written_2 ?_
  refine rm_mem hA (t2 := nI 0) (nW2 := nW) (nL2 := nL) (lo2 := lo) rfl (fun Ms1 hAs1 => ?_)
  refine rg_aload_n F (pc := 5) dX4_written_5 rfl ?_
  refine rg_iload_n F (pc := 6) dX4_written_6 rfl ?_
  refine rg_callVi F (pc := 7) (As := [.int (nI i)]) (rest := []) (ci := 5) (r_isLine l D _ m P nW nL ad Fn (nI 0) lo (nI i) ⟨hP, hAs1, hB⟩) q482 vq_X4_isLine rfl hAs1.1 rfl rfl (Nat.le_of_ble_eq_true rfl) (Nat.le_of_ble_eq_true rfl) (Nat.le_of_ble_eq_true rfl) ⟨(Nat.le_of_ble_eq_true rfl), (Nat.le_of_ble_eq_true rfl)⟩ dX4_written_7 (fun r9 M9 hp => ?_)
  refine rg_top (v2 := .int (nI (rBel (nI i) nL).toNat)) (by first | (rw [hp.1]; done) | (rw [hp.1]; rfl)) ?_
  refine rg_mem (M2 := Ms1) hp.2 ?_
  refine rg_bif_eq F (pc := 10) (tgt := 43) dX4_written_10 (by decide) (fun c10 => absurd c10 (by rw [rBel_nI (by omega), decide_eq_true hi]; decide)) (fun c10 => ?_)
  refine rg_iload_n F (pc := 13) dX4_written_13 rfl ?_
  refine rg_iconst F (pc := 14) (v := nI 0) dX4_written_14 (by decide) ?_
  refine rg_aload_n F (pc := 15) dX4_written_15 rfl ?_
  refine rg_get F (pc := 16) (ci := 5) rfl inX4 hAs1.1 11 (by decide) q407 (fun _ h9 => h9) rfl dX4_written_16 ?_
  refine rg_iload_n F (pc := 19) dX4_written_19 rfl ?_
  refine rm_ld F hAs1 (pc := 20) (q := 8) (j := i) (x := nI (zC P i)) (by decide) (show i < 10 by omega) (hB.2.2.1 i (by omega)) dX4_written_20 ?_
  refine rg_iconst F (pc := 21) (v := nI 1) dX4_written_21 (by decide) ?_
  refine rg_isub F (pc := 22) (v := nI (zC P i) - nI 1) dX4_written_22 rfl ?_
  refine rg_callSi F (pc := 23) (As := [.int (j), .int (nI 0), .int (nI (zC P i) - nI 1)]) (rest := []) (r_isIn l D _ j (nI 0) (nI (zC P i) - nI 1)) q401 sq_X4_isIn rfl rfl (Nat.le_of_ble_eq_true rfl) (Nat.le_of_ble_eq_true rfl) (Nat.le_of_ble_eq_true rfl) ⟨(Nat.le_of_ble_eq_true rfl), (Nat.le_of_ble_eq_true rfl)⟩ dX4_written_23 (fun r9 M9 hp => ?_)
  refine rg_top (v2 := .int (nI (mIn j (nI 0) (nI (zC P i) - nI 1)).toNat)) (by first | (rw [hp.1]; done) | (rw [hp.1]; rfl)) ?_
  refine rg_mem (M2 := Ms1) hp.2 ?_
  refine rg_bif_eq F (pc := 26) (tgt := 43) dX4_written_26 (by decide) (fun c26 => ?_) (fun c26 => absurd c26 (by rw [mIn_bel (by omega), hb]; decide))
  refine rg_aload_n F (pc := 43) dX4_written_43 rfl ?_
  refine rg_iconst F (pc := 44) (v := nI 1) dX4_written_44 (by decide) ?_
  refine rg_callVi F (pc := 45) (As := [.int (nI 1)]) (rest := []) (ci := 5) (r_no l D _ m P nW nL ad Fn (nI 0) lo (nI 1) ⟨hP, hAs1, hB⟩) q415 vq_X4_no rfl hAs1.1 rfl rfl (Nat.le_of_ble_eq_true rfl) (Nat.le_of_ble_eq_true rfl) (Nat.le_of_ble_eq_true rfl) ⟨(Nat.le_of_ble_eq_true rfl), (Nat.le_of_ble_eq_true rfl)⟩ dX4_written_45 (fun r9 Mn hp => ?_)
  refine rg_top (v2 := .int (nI 0)) (by rw [hp.1]) ?_
  exact rg_iret F (pc := 48) hrt9 (by decide) (by decide) dX4_written_48 ⟨hP, hp.2.2.1, hB⟩
set_option maxHeartbeats 4000000 in
set_option maxRecDepth 100000 in
theorem r_rhyme1 (l : Launch) (D : va_G) (M : rMem) (m : Nat) (P : Poem) (nW nL : Nat) (ad : Nat → Nat) (Fn : Nat → Nat → Int32) (t lo : Int32) (j q : Int32) (hV : mV D M m P nW nL ad Fn t lo) (hb : rBel j nL = false) : CMi l D yX4_rhyme cX4_rhyme 3 ((some .int)) 3 0 0 M [.ref (m), .int (j), .int (q)] (fun r M' => mV D M' m P nW nL ad Fn (nI 1) lo) := by
  obtain ⟨hP, hA, hB⟩ := id hV
  have hn30 := hP.1.1
  have hn10 := hP.2.1
  refine rM (lv0 := [some (.ref (m)), some (.int (j)), some (.int (q))]) (by decide) rfl rfl (Nat.le_of_ble_eq_true rfl) (fun P0 E0 S0 m0 as0 bl0 mt0 c0 A F hrt9 hnm => ?_)
  refine rg_aload_n F (pc := 0) dX4_rhyme_0 rfl ?_
  refine rg_iconst F (pc := 1) (v := nI 0) dX4_rhyme_1 (by decide) ?_
  refine rg_put F (pc := 2) (ci := 5) (ty := tyX4 0) rfl inX4 tyX4 tyX4_ok nmX4 hA.1 0 (by decide) q395 (fun _ h9 => h9) rfl (tyX4_ok 0 (by decide)) rfl rfl (Nat.le_of_ble_eq_true rfl) dX4_rhyme_2 ?_
  refine rm_mem hA (t2 := nI 0) (nW2 := nW) (nL2 := nL) (lo2 := lo) rfl (fun Ms1 hAs1 => ?_)
  refine rg_aload_n F (pc := 5) dX4_rhyme_5 rfl ?_
  refine rg_iload_n F (pc := 6) dX4_rhyme_6 rfl ?_
  refine rg_callVi F (pc := 7) (As := [.int (j)]) (rest := []) (ci := 5) (r_isLine l D _ m P nW nL ad Fn (nI 0) lo j ⟨hP, hAs1, hB⟩) q482 vq_X4_isLine rfl hAs1.1 rfl rfl (Nat.le_of_ble_eq_true rfl) (Nat.le_of_ble_eq_true rfl) (Nat.le_of_ble_eq_true rfl) ⟨(Nat.le_of_ble_eq_true rfl), (Nat.le_of_ble_eq_true rfl)⟩ dX4_rhyme_7 (fun r9 M9 hp => ?_)
  refine rg_top (v2 := .int (nI (rBel j nL).toNat)) (by first | (rw [hp.1]; done) | (rw [hp.1]; rfl)) ?_
  refine rg_mem (M2 := Ms1) hp.2 ?_
  refine rg_bif_eq F (pc := 10) (tgt := 30) dX4_rhyme_10 (by decide) (fun c10 => ?_) (fun c10 => absurd c10 (by rw [hb]; decide))
  refine rg_aload_n F (pc := 30) dX4_rhyme_30 rfl ?_
  refine rg_iconst F (pc := 31) (v := nI 1) dX4_rhyme_31 (by decide) ?_
  refine rg_callVi F (pc := 32) (As := [.int (nI 1)]) (rest := []) (ci := 5) (r_no l D _ m P nW nL ad Fn (nI 0) lo (nI 1) ⟨hP, hAs1, hB⟩) q415 vq_X4_no rfl hAs1.1 rfl rfl (Nat.le_of_ble_eq_true rfl) (Nat.le_of_ble_eq_true rfl) (Nat.le_of_ble_eq_true rfl) ⟨(Nat.le_of_ble_eq_true rfl), (Nat.le_of_ble_eq_true rfl)⟩ dX4_rhyme_32 (fun r9 Mn hp => ?_)
  refine rg_top (v2 := .int (nI 0)) (by rw [hp.1]) ?_
  exact rg_iret F (pc := 35) hrt9 (by decide) (by decide) dX4_rhyme_35 ⟨hP, hp.2.2.1, hB⟩
set_option maxHeartbeats 4000000 in
set_option maxRecDepth 100000 in
theorem r_rhyme2 (l : Launch) (D : va_G) (M : rMem) (m : Nat) (P : Poem) (nW nL : Nat) (ad : Nat → Nat) (Fn : Nat → Nat → Int32) (t lo : Int32) (i : Nat) (j : Int32) (hV : mV D M m P nW nL ad Fn t lo) (hi : i < nL) (hb : rBel j nL = false) : CMi l D yX4_rhyme cX4_rhyme 3 ((some .int)) 3 0 0 M [.ref (m), .int (nI i), .int (j)] (fun r M' => mV D M' m P nW nL ad Fn (nI 1) lo) := by
  obtain ⟨hP, hA, hB⟩ := id hV
  have hn30 := hP.1.1
  have hn10 := hP.2.1
  refine rM (lv0 := [some (.ref (m)), some (.int (nI i)), some (.int (j))]) (by decide) rfl rfl (Nat.le_of_ble_eq_true rfl) (fun P0 E0 S0 m0 as0 bl0 mt0 c0 A F hrt9 hnm => ?_)
  refine rg_aload_n F (pc := 0) dX4_rhyme_0 rfl ?_
  refine rg_iconst F (pc := 1) (v := nI 0) dX4_rhyme_1 (by decide) ?_
  refine rg_put F (pc := 2) (ci := 5) (ty := tyX4 0) rfl inX4 tyX4 tyX4_ok nmX4 hA.1 0 (by decide) q395 (fun _ h9 => h9) rfl (tyX4_ok 0 (by decide)) rfl rfl (Nat.le_of_ble_eq_true rfl) dX4_rhyme_2 ?_
  refine rm_mem hA (t2 := nI 0) (nW2 := nW) (nL2 := nL) (lo2 := lo) rfl (fun Ms1 hAs1 => ?_)
  refine rg_aload_n F (pc := 5) dX4_rhyme_5 rfl ?_
  refine rg_iload_n F (pc := 6) dX4_rhyme_6 rfl ?_
  refine rg_callVi F (pc := 7) (As := [.int (nI i)]) (rest := []) (ci := 5) (r_isLine l D _ m P nW nL ad Fn (nI 0) lo (nI i) ⟨hP, hAs1, hB⟩) q482 vq_X4_isLine rfl hAs1.1 rfl rfl (Nat.le_of_ble_eq_true rfl) (Nat.le_of_ble_eq_true rfl) (Nat.le_of_ble_eq_true rfl) ⟨(Nat.le_of_ble_eq_true rfl), (Nat.le_of_ble_eq_true rfl)⟩ dX4_rhyme_7 (fun r9 M9 hp => ?_)
  refine rg_top (v2 := .int (nI (rBel (nI i) nL).toNat)) (by first | (rw [hp.1]; done) | (rw [hp.1]; rfl)) ?_
  refine rg_mem (M2 := Ms1) hp.2 ?_
  refine rg_bif_eq F (pc := 10) (tgt := 30) dX4_rhyme_10 (by decide) (fun c10 => absurd c10 (by rw [rBel_nI (by omega), decide_eq_true hi]; decide)) (fun c10 => ?_)
  refine rg_aload_n F (pc := 13) dX4_rhyme_13 rfl ?_
  refine rg_iload_n F (pc := 14) dX4_rhyme_14 rfl ?_
  refine rg_callVi F (pc := 15) (As := [.int (j)]) (rest := []) (ci := 5) (r_isLine l D _ m P nW nL ad Fn (nI 0) lo j ⟨hP, hAs1, hB⟩) q482 vq_X4_isLine rfl hAs1.1 rfl rfl (Nat.le_of_ble_eq_true rfl) (Nat.le_of_ble_eq_true rfl) (Nat.le_of_ble_eq_true rfl) ⟨(Nat.le_of_ble_eq_true rfl), (Nat.le_of_ble_eq_true rfl)⟩ dX4_rhyme_15 (fun r9 M9 hp => ?_)
  refine rg_top (v2 := .int (nI (rBel j nL).toNat)) (by first | (rw [hp.1]; done) | (rw [hp.1]; rfl)) ?_
  refine rg_mem (M2 := Ms1) hp.2 ?_
  refine rg_bif_eq F (pc := 18) (tgt := 30) dX4_rhyme_18 (by decide) (fun c18 => ?_) (fun c18 => absurd c18 (by rw [hb]; decide))
  refine rg_aload_n F (pc := 30) dX4_rhyme_30 rfl ?_
  refine rg_iconst F (pc := 31) (v := nI 1) dX4_rhyme_31 (by decide) ?_
  refine rg_callVi F (pc := 32) (As := [.int (nI 1)]) (rest := []) (ci := 5) (r_no l D _ m P nW nL ad Fn (nI 0) lo (nI 1) ⟨hP, hAs1, hB⟩) q415 vq_X4_no rfl hAs1.1 rfl rfl (Nat.le_of_ble_eq_true rfl) (Nat.le_of_ble_eq_true rfl) (Nat.le_of_ble_eq_true rfl) ⟨(Nat.le_of_ble_eq_true rfl), (Nat.le_of_ble_eq_true rfl)⟩ dX4_rhyme_32 (fun r9 Mn hp => ?_)
  refine rg_top (v2 := .int (nI 0)) (by rw [hp.1]) ?_
  exact rg_iret F (pc := 35) hrt9 (by decide) (by decide) dX4_rhyme_35 ⟨hP, hp.2.2.1, hB⟩
set_option maxHeartbeats 4000000 in
set_option maxRecDepth 100000 in
theorem r_mean (l : Launch) (D : va_G) (M : rMem) (m : Nat) (P : Poem) (nW nL : Nat) (ad : Nat → Nat) (Fn : Nat → Nat → Int32) (t lo : Int32) (hV : mV D M m P nW nL ad Fn t lo) : CMd l D yX4_mean cX4_mean 1 ((some .double)) 5 0 0 M [.ref (m)] (fun r M' => r = zMean P nL ∧ ∃ F' lo', mV D M' m P nW nL ad F' (nI 0) lo') := by
  obtain ⟨hP, hA, hB⟩ := id hV
  have hn30 := hP.1.1
  have hn10 := hP.2.1
  have hal := zAll_le hP nL (Nat.le_refl _)
  refine rM (lv0 := [some (.ref (m))]) (by decide) rfl rfl (Nat.le_of_ble_eq_true rfl) (fun P0 E0 S0 m0 as0 bl0 mt0 c0 A F hrt9 hnm => ?_)
  refine rg_aload_n F (pc := 0) dX4_mean_0 rfl ?_
  refine rg_iconst F (pc := 1) (v := nI 0) dX4_mean_1 (by decide) ?_
  refine rg_put F (pc := 2) (ci := 5) (ty := tyX4 0) rfl inX4 tyX4 tyX4_ok nmX4 hA.1 0 (by decide) q395 (fun _ h9 => h9) rfl (tyX4_ok 0 (by decide)) rfl rfl (Nat.le_of_ble_eq_true rfl) dX4_mean_2 ?_
  refine rm_mem hA (t2 := nI 0) (nW2 := nW) (nL2 := nL) (lo2 := lo) rfl (fun Ms1 hAs1 => ?_)
  refine rg_aload_n F (pc := 5) dX4_mean_5 rfl ?_
  refine rg_get F (pc := 6) (ci := 5) rfl inX4 hAs1.1 7 (by decide) q406 (fun _ h9 => h9) rfl dX4_mean_6 ?_
  refine rg_nif_ne F (pc := 9) (tgt := 16) dX4_mean_9 (by decide) (by omega) (fun c9 => ?_) (fun c9 => ?_)
  · refine rg_aload_n F (pc := 16) dX4_mean_16 rfl ?_
    refine rg_callVi F (pc := 17) (As := []) (rest := []) (ci := 5) (r_scan l D _ m P nW nL ad Fn (nI 0) lo ⟨hP, hAs1, hB⟩) q485 vq_X4_scan rfl hAs1.1 rfl rfl (Nat.le_of_ble_eq_true rfl) (Nat.le_of_ble_eq_true rfl) (Nat.le_of_ble_eq_true rfl) ⟨(Nat.le_of_ble_eq_true rfl), (Nat.le_of_ble_eq_true rfl)⟩ dX4_mean_17 (fun r9 M2 hp => ?_)
    refine rg_top (v2 := .int (nI (zAll P nL))) (by rw [hp.1]) ?_
    obtain ⟨-, F2, hA2, hfe2, hs2⟩ := hp
    have hB2 := hB.fe hfe2
    refine rg_i2d F (pc := 20) dX4_mean_20 ?_
    refine rg_aload_n F (pc := 21) dX4_mean_21 rfl ?_
    refine rg_get F (pc := 22) (ci := 5) rfl inX4 hA2.1 7 (by decide) q406 (fun _ h9 => h9) rfl dX4_mean_22 ?_
    refine rg_i2d F (pc := 25) dX4_mean_25 ?_
    refine rg_ddiv F (pc := 26) dX4_mean_26 (dd_n (by omega) (by omega) (by omega)) ?_
    exact rg_dret F (pc := 27) hrt9 (by decide) (by decide) dX4_mean_27 ⟨by unfold zMean; rw [if_pos (by omega)], _, _, hP, hA2, hB2⟩
  · refine rg_dconst0 F (pc := 12) dX4_mean_12 ?_
    refine rg_goto F (pc := 13) (tgt := 27) dX4_mean_13 (by decide) ?_
    exact rg_dret F (pc := 27) hrt9 (by decide) (by decide) dX4_mean_27 ⟨by unfold zMean; rw [if_neg (by omega)]; rfl, _, _, hP, hAs1, hB⟩
