set_option maxHeartbeats 4000000 in
set_option maxRecDepth 100000 in
theorem r_about (l : Launch) (D : va_G) (M : rMem) (m : Nat) (P : Poem) (nW nL : Nat) (ad : Nat → Nat) (Fn : Nat → Nat → Int32) (t lo : Int32) (w what : Nat) (hV : mV D M m P nW nL ad Fn t lo) (hw : w < nW) (hwt : what < 6) : CMi l D yX4_about cX4_about 3 ((some .int)) 3 1 6 M [.ref (m), .int (nI w), .int (nI what)] (fun r M' => r = nI (zAbout P nL w what) ∧ ∃ F' lo', mV D M' m P nW nL ad F' (nI 0) lo') := by
  obtain ⟨hP, hA, hB⟩ := id hV
  have hn30 := hP.1.1
  have hn10 := hP.2.1
  refine rM (lv0 := [some (.ref (m)), some (.int (nI w)), some (.int (nI what))]) (by decide) rfl rfl (Nat.le_of_ble_eq_true rfl) (fun P0 E0 S0 m0 as0 bl0 mt0 c0 A F hrt9 hnm => ?_)
  refine rg_aload_n F (pc := 0) dX4_about_0 rfl ?_
  refine rg_iconst F (pc := 1) (v := nI 0) dX4_about_1 (by decide) ?_
  refine rg_put F (pc := 2) (ci := 5) (ty := tyX4 0) rfl inX4 tyX4 tyX4_ok nmX4 hA.1 0 (by decide) q395 (fun _ h9 => h9) rfl (tyX4_ok 0 (by decide)) rfl rfl (Nat.le_of_ble_eq_true rfl) dX4_about_2 ?_
  refine rm_mem hA (t2 := nI 0) (nW2 := nW) (nL2 := nL) (lo2 := lo) rfl (fun Ms1 hAs1 => ?_)
  refine rg_aload_n F (pc := 5) dX4_about_5 rfl ?_
  refine rg_iload_n F (pc := 6) dX4_about_6 rfl ?_
  refine rg_callVi F (pc := 7) (As := [.int (nI w)]) (rest := []) (ci := 5) (r_isWord l D _ m P nW nL ad Fn (nI 0) lo (nI w) ⟨hP, hAs1, hB⟩) q396 vq_X4_isWord rfl hAs1.1 rfl rfl (Nat.le_of_ble_eq_true rfl) (Nat.le_of_ble_eq_true rfl) (Nat.le_of_ble_eq_true rfl) ⟨(Nat.le_of_ble_eq_true rfl), (Nat.le_of_ble_eq_true rfl)⟩ dX4_about_7 (fun r9 M9 hp => ?_)
  refine rg_top (v2 := .int (nI (rBel (nI w) nW).toNat)) (by first | (rw [hp.1]; done) | (rw [hp.1]; rfl)) ?_
  refine rg_mem (M2 := Ms1) hp.2 ?_
  refine rg_bif_eq F (pc := 10) (tgt := 31) dX4_about_10 (by decide) (fun c10 => absurd c10 (by rw [rBel_nI (by omega), decide_eq_true hw]; decide)) (fun c10 => ?_)
  refine rg_iload_n F (pc := 13) dX4_about_13 rfl ?_
  refine rg_iconst F (pc := 14) (v := nI 0) dX4_about_14 (by decide) ?_
  refine rg_iconst F (pc := 15) (v := nI 5) dX4_about_15 (by decide) ?_
  refine rg_callSi F (pc := 16) (As := [.int (nI what), .int (nI 0), .int (nI 5)]) (rest := []) (r_isIn l D _ (nI what) (nI 0) (nI 5)) q401 sq_X4_isIn rfl rfl (Nat.le_of_ble_eq_true rfl) (Nat.le_of_ble_eq_true rfl) (Nat.le_of_ble_eq_true rfl) ⟨(Nat.le_of_ble_eq_true rfl), (Nat.le_of_ble_eq_true rfl)⟩ dX4_about_16 (fun r9 M9 hp => ?_)
  refine rg_top (v2 := .int (nI (mIn (nI what) (nI 0) (nI 5)).toNat)) (by first | (rw [hp.1]; done) | (rw [hp.1]; rfl)) ?_
  refine rg_mem (M2 := Ms1) hp.2 ?_
  refine rg_bif_eq F (pc := 19) (tgt := 31) dX4_about_19 (by decide) (fun c19 => absurd c19 (by rw [mIn_bel2 (n := 5) (by decide), rBel_nI (by omega), decide_eq_true (show what < 5 + 1 by omega)]; decide)) (fun c19 => ?_)
  refine rg_aload_n F (pc := 22) dX4_about_22 rfl ?_
  refine rg_iload_n F (pc := 23) dX4_about_23 rfl ?_
  refine rg_iload_n F (pc := 24) dX4_about_24 rfl ?_
  refine rg_callVi F (pc := 25) (As := [.int (nI w), .int (nI what)]) (rest := []) (ci := 5) (r_aboutTold l D _ m P nW nL ad Fn (nI 0) lo w what ⟨hP, hAs1, hB⟩ (by omega) (by omega)) q403 vq_X4_aboutTold rfl hAs1.1 rfl rfl (Nat.le_of_ble_eq_true rfl) (Nat.le_of_ble_eq_true rfl) (Nat.le_of_ble_eq_true rfl) ⟨(Nat.le_of_ble_eq_true rfl), (Nat.le_of_ble_eq_true rfl)⟩ dX4_about_25 (fun r9 Mt hp => ?_)
  refine rg_widen (k2 := 1) (n2 := 6) (by decide) (by decide) ?_
  refine rg_top (v2 := .int (nI (zAbout P nL w what))) (by rw [hp.1]) ?_
  refine rg_goto F (pc := 28) (tgt := 36) dX4_about_28 (by decide) ?_
  exact rg_iret F (pc := 36) hrt9 (by decide) (by decide) dX4_about_36 ⟨rfl, _, _, hP, hp.2, hB⟩
set_option maxHeartbeats 4000000 in
set_option maxRecDepth 100000 in
theorem r_about1 (l : Launch) (D : va_G) (M : rMem) (m : Nat) (P : Poem) (nW nL : Nat) (ad : Nat → Nat) (Fn : Nat → Nat → Int32) (t lo : Int32) (j q : Int32) (hV : mV D M m P nW nL ad Fn t lo) (hb : rBel j nW = false) : CMi l D yX4_about cX4_about 3 ((some .int)) 3 0 0 M [.ref (m), .int (j), .int (q)] (fun r M' => mV D M' m P nW nL ad Fn (nI 1) lo) := by
  obtain ⟨hP, hA, hB⟩ := id hV
  have hn30 := hP.1.1
  have hn10 := hP.2.1
  refine rM (lv0 := [some (.ref (m)), some (.int (j)), some (.int (q))]) (by decide) rfl rfl (Nat.le_of_ble_eq_true rfl) (fun P0 E0 S0 m0 as0 bl0 mt0 c0 A F hrt9 hnm => ?_)
  refine rg_aload_n F (pc := 0) dX4_about_0 rfl ?_
  refine rg_iconst F (pc := 1) (v := nI 0) dX4_about_1 (by decide) ?_
  refine rg_put F (pc := 2) (ci := 5) (ty := tyX4 0) rfl inX4 tyX4 tyX4_ok nmX4 hA.1 0 (by decide) q395 (fun _ h9 => h9) rfl (tyX4_ok 0 (by decide)) rfl rfl (Nat.le_of_ble_eq_true rfl) dX4_about_2 ?_
  refine rm_mem hA (t2 := nI 0) (nW2 := nW) (nL2 := nL) (lo2 := lo) rfl (fun Ms1 hAs1 => ?_)
  refine rg_aload_n F (pc := 5) dX4_about_5 rfl ?_
  refine rg_iload_n F (pc := 6) dX4_about_6 rfl ?_
  refine rg_callVi F (pc := 7) (As := [.int (j)]) (rest := []) (ci := 5) (r_isWord l D _ m P nW nL ad Fn (nI 0) lo j ⟨hP, hAs1, hB⟩) q396 vq_X4_isWord rfl hAs1.1 rfl rfl (Nat.le_of_ble_eq_true rfl) (Nat.le_of_ble_eq_true rfl) (Nat.le_of_ble_eq_true rfl) ⟨(Nat.le_of_ble_eq_true rfl), (Nat.le_of_ble_eq_true rfl)⟩ dX4_about_7 (fun r9 M9 hp => ?_)
  refine rg_top (v2 := .int (nI (rBel j nW).toNat)) (by first | (rw [hp.1]; done) | (rw [hp.1]; rfl)) ?_
  refine rg_mem (M2 := Ms1) hp.2 ?_
  refine rg_bif_eq F (pc := 10) (tgt := 31) dX4_about_10 (by decide) (fun c10 => ?_) (fun c10 => absurd c10 (by rw [hb]; decide))
  refine rg_aload_n F (pc := 31) dX4_about_31 rfl ?_
  refine rg_iconst F (pc := 32) (v := nI 1) dX4_about_32 (by decide) ?_
  refine rg_callVi F (pc := 33) (As := [.int (nI 1)]) (rest := []) (ci := 5) (r_no l D _ m P nW nL ad Fn (nI 0) lo (nI 1) ⟨hP, hAs1, hB⟩) q415 vq_X4_no rfl hAs1.1 rfl rfl (Nat.le_of_ble_eq_true rfl) (Nat.le_of_ble_eq_true rfl) (Nat.le_of_ble_eq_true rfl) ⟨(Nat.le_of_ble_eq_true rfl), (Nat.le_of_ble_eq_true rfl)⟩ dX4_about_33 (fun r9 Mn hp => ?_)
  refine rg_top (v2 := .int (nI 0)) (by rw [hp.1]) ?_
  exact rg_iret F (pc := 36) hrt9 (by decide) (by decide) dX4_about_36 ⟨hP, hp.2.2.1, hB⟩
set_option maxHeartbeats 4000000 in
set_option maxRecDepth 100000 in
theorem r_about2 (l : Launch) (D : va_G) (M : rMem) (m : Nat) (P : Poem) (nW nL : Nat) (ad : Nat → Nat) (Fn : Nat → Nat → Int32) (t lo : Int32) (w : Nat) (j : Int32) (hV : mV D M m P nW nL ad Fn t lo) (hw : w < nW) (hb : rBel j 6 = false) : CMi l D yX4_about cX4_about 3 ((some .int)) 3 0 0 M [.ref (m), .int (nI w), .int (j)] (fun r M' => mV D M' m P nW nL ad Fn (nI 1) lo) := by
  obtain ⟨hP, hA, hB⟩ := id hV
  have hn30 := hP.1.1
  have hn10 := hP.2.1
  refine rM (lv0 := [some (.ref (m)), some (.int (nI w)), some (.int (j))]) (by decide) rfl rfl (Nat.le_of_ble_eq_true rfl) (fun P0 E0 S0 m0 as0 bl0 mt0 c0 A F hrt9 hnm => ?_)
  refine rg_aload_n F (pc := 0) dX4_about_0 rfl ?_
  refine rg_iconst F (pc := 1) (v := nI 0) dX4_about_1 (by decide) ?_
  refine rg_put F (pc := 2) (ci := 5) (ty := tyX4 0) rfl inX4 tyX4 tyX4_ok nmX4 hA.1 0 (by decide) q395 (fun _ h9 => h9) rfl (tyX4_ok 0 (by decide)) rfl rfl (Nat.le_of_ble_eq_true rfl) dX4_about_2 ?_
  refine rm_mem hA (t2 := nI 0) (nW2 := nW) (nL2 := nL) (lo2 := lo) rfl (fun Ms1 hAs1 => ?_)
  refine rg_aload_n F (pc := 5) dX4_about_5 rfl ?_
  refine rg_iload_n F (pc := 6) dX4_about_6 rfl ?_
  refine rg_callVi F (pc := 7) (As := [.int (nI w)]) (rest := []) (ci := 5) (r_isWord l D _ m P nW nL ad Fn (nI 0) lo (nI w) ⟨hP, hAs1, hB⟩) q396 vq_X4_isWord rfl hAs1.1 rfl rfl (Nat.le_of_ble_eq_true rfl) (Nat.le_of_ble_eq_true rfl) (Nat.le_of_ble_eq_true rfl) ⟨(Nat.le_of_ble_eq_true rfl), (Nat.le_of_ble_eq_true rfl)⟩ dX4_about_7 (fun r9 M9 hp => ?_)
  refine rg_top (v2 := .int (nI (rBel (nI w) nW).toNat)) (by first | (rw [hp.1]; done) | (rw [hp.1]; rfl)) ?_
  refine rg_mem (M2 := Ms1) hp.2 ?_
  refine rg_bif_eq F (pc := 10) (tgt := 31) dX4_about_10 (by decide) (fun c10 => absurd c10 (by rw [rBel_nI (by omega), decide_eq_true hw]; decide)) (fun c10 => ?_)
  refine rg_iload_n F (pc := 13) dX4_about_13 rfl ?_
  refine rg_iconst F (pc := 14) (v := nI 0) dX4_about_14 (by decide) ?_
  refine rg_iconst F (pc := 15) (v := nI 5) dX4_about_15 (by decide) ?_
  refine rg_callSi F (pc := 16) (As := [.int (j), .int (nI 0), .int (nI 5)]) (rest := []) (r_isIn l D _ j (nI 0) (nI 5)) q401 sq_X4_isIn rfl rfl (Nat.le_of_ble_eq_true rfl) (Nat.le_of_ble_eq_true rfl) (Nat.le_of_ble_eq_true rfl) ⟨(Nat.le_of_ble_eq_true rfl), (Nat.le_of_ble_eq_true rfl)⟩ dX4_about_16 (fun r9 M9 hp => ?_)
  refine rg_top (v2 := .int (nI (mIn j (nI 0) (nI 5)).toNat)) (by first | (rw [hp.1]; done) | (rw [hp.1]; rfl)) ?_
  refine rg_mem (M2 := Ms1) hp.2 ?_
  refine rg_bif_eq F (pc := 19) (tgt := 31) dX4_about_19 (by decide) (fun c19 => ?_) (fun c19 => absurd c19 (by rw [mIn_bel2 (n := 5) (by decide), hb]; decide))
  refine rg_aload_n F (pc := 31) dX4_about_31 rfl ?_
  refine rg_iconst F (pc := 32) (v := nI 1) dX4_about_32 (by decide) ?_
  refine rg_callVi F (pc := 33) (As := [.int (nI 1)]) (rest := []) (ci := 5) (r_no l D _ m P nW nL ad Fn (nI 0) lo (nI 1) ⟨hP, hAs1, hB⟩) q415 vq_X4_no rfl hAs1.1 rfl rfl (Nat.le_of_ble_eq_true rfl) (Nat.le_of_ble_eq_true rfl) (Nat.le_of_ble_eq_true rfl) ⟨(Nat.le_of_ble_eq_true rfl), (Nat.le_of_ble_eq_true rfl)⟩ dX4_about_33 (fun r9 Mn hp => ?_)
  refine rg_top (v2 := .int (nI 0)) (by rw [hp.1]) ?_
  exact rg_iret F (pc := 36) hrt9 (by decide) (by decide) dX4_about_36 ⟨hP, hp.2.2.1, hB⟩
set_option maxHeartbeats 4000000 in
set_option maxRecDepth 100000 in
theorem r_told (l : Launch) (D : va_G) (M : rMem) (m : Nat) (P : Poem) (nW nL : Nat) (ad : Nat → Nat) (Fn : Nat → Nat → Int32) (t lo : Int32) (i what : Nat) (hV : mV D M m P nW nL ad Fn t lo) (hi : i < nL) (hwt : what < 12) : CMi l D yX4_told cX4_told 3 ((some .int)) 5 1 12 M [.ref (m), .int (nI i), .int (nI what)] (fun r M' => r = nI (zTold P i what) ∧ ∃ F' lo', mV D M' m P nW nL ad F' (nI 0) lo') := by
  obtain ⟨hP, hA, hB⟩ := id hV
  have hn30 := hP.1.1
  have hn10 := hP.2.1
  refine rM (lv0 := [some (.ref (m)), some (.int (nI i)), some (.int (nI what))]) (by decide) rfl rfl (Nat.le_of_ble_eq_true rfl) (fun P0 E0 S0 m0 as0 bl0 mt0 c0 A F hrt9 hnm => ?_)
  refine rg_aload_n F (pc := 0) dX4_told_0 rfl ?_
  refine rg_iconst F (pc := 1) (v := nI 0) dX4_told_1 (by decide) ?_
  refine rg_put F (pc := 2) (ci := 5) (ty := tyX4 0) rfl inX4 tyX4 tyX4_ok nmX4 hA.1 0 (by decide) q395 (fun _ h9 => h9) rfl (tyX4_ok 0 (by decide)) rfl rfl (Nat.le_of_ble_eq_true rfl) dX4_told_2 ?_
  refine rm_mem hA (t2 := nI 0) (nW2 := nW) (nL2 := nL) (lo2 := lo) rfl (fun Ms1 hAs1 => ?_)
  refine rg_aload_n F (pc := 5) dX4_told_5 rfl ?_
  refine rg_iload_n F (pc := 6) dX4_told_6 rfl ?_
  refine rg_callVi F (pc := 7) (As := [.int (nI i)]) (rest := []) (ci := 5) (r_isLine l D _ m P nW nL ad Fn (nI 0) lo (nI i) ⟨hP, hAs1, hB⟩) q482 vq_X4_isLine rfl hAs1.1 rfl rfl (Nat.le_of_ble_eq_true rfl) (Nat.le_of_ble_eq_true rfl) (Nat.le_of_ble_eq_true rfl) ⟨(Nat.le_of_ble_eq_true rfl), (Nat.le_of_ble_eq_true rfl)⟩ dX4_told_7 (fun r9 M9 hp => ?_)
  refine rg_top (v2 := .int (nI (rBel (nI i) nL).toNat)) (by first | (rw [hp.1]; done) | (rw [hp.1]; rfl)) ?_
  refine rg_mem (M2 := Ms1) hp.2 ?_
  refine rg_bif_eq F (pc := 10) (tgt := 23) dX4_told_10 (by decide) (fun c10 => absurd c10 (by rw [rBel_nI (by omega), decide_eq_true hi]; decide)) (fun c10 => ?_)
  refine rg_iload_n F (pc := 13) dX4_told_13 rfl ?_
  refine rg_iconst F (pc := 14) (v := nI 0) dX4_told_14 (by decide) ?_
  refine rg_bipush F (pc := 15) (v := nI 11) dX4_told_15 (by decide) ?_
  refine rg_callSi F (pc := 17) (As := [.int (nI what), .int (nI 0), .int (nI 11)]) (rest := []) (r_isIn l D _ (nI what) (nI 0) (nI 11)) q401 sq_X4_isIn rfl rfl (Nat.le_of_ble_eq_true rfl) (Nat.le_of_ble_eq_true rfl) (Nat.le_of_ble_eq_true rfl) ⟨(Nat.le_of_ble_eq_true rfl), (Nat.le_of_ble_eq_true rfl)⟩ dX4_told_17 (fun r9 M9 hp => ?_)
  refine rg_top (v2 := .int (nI (mIn (nI what) (nI 0) (nI 11)).toNat)) (by first | (rw [hp.1]; done) | (rw [hp.1]; rfl)) ?_
  refine rg_mem (M2 := Ms1) hp.2 ?_
  refine rg_bif_ne F (pc := 20) (tgt := 29) dX4_told_20 (by decide) (fun c20 => ?_) (fun c20 => absurd c20 (by rw [mIn_bel2 (n := 11) (by decide), rBel_nI (by omega), decide_eq_true (show what < 11 + 1 by omega)]; decide))
  refine rg_aload_n F (pc := 29) dX4_told_29 rfl ?_
  refine rg_callVi F (pc := 30) (As := []) (rest := []) (ci := 5) (r_scan l D _ m P nW nL ad Fn (nI 0) lo ⟨hP, hAs1, hB⟩) q485 vq_X4_scan rfl hAs1.1 rfl rfl (Nat.le_of_ble_eq_true rfl) (Nat.le_of_ble_eq_true rfl) (Nat.le_of_ble_eq_true rfl) ⟨(Nat.le_of_ble_eq_true rfl), (Nat.le_of_ble_eq_true rfl)⟩ dX4_told_30 (fun r9 Mc2 hp => ?_)
  refine rg_top (v2 := .int (nI (zAll P nL))) (by rw [hp.1]) ?_
  obtain ⟨-, Fc2, hAc2, hfec2, hS2⟩ := hp
  have hBc2 := hB.fe hfec2
  refine rg_pop F (pc := 33) dX4_told_33 rfl ?_
  refine rg_aload_n F (pc := 34) dX4_told_34 rfl ?_
  refine rg_iload_n F (pc := 35) dX4_told_35 rfl ?_
  refine rg_iload_n F (pc := 36) dX4_told_36 rfl ?_
  refine rg_callVi F (pc := 37) (As := [.int (nI i), .int (nI what)]) (rest := []) (ci := 5) (r_toldOf l D _ m P nW nL ad Fc2 (nI 0) (nI (zCa P nL)) i what ⟨hP, hAc2, hBc2⟩ hS2 (by omega) (by omega)) q488 vq_X4_toldOf rfl hAc2.1 rfl rfl (Nat.le_of_ble_eq_true rfl) (Nat.le_of_ble_eq_true rfl) (Nat.le_of_ble_eq_true rfl) ⟨(Nat.le_of_ble_eq_true rfl), (Nat.le_of_ble_eq_true rfl)⟩ dX4_told_37 (fun r9 Mt hp => ?_)
  refine rg_widen (k2 := 1) (n2 := 12) (by decide) (by decide) ?_
  refine rg_top (v2 := .int (nI (zTold P i what))) (by rw [hp.1]) ?_
  exact rg_iret F (pc := 40) hrt9 (by decide) (by decide) dX4_told_40 ⟨rfl, _, _, hP, hp.2, hBc2⟩
set_option maxHeartbeats 4000000 in
set_option maxRecDepth 100000 in
theorem r_told1 (l : Launch) (D : va_G) (M : rMem) (m : Nat) (P : Poem) (nW nL : Nat) (ad : Nat → Nat) (Fn : Nat → Nat → Int32) (t lo : Int32) (j q : Int32) (hV : mV D M m P nW nL ad Fn t lo) (hb : rBel j nL = false) : CMi l D yX4_told cX4_told 3 ((some .int)) 3 0 0 M [.ref (m), .int (j), .int (q)] (fun r M' => mV D M' m P nW nL ad Fn (nI 1) lo) := by
  obtain ⟨hP, hA, hB⟩ := id hV
  have hn30 := hP.1.1
  have hn10 := hP.2.1
  refine rM (lv0 := [some (.ref (m)), some (.int (j)), some (.int (q))]) (by decide) rfl rfl (Nat.le_of_ble_eq_true rfl) (fun P0 E0 S0 m0 as0 bl0 mt0 c0 A F hrt9 hnm => ?_)
  refine rg_aload_n F (pc := 0) dX4_told_0 rfl ?_
  refine rg_iconst F (pc := 1) (v := nI 0) dX4_told_1 (by decide) ?_
  refine rg_put F (pc := 2) (ci := 5) (ty := tyX4 0) rfl inX4 tyX4 tyX4_ok nmX4 hA.1 0 (by decide) q395 (fun _ h9 => h9) rfl (tyX4_ok 0 (by decide)) rfl rfl (Nat.le_of_ble_eq_true rfl) dX4_told_2 ?_
  refine rm_mem hA (t2 := nI 0) (nW2 := nW) (nL2 := nL) (lo2 := lo) rfl (fun Ms1 hAs1 => ?_)
  refine rg_aload_n F (pc := 5) dX4_told_5 rfl ?_
  refine rg_iload_n F (pc := 6) dX4_told_6 rfl ?_
  refine rg_callVi F (pc := 7) (As := [.int (j)]) (rest := []) (ci := 5) (r_isLine l D _ m P nW nL ad Fn (nI 0) lo j ⟨hP, hAs1, hB⟩) q482 vq_X4_isLine rfl hAs1.1 rfl rfl (Nat.le_of_ble_eq_true rfl) (Nat.le_of_ble_eq_true rfl) (Nat.le_of_ble_eq_true rfl) ⟨(Nat.le_of_ble_eq_true rfl), (Nat.le_of_ble_eq_true rfl)⟩ dX4_told_7 (fun r9 M9 hp => ?_)
  refine rg_top (v2 := .int (nI (rBel j nL).toNat)) (by first | (rw [hp.1]; done) | (rw [hp.1]; rfl)) ?_
  refine rg_mem (M2 := Ms1) hp.2 ?_
  refine rg_bif_eq F (pc := 10) (tgt := 23) dX4_told_10 (by decide) (fun c10 => ?_) (fun c10 => absurd c10 (by rw [hb]; decide))
  refine rg_aload_n F (pc := 23) dX4_told_23 rfl ?_
  refine rg_iconst F (pc := 24) (v := nI 1) dX4_told_24 (by decide) ?_
  refine rg_callVi F (pc := 25) (As := [.int (nI 1)]) (rest := []) (ci := 5) (r_no l D _ m P nW nL ad Fn (nI 0) lo (nI 1) ⟨hP, hAs1, hB⟩) q415 vq_X4_no rfl hAs1.1 rfl rfl (Nat.le_of_ble_eq_true rfl) (Nat.le_of_ble_eq_true rfl) (Nat.le_of_ble_eq_true rfl) ⟨(Nat.le_of_ble_eq_true rfl), (Nat.le_of_ble_eq_true rfl)⟩ dX4_told_25 (fun r9 Mn hp => ?_)
  refine rg_top (v2 := .int (nI 0)) (by rw [hp.1]) ?_
  exact rg_iret F (pc := 28) hrt9 (by decide) (by decide) dX4_told_28 ⟨hP, hp.2.2.1, hB⟩
set_option maxHeartbeats 4000000 in
set_option maxRecDepth 100000 in
theorem r_told2 (l : Launch) (D : va_G) (M : rMem) (m : Nat) (P : Poem) (nW nL : Nat) (ad : Nat → Nat) (Fn : Nat → Nat → Int32) (t lo : Int32) (i : Nat) (j : Int32) (hV : mV D M m P nW nL ad Fn t lo) (hi : i < nL) (hb : rBel j 12 = false) : CMi l D yX4_told cX4_told 3 ((some .int)) 3 0 0 M [.ref (m), .int (nI i), .int (j)] (fun r M' => mV D M' m P nW nL ad Fn (nI 1) lo) := by
  obtain ⟨hP, hA, hB⟩ := id hV
  have hn30 := hP.1.1
  have hn10 := hP.2.1
  refine rM (lv0 := [some (.ref (m)), some (.int (nI i)), some (.int (j))]) (by decide) rfl rfl (Nat.le_of_ble_eq_true rfl) (fun P0 E0 S0 m0 as0 bl0 mt0 c0 A F hrt9 hnm => ?_)
  refine rg_aload_n F (pc := 0) dX4_told_0 rfl ?_
  refine rg_iconst F (pc := 1) (v := nI 0) dX4_told_1 (by decide) ?_
  refine rg_put F (pc := 2) (ci := 5) (ty := tyX4 0) rfl inX4 tyX4 tyX4_ok nmX4 hA.1 0 (by decide) q395 (fun _ h9 => h9) rfl (tyX4_ok 0 (by decide)) rfl rfl (Nat.le_of_ble_eq_true rfl) dX4_told_2 ?_
  refine rm_mem hA (t2 := nI 0) (nW2 := nW) (nL2 := nL) (lo2 := lo) rfl (fun Ms1 hAs1 => ?_)
  refine rg_aload_n F (pc := 5) dX4_told_5 rfl ?_
  refine rg_iload_n F (pc := 6) dX4_told_6 rfl ?_
  refine rg_callVi F (pc := 7) (As := [.int (nI i)]) (rest := []) (ci := 5) (r_isLine l D _ m P nW nL ad Fn (nI 0) lo (nI i) ⟨hP, hAs1, hB⟩) q482 vq_X4_isLine rfl hAs1.1 rfl rfl (Nat.le_of_ble_eq_true rfl) (Nat.le_of_ble_eq_true rfl) (Nat.le_of_ble_eq_true rfl) ⟨(Nat.le_of_ble_eq_true rfl), (Nat.le_of_ble_eq_true rfl)⟩ dX4_told_7 (fun r9 M9 hp => ?_)
  refine rg_top (v2 := .int (nI (rBel (nI i) nL).toNat)) (by first | (rw [hp.1]; done) | (rw [hp.1]; rfl)) ?_
  refine rg_mem (M2 := Ms1) hp.2 ?_
  refine rg_bif_eq F (pc := 10) (tgt := 23) dX4_told_10 (by decide) (fun c10 => absurd c10 (by rw [rBel_nI (by omega), decide_eq_true hi]; decide)) (fun c10 => ?_)
  refine rg_iload_n F (pc := 13) dX4_told_13 rfl ?_
  refine rg_iconst F (pc := 14) (v := nI 0) dX4_told_14 (by decide) ?_
  refine rg_bipush F (pc := 15) (v := nI 11) dX4_told_15 (by decide) ?_
  refine rg_callSi F (pc := 17) (As := [.int (j), .int (nI 0), .int (nI 11)]) (rest := []) (r_isIn l D _ j (nI 0) (nI 11)) q401 sq_X4_isIn rfl rfl (Nat.le_of_ble_eq_true rfl) (Nat.le_of_ble_eq_true rfl) (Nat.le_of_ble_eq_true rfl) ⟨(Nat.le_of_ble_eq_true rfl), (Nat.le_of_ble_eq_true rfl)⟩ dX4_told_17 (fun r9 M9 hp => ?_)
  refine rg_top (v2 := .int (nI (mIn j (nI 0) (nI 11)).toNat)) (by first | (rw [hp.1]; done) | (rw [hp.1]; rfl)) ?_
  refine rg_mem (M2 := Ms1) hp.2 ?_
  refine rg_bif_ne F (pc := 20) (tgt := 29) dX4_told_20 (by decide) (fun c20 => absurd c20 (by rw [mIn_bel2 (n := 11) (by decide), hb]; decide)) (fun c20 => ?_)
  refine rg_aload_n F (pc := 23) dX4_told_23 rfl ?_
  refine rg_iconst F (pc := 24) (v := nI 1) dX4_told_24 (by decide) ?_
  refine rg_callVi F (pc := 25) (As := [.int (nI 1)]) (rest := []) (ci := 5) (r_no l D _ m P nW nL ad Fn (nI 0) lo (nI 1) ⟨hP, hAs1, hB⟩) q415 vq_X4_no rfl hAs1.1 rfl rfl (Nat.le_of_ble_eq_true rfl) (Nat.le_of_ble_eq_true rfl) (Nat.le_of_ble_eq_true rfl) ⟨(Nat.le_of_ble_eq_true rfl), (Nat.le_of_ble_eq_true rfl)⟩ dX4_told_25 (fun r9 Mn hp => ?_)
  refine rg_top (v2 := .int (nI 0)) (by rw [hp.1]) ?_
  exact rg_iret F (pc := 28) hrt9 (by decide) (by decide) dX4_told_28 ⟨hP, hp.2.2.1, hB⟩
set_option maxHeartbeats 4000000 in
set_option maxRecDepth 100000 in
theorem r_stress (l : Launch) (D : va_G) (M : rMem) (m : Nat) (P : Poem) (nW nL : Nat) (ad : Nat → Nat) (Fn : Nat → Nat → Int32) (t lo : Int32) (i p : Nat) (hV : mV D M m P nW nL ad Fn t lo) (hi : i < nL) (hp9 : p < zStay P i) : CMi l D yX4_stress cX4_stress 3 ((some .int)) 5 0 0 M [.ref (m), .int (nI i), .int (nI p)] (fun r M' => r = nI (zBits P i / 2 ^ p % 2) ∧ ∃ F' lo', mV D M' m P nW nL ad F' (nI 0) lo') := by
  obtain ⟨hP, hA, hB⟩ := id hV
  have hn30 := hP.1.1
  have hn10 := hP.2.1
  have hst := zStay_le (hP.2.2 i hi)
  have hbl := zBits_lt (hP.2.2 i hi)
  refine rM (lv0 := [some (.ref (m)), some (.int (nI i)), some (.int (nI p))]) (by decide) rfl rfl (Nat.le_of_ble_eq_true rfl) (fun P0 E0 S0 m0 as0 bl0 mt0 c0 A F hrt9 hnm => ?_)
  refine rg_aload_n F (pc := 0) dX4_stress_0 rfl ?_
  refine rg_iconst F (pc := 1) (v := nI 0) dX4_stress_1 (by decide) ?_
  refine rg_put F (pc := 2) (ci := 5) (ty := tyX4 0) rfl inX4 tyX4 tyX4_ok nmX4 hA.1 0 (by decide) q395 (fun _ h9 => h9) rfl (tyX4_ok 0 (by decide)) rfl rfl (Nat.le_of_ble_eq_true rfl) dX4_stress_2 ?_
  refine rm_mem hA (t2 := nI 0) (nW2 := nW) (nL2 := nL) (lo2 := lo) rfl (fun Ms1 hAs1 => ?_)
  refine rg_aload_n F (pc := 5) dX4_stress_5 rfl ?_
  refine rg_callVi F (pc := 6) (As := []) (rest := []) (ci := 5) (r_scan l D _ m P nW nL ad Fn (nI 0) lo ⟨hP, hAs1, hB⟩) q485 vq_X4_scan rfl hAs1.1 rfl rfl (Nat.le_of_ble_eq_true rfl) (Nat.le_of_ble_eq_true rfl) (Nat.le_of_ble_eq_true rfl) ⟨(Nat.le_of_ble_eq_true rfl), (Nat.le_of_ble_eq_true rfl)⟩ dX4_stress_6 (fun r9 Mc2 hp => ?_)
  refine rg_top (v2 := .int (nI (zAll P nL))) (by rw [hp.1]) ?_
  obtain ⟨-, Fc2, hAc2, hfec2, hS2⟩ := hp
  have hBc2 := hB.fe hfec2
  refine rg_pop F (pc := 9) dX4_stress_9 rfl ?_
  have hSq := hS2 i hi
  obtain ⟨s10, s11, s12, s13, s14, s15⟩ := hSq
  refine rg_aload_n F (pc := 10) dX4_stress_10 rfl ?_
  refine rg_iload_n F (pc := 11) dX4_stress_11 rfl ?_
  refine rg_callVi F (pc := 12) (As := [.int (nI i)]) (rest := []) (ci := 5) (r_isLine l D _ m P nW nL ad Fc2 (nI 0) (nI (zCa P nL)) (nI i) ⟨hP, hAc2, hBc2⟩) q482 vq_X4_isLine rfl hAc2.1 rfl rfl (Nat.le_of_ble_eq_true rfl) (Nat.le_of_ble_eq_true rfl) (Nat.le_of_ble_eq_true rfl) ⟨(Nat.le_of_ble_eq_true rfl), (Nat.le_of_ble_eq_true rfl)⟩ dX4_stress_12 (fun r9 M9 hp => ?_)
  refine rg_top (v2 := .int (nI (rBel (nI i) nL).toNat)) (by first | (rw [hp.1]; done) | (rw [hp.1]; rfl)) ?_
  refine rg_mem (M2 := Mc2) hp.2 ?_
  refine rg_bif_eq F (pc := 15) (tgt := 47) dX4_stress_15 (by decide) (fun c15 => absurd c15 (by rw [rBel_nI (by omega), decide_eq_true hi]; decide)) (fun c15 => ?_)
  refine rg_iload_n F (pc := 18) dX4_stress_18 rfl ?_
  refine rg_iconst F (pc := 19) (v := nI 0) dX4_stress_19 (by decide) ?_
  refine rg_aload_n F (pc := 20) dX4_stress_20 rfl ?_
  refine rg_get F (pc := 21) (ci := 5) rfl inX4 hAc2.1 15 (by decide) q435 (fun _ h9 => h9) rfl dX4_stress_21 ?_
  refine rg_iload_n F (pc := 24) dX4_stress_24 rfl ?_
  refine rm_ld F hAc2 (pc := 25) (q := 12) (j := i) (x := nI (zStay P i)) (by decide) (show i < 10 by omega) s12 dX4_stress_25 ?_
  refine rg_iconst F (pc := 26) (v := nI 1) dX4_stress_26 (by decide) ?_
  refine rg_isub F (pc := 27) (v := nI (zStay P i) - nI 1) dX4_stress_27 rfl ?_
  refine rg_callSi F (pc := 28) (As := [.int (nI p), .int (nI 0), .int (nI (zStay P i) - nI 1)]) (rest := []) (r_isIn l D _ (nI p) (nI 0) (nI (zStay P i) - nI 1)) q401 sq_X4_isIn rfl rfl (Nat.le_of_ble_eq_true rfl) (Nat.le_of_ble_eq_true rfl) (Nat.le_of_ble_eq_true rfl) ⟨(Nat.le_of_ble_eq_true rfl), (Nat.le_of_ble_eq_true rfl)⟩ dX4_stress_28 (fun r9 M9 hp => ?_)
  refine rg_top (v2 := .int (nI (mIn (nI p) (nI 0) (nI (zStay P i) - nI 1)).toNat)) (by first | (rw [hp.1]; done) | (rw [hp.1]; rfl)) ?_
  refine rg_mem (M2 := Mc2) hp.2 ?_
  refine rg_bif_eq F (pc := 31) (tgt := 47) dX4_stress_31 (by decide) (fun c31 => absurd c31 (by rw [mIn_bel (by omega), rBel_nI (by omega), decide_eq_true hp9]; decide)) (fun c31 => ?_)
  refine rg_aload_n F (pc := 34) dX4_stress_34 rfl ?_
  refine rg_get F (pc := 35) (ci := 5) rfl inX4 hAc2.1 16 (by decide) q437 (fun _ h9 => h9) rfl dX4_stress_35 ?_
  refine rg_iload_n F (pc := 38) dX4_stress_38 rfl ?_
  refine rm_ld F hAc2 (pc := 39) (q := 13) (j := i) (x := nI (zBits P i)) (by decide) (show i < 10 by omega) s13 dX4_stress_39 ?_
  refine rg_iload_n F (pc := 40) dX4_stress_40 rfl ?_
  refine rg_ishr F (pc := 41) (v := nI ((zBits P i) / 2 ^ p)) dX4_stress_41 (rn_shr (by omega) (by omega)) ?_
  refine rg_iconst F (pc := 42) (v := nI 1) dX4_stress_42 (by decide) ?_
  refine rg_iand F (pc := 43) (v := nI (((zBits P i) / 2 ^ p) % 2)) dX4_stress_43 (rn_and1 (Nat.lt_of_le_of_lt (Nat.div_le_self _ _) (by omega))) ?_
  refine rg_goto F (pc := 44) (tgt := 52) dX4_stress_44 (by decide) ?_
  exact rg_iret F (pc := 52) hrt9 (by decide) (by decide) dX4_stress_52 ⟨rfl, _, _, hP, hAc2, hBc2⟩
set_option maxHeartbeats 4000000 in
set_option maxRecDepth 100000 in
theorem r_stress1 (l : Launch) (D : va_G) (M : rMem) (m : Nat) (P : Poem) (nW nL : Nat) (ad : Nat → Nat) (Fn : Nat → Nat → Int32) (t lo : Int32) (j q : Int32) (hV : mV D M m P nW nL ad Fn t lo) (hb : rBel j nL = false) : CMi l D yX4_stress cX4_stress 3 ((some .int)) 5 0 0 M [.ref (m), .int (j), .int (q)] (fun r M' => ∃ F' lo', mV D M' m P nW nL ad F' (nI 1) lo') := by
  obtain ⟨hP, hA, hB⟩ := id hV
  have hn30 := hP.1.1
  have hn10 := hP.2.1
  refine rM (lv0 := [some (.ref (m)), some (.int (j)), some (.int (q))]) (by decide) rfl rfl (Nat.le_of_ble_eq_true rfl) (fun P0 E0 S0 m0 as0 bl0 mt0 c0 A F hrt9 hnm => ?_)
  refine rg_aload_n F (pc := 0) dX4_stress_0 rfl ?_
  refine rg_iconst F (pc := 1) (v := nI 0) dX4_stress_1 (by decide) ?_
  refine rg_put F (pc := 2) (ci := 5) (ty := tyX4 0) rfl inX4 tyX4 tyX4_ok nmX4 hA.1 0 (by decide) q395 (fun _ h9 => h9) rfl (tyX4_ok 0 (by decide)) rfl rfl (Nat.le_of_ble_eq_true rfl) dX4_stress_2 ?_
  refine rm_mem hA (t2 := nI 0) (nW2 := nW) (nL2 := nL) (lo2 := lo) rfl (fun Ms1 hAs1 => ?_)
  refine rg_aload_n F (pc := 5) dX4_stress_5 rfl ?_
  refine rg_callVi F (pc := 6) (As := []) (rest := []) (ci := 5) (r_scan l D _ m P nW nL ad Fn (nI 0) lo ⟨hP, hAs1, hB⟩) q485 vq_X4_scan rfl hAs1.1 rfl rfl (Nat.le_of_ble_eq_true rfl) (Nat.le_of_ble_eq_true rfl) (Nat.le_of_ble_eq_true rfl) ⟨(Nat.le_of_ble_eq_true rfl), (Nat.le_of_ble_eq_true rfl)⟩ dX4_stress_6 (fun r9 Mc2 hp => ?_)
  refine rg_top (v2 := .int (nI (zAll P nL))) (by rw [hp.1]) ?_
  obtain ⟨-, Fc2, hAc2, hfec2, hS2⟩ := hp
  have hBc2 := hB.fe hfec2
  refine rg_pop F (pc := 9) dX4_stress_9 rfl ?_
  refine rg_aload_n F (pc := 10) dX4_stress_10 rfl ?_
  refine rg_iload_n F (pc := 11) dX4_stress_11 rfl ?_
  refine rg_callVi F (pc := 12) (As := [.int (j)]) (rest := []) (ci := 5) (r_isLine l D _ m P nW nL ad Fc2 (nI 0) (nI (zCa P nL)) j ⟨hP, hAc2, hBc2⟩) q482 vq_X4_isLine rfl hAc2.1 rfl rfl (Nat.le_of_ble_eq_true rfl) (Nat.le_of_ble_eq_true rfl) (Nat.le_of_ble_eq_true rfl) ⟨(Nat.le_of_ble_eq_true rfl), (Nat.le_of_ble_eq_true rfl)⟩ dX4_stress_12 (fun r9 M9 hp => ?_)
  refine rg_top (v2 := .int (nI (rBel j nL).toNat)) (by first | (rw [hp.1]; done) | (rw [hp.1]; rfl)) ?_
  refine rg_mem (M2 := Mc2) hp.2 ?_
  refine rg_bif_eq F (pc := 15) (tgt := 47) dX4_stress_15 (by decide) (fun c15 => ?_) (fun c15 => absurd c15 (by rw [hb]; decide))
  refine rg_aload_n F (pc := 47) dX4_stress_47 rfl ?_
  refine rg_iconst F (pc := 48) (v := nI 1) dX4_stress_48 (by decide) ?_
  refine rg_callVi F (pc := 49) (As := [.int (nI 1)]) (rest := []) (ci := 5) (r_no l D _ m P nW nL ad Fc2 (nI 0) (nI (zCa P nL)) (nI 1) ⟨hP, hAc2, hBc2⟩) q415 vq_X4_no rfl hAc2.1 rfl rfl (Nat.le_of_ble_eq_true rfl) (Nat.le_of_ble_eq_true rfl) (Nat.le_of_ble_eq_true rfl) ⟨(Nat.le_of_ble_eq_true rfl), (Nat.le_of_ble_eq_true rfl)⟩ dX4_stress_49 (fun r9 Mn hp => ?_)
  refine rg_top (v2 := .int (nI 0)) (by rw [hp.1]) ?_
  exact rg_iret F (pc := 52) hrt9 (by decide) (by decide) dX4_stress_52 ⟨_, _, hP, hp.2.2.1, hBc2⟩
set_option maxHeartbeats 4000000 in
set_option maxRecDepth 100000 in
theorem r_stress2 (l : Launch) (D : va_G) (M : rMem) (m : Nat) (P : Poem) (nW nL : Nat) (ad : Nat → Nat) (Fn : Nat → Nat → Int32) (t lo : Int32) (i : Nat) (j : Int32) (hV : mV D M m P nW nL ad Fn t lo) (hi : i < nL) (hb : rBel j (zStay P i) = false) : CMi l D yX4_stress cX4_stress 3 ((some .int)) 5 0 0 M [.ref (m), .int (nI i), .int (j)] (fun r M' => ∃ F' lo', mV D M' m P nW nL ad F' (nI 1) lo') := by
  obtain ⟨hP, hA, hB⟩ := id hV
  have hn30 := hP.1.1
  have hn10 := hP.2.1
  have hst := zStay_le (hP.2.2 i hi)
  have hbl := zBits_lt (hP.2.2 i hi)
  refine rM (lv0 := [some (.ref (m)), some (.int (nI i)), some (.int (j))]) (by decide) rfl rfl (Nat.le_of_ble_eq_true rfl) (fun P0 E0 S0 m0 as0 bl0 mt0 c0 A F hrt9 hnm => ?_)
  refine rg_aload_n F (pc := 0) dX4_stress_0 rfl ?_
  refine rg_iconst F (pc := 1) (v := nI 0) dX4_stress_1 (by decide) ?_
  refine rg_put F (pc := 2) (ci := 5) (ty := tyX4 0) rfl inX4 tyX4 tyX4_ok nmX4 hA.1 0 (by decide) q395 (fun _ h9 => h9) rfl (tyX4_ok 0 (by decide)) rfl rfl (Nat.le_of_ble_eq_true rfl) dX4_stress_2 ?_
  refine rm_mem hA (t2 := nI 0) (nW2 := nW) (nL2 := nL) (lo2 := lo) rfl (fun Ms1 hAs1 => ?_)
  refine rg_aload_n F (pc := 5) dX4_stress_5 rfl ?_
  refine rg_callVi F (pc := 6) (As := []) (rest := []) (ci := 5) (r_scan l D _ m P nW nL ad Fn (nI 0) lo ⟨hP, hAs1, hB⟩) q485 vq_X4_scan rfl hAs1.1 rfl rfl (Nat.le_of_ble_eq_true rfl) (Nat.le_of_ble_eq_true rfl) (Nat.le_of_ble_eq_true rfl) ⟨(Nat.le_of_ble_eq_true rfl), (Nat.le_of_ble_eq_true rfl)⟩ dX4_stress_6 (fun r9 Mc2 hp => ?_)
  refine rg_top (v2 := .int (nI (zAll P nL))) (by rw [hp.1]) ?_
  obtain ⟨-, Fc2, hAc2, hfec2, hS2⟩ := hp
  have hBc2 := hB.fe hfec2
  refine rg_pop F (pc := 9) dX4_stress_9 rfl ?_
  have hSq := hS2 i hi
  obtain ⟨s10, s11, s12, s13, s14, s15⟩ := hSq
  refine rg_aload_n F (pc := 10) dX4_stress_10 rfl ?_
  refine rg_iload_n F (pc := 11) dX4_stress_11 rfl ?_
  refine rg_callVi F (pc := 12) (As := [.int (nI i)]) (rest := []) (ci := 5) (r_isLine l D _ m P nW nL ad Fc2 (nI 0) (nI (zCa P nL)) (nI i) ⟨hP, hAc2, hBc2⟩) q482 vq_X4_isLine rfl hAc2.1 rfl rfl (Nat.le_of_ble_eq_true rfl) (Nat.le_of_ble_eq_true rfl) (Nat.le_of_ble_eq_true rfl) ⟨(Nat.le_of_ble_eq_true rfl), (Nat.le_of_ble_eq_true rfl)⟩ dX4_stress_12 (fun r9 M9 hp => ?_)
  refine rg_top (v2 := .int (nI (rBel (nI i) nL).toNat)) (by first | (rw [hp.1]; done) | (rw [hp.1]; rfl)) ?_
  refine rg_mem (M2 := Mc2) hp.2 ?_
  refine rg_bif_eq F (pc := 15) (tgt := 47) dX4_stress_15 (by decide) (fun c15 => absurd c15 (by rw [rBel_nI (by omega), decide_eq_true hi]; decide)) (fun c15 => ?_)
  refine rg_iload_n F (pc := 18) dX4_stress_18 rfl ?_
  refine rg_iconst F (pc := 19) (v := nI 0) dX4_stress_19 (by decide) ?_
  refine rg_aload_n F (pc := 20) dX4_stress_20 rfl ?_
  refine rg_get F (pc := 21) (ci := 5) rfl inX4 hAc2.1 15 (by decide) q435 (fun _ h9 => h9) rfl dX4_stress_21 ?_
  refine rg_iload_n F (pc := 24) dX4_stress_24 rfl ?_
  refine rm_ld F hAc2 (pc := 25) (q := 12) (j := i) (x := nI (zStay P i)) (by decide) (show i < 10 by omega) s12 dX4_stress_25 ?_
  refine rg_iconst F (pc := 26) (v := nI 1) dX4_stress_26 (by decide) ?_
  refine rg_isub F (pc := 27) (v := nI (zStay P i) - nI 1) dX4_stress_27 rfl ?_
  refine rg_callSi F (pc := 28) (As := [.int (j), .int (nI 0), .int (nI (zStay P i) - nI 1)]) (rest := []) (r_isIn l D _ j (nI 0) (nI (zStay P i) - nI 1)) q401 sq_X4_isIn rfl rfl (Nat.le_of_ble_eq_true rfl) (Nat.le_of_ble_eq_true rfl) (Nat.le_of_ble_eq_true rfl) ⟨(Nat.le_of_ble_eq_true rfl), (Nat.le_of_ble_eq_true rfl)⟩ dX4_stress_28 (fun r9 M9 hp => ?_)
  refine rg_top (v2 := .int (nI (mIn j (nI 0) (nI (zStay P i) - nI 1)).toNat)) (by first | (rw [hp.1]; done) | (rw [hp.1]; rfl)) ?_
  refine rg_mem (M2 := Mc2) hp.2 ?_
  refine rg_bif_eq F (pc := 31) (tgt := 47) dX4_stress_31 (by decide) (fun c31 => ?_) (fun c31 => absurd c31 (by rw [mIn_bel (by omega), hb]; decide))
  refine rg_aload_n F (pc := 47) dX4_stress_47 rfl ?_
  refine rg_iconst F (pc := 48) (v := nI 1) dX4_stress_48 (by decide) ?_
  refine rg_callVi F (pc := 49) (As := [.int (nI 1)]) (rest := []) (ci := 5) (r_no l D _ m P nW nL ad Fc2 (nI 0) (nI (zCa P nL)) (nI 1) ⟨hP, hAc2, hBc2⟩) q415 vq_X4_no rfl hAc2.1 rfl rfl (Nat.le_of_ble_eq_true rfl) (Nat.le_of_ble_eq_true rfl) (Nat.le_of_ble_eq_true rfl) ⟨(Nat.le_of_ble_eq_true rfl), (Nat.le_of_ble_eq_true rfl)⟩ dX4_stress_49 (fun r9 Mn hp => ?_)
  refine rg_top (v2 := .int (nI 0)) (by rw [hp.1]) ?_
  exact rg_iret F (pc := 52) hrt9 (by decide) (by decide) dX4_stress_52 ⟨_, _, hP, hp.2.2.1, hBc2⟩
theorem zLost_ca (P : Poem) (nL : Nat) : zLost P nL = zCa P nL := by
  unfold zLost
  split
  · rename_i h
    rw [← zCa_succ, show nL - 1 + 1 = nL by omega]
  · rename_i h
    rw [show nL = 0 by omega]
    rfl
set_option maxHeartbeats 4000000 in
set_option maxRecDepth 100000 in
theorem r_counted (l : Launch) (D : va_G) (M : rMem) (m : Nat) (P : Poem) (nW nL : Nat) (ad : Nat → Nat) (Fn : Nat → Nat → Int32) (t lo : Int32) (what : Nat) (hV : mV D M m P nW nL ad Fn t lo) (hwt : what < 7) : CMi l D yX4_counted cX4_counted 7 ((some .int)) 5 1 7 M [.ref (m), .int (nI what)] (fun r M' => r = nI (zCnt P nW nL what) ∧ ∃ F' lo', mV D M' m P nW nL ad F' t lo') := by
  obtain ⟨hP, hA, hB⟩ := id hV
  have hn30 := hP.1.1
  have hn10 := hP.2.1
  refine rM (lv0 := [some (.ref (m)), some (.int (nI what)), none, none, none, none, none]) (by decide) rfl rfl (Nat.le_of_ble_eq_true rfl) (fun P0 E0 S0 m0 as0 bl0 mt0 c0 A F hrt9 hnm => ?_)
  refine rg_aload_n F (pc := 0) dX4_counted_0 rfl ?_
  refine rg_callVi F (pc := 1) (As := []) (rest := []) (ci := 5) (r_scan l D _ m P nW nL ad Fn t lo ⟨hP, hA, hB⟩) q485 vq_X4_scan rfl hA.1 rfl rfl (Nat.le_of_ble_eq_true rfl) (Nat.le_of_ble_eq_true rfl) (Nat.le_of_ble_eq_true rfl) ⟨(Nat.le_of_ble_eq_true rfl), (Nat.le_of_ble_eq_true rfl)⟩ dX4_counted_1 (fun r9 Mc1 hp => ?_)
  refine rg_top (v2 := .int (nI (zAll P nL))) (by rw [hp.1]) ?_
  obtain ⟨-, Fc1, hAc1, hfec1, hS1⟩ := hp
  have hBc1 := hB.fe hfec1
  refine rg_istore_n F (pc := 4) (lv' := [some (.ref (m)), some (.int (nI what)), some (.int (nI (zAll P nL))), none, none, none, none]) dX4_counted_4 (Nat.le_of_ble_eq_true rfl) rfl ?_
  refine rg_iconst F (pc := 5) (v := nI 0) dX4_counted_5 (by decide) ?_
  refine rg_istore_n F (pc := 6) (lv' := [some (.ref (m)), some (.int (nI what)), some (.int (nI (zAll P nL))), some (.int (nI 0)), none, none, none]) dX4_counted_6 (Nat.le_of_ble_eq_true rfl) rfl ?_
  refine rg_iconst F (pc := 7) (v := nI 0) dX4_counted_7 (by decide) ?_
  refine rg_istore F (pc := 8) (lv' := [some (.ref (m)), some (.int (nI what)), some (.int (nI (zAll P nL))), some (.int (nI 0)), some (.int (nI 0)), none, none]) dX4_counted_8 (Nat.le_of_ble_eq_true rfl) rfl ?_
  refine rg_iconst F (pc := 10) (v := nI 0) dX4_counted_10 (by decide) ?_
  refine rg_istore F (pc := 11) (lv' := [some (.ref (m)), some (.int (nI what)), some (.int (nI (zAll P nL))), some (.int (nI 0)), some (.int (nI 0)), some (.int (nI 0)), none]) dX4_counted_11 (Nat.le_of_ble_eq_true rfl) rfl ?_
  refine rg_iconst F (pc := 13) (v := nI 0) dX4_counted_13 (by decide) ?_
  refine rg_istore F (pc := 14) (lv' := [some (.ref (m)), some (.int (nI what)), some (.int (nI (zAll P nL))), some (.int (nI 0)), some (.int (nI 0)), some (.int (nI 0)), some (.int (nI 0))]) dX4_counted_14 (Nat.le_of_ble_eq_true rfl) rfl ?_
  have hSS := hS1
  refine rg_eq (lv2 := [some (.ref (m)), some (.int (nI what)), some (.int (nI (zAll P nL))), some (.int (nI (zCl P 2 0))), some (.int (nI (zCl P 3 0))), some (.int (nI (zCl P 4 0))), some (.int (nI 0))]) (st2 := []) (pc2 := 16) rfl rfl rfl ?_
  suffices L1 : ∀ (d9 : Nat) (k : Nat), nL - k < d9 → (k ≤ nL) → rG P0 l E0 (rR 5 1 7) S0 m0 as0 bl0 mt0 c0 D A 7 (MQ bl0 (va_Qi (fun r M' => r = nI (zCnt P nW nL what) ∧ ∃ F' lo', mV D M' m P nW nL ad F' t lo') (cB D A) A) as0 S0 1 7 A) Mc1 0 0 [some (.ref (m)), some (.int (nI what)), some (.int (nI (zAll P nL))), some (.int (nI (zCl P 2 k))), some (.int (nI (zCl P 3 k))), some (.int (nI (zCl P 4 k))), some (.int (nI k))] 16 [] from L1 _ 0 (Nat.lt_succ_self _) (Nat.zero_le _)
  intro d9
  induction d9 with
  | zero => intro k hd9; exact absurd hd9 (Nat.not_lt_zero _)
  | succ d9 ih =>
    intro k hd9 hk1
    have hl2 := zCl_le hP 2 k hk1
    have hl3 := zCl_le hP 3 k hk1
    have hl4 := zCl_le hP 4 k hk1
    refine rg_iload F (pc := 16) dX4_counted_16 rfl ?_
    refine rg_aload_n F (pc := 18) dX4_counted_18 rfl ?_
    refine rg_get F (pc := 19) (ci := 5) rfl inX4 hAc1.1 7 (by decide) q406 (fun _ h9 => h9) rfl dX4_counted_19 ?_
    refine rg_ncmp_ge F (pc := 22) (tgt := 82) dX4_counted_22 (by decide) (by omega) (by omega) (fun c22 => ?_) (fun c22 => ?_)
    · have ek : k = nL := by omega
      refine rg_eq (lv2 := [some (.ref (m)), some (.int (nI what)), some (.int (nI (zAll P nL))), some (.int (nI (zCl P 2 nL))), some (.int (nI (zCl P 3 nL))), some (.int (nI (zCl P 4 nL))), some (.int (nI k))]) (st2 := []) (pc2 := 82) (by rw [ek]) rfl rfl ?_
      refine rg_sub (lv' := [some (.ref (m)), some (.int (nI what)), some (.int (nI (zAll P nL))), some (.int (nI (zCl P 2 nL))), some (.int (nI (zCl P 3 nL))), some (.int (nI (zCl P 4 nL))), none]) (by repeat' constructor) ?_
      refine rg_bipush F (pc := 82) (v := nI 7) dX4_counted_82 (by decide) ?_
      refine rm_newI F hAc1 (pc := 84) (N := 7) (Nat.le_of_ble_eq_true rfl) (Nat.le_of_ble_eq_true rfl) (Nat.le_of_ble_eq_true rfl) q409 dX4_counted_84 (fun a84 Ms3 hN3 => ?_)
      refine rg_widen (k2 := 1) (n2 := 7) (by decide) (by decide) ?_
      refine rg_dup F (pc := 86) dX4_counted_86 rfl ?_
      refine rg_iconst F (pc := 87) (v := nI 0) dX4_counted_87 (by decide) ?_
      refine rg_aload_n F (pc := 88) dX4_counted_88 rfl ?_
      refine rg_get F (pc := 89) (ci := 5) rfl inX4 hN3.1.1 1 (by decide) q400 (fun _ h9 => h9) rfl dX4_counted_89 ?_
      refine rm_stN F hN3 (pc := 92) (j := 0) (x := nI nW) (Nat.le_of_ble_eq_true rfl) (Nat.le_of_ble_eq_true rfl) dX4_counted_92 (fun Ms4 hN4 => ?_)
      refine rg_dup F (pc := 93) dX4_counted_93 rfl ?_
      refine rg_iconst F (pc := 94) (v := nI 1) dX4_counted_94 (by decide) ?_
      refine rg_aload_n F (pc := 95) dX4_counted_95 rfl ?_
      refine rg_get F (pc := 96) (ci := 5) rfl inX4 hN4.1.1 7 (by decide) q406 (fun _ h9 => h9) rfl dX4_counted_96 ?_
      refine rm_stN F hN4 (pc := 99) (j := 1) (x := nI nL) (Nat.le_of_ble_eq_true rfl) (Nat.le_of_ble_eq_true rfl) dX4_counted_99 (fun Ms5 hN5 => ?_)
      refine rg_dup F (pc := 100) dX4_counted_100 rfl ?_
      refine rg_iconst F (pc := 101) (v := nI 2) dX4_counted_101 (by decide) ?_
      refine rg_iload_n F (pc := 102) dX4_counted_102 rfl ?_
      refine rm_stN F hN5 (pc := 103) (j := 2) (x := nI (zCl P 2 nL)) (Nat.le_of_ble_eq_true rfl) (Nat.le_of_ble_eq_true rfl) dX4_counted_103 (fun Ms6 hN6 => ?_)
      refine rg_dup F (pc := 104) dX4_counted_104 rfl ?_
      refine rg_iconst F (pc := 105) (v := nI 3) dX4_counted_105 (by decide) ?_
      refine rg_iload F (pc := 106) dX4_counted_106 rfl ?_
      refine rm_stN F hN6 (pc := 108) (j := 3) (x := nI (zCl P 3 nL)) (Nat.le_of_ble_eq_true rfl) (Nat.le_of_ble_eq_true rfl) dX4_counted_108 (fun Ms7 hN7 => ?_)
      refine rg_dup F (pc := 109) dX4_counted_109 rfl ?_
      refine rg_iconst F (pc := 110) (v := nI 4) dX4_counted_110 (by decide) ?_
      refine rg_iload F (pc := 111) dX4_counted_111 rfl ?_
      refine rm_stN F hN7 (pc := 113) (j := 4) (x := nI (zCl P 4 nL)) (Nat.le_of_ble_eq_true rfl) (Nat.le_of_ble_eq_true rfl) dX4_counted_113 (fun Ms8 hN8 => ?_)
      refine rg_dup F (pc := 114) dX4_counted_114 rfl ?_
      refine rg_iconst F (pc := 115) (v := nI 5) dX4_counted_115 (by decide) ?_
      refine rg_aload_n F (pc := 116) dX4_counted_116 rfl ?_
      refine rg_get F (pc := 117) (ci := 5) rfl inX4 hN8.1.1 20 (by decide) q445 (fun _ h9 => h9) rfl dX4_counted_117 ?_
      refine rm_stN F hN8 (pc := 120) (j := 5) (x := nI (zCa P nL)) (Nat.le_of_ble_eq_true rfl) (Nat.le_of_ble_eq_true rfl) dX4_counted_120 (fun Ms9 hN9 => ?_)
      refine rg_dup F (pc := 121) dX4_counted_121 rfl ?_
      refine rg_bipush F (pc := 122) (v := nI 6) dX4_counted_122 (by decide) ?_
      refine rg_iload_n F (pc := 124) dX4_counted_124 rfl ?_
      refine rm_stN F hN9 (pc := 125) (j := 6) (x := nI (zAll P nL)) (Nat.le_of_ble_eq_true rfl) (Nat.le_of_ble_eq_true rfl) dX4_counted_125 (fun Ms10 hN10 => ?_)
      refine rg_astore F (pc := 126) (lv' := [some (.ref (m)), some (.int (nI what)), some (.int (nI (zAll P nL))), some (.int (nI (zCl P 2 nL))), some (.int (nI (zCl P 3 nL))), some (.int (nI (zCl P 4 nL))), some (.ref (a84))]) dX4_counted_126 (Nat.le_of_ble_eq_true rfl) rfl ?_
      refine rg_aload F (pc := 128) dX4_counted_128 rfl ?_
      refine rg_iload_n F (pc := 130) dX4_counted_130 rfl ?_
      refine rm_ldN F hN10 (pc := 131) (j := what) (x := nI (zCnt P nW nL what)) (by omega) (Nat.le_of_ble_eq_true rfl) (by rcases (show what = 0 ∨ what = 1 ∨ what = 2 ∨ what = 3 ∨ what = 4 ∨ what = 5 ∨ what = 6 by omega) with h | h | h | h | h | h | h <;> subst h <;> first | rfl | exact congrArg nI (zLost_ca P nL).symm) dX4_counted_131 ?_
      exact rg_iret F (pc := 132) hrt9 (by decide) (by decide) dX4_counted_132 ⟨rfl, _, _, hP, hN10.1, hBc1⟩
    · have hkn : k < nL := by omega
      have hlk := hP.2.2 k hkn
      have hz8 := hlk.2.2.2.2.1
      obtain ⟨s10, s11, s12, s13, s14, s15⟩ := hSS k hkn
      have hof : zOff P k ≤ 18 := zOffM_le _ _ _
      have hrm := zRm_le hlk
      have hlq : zLack P k ≤ 18 := by unfold zLack; omega
      have hst := zStay_le hlk
      refine rg_iload_n F (pc := 25) dX4_counted_25 rfl ?_
      refine rg_aload_n F (pc := 26) dX4_counted_26 rfl ?_
      refine rg_get F (pc := 27) (ci := 5) rfl inX4 hAc1.1 11 (by decide) q407 (fun _ h9 => h9) rfl dX4_counted_27 ?_
      refine rg_iload F (pc := 30) dX4_counted_30 rfl ?_
      refine rm_ld F hAc1 (pc := 32) (q := 8) (j := k) (x := nI (zC P k)) (by decide) (show k < 10 by omega) (hBc1.2.2.1 k (by omega)) dX4_counted_32 ?_
      refine rg_iadd F (pc := 33) (v := nI (zCl P 2 (k + 1))) dX4_counted_33 (nI_add _ _) ?_
      refine rg_istore_n F (pc := 34) (lv' := [some (.ref (m)), some (.int (nI what)), some (.int (nI (zAll P nL))), some (.int (nI (zCl P 2 (k + 1)))), some (.int (nI (zCl P 3 k))), some (.int (nI (zCl P 4 k))), some (.int (nI k))]) dX4_counted_34 (Nat.le_of_ble_eq_true rfl) rfl ?_
      refine rg_iload F (pc := 35) dX4_counted_35 rfl ?_
      refine rg_aload_n F (pc := 37) dX4_counted_37 rfl ?_
      refine rg_get F (pc := 38) (ci := 5) rfl inX4 hAc1.1 17 (by decide) q438 (fun _ h9 => h9) rfl dX4_counted_38 ?_
      refine rg_iload F (pc := 41) dX4_counted_41 rfl ?_
      refine rm_ld F hAc1 (pc := 43) (q := 14) (j := k) (x := nI (zOff P k)) (by decide) (show k < 10 by omega) s14 dX4_counted_43 ?_
      refine rg_nif_ne F (pc := 44) (tgt := 60) dX4_counted_44 (by decide) (by omega) (fun c44 => ?_) (fun c44 => ?_)
      · refine rg_iconst F (pc := 60) (v := nI 0) dX4_counted_60 (by decide) ?_
        refine rg_top (v2 := .int (nI (zCl1 P 3 k))) (by show _ = Value.int (nI (decide (zOff P k = 0 ∧ zLack P k = 0)).toNat); rw [decide_eq_false (show ¬ (zOff P k = 0 ∧ zLack P k = 0) from (fun z => by omega))]; rfl) ?_
        refine rg_iadd F (pc := 61) (v := nI (zCl P 3 (k + 1))) dX4_counted_61 (nI_add _ _) ?_
        refine rg_istore F (pc := 62) (lv' := [some (.ref (m)), some (.int (nI what)), some (.int (nI (zAll P nL))), some (.int (nI (zCl P 2 (k + 1)))), some (.int (nI (zCl P 3 (k + 1)))), some (.int (nI (zCl P 4 k))), some (.int (nI k))]) dX4_counted_62 (Nat.le_of_ble_eq_true rfl) rfl ?_
        refine rg_iload F (pc := 64) dX4_counted_64 rfl ?_
        refine rg_aload_n F (pc := 66) dX4_counted_66 rfl ?_
        refine rg_get F (pc := 67) (ci := 5) rfl inX4 hAc1.1 15 (by decide) q435 (fun _ h9 => h9) rfl dX4_counted_67 ?_
        refine rg_iload F (pc := 70) dX4_counted_70 rfl ?_
        refine rm_ld F hAc1 (pc := 72) (q := 12) (j := k) (x := nI (zStay P k)) (by decide) (show k < 10 by omega) s12 dX4_counted_72 ?_
        refine rg_iadd F (pc := 73) (v := nI (zCl P 4 (k + 1))) dX4_counted_73 (nI_add _ _) ?_
        refine rg_istore F (pc := 74) (lv' := [some (.ref (m)), some (.int (nI what)), some (.int (nI (zAll P nL))), some (.int (nI (zCl P 2 (k + 1)))), some (.int (nI (zCl P 3 (k + 1)))), some (.int (nI (zCl P 4 (k + 1)))), some (.int (nI k))]) dX4_counted_74 (Nat.le_of_ble_eq_true rfl) rfl ?_
        refine rg_iinc F (pc := 76) (v := nI (k + 1)) (lv' := [some (.ref (m)), some (.int (nI what)), some (.int (nI (zAll P nL))), some (.int (nI (zCl P 2 (k + 1)))), some (.int (nI (zCl P 3 (k + 1)))), some (.int (nI (zCl P 4 (k + 1)))), some (.int (nI (k + 1)))]) dX4_counted_76 rfl (nI_add _ 1) (Nat.le_of_ble_eq_true rfl) rfl ?_
        refine rg_goto F (pc := 79) (tgt := 16) dX4_counted_79 (by decide) ?_
        exact ih (k + 1) (by omega) (by omega)
      · refine rg_aload_n F (pc := 47) dX4_counted_47 rfl ?_
        refine rg_iload F (pc := 48) dX4_counted_48 rfl ?_
        refine rg_callVi F (pc := 50) (As := [.int (nI k)]) (rest := [.int (nI (zCl P 3 k))]) (ci := 5) (r_lacks l D _ m P nW nL ad Fc1 t (nI (zCa P nL)) k ⟨hP, hAc1, hBc1⟩ (by omega) s12) q465 vq_X4_lacks rfl hAc1.1 rfl rfl (Nat.le_of_ble_eq_true rfl) (Nat.le_of_ble_eq_true rfl) (Nat.le_of_ble_eq_true rfl) ⟨(Nat.le_of_ble_eq_true rfl), (Nat.le_of_ble_eq_true rfl)⟩ dX4_counted_50 (fun r9 M9 hp => ?_)
        refine rg_top (v2 := .int (nI (zLack P k))) (by first | (rw [hp.1]; done) | (rw [hp.1]; rfl)) ?_
        refine rg_mem (M2 := Mc1) hp.2 ?_
        refine rg_nif_ne F (pc := 53) (tgt := 60) dX4_counted_53 (by decide) (by omega) (fun c53 => ?_) (fun c53 => ?_)
        · refine rg_iconst F (pc := 60) (v := nI 0) dX4_counted_60 (by decide) ?_
          refine rg_top (v2 := .int (nI (zCl1 P 3 k))) (by show _ = Value.int (nI (decide (zOff P k = 0 ∧ zLack P k = 0)).toNat); rw [decide_eq_false (show ¬ (zOff P k = 0 ∧ zLack P k = 0) from (fun z => by omega))]; rfl) ?_
          refine rg_iadd F (pc := 61) (v := nI (zCl P 3 (k + 1))) dX4_counted_61 (nI_add _ _) ?_
          refine rg_istore F (pc := 62) (lv' := [some (.ref (m)), some (.int (nI what)), some (.int (nI (zAll P nL))), some (.int (nI (zCl P 2 (k + 1)))), some (.int (nI (zCl P 3 (k + 1)))), some (.int (nI (zCl P 4 k))), some (.int (nI k))]) dX4_counted_62 (Nat.le_of_ble_eq_true rfl) rfl ?_
          refine rg_iload F (pc := 64) dX4_counted_64 rfl ?_
          refine rg_aload_n F (pc := 66) dX4_counted_66 rfl ?_
          refine rg_get F (pc := 67) (ci := 5) rfl inX4 hAc1.1 15 (by decide) q435 (fun _ h9 => h9) rfl dX4_counted_67 ?_
          refine rg_iload F (pc := 70) dX4_counted_70 rfl ?_
          refine rm_ld F hAc1 (pc := 72) (q := 12) (j := k) (x := nI (zStay P k)) (by decide) (show k < 10 by omega) s12 dX4_counted_72 ?_
          refine rg_iadd F (pc := 73) (v := nI (zCl P 4 (k + 1))) dX4_counted_73 (nI_add _ _) ?_
          refine rg_istore F (pc := 74) (lv' := [some (.ref (m)), some (.int (nI what)), some (.int (nI (zAll P nL))), some (.int (nI (zCl P 2 (k + 1)))), some (.int (nI (zCl P 3 (k + 1)))), some (.int (nI (zCl P 4 (k + 1)))), some (.int (nI k))]) dX4_counted_74 (Nat.le_of_ble_eq_true rfl) rfl ?_
          refine rg_iinc F (pc := 76) (v := nI (k + 1)) (lv' := [some (.ref (m)), some (.int (nI what)), some (.int (nI (zAll P nL))), some (.int (nI (zCl P 2 (k + 1)))), some (.int (nI (zCl P 3 (k + 1)))), some (.int (nI (zCl P 4 (k + 1)))), some (.int (nI (k + 1)))]) dX4_counted_76 rfl (nI_add _ 1) (Nat.le_of_ble_eq_true rfl) rfl ?_
          refine rg_goto F (pc := 79) (tgt := 16) dX4_counted_79 (by decide) ?_
          exact ih (k + 1) (by omega) (by omega)
        · refine rg_iconst F (pc := 56) (v := nI 1) dX4_counted_56 (by decide) ?_
          refine rg_goto F (pc := 57) (tgt := 61) dX4_counted_57 (by decide) ?_
          refine rg_top (v2 := .int (nI (zCl1 P 3 k))) (by show _ = Value.int (nI (decide (zOff P k = 0 ∧ zLack P k = 0)).toNat); rw [decide_eq_true (show (zOff P k = 0 ∧ zLack P k = 0) from ⟨by omega, by omega⟩)]; rfl) ?_
          refine rg_iadd F (pc := 61) (v := nI (zCl P 3 (k + 1))) dX4_counted_61 (nI_add _ _) ?_
          refine rg_istore F (pc := 62) (lv' := [some (.ref (m)), some (.int (nI what)), some (.int (nI (zAll P nL))), some (.int (nI (zCl P 2 (k + 1)))), some (.int (nI (zCl P 3 (k + 1)))), some (.int (nI (zCl P 4 k))), some (.int (nI k))]) dX4_counted_62 (Nat.le_of_ble_eq_true rfl) rfl ?_
          refine rg_iload F (pc := 64) dX4_counted_64 rfl ?_
          refine rg_aload_n F (pc := 66) dX4_counted_66 rfl ?_
          refine rg_get F (pc := 67) (ci := 5) rfl inX4 hAc1.1 15 (by decide) q435 (fun _ h9 => h9) rfl dX4_counted_67 ?_
          refine rg_iload F (pc := 70) dX4_counted_70 rfl ?_
          refine rm_ld F hAc1 (pc := 72) (q := 12) (j := k) (x := nI (zStay P k)) (by decide) (show k < 10 by omega) s12 dX4_counted_72 ?_
          refine rg_iadd F (pc := 73) (v := nI (zCl P 4 (k + 1))) dX4_counted_73 (nI_add _ _) ?_
          refine rg_istore F (pc := 74) (lv' := [some (.ref (m)), some (.int (nI what)), some (.int (nI (zAll P nL))), some (.int (nI (zCl P 2 (k + 1)))), some (.int (nI (zCl P 3 (k + 1)))), some (.int (nI (zCl P 4 (k + 1)))), some (.int (nI k))]) dX4_counted_74 (Nat.le_of_ble_eq_true rfl) rfl ?_
          refine rg_iinc F (pc := 76) (v := nI (k + 1)) (lv' := [some (.ref (m)), some (.int (nI what)), some (.int (nI (zAll P nL))), some (.int (nI (zCl P 2 (k + 1)))), some (.int (nI (zCl P 3 (k + 1)))), some (.int (nI (zCl P 4 (k + 1)))), some (.int (nI (k + 1)))]) dX4_counted_76 rfl (nI_add _ 1) (Nat.le_of_ble_eq_true rfl) rfl ?_
          refine rg_goto F (pc := 79) (tgt := 16) dX4_counted_79 (by decide) ?_
          exact ih (k + 1) (by omega) (by omega)
set_option maxHeartbeats 4000000 in
set_option maxRecDepth 100000 in
theorem r_count (l : Launch) (D : va_G) (M : rMem) (m : Nat) (P : Poem) (nW nL : Nat) (ad : Nat → Nat) (Fn : Nat → Nat → Int32) (t lo : Int32) (what : Nat) (hV : mV D M m P nW nL ad Fn t lo) (hwt : what < 7) : CMi l D yX4_count cX4_count 2 ((some .int)) 6 1 7 M [.ref (m), .int (nI what)] (fun r M' => r = nI (zCnt P nW nL what) ∧ ∃ F' lo', mV D M' m P nW nL ad F' (nI 0) lo') := by
  obtain ⟨hP, hA, hB⟩ := id hV
  have hn30 := hP.1.1
  have hn10 := hP.2.1
  refine rM (lv0 := [some (.ref (m)), some (.int (nI what))]) (by decide) rfl rfl (Nat.le_of_ble_eq_true rfl) (fun P0 E0 S0 m0 as0 bl0 mt0 c0 A F hrt9 hnm => ?_)
  refine rg_aload_n F (pc := 0) dX4_count_0 rfl ?_
  refine rg_iconst F (pc := 1) (v := nI 0) dX4_count_1 (by decide) ?_
  refine rg_put F (pc := 2) (ci := 5) (ty := tyX4 0) rfl inX4 tyX4 tyX4_ok nmX4 hA.1 0 (by decide) q395 (fun _ h9 => h9) rfl (tyX4_ok 0 (by decide)) rfl rfl (Nat.le_of_ble_eq_true rfl) dX4_count_2 ?_
  refine rm_mem hA (t2 := nI 0) (nW2 := nW) (nL2 := nL) (lo2 := lo) rfl (fun Ms1 hAs1 => ?_)
  refine rg_iload_n F (pc := 5) dX4_count_5 rfl ?_
  refine rg_iconst F (pc := 6) (v := nI 0) dX4_count_6 (by decide) ?_
  refine rg_bipush F (pc := 7) (v := nI 6) dX4_count_7 (by decide) ?_
  refine rg_callSi F (pc := 9) (As := [.int (nI what), .int (nI 0), .int (nI 6)]) (rest := []) (r_isIn l D _ (nI what) (nI 0) (nI 6)) q401 sq_X4_isIn rfl rfl (Nat.le_of_ble_eq_true rfl) (Nat.le_of_ble_eq_true rfl) (Nat.le_of_ble_eq_true rfl) ⟨(Nat.le_of_ble_eq_true rfl), (Nat.le_of_ble_eq_true rfl)⟩ dX4_count_9 (fun r9 M9 hp => ?_)
  refine rg_top (v2 := .int (nI (mIn (nI what) (nI 0) (nI 6)).toNat)) (by first | (rw [hp.1]; done) | (rw [hp.1]; rfl)) ?_
  refine rg_mem (M2 := Ms1) hp.2 ?_
  refine rg_bif_eq F (pc := 12) (tgt := 23) dX4_count_12 (by decide) (fun c12 => absurd c12 (by rw [mIn_bel2 (n := 6) (by decide), rBel_nI (by omega), decide_eq_true (show what < 6 + 1 by omega)]; decide)) (fun c12 => ?_)
  refine rg_aload_n F (pc := 15) dX4_count_15 rfl ?_
  refine rg_iload_n F (pc := 16) dX4_count_16 rfl ?_
  refine rg_callVi F (pc := 17) (As := [.int (nI what)]) (rest := []) (ci := 5) (r_counted l D _ m P nW nL ad Fn (nI 0) lo what ⟨hP, hAs1, hB⟩ (by omega)) q498 vq_X4_counted rfl hAs1.1 rfl rfl (Nat.le_of_ble_eq_true rfl) (Nat.le_of_ble_eq_true rfl) (Nat.le_of_ble_eq_true rfl) ⟨(Nat.le_of_ble_eq_true rfl), (Nat.le_of_ble_eq_true rfl)⟩ dX4_count_17 (fun r9 Mt hp => ?_)
  refine rg_widen (k2 := 1) (n2 := 7) (by decide) (by decide) ?_
  refine rg_top (v2 := .int (nI (zCnt P nW nL what))) (by rw [hp.1]) ?_
  obtain ⟨-, Ft, lot, -, hAt, hBt⟩ := hp
  refine rg_goto F (pc := 20) (tgt := 28) dX4_count_20 (by decide) ?_
  exact rg_iret F (pc := 28) hrt9 (by decide) (by decide) dX4_count_28 ⟨rfl, _, _, hP, hAt, hBt⟩
set_option maxHeartbeats 4000000 in
set_option maxRecDepth 100000 in
theorem r_count1 (l : Launch) (D : va_G) (M : rMem) (m : Nat) (P : Poem) (nW nL : Nat) (ad : Nat → Nat) (Fn : Nat → Nat → Int32) (t lo : Int32) (j : Int32) (hV : mV D M m P nW nL ad Fn t lo) (hb : rBel j 7 = false) : CMi l D yX4_count cX4_count 2 ((some .int)) 3 0 0 M [.ref (m), .int (j)] (fun r M' => mV D M' m P nW nL ad Fn (nI 1) lo) := by
  obtain ⟨hP, hA, hB⟩ := id hV
  have hn30 := hP.1.1
  have hn10 := hP.2.1
  refine rM (lv0 := [some (.ref (m)), some (.int (j))]) (by decide) rfl rfl (Nat.le_of_ble_eq_true rfl) (fun P0 E0 S0 m0 as0 bl0 mt0 c0 A F hrt9 hnm => ?_)
  refine rg_aload_n F (pc := 0) dX4_count_0 rfl ?_
  refine rg_iconst F (pc := 1) (v := nI 0) dX4_count_1 (by decide) ?_
  refine rg_put F (pc := 2) (ci := 5) (ty := tyX4 0) rfl inX4 tyX4 tyX4_ok nmX4 hA.1 0 (by decide) q395 (fun _ h9 => h9) rfl (tyX4_ok 0 (by decide)) rfl rfl (Nat.le_of_ble_eq_true rfl) dX4_count_2 ?_
  refine rm_mem hA (t2 := nI 0) (nW2 := nW) (nL2 := nL) (lo2 := lo) rfl (fun Ms1 hAs1 => ?_)
  refine rg_iload_n F (pc := 5) dX4_count_5 rfl ?_
  refine rg_iconst F (pc := 6) (v := nI 0) dX4_count_6 (by decide) ?_
  refine rg_bipush F (pc := 7) (v := nI 6) dX4_count_7 (by decide) ?_
  refine rg_callSi F (pc := 9) (As := [.int (j), .int (nI 0), .int (nI 6)]) (rest := []) (r_isIn l D _ j (nI 0) (nI 6)) q401 sq_X4_isIn rfl rfl (Nat.le_of_ble_eq_true rfl) (Nat.le_of_ble_eq_true rfl) (Nat.le_of_ble_eq_true rfl) ⟨(Nat.le_of_ble_eq_true rfl), (Nat.le_of_ble_eq_true rfl)⟩ dX4_count_9 (fun r9 M9 hp => ?_)
  refine rg_top (v2 := .int (nI (mIn j (nI 0) (nI 6)).toNat)) (by first | (rw [hp.1]; done) | (rw [hp.1]; rfl)) ?_
  refine rg_mem (M2 := Ms1) hp.2 ?_
  refine rg_bif_eq F (pc := 12) (tgt := 23) dX4_count_12 (by decide) (fun c12 => ?_) (fun c12 => absurd c12 (by rw [mIn_bel2 (n := 6) (by decide), hb]; decide))
  refine rg_aload_n F (pc := 23) dX4_count_23 rfl ?_
  refine rg_iconst F (pc := 24) (v := nI 1) dX4_count_24 (by decide) ?_
  refine rg_callVi F (pc := 25) (As := [.int (nI 1)]) (rest := []) (ci := 5) (r_no l D _ m P nW nL ad Fn (nI 0) lo (nI 1) ⟨hP, hAs1, hB⟩) q415 vq_X4_no rfl hAs1.1 rfl rfl (Nat.le_of_ble_eq_true rfl) (Nat.le_of_ble_eq_true rfl) (Nat.le_of_ble_eq_true rfl) ⟨(Nat.le_of_ble_eq_true rfl), (Nat.le_of_ble_eq_true rfl)⟩ dX4_count_25 (fun r9 Mn hp => ?_)
  refine rg_top (v2 := .int (nI 0)) (by rw [hp.1]) ?_
  exact rg_iret F (pc := 28) hrt9 (by decide) (by decide) dX4_count_28 ⟨hP, hp.2.2.1, hB⟩
set_option maxHeartbeats 4000000 in
set_option maxRecDepth 100000 in
theorem r_tries (l : Launch) (D : va_G) (M : rMem) (m : Nat) (P : Poem) (nW nL : Nat) (ad : Nat → Nat) (Fn : Nat → Nat → Int32) (t lo : Int32) (i p w : Nat) (hV : mV D M m P nW nL ad Fn t lo) (hi : i < nL) (hp9 : p < zC P i) (hw : w < nW) : CMi l D yX4_tries cX4_tries 4 ((some .int)) 6 0 0 M [.ref (m), .int (nI i), .int (nI p), .int (nI w)] (fun r M' => r = nI (zTry P i p w nL) ∧ ∃ F' lo', mV D M' m P nW nL ad F' (nI 0) lo') := by
  obtain ⟨hP, hA, hB⟩ := id hV
  have hn30 := hP.1.1
  have hn10 := hP.2.1
  have hz8 := (hP.2.2 i hi).2.2.2.2.1
  refine rM (lv0 := [some (.ref (m)), some (.int (nI i)), some (.int (nI p)), some (.int (nI w))]) (by decide) rfl rfl (Nat.le_of_ble_eq_true rfl) (fun P0 E0 S0 m0 as0 bl0 mt0 c0 A F hrt9 hnm => ?_)
  refine rg_aload_n F (pc := 0) dX4_tries_0 rfl ?_
  refine rg_iconst F (pc := 1) (v := nI 0) dX4_tries_1 (by decide) ?_
  refine rg_put F (pc := 2) (ci := 5) (ty := tyX4 0) rfl inX4 tyX4 tyX4_ok nmX4 hA.1 0 (by decide) q395 (fun _ h9 => h9) rfl (tyX4_ok 0 (by decide)) rfl rfl (Nat.le_of_ble_eq_true rfl) dX4_tries_2 ?_
  refine rm_mem hA (t2 := nI 0) (nW2 := nW) (nL2 := nL) (lo2 := lo) rfl (fun Ms1 hAs1 => ?_)
  refine rg_aload_n F (pc := 5) dX4_tries_5 rfl ?_
  refine rg_iload_n F (pc := 6) dX4_tries_6 rfl ?_
  refine rg_callVi F (pc := 7) (As := [.int (nI i)]) (rest := []) (ci := 5) (r_isLine l D _ m P nW nL ad Fn (nI 0) lo (nI i) ⟨hP, hAs1, hB⟩) q482 vq_X4_isLine rfl hAs1.1 rfl rfl (Nat.le_of_ble_eq_true rfl) (Nat.le_of_ble_eq_true rfl) (Nat.le_of_ble_eq_true rfl) ⟨(Nat.le_of_ble_eq_true rfl), (Nat.le_of_ble_eq_true rfl)⟩ dX4_tries_7 (fun r9 M9 hp => ?_)
  refine rg_top (v2 := .int (nI (rBel (nI i) nL).toNat)) (by first | (rw [hp.1]; done) | (rw [hp.1]; rfl)) ?_
  refine rg_mem (M2 := Ms1) hp.2 ?_
  refine rg_bif_eq F (pc := 10) (tgt := 51) dX4_tries_10 (by decide) (fun c10 => absurd c10 (by rw [rBel_nI (by omega), decide_eq_true hi]; decide)) (fun c10 => ?_)
  refine rg_iload_n F (pc := 13) dX4_tries_13 rfl ?_
  refine rg_iconst F (pc := 14) (v := nI 0) dX4_tries_14 (by decide) ?_
  refine rg_aload_n F (pc := 15) dX4_tries_15 rfl ?_
  refine rg_get F (pc := 16) (ci := 5) rfl inX4 hAs1.1 11 (by decide) q407 (fun _ h9 => h9) rfl dX4_tries_16 ?_
  refine rg_iload_n F (pc := 19) dX4_tries_19 rfl ?_
  refine rm_ld F hAs1 (pc := 20) (q := 8) (j := i) (x := nI (zC P i)) (by decide) (show i < 10 by omega) (hB.2.2.1 i (by omega)) dX4_tries_20 ?_
  refine rg_iconst F (pc := 21) (v := nI 1) dX4_tries_21 (by decide) ?_
  refine rg_isub F (pc := 22) (v := nI (zC P i) - nI 1) dX4_tries_22 rfl ?_
  refine rg_callSi F (pc := 23) (As := [.int (nI p), .int (nI 0), .int (nI (zC P i) - nI 1)]) (rest := []) (r_isIn l D _ (nI p) (nI 0) (nI (zC P i) - nI 1)) q401 sq_X4_isIn rfl rfl (Nat.le_of_ble_eq_true rfl) (Nat.le_of_ble_eq_true rfl) (Nat.le_of_ble_eq_true rfl) ⟨(Nat.le_of_ble_eq_true rfl), (Nat.le_of_ble_eq_true rfl)⟩ dX4_tries_23 (fun r9 M9 hp => ?_)
  refine rg_top (v2 := .int (nI (mIn (nI p) (nI 0) (nI (zC P i) - nI 1)).toNat)) (by first | (rw [hp.1]; done) | (rw [hp.1]; rfl)) ?_
  refine rg_mem (M2 := Ms1) hp.2 ?_
  refine rg_bif_eq F (pc := 26) (tgt := 51) dX4_tries_26 (by decide) (fun c26 => absurd c26 (by rw [mIn_bel (by omega), rBel_nI (by omega), decide_eq_true hp9]; decide)) (fun c26 => ?_)
  refine rg_aload_n F (pc := 29) dX4_tries_29 rfl ?_
  refine rg_iload_n F (pc := 30) dX4_tries_30 rfl ?_
  refine rg_callVi F (pc := 31) (As := [.int (nI w)]) (rest := []) (ci := 5) (r_isWord l D _ m P nW nL ad Fn (nI 0) lo (nI w) ⟨hP, hAs1, hB⟩) q396 vq_X4_isWord rfl hAs1.1 rfl rfl (Nat.le_of_ble_eq_true rfl) (Nat.le_of_ble_eq_true rfl) (Nat.le_of_ble_eq_true rfl) ⟨(Nat.le_of_ble_eq_true rfl), (Nat.le_of_ble_eq_true rfl)⟩ dX4_tries_31 (fun r9 M9 hp => ?_)
  refine rg_top (v2 := .int (nI (rBel (nI w) nW).toNat)) (by first | (rw [hp.1]; done) | (rw [hp.1]; rfl)) ?_
  refine rg_mem (M2 := Ms1) hp.2 ?_
  refine rg_bif_eq F (pc := 34) (tgt := 51) dX4_tries_34 (by decide) (fun c34 => absurd c34 (by rw [rBel_nI (by omega), decide_eq_true hw]; decide)) (fun c34 => ?_)
  refine rg_aload_n F (pc := 37) dX4_tries_37 rfl ?_
  refine rg_bipush F (pc := 38) (v := nI 8) dX4_tries_38 (by decide) ?_
  refine rg_iload_n F (pc := 40) dX4_tries_40 rfl ?_
  refine rg_imul F (pc := 41) (v := nI (8 * i)) dX4_tries_41 (pk_mul _ _) ?_
  refine rg_iload_n F (pc := 42) dX4_tries_42 rfl ?_
  refine rg_iadd F (pc := 43) (v := nI ((8 * i) + p)) dX4_tries_43 (nI_add _ _) ?_
  refine rg_iload_n F (pc := 44) dX4_tries_44 rfl ?_
  refine rg_callVi F (pc := 45) (As := [.int (nI ((8 * i) + p)), .int (nI w)]) (rest := []) (ci := 5) (r_taxesWith l D _ m P nW nL ad Fn (nI 0) lo i p w ⟨hP, hAs1, hB⟩ hi hp9 (by omega)) q503 vq_X4_taxesWith rfl hAs1.1 rfl rfl (Nat.le_of_ble_eq_true rfl) (Nat.le_of_ble_eq_true rfl) (Nat.le_of_ble_eq_true rfl) ⟨(Nat.le_of_ble_eq_true rfl), (Nat.le_of_ble_eq_true rfl)⟩ dX4_tries_45 (fun r9 Mt hp => ?_)
  refine rg_top (v2 := .int (nI (zTry P i p w nL))) (by rw [hp.1]) ?_
  obtain ⟨-, Ft, lot, -, hAt, hBt⟩ := hp
  refine rg_goto F (pc := 48) (tgt := 56) dX4_tries_48 (by decide) ?_
  exact rg_iret F (pc := 56) hrt9 (by decide) (by decide) dX4_tries_56 ⟨rfl, _, _, hP, hAt, hBt⟩
set_option maxHeartbeats 4000000 in
set_option maxRecDepth 100000 in
theorem r_tries1 (l : Launch) (D : va_G) (M : rMem) (m : Nat) (P : Poem) (nW nL : Nat) (ad : Nat → Nat) (Fn : Nat → Nat → Int32) (t lo : Int32) (j q z : Int32) (hV : mV D M m P nW nL ad Fn t lo) (hb : rBel j nL = false) : CMi l D yX4_tries cX4_tries 4 ((some .int)) 3 0 0 M [.ref (m), .int (j), .int (q), .int (z)] (fun r M' => mV D M' m P nW nL ad Fn (nI 1) lo) := by
  obtain ⟨hP, hA, hB⟩ := id hV
  have hn30 := hP.1.1
  have hn10 := hP.2.1
  refine rM (lv0 := [some (.ref (m)), some (.int (j)), some (.int (q)), some (.int (z))]) (by decide) rfl rfl (Nat.le_of_ble_eq_true rfl) (fun P0 E0 S0 m0 as0 bl0 mt0 c0 A F hrt9 hnm => ?_)
  refine rg_aload_n F (pc := 0) dX4_tries_0 rfl ?_
  refine rg_iconst F (pc := 1) (v := nI 0) dX4_tries_1 (by decide) ?_
  refine rg_put F (pc := 2) (ci := 5) (ty := tyX4 0) rfl inX4 tyX4 tyX4_ok nmX4 hA.1 0 (by decide) q395 (fun _ h9 => h9) rfl (tyX4_ok 0 (by decide)) rfl rfl (Nat.le_of_ble_eq_true rfl) dX4_tries_2 ?_
  refine rm_mem hA (t2 := nI 0) (nW2 := nW) (nL2 := nL) (lo2 := lo) rfl (fun Ms1 hAs1 => ?_)
  refine rg_aload_n F (pc := 5) dX4_tries_5 rfl ?_
  refine rg_iload_n F (pc := 6) dX4_tries_6 rfl ?_
  refine rg_callVi F (pc := 7) (As := [.int (j)]) (rest := []) (ci := 5) (r_isLine l D _ m P nW nL ad Fn (nI 0) lo j ⟨hP, hAs1, hB⟩) q482 vq_X4_isLine rfl hAs1.1 rfl rfl (Nat.le_of_ble_eq_true rfl) (Nat.le_of_ble_eq_true rfl) (Nat.le_of_ble_eq_true rfl) ⟨(Nat.le_of_ble_eq_true rfl), (Nat.le_of_ble_eq_true rfl)⟩ dX4_tries_7 (fun r9 M9 hp => ?_)
  refine rg_top (v2 := .int (nI (rBel j nL).toNat)) (by first | (rw [hp.1]; done) | (rw [hp.1]; rfl)) ?_
  refine rg_mem (M2 := Ms1) hp.2 ?_
  refine rg_bif_eq F (pc := 10) (tgt := 51) dX4_tries_10 (by decide) (fun c10 => ?_) (fun c10 => absurd c10 (by rw [hb]; decide))
  refine rg_aload_n F (pc := 51) dX4_tries_51 rfl ?_
  refine rg_iconst F (pc := 52) (v := nI 1) dX4_tries_52 (by decide) ?_
  refine rg_callVi F (pc := 53) (As := [.int (nI 1)]) (rest := []) (ci := 5) (r_no l D _ m P nW nL ad Fn (nI 0) lo (nI 1) ⟨hP, hAs1, hB⟩) q415 vq_X4_no rfl hAs1.1 rfl rfl (Nat.le_of_ble_eq_true rfl) (Nat.le_of_ble_eq_true rfl) (Nat.le_of_ble_eq_true rfl) ⟨(Nat.le_of_ble_eq_true rfl), (Nat.le_of_ble_eq_true rfl)⟩ dX4_tries_53 (fun r9 Mn hp => ?_)
  refine rg_top (v2 := .int (nI 0)) (by rw [hp.1]) ?_
  exact rg_iret F (pc := 56) hrt9 (by decide) (by decide) dX4_tries_56 ⟨hP, hp.2.2.1, hB⟩
set_option maxHeartbeats 4000000 in
set_option maxRecDepth 100000 in
theorem r_tries2 (l : Launch) (D : va_G) (M : rMem) (m : Nat) (P : Poem) (nW nL : Nat) (ad : Nat → Nat) (Fn : Nat → Nat → Int32) (t lo : Int32) (i : Nat) (j z : Int32) (hV : mV D M m P nW nL ad Fn t lo) (hi : i < nL) (hb : rBel j (zC P i) = false) : CMi l D yX4_tries cX4_tries 4 ((some .int)) 3 0 0 M [.ref (m), .int (nI i), .int (j), .int (z)] (fun r M' => mV D M' m P nW nL ad Fn (nI 1) lo) := by
  obtain ⟨hP, hA, hB⟩ := id hV
  have hn30 := hP.1.1
  have hn10 := hP.2.1
  have hz8 := (hP.2.2 i hi).2.2.2.2.1
  refine rM (lv0 := [some (.ref (m)), some (.int (nI i)), some (.int (j)), some (.int (z))]) (by decide) rfl rfl (Nat.le_of_ble_eq_true rfl) (fun P0 E0 S0 m0 as0 bl0 mt0 c0 A F hrt9 hnm => ?_)
  refine rg_aload_n F (pc := 0) dX4_tries_0 rfl ?_
  refine rg_iconst F (pc := 1) (v := nI 0) dX4_tries_1 (by decide) ?_
  refine rg_put F (pc := 2) (ci := 5) (ty := tyX4 0) rfl inX4 tyX4 tyX4_ok nmX4 hA.1 0 (by decide) q395 (fun _ h9 => h9) rfl (tyX4_ok 0 (by decide)) rfl rfl (Nat.le_of_ble_eq_true rfl) dX4_tries_2 ?_
  refine rm_mem hA (t2 := nI 0) (nW2 := nW) (nL2 := nL) (lo2 := lo) rfl (fun Ms1 hAs1 => ?_)
  refine rg_aload_n F (pc := 5) dX4_tries_5 rfl ?_
  refine rg_iload_n F (pc := 6) dX4_tries_6 rfl ?_
  refine rg_callVi F (pc := 7) (As := [.int (nI i)]) (rest := []) (ci := 5) (r_isLine l D _ m P nW nL ad Fn (nI 0) lo (nI i) ⟨hP, hAs1, hB⟩) q482 vq_X4_isLine rfl hAs1.1 rfl rfl (Nat.le_of_ble_eq_true rfl) (Nat.le_of_ble_eq_true rfl) (Nat.le_of_ble_eq_true rfl) ⟨(Nat.le_of_ble_eq_true rfl), (Nat.le_of_ble_eq_true rfl)⟩ dX4_tries_7 (fun r9 M9 hp => ?_)
  refine rg_top (v2 := .int (nI (rBel (nI i) nL).toNat)) (by first | (rw [hp.1]; done) | (rw [hp.1]; rfl)) ?_
  refine rg_mem (M2 := Ms1) hp.2 ?_
  refine rg_bif_eq F (pc := 10) (tgt := 51) dX4_tries_10 (by decide) (fun c10 => absurd c10 (by rw [rBel_nI (by omega), decide_eq_true hi]; decide)) (fun c10 => ?_)
  refine rg_iload_n F (pc := 13) dX4_tries_13 rfl ?_
  refine rg_iconst F (pc := 14) (v := nI 0) dX4_tries_14 (by decide) ?_
  refine rg_aload_n F (pc := 15) dX4_tries_15 rfl ?_
  refine rg_get F (pc := 16) (ci := 5) rfl inX4 hAs1.1 11 (by decide) q407 (fun _ h9 => h9) rfl dX4_tries_16 ?_
  refine rg_iload_n F (pc := 19) dX4_tries_19 rfl ?_
  refine rm_ld F hAs1 (pc := 20) (q := 8) (j := i) (x := nI (zC P i)) (by decide) (show i < 10 by omega) (hB.2.2.1 i (by omega)) dX4_tries_20 ?_
  refine rg_iconst F (pc := 21) (v := nI 1) dX4_tries_21 (by decide) ?_
  refine rg_isub F (pc := 22) (v := nI (zC P i) - nI 1) dX4_tries_22 rfl ?_
  refine rg_callSi F (pc := 23) (As := [.int (j), .int (nI 0), .int (nI (zC P i) - nI 1)]) (rest := []) (r_isIn l D _ j (nI 0) (nI (zC P i) - nI 1)) q401 sq_X4_isIn rfl rfl (Nat.le_of_ble_eq_true rfl) (Nat.le_of_ble_eq_true rfl) (Nat.le_of_ble_eq_true rfl) ⟨(Nat.le_of_ble_eq_true rfl), (Nat.le_of_ble_eq_true rfl)⟩ dX4_tries_23 (fun r9 M9 hp => ?_)
  refine rg_top (v2 := .int (nI (mIn j (nI 0) (nI (zC P i) - nI 1)).toNat)) (by first | (rw [hp.1]; done) | (rw [hp.1]; rfl)) ?_
  refine rg_mem (M2 := Ms1) hp.2 ?_
  refine rg_bif_eq F (pc := 26) (tgt := 51) dX4_tries_26 (by decide) (fun c26 => ?_) (fun c26 => absurd c26 (by rw [mIn_bel (by omega), hb]; decide))
  refine rg_aload_n F (pc := 51) dX4_tries_51 rfl ?_
  refine rg_iconst F (pc := 52) (v := nI 1) dX4_tries_52 (by decide) ?_
  refine rg_callVi F (pc := 53) (As := [.int (nI 1)]) (rest := []) (ci := 5) (r_no l D _ m P nW nL ad Fn (nI 0) lo (nI 1) ⟨hP, hAs1, hB⟩) q415 vq_X4_no rfl hAs1.1 rfl rfl (Nat.le_of_ble_eq_true rfl) (Nat.le_of_ble_eq_true rfl) (Nat.le_of_ble_eq_true rfl) ⟨(Nat.le_of_ble_eq_true rfl), (Nat.le_of_ble_eq_true rfl)⟩ dX4_tries_53 (fun r9 Mn hp => ?_)
  refine rg_top (v2 := .int (nI 0)) (by rw [hp.1]) ?_
  exact rg_iret F (pc := 56) hrt9 (by decide) (by decide) dX4_tries_56 ⟨hP, hp.2.2.1, hB⟩
set_option maxHeartbeats 4000000 in
set_option maxRecDepth 100000 in
theorem r_tries3 (l : Launch) (D : va_G) (M : rMem) (m : Nat) (P : Poem) (nW nL : Nat) (ad : Nat → Nat) (Fn : Nat → Nat → Int32) (t lo : Int32) (i p : Nat) (j : Int32) (hV : mV D M m P nW nL ad Fn t lo) (hi : i < nL) (hp9 : p < zC P i) (hb : rBel j nW = false) : CMi l D yX4_tries cX4_tries 4 ((some .int)) 3 0 0 M [.ref (m), .int (nI i), .int (nI p), .int (j)] (fun r M' => mV D M' m P nW nL ad Fn (nI 1) lo) := by
  obtain ⟨hP, hA, hB⟩ := id hV
  have hn30 := hP.1.1
  have hn10 := hP.2.1
  have hz8 := (hP.2.2 i hi).2.2.2.2.1
  refine rM (lv0 := [some (.ref (m)), some (.int (nI i)), some (.int (nI p)), some (.int (j))]) (by decide) rfl rfl (Nat.le_of_ble_eq_true rfl) (fun P0 E0 S0 m0 as0 bl0 mt0 c0 A F hrt9 hnm => ?_)
  refine rg_aload_n F (pc := 0) dX4_tries_0 rfl ?_
  refine rg_iconst F (pc := 1) (v := nI 0) dX4_tries_1 (by decide) ?_
  refine rg_put F (pc := 2) (ci := 5) (ty := tyX4 0) rfl inX4 tyX4 tyX4_ok nmX4 hA.1 0 (by decide) q395 (fun _ h9 => h9) rfl (tyX4_ok 0 (by decide)) rfl rfl (Nat.le_of_ble_eq_true rfl) dX4_tries_2 ?_
  refine rm_mem hA (t2 := nI 0) (nW2 := nW) (nL2 := nL) (lo2 := lo) rfl (fun Ms1 hAs1 => ?_)
  refine rg_aload_n F (pc := 5) dX4_tries_5 rfl ?_
  refine rg_iload_n F (pc := 6) dX4_tries_6 rfl ?_
  refine rg_callVi F (pc := 7) (As := [.int (nI i)]) (rest := []) (ci := 5) (r_isLine l D _ m P nW nL ad Fn (nI 0) lo (nI i) ⟨hP, hAs1, hB⟩) q482 vq_X4_isLine rfl hAs1.1 rfl rfl (Nat.le_of_ble_eq_true rfl) (Nat.le_of_ble_eq_true rfl) (Nat.le_of_ble_eq_true rfl) ⟨(Nat.le_of_ble_eq_true rfl), (Nat.le_of_ble_eq_true rfl)⟩ dX4_tries_7 (fun r9 M9 hp => ?_)
  refine rg_top (v2 := .int (nI (rBel (nI i) nL).toNat)) (by first | (rw [hp.1]; done) | (rw [hp.1]; rfl)) ?_
  refine rg_mem (M2 := Ms1) hp.2 ?_
  refine rg_bif_eq F (pc := 10) (tgt := 51) dX4_tries_10 (by decide) (fun c10 => absurd c10 (by rw [rBel_nI (by omega), decide_eq_true hi]; decide)) (fun c10 => ?_)
  refine rg_iload_n F (pc := 13) dX4_tries_13 rfl ?_
  refine rg_iconst F (pc := 14) (v := nI 0) dX4_tries_14 (by decide) ?_
  refine rg_aload_n F (pc := 15) dX4_tries_15 rfl ?_
  refine rg_get F (pc := 16) (ci := 5) rfl inX4 hAs1.1 11 (by decide) q407 (fun _ h9 => h9) rfl dX4_tries_16 ?_
  refine rg_iload_n F (pc := 19) dX4_tries_19 rfl ?_
  refine rm_ld F hAs1 (pc := 20) (q := 8) (j := i) (x := nI (zC P i)) (by decide) (show i < 10 by omega) (hB.2.2.1 i (by omega)) dX4_tries_20 ?_
  refine rg_iconst F (pc := 21) (v := nI 1) dX4_tries_21 (by decide) ?_
  refine rg_isub F (pc := 22) (v := nI (zC P i) - nI 1) dX4_tries_22 rfl ?_
  refine rg_callSi F (pc := 23) (As := [.int (nI p), .int (nI 0), .int (nI (zC P i) - nI 1)]) (rest := []) (r_isIn l D _ (nI p) (nI 0) (nI (zC P i) - nI 1)) q401 sq_X4_isIn rfl rfl (Nat.le_of_ble_eq_true rfl) (Nat.le_of_ble_eq_true rfl) (Nat.le_of_ble_eq_true rfl) ⟨(Nat.le_of_ble_eq_true rfl), (Nat.le_of_ble_eq_true rfl)⟩ dX4_tries_23 (fun r9 M9 hp => ?_)
  refine rg_top (v2 := .int (nI (mIn (nI p) (nI 0) (nI (zC P i) - nI 1)).toNat)) (by first | (rw [hp.1]; done) | (rw [hp.1]; rfl)) ?_
  refine rg_mem (M2 := Ms1) hp.2 ?_
  refine rg_bif_eq F (pc := 26) (tgt := 51) dX4_tries_26 (by decide) (fun c26 => absurd c26 (by rw [mIn_bel (by omega), rBel_nI (by omega), decide_eq_true hp9]; decide)) (fun c26 => ?_)
  refine rg_aload_n F (pc := 29) dX4_tries_29 rfl ?_
  refine rg_iload_n F (pc := 30) dX4_tries_30 rfl ?_
  refine rg_callVi F (pc := 31) (As := [.int (j)]) (rest := []) (ci := 5) (r_isWord l D _ m P nW nL ad Fn (nI 0) lo j ⟨hP, hAs1, hB⟩) q396 vq_X4_isWord rfl hAs1.1 rfl rfl (Nat.le_of_ble_eq_true rfl) (Nat.le_of_ble_eq_true rfl) (Nat.le_of_ble_eq_true rfl) ⟨(Nat.le_of_ble_eq_true rfl), (Nat.le_of_ble_eq_true rfl)⟩ dX4_tries_31 (fun r9 M9 hp => ?_)
  refine rg_top (v2 := .int (nI (rBel j nW).toNat)) (by first | (rw [hp.1]; done) | (rw [hp.1]; rfl)) ?_
  refine rg_mem (M2 := Ms1) hp.2 ?_
  refine rg_bif_eq F (pc := 34) (tgt := 51) dX4_tries_34 (by decide) (fun c34 => ?_) (fun c34 => absurd c34 (by rw [hb]; decide))
  refine rg_aload_n F (pc := 51) dX4_tries_51 rfl ?_
  refine rg_iconst F (pc := 52) (v := nI 1) dX4_tries_52 (by decide) ?_
  refine rg_callVi F (pc := 53) (As := [.int (nI 1)]) (rest := []) (ci := 5) (r_no l D _ m P nW nL ad Fn (nI 0) lo (nI 1) ⟨hP, hAs1, hB⟩) q415 vq_X4_no rfl hAs1.1 rfl rfl (Nat.le_of_ble_eq_true rfl) (Nat.le_of_ble_eq_true rfl) (Nat.le_of_ble_eq_true rfl) ⟨(Nat.le_of_ble_eq_true rfl), (Nat.le_of_ble_eq_true rfl)⟩ dX4_tries_53 (fun r9 Mn hp => ?_)
  refine rg_top (v2 := .int (nI 0)) (by rw [hp.1]) ?_
  exact rg_iret F (pc := 56) hrt9 (by decide) (by decide) dX4_tries_56 ⟨hP, hp.2.2.1, hB⟩
