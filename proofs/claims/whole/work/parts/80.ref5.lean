set_option maxHeartbeats 4000000 in
set_option maxRecDepth 100000 in
theorem r_strike (l : Launch) (D : va_G) (M : rMem) (m : Nat) (P : Poem) (nW nL : Nat) (ad : Nat → Nat) (Fn : Nat → Nat → Int32) (t lo : Int32) (i : Nat) (hV : mV D M m P nW nL ad Fn t lo) (hi : i < nL) (h0 : 0 < zC P i) : CMi l D yX4_strike cX4_strike 2 ((some .int)) 3 0 0 M [.ref (m), .int (nI i)] (fun r M' => r = nI (zR P i (zC P i - 1)) ∧ ∃ F', mV D M' m (zDrop P i) nW nL ad F' (nI 0) lo) := by
  obtain ⟨hP, hA, hB⟩ := id hV
  have hn30 := hP.1.1
  have hn10 := hP.2.1
  have hz8 := (hP.2.2 i hi).2.2.2.2.1
  refine rM (lv0 := [some (.ref (m)), some (.int (nI i))]) (by decide) rfl rfl (Nat.le_of_ble_eq_true rfl) (fun P0 E0 S0 m0 as0 bl0 mt0 c0 A F hrt9 hnm => ?_)
  refine rg_aload_n F (pc := 0) dX4_strike_0 rfl ?_
  refine rg_iconst F (pc := 1) (v := nI 0) dX4_strike_1 (by decide) ?_
  refine rg_put F (pc := 2) (ci := 5) (ty := tyX4 0) rfl inX4 tyX4 tyX4_ok nmX4 hA.1 0 (by decide) q395 (fun _ h9 => h9) rfl (tyX4_ok 0 (by decide)) rfl rfl (Nat.le_of_ble_eq_true rfl) dX4_strike_2 ?_
  refine rm_mem hA (t2 := nI 0) (nW2 := nW) (nL2 := nL) (lo2 := lo) rfl (fun Ms1 hAs1 => ?_)
  refine rg_aload_n F (pc := 5) dX4_strike_5 rfl ?_
  refine rg_iload_n F (pc := 6) dX4_strike_6 rfl ?_
  refine rg_callVi F (pc := 7) (As := [.int (nI i)]) (rest := []) (ci := 5) (r_isLine l D _ m P nW nL ad Fn (nI 0) lo (nI i) ⟨hP, hAs1, hB⟩) q482 vq_X4_isLine rfl hAs1.1 rfl rfl (Nat.le_of_ble_eq_true rfl) (Nat.le_of_ble_eq_true rfl) (Nat.le_of_ble_eq_true rfl) ⟨(Nat.le_of_ble_eq_true rfl), (Nat.le_of_ble_eq_true rfl)⟩ dX4_strike_7 (fun r9 M9 hp => ?_)
  refine rg_top (v2 := .int (nI (rBel (nI i) nL).toNat)) (by first | (rw [hp.1]; done) | (rw [hp.1]; rfl)) ?_
  refine rg_mem (M2 := Ms1) hp.2 ?_
  refine rg_bif_ne F (pc := 10) (tgt := 19) dX4_strike_10 (by decide) (fun c10 => ?_) (fun c10 => absurd c10 (by rw [rBel_nI (by omega), decide_eq_true hi]; decide))
  refine rg_aload_n F (pc := 19) dX4_strike_19 rfl ?_
  refine rg_get F (pc := 20) (ci := 5) rfl inX4 hAs1.1 11 (by decide) q407 (fun _ h9 => h9) rfl dX4_strike_20 ?_
  refine rg_iload_n F (pc := 23) dX4_strike_23 rfl ?_
  refine rm_ld F hAs1 (pc := 24) (q := 8) (j := i) (x := nI (zC P i)) (by decide) (show i < 10 by omega) (hB.2.2.1 i (by omega)) dX4_strike_24 ?_
  refine rg_nif_ne F (pc := 25) (tgt := 34) dX4_strike_25 (by decide) (by omega) (fun c25 => ?_) (fun c25 => by exfalso; omega)
  refine rg_aload_n F (pc := 34) dX4_strike_34 rfl ?_
  refine rg_get F (pc := 35) (ci := 5) rfl inX4 hAs1.1 11 (by decide) q407 (fun _ h9 => h9) rfl dX4_strike_35 ?_
  refine rg_iload_n F (pc := 38) dX4_strike_38 rfl ?_
  refine rg_dup2 F (pc := 39) dX4_strike_39 rfl rfl ?_
  refine rm_ld F hAs1 (pc := 40) (q := 8) (j := i) (x := nI (zC P i)) (by decide) (show i < 10 by omega) (hB.2.2.1 i (by omega)) dX4_strike_40 ?_
  refine rg_iconst F (pc := 41) (v := nI 1) dX4_strike_41 (by decide) ?_
  refine rg_isub F (pc := 42) (v := nI ((zC P i) - 1)) dX4_strike_42 (pk_sub (by omega)) ?_
  refine rm_st F hAs1 (pc := 43) (q := 8) (j := i) (x := nI ((zC P i) - 1)) (by decide) (show i < 10 by omega) dX4_strike_43 (fun Ms2 hAs2 => ?_)
  refine rg_aload_n F (pc := 44) dX4_strike_44 rfl ?_
  refine rg_get F (pc := 45) (ci := 5) rfl inX4 hAs2.1 12 (by decide) q408 (fun _ h9 => h9) rfl dX4_strike_45 ?_
  refine rg_bipush F (pc := 48) (v := nI 8) dX4_strike_48 (by decide) ?_
  refine rg_iload_n F (pc := 50) dX4_strike_50 rfl ?_
  refine rg_imul F (pc := 51) (v := nI (8 * i)) dX4_strike_51 (pk_mul _ _) ?_
  refine rg_aload_n F (pc := 52) dX4_strike_52 rfl ?_
  refine rg_get F (pc := 53) (ci := 5) rfl inX4 hAs2.1 11 (by decide) q407 (fun _ h9 => h9) rfl dX4_strike_53 ?_
  refine rg_iload_n F (pc := 56) dX4_strike_56 rfl ?_
  refine rm_ld F hAs2 (pc := 57) (q := 8) (j := i) (x := nI (zC P i - 1)) (by decide) (show i < 10 by omega) (show upd _ i _ i = _ by unfold upd; rw [if_pos rfl]) dX4_strike_57 ?_
  refine rg_iadd F (pc := 58) (v := nI ((8 * i) + (zC P i - 1))) dX4_strike_58 (nI_add _ _) ?_
  refine rm_ld F hAs2 (pc := 59) (q := 9) (j := (8 * i) + (zC P i - 1)) (x := nI (zR P i (zC P i - 1))) (by decide) (show (8 * i) + (zC P i - 1) < 80 by omega) (hB.2.2.2.2 i (by omega) (zC P i - 1) (by omega)) dX4_strike_59 ?_
  exact rg_iret F (pc := 60) hrt9 (by decide) (by decide) dX4_strike_60 ⟨rfl, _, ⟨hP.1, hP.2.1, fun j hj => zDrop_ok (hP.2.2 j hj)⟩, hAs2, mB_drop hB hi⟩
set_option maxHeartbeats 4000000 in
set_option maxRecDepth 100000 in
theorem r_strike1 (l : Launch) (D : va_G) (M : rMem) (m : Nat) (P : Poem) (nW nL : Nat) (ad : Nat → Nat) (Fn : Nat → Nat → Int32) (t lo : Int32) (j : Int32) (hV : mV D M m P nW nL ad Fn t lo) (hb : rBel j nL = false) : CMi l D yX4_strike cX4_strike 2 ((some .int)) 3 0 0 M [.ref (m), .int (j)] (fun r M' => mV D M' m P nW nL ad Fn (nI 1) lo) := by
  obtain ⟨hP, hA, hB⟩ := id hV
  have hn30 := hP.1.1
  have hn10 := hP.2.1
  refine rM (lv0 := [some (.ref (m)), some (.int (j))]) (by decide) rfl rfl (Nat.le_of_ble_eq_true rfl) (fun P0 E0 S0 m0 as0 bl0 mt0 c0 A F hrt9 hnm => ?_)
  refine rg_aload_n F (pc := 0) dX4_strike_0 rfl ?_
  refine rg_iconst F (pc := 1) (v := nI 0) dX4_strike_1 (by decide) ?_
  refine rg_put F (pc := 2) (ci := 5) (ty := tyX4 0) rfl inX4 tyX4 tyX4_ok nmX4 hA.1 0 (by decide) q395 (fun _ h9 => h9) rfl (tyX4_ok 0 (by decide)) rfl rfl (Nat.le_of_ble_eq_true rfl) dX4_strike_2 ?_
  refine rm_mem hA (t2 := nI 0) (nW2 := nW) (nL2 := nL) (lo2 := lo) rfl (fun Ms1 hAs1 => ?_)
  refine rg_aload_n F (pc := 5) dX4_strike_5 rfl ?_
  refine rg_iload_n F (pc := 6) dX4_strike_6 rfl ?_
  refine rg_callVi F (pc := 7) (As := [.int (j)]) (rest := []) (ci := 5) (r_isLine l D _ m P nW nL ad Fn (nI 0) lo j ⟨hP, hAs1, hB⟩) q482 vq_X4_isLine rfl hAs1.1 rfl rfl (Nat.le_of_ble_eq_true rfl) (Nat.le_of_ble_eq_true rfl) (Nat.le_of_ble_eq_true rfl) ⟨(Nat.le_of_ble_eq_true rfl), (Nat.le_of_ble_eq_true rfl)⟩ dX4_strike_7 (fun r9 M9 hp => ?_)
  refine rg_top (v2 := .int (nI (rBel j nL).toNat)) (by first | (rw [hp.1]; done) | (rw [hp.1]; rfl)) ?_
  refine rg_mem (M2 := Ms1) hp.2 ?_
  refine rg_bif_ne F (pc := 10) (tgt := 19) dX4_strike_10 (by decide) (fun c10 => absurd c10 (by rw [hb]; decide)) (fun c10 => ?_)
  refine rg_aload_n F (pc := 13) dX4_strike_13 rfl ?_
  refine rg_iconst F (pc := 14) (v := nI 1) dX4_strike_14 (by decide) ?_
  refine rg_callVi F (pc := 15) (As := [.int (nI 1)]) (rest := []) (ci := 5) (r_no l D _ m P nW nL ad Fn (nI 0) lo (nI 1) ⟨hP, hAs1, hB⟩) q415 vq_X4_no rfl hAs1.1 rfl rfl (Nat.le_of_ble_eq_true rfl) (Nat.le_of_ble_eq_true rfl) (Nat.le_of_ble_eq_true rfl) ⟨(Nat.le_of_ble_eq_true rfl), (Nat.le_of_ble_eq_true rfl)⟩ dX4_strike_15 (fun r9 Mn hp => ?_)
  refine rg_top (v2 := .int (nI 0)) (by rw [hp.1]) ?_
  exact rg_iret F (pc := 18) hrt9 (by decide) (by decide) dX4_strike_18 ⟨hP, hp.2.2.1, hB⟩
set_option maxHeartbeats 4000000 in
set_option maxRecDepth 100000 in
theorem r_strike2 (l : Launch) (D : va_G) (M : rMem) (m : Nat) (P : Poem) (nW nL : Nat) (ad : Nat → Nat) (Fn : Nat → Nat → Int32) (t lo : Int32) (i : Nat) (hV : mV D M m P nW nL ad Fn t lo) (hi : i < nL) (h0 : zC P i = 0) : CMi l D yX4_strike cX4_strike 2 ((some .int)) 3 0 0 M [.ref (m), .int (nI i)] (fun r M' => mV D M' m P nW nL ad Fn (nI 2) lo) := by
  obtain ⟨hP, hA, hB⟩ := id hV
  have hn30 := hP.1.1
  have hn10 := hP.2.1
  have hz8 := (hP.2.2 i hi).2.2.2.2.1
  refine rM (lv0 := [some (.ref (m)), some (.int (nI i))]) (by decide) rfl rfl (Nat.le_of_ble_eq_true rfl) (fun P0 E0 S0 m0 as0 bl0 mt0 c0 A F hrt9 hnm => ?_)
  refine rg_aload_n F (pc := 0) dX4_strike_0 rfl ?_
  refine rg_iconst F (pc := 1) (v := nI 0) dX4_strike_1 (by decide) ?_
  refine rg_put F (pc := 2) (ci := 5) (ty := tyX4 0) rfl inX4 tyX4 tyX4_ok nmX4 hA.1 0 (by decide) q395 (fun _ h9 => h9) rfl (tyX4_ok 0 (by decide)) rfl rfl (Nat.le_of_ble_eq_true rfl) dX4_strike_2 ?_
  refine rm_mem hA (t2 := nI 0) (nW2 := nW) (nL2 := nL) (lo2 := lo) rfl (fun Ms1 hAs1 => ?_)
  refine rg_aload_n F (pc := 5) dX4_strike_5 rfl ?_
  refine rg_iload_n F (pc := 6) dX4_strike_6 rfl ?_
  refine rg_callVi F (pc := 7) (As := [.int (nI i)]) (rest := []) (ci := 5) (r_isLine l D _ m P nW nL ad Fn (nI 0) lo (nI i) ⟨hP, hAs1, hB⟩) q482 vq_X4_isLine rfl hAs1.1 rfl rfl (Nat.le_of_ble_eq_true rfl) (Nat.le_of_ble_eq_true rfl) (Nat.le_of_ble_eq_true rfl) ⟨(Nat.le_of_ble_eq_true rfl), (Nat.le_of_ble_eq_true rfl)⟩ dX4_strike_7 (fun r9 M9 hp => ?_)
  refine rg_top (v2 := .int (nI (rBel (nI i) nL).toNat)) (by first | (rw [hp.1]; done) | (rw [hp.1]; rfl)) ?_
  refine rg_mem (M2 := Ms1) hp.2 ?_
  refine rg_bif_ne F (pc := 10) (tgt := 19) dX4_strike_10 (by decide) (fun c10 => ?_) (fun c10 => absurd c10 (by rw [rBel_nI (by omega), decide_eq_true hi]; decide))
  refine rg_aload_n F (pc := 19) dX4_strike_19 rfl ?_
  refine rg_get F (pc := 20) (ci := 5) rfl inX4 hAs1.1 11 (by decide) q407 (fun _ h9 => h9) rfl dX4_strike_20 ?_
  refine rg_iload_n F (pc := 23) dX4_strike_23 rfl ?_
  refine rm_ld F hAs1 (pc := 24) (q := 8) (j := i) (x := nI (zC P i)) (by decide) (show i < 10 by omega) (hB.2.2.1 i (by omega)) dX4_strike_24 ?_
  refine rg_nif_ne F (pc := 25) (tgt := 34) dX4_strike_25 (by decide) (by omega) (fun c25 => by exfalso; omega) (fun c25 => ?_)
  refine rg_aload_n F (pc := 28) dX4_strike_28 rfl ?_
  refine rg_iconst F (pc := 29) (v := nI 2) dX4_strike_29 (by decide) ?_
  refine rg_callVi F (pc := 30) (As := [.int (nI 2)]) (rest := []) (ci := 5) (r_no l D _ m P nW nL ad Fn (nI 0) lo (nI 2) ⟨hP, hAs1, hB⟩) q415 vq_X4_no rfl hAs1.1 rfl rfl (Nat.le_of_ble_eq_true rfl) (Nat.le_of_ble_eq_true rfl) (Nat.le_of_ble_eq_true rfl) ⟨(Nat.le_of_ble_eq_true rfl), (Nat.le_of_ble_eq_true rfl)⟩ dX4_strike_30 (fun r9 Mn hp => ?_)
  refine rg_top (v2 := .int (nI 0)) (by rw [hp.1]) ?_
  exact rg_iret F (pc := 33) hrt9 (by decide) (by decide) dX4_strike_33 ⟨hP, hp.2.2.1, hB⟩
