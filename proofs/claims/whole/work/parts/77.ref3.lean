set_option maxHeartbeats 4000000 in
set_option maxRecDepth 100000 in
theorem r_melted (l : Launch) (D : va_G) (M : rMem) (m : Nat) (P : Poem) (nW nL : Nat) (ad : Nat → Nat) (Fn : Nat → Nat → Int32) (t lo : Int32) (i : Nat) (hV : mV D M m P nW nL ad Fn t lo) (hi : i < nL) : CMi l D yX4_melted cX4_melted 4 ((some .int)) 3 0 0 M [.ref (m), .int (nI i)] (fun r M' => r = nI (zOM P i (zC P i)) ∧ mV D M' m P nW nL ad Fn (nI 0) lo) := by
  obtain ⟨hP, hA, hB⟩ := id hV
  have hn30 := hP.1.1
  have hn10 := hP.2.1
  have hz8 := (hP.2.2 i hi).2.2.2.2.1
  refine rM (lv0 := [some (.ref (m)), some (.int (nI i)), none, none]) (by decide) rfl rfl (Nat.le_of_ble_eq_true rfl) (fun P0 E0 S0 m0 as0 bl0 mt0 c0 A F hrt9 hnm => ?_)
  refine rg_aload_n F (pc := 0) dX4_melted_0 rfl ?_
  refine rg_iconst F (pc := 1) (v := nI 0) dX4_melted_1 (by decide) ?_
  refine rg_put F (pc := 2) (ci := 5) (ty := tyX4 0) rfl inX4 tyX4 tyX4_ok nmX4 hA.1 0 (by decide) q395 (fun _ h9 => h9) rfl (tyX4_ok 0 (by decide)) rfl rfl (Nat.le_of_ble_eq_true rfl) dX4_melted_2 ?_
  refine rm_mem hA (t2 := nI 0) (nW2 := nW) (nL2 := nL) (lo2 := lo) rfl (fun Ms1 hAs1 => ?_)
  refine rg_aload_n F (pc := 5) dX4_melted_5 rfl ?_
  refine rg_iload_n F (pc := 6) dX4_melted_6 rfl ?_
  refine rg_callVi F (pc := 7) (As := [.int (nI i)]) (rest := []) (ci := 5) (r_isLine l D _ m P nW nL ad Fn (nI 0) lo (nI i) ⟨hP, hAs1, hB⟩) q482 vq_X4_isLine rfl hAs1.1 rfl rfl (Nat.le_of_ble_eq_true rfl) (Nat.le_of_ble_eq_true rfl) (Nat.le_of_ble_eq_true rfl) ⟨(Nat.le_of_ble_eq_true rfl), (Nat.le_of_ble_eq_true rfl)⟩ dX4_melted_7 (fun r9 M9 hp => ?_)
  refine rg_top (v2 := .int (nI (rBel (nI i) nL).toNat)) (by first | (rw [hp.1]; done) | (rw [hp.1]; rfl)) ?_
  refine rg_mem (M2 := Ms1) hp.2 ?_
  refine rg_bif_ne F (pc := 10) (tgt := 19) dX4_melted_10 (by decide) (fun c10 => ?_) (fun c10 => absurd c10 (by rw [rBel_nI (by omega), decide_eq_true hi]; decide))
  refine rg_iconst F (pc := 19) (v := nI 0) dX4_melted_19 (by decide) ?_
  refine rg_istore_n F (pc := 20) (lv' := [some (.ref (m)), some (.int (nI i)), some (.int (nI 0)), none]) dX4_melted_20 (Nat.le_of_ble_eq_true rfl) rfl ?_
  refine rg_iconst F (pc := 21) (v := nI 0) dX4_melted_21 (by decide) ?_
  refine rg_istore_n F (pc := 22) (lv' := [some (.ref (m)), some (.int (nI i)), some (.int (nI 0)), some (.int (nI 0))]) dX4_melted_22 (Nat.le_of_ble_eq_true rfl) rfl ?_
  refine rg_eq (lv2 := [some (.ref (m)), some (.int (nI i)), some (.int (nI (zOM P i 0))), some (.int (nI 0))]) (st2 := []) (pc2 := 23) rfl rfl rfl ?_
  suffices L1 : ∀ (d9 : Nat) (j : Nat), zC P i - j < d9 → (j ≤ zC P i) → rG P0 l E0 (rR 3 0 0) S0 m0 as0 bl0 mt0 c0 D A 4 (MQ bl0 (va_Qi (fun r M' => r = nI (zOM P i (zC P i)) ∧ mV D M' m P nW nL ad Fn (nI 0) lo) (cB D A) A) as0 S0 0 0 A) Ms1 0 0 [some (.ref (m)), some (.int (nI i)), some (.int (nI (zOM P i j))), some (.int (nI j))] 23 [] from L1 _ 0 (Nat.lt_succ_self _) (Nat.zero_le _)
  intro d9
  induction d9 with
  | zero => intro j hd9; exact absurd hd9 (Nat.not_lt_zero _)
  | succ d9 ih =>
    intro j hd9 hj
    have hm1 := zMelt_le P i j
    refine rg_iload_n F (pc := 23) dX4_melted_23 rfl ?_
    refine rg_aload_n F (pc := 24) dX4_melted_24 rfl ?_
    refine rg_get F (pc := 25) (ci := 5) rfl inX4 hAs1.1 11 (by decide) q407 (fun _ h9 => h9) rfl dX4_melted_25 ?_
    refine rg_iload_n F (pc := 28) dX4_melted_28 rfl ?_
    refine rm_ld F hAs1 (pc := 29) (q := 8) (j := i) (x := nI (zC P i)) (by decide) (show i < 10 by omega) (hB.2.2.1 i (by omega)) dX4_melted_29 ?_
    refine rg_ncmp_ge F (pc := 30) (tgt := 56) dX4_melted_30 (by decide) (by omega) (by omega) (fun c30 => ?_) (fun c30 => ?_)
    · refine rg_iload_n F (pc := 56) dX4_melted_56 rfl ?_
      exact rg_iret F (pc := 57) hrt9 (by decide) (by decide) dX4_melted_57 ⟨by rw [show j = zC P i by omega], hP, hAs1, hB⟩
    · refine rg_iload_n F (pc := 33) dX4_melted_33 rfl ?_
      refine rg_aload_n F (pc := 34) dX4_melted_34 rfl ?_
      refine rg_iload_n F (pc := 35) dX4_melted_35 rfl ?_
      refine rg_iload_n F (pc := 36) dX4_melted_36 rfl ?_
      refine rg_callVi F (pc := 37) (As := [.int (nI i), .int (nI j)]) (rest := [.int (nI (zOM P i j))]) (ci := 5) (r_melts l D _ m P nW nL ad Fn (nI 0) lo i j ⟨hP, hAs1, hB⟩ (by omega) (by omega)) q449 vq_X4_melts rfl hAs1.1 rfl rfl (Nat.le_of_ble_eq_true rfl) (Nat.le_of_ble_eq_true rfl) (Nat.le_of_ble_eq_true rfl) ⟨(Nat.le_of_ble_eq_true rfl), (Nat.le_of_ble_eq_true rfl)⟩ dX4_melted_37 (fun r9 M9 hp => ?_)
      refine rg_top (v2 := .int (nI (zMelt P i j))) (by first | (rw [hp.1]; done) | (rw [hp.1]; rfl)) ?_
      refine rg_mem (M2 := Ms1) hp.2 ?_
      refine rg_nif_eq F (pc := 40) (tgt := 47) dX4_melted_40 (by decide) (by omega) (fun c40 => ?_) (fun c40 => ?_)
      · refine rg_iconst F (pc := 47) (v := nI 0) dX4_melted_47 (by decide) ?_
        refine rg_iadd F (pc := 48) (v := nI ((zOM P i j) + 0)) dX4_melted_48 (nI_add _ _) ?_
        refine rg_top (v2 := .int (nI (zOM P i (j + 1)))) (by rw [zOMs, show zMelt P i j = 0 by omega]) ?_
        refine rg_istore_n F (pc := 49) (lv' := [some (.ref (m)), some (.int (nI i)), some (.int (nI (zOM P i (j + 1)))), some (.int (nI j))]) dX4_melted_49 (Nat.le_of_ble_eq_true rfl) rfl ?_
        refine rg_iinc F (pc := 50) (v := nI (j + 1)) (lv' := [some (.ref (m)), some (.int (nI i)), some (.int (nI (zOM P i (j + 1)))), some (.int (nI (j + 1)))]) dX4_melted_50 rfl (nI_add _ 1) (Nat.le_of_ble_eq_true rfl) rfl ?_
        refine rg_goto F (pc := 53) (tgt := 23) dX4_melted_53 (by decide) ?_
        exact ih (j + 1) (by omega) (by omega)
      · refine rg_iconst F (pc := 43) (v := nI 1) dX4_melted_43 (by decide) ?_
        refine rg_goto F (pc := 44) (tgt := 48) dX4_melted_44 (by decide) ?_
        refine rg_iadd F (pc := 48) (v := nI ((zOM P i j) + 1)) dX4_melted_48 (nI_add _ _) ?_
        refine rg_top (v2 := .int (nI (zOM P i (j + 1)))) (by rw [zOMs, show zMelt P i j = 1 by omega]) ?_
        refine rg_istore_n F (pc := 49) (lv' := [some (.ref (m)), some (.int (nI i)), some (.int (nI (zOM P i (j + 1)))), some (.int (nI j))]) dX4_melted_49 (Nat.le_of_ble_eq_true rfl) rfl ?_
        refine rg_iinc F (pc := 50) (v := nI (j + 1)) (lv' := [some (.ref (m)), some (.int (nI i)), some (.int (nI (zOM P i (j + 1)))), some (.int (nI (j + 1)))]) dX4_melted_50 rfl (nI_add _ 1) (Nat.le_of_ble_eq_true rfl) rfl ?_
        refine rg_goto F (pc := 53) (tgt := 23) dX4_melted_53 (by decide) ?_
        exact ih (j + 1) (by omega) (by omega)
set_option maxHeartbeats 4000000 in
set_option maxRecDepth 100000 in
theorem r_melted1 (l : Launch) (D : va_G) (M : rMem) (m : Nat) (P : Poem) (nW nL : Nat) (ad : Nat → Nat) (Fn : Nat → Nat → Int32) (t lo : Int32) (j : Int32) (hV : mV D M m P nW nL ad Fn t lo) (hb : rBel j nL = false) : CMi l D yX4_melted cX4_melted 4 ((some .int)) 3 0 0 M [.ref (m), .int (j)] (fun r M' => mV D M' m P nW nL ad Fn (nI 1) lo) := by
  obtain ⟨hP, hA, hB⟩ := id hV
  have hn30 := hP.1.1
  have hn10 := hP.2.1
  refine rM (lv0 := [some (.ref (m)), some (.int (j)), none, none]) (by decide) rfl rfl (Nat.le_of_ble_eq_true rfl) (fun P0 E0 S0 m0 as0 bl0 mt0 c0 A F hrt9 hnm => ?_)
  refine rg_aload_n F (pc := 0) dX4_melted_0 rfl ?_
  refine rg_iconst F (pc := 1) (v := nI 0) dX4_melted_1 (by decide) ?_
  refine rg_put F (pc := 2) (ci := 5) (ty := tyX4 0) rfl inX4 tyX4 tyX4_ok nmX4 hA.1 0 (by decide) q395 (fun _ h9 => h9) rfl (tyX4_ok 0 (by decide)) rfl rfl (Nat.le_of_ble_eq_true rfl) dX4_melted_2 ?_
  refine rm_mem hA (t2 := nI 0) (nW2 := nW) (nL2 := nL) (lo2 := lo) rfl (fun Ms1 hAs1 => ?_)
  refine rg_aload_n F (pc := 5) dX4_melted_5 rfl ?_
  refine rg_iload_n F (pc := 6) dX4_melted_6 rfl ?_
  refine rg_callVi F (pc := 7) (As := [.int (j)]) (rest := []) (ci := 5) (r_isLine l D _ m P nW nL ad Fn (nI 0) lo j ⟨hP, hAs1, hB⟩) q482 vq_X4_isLine rfl hAs1.1 rfl rfl (Nat.le_of_ble_eq_true rfl) (Nat.le_of_ble_eq_true rfl) (Nat.le_of_ble_eq_true rfl) ⟨(Nat.le_of_ble_eq_true rfl), (Nat.le_of_ble_eq_true rfl)⟩ dX4_melted_7 (fun r9 M9 hp => ?_)
  refine rg_top (v2 := .int (nI (rBel j nL).toNat)) (by first | (rw [hp.1]; done) | (rw [hp.1]; rfl)) ?_
  refine rg_mem (M2 := Ms1) hp.2 ?_
  refine rg_bif_ne F (pc := 10) (tgt := 19) dX4_melted_10 (by decide) (fun c10 => absurd c10 (by rw [hb]; decide)) (fun c10 => ?_)
  refine rg_aload_n F (pc := 13) dX4_melted_13 rfl ?_
  refine rg_iconst F (pc := 14) (v := nI 1) dX4_melted_14 (by decide) ?_
  refine rg_callVi F (pc := 15) (As := [.int (nI 1)]) (rest := []) (ci := 5) (r_no l D _ m P nW nL ad Fn (nI 0) lo (nI 1) ⟨hP, hAs1, hB⟩) q415 vq_X4_no rfl hAs1.1 rfl rfl (Nat.le_of_ble_eq_true rfl) (Nat.le_of_ble_eq_true rfl) (Nat.le_of_ble_eq_true rfl) ⟨(Nat.le_of_ble_eq_true rfl), (Nat.le_of_ble_eq_true rfl)⟩ dX4_melted_15 (fun r9 Mn hp => ?_)
  refine rg_top (v2 := .int (nI 0)) (by rw [hp.1]) ?_
  exact rg_iret F (pc := 18) hrt9 (by decide) (by decide) dX4_melted_18 ⟨hP, hp.2.2.1, hB⟩
set_option maxHeartbeats 4000000 in
set_option maxRecDepth 100000 in
theorem r_rhyme (l : Launch) (D : va_G) (M : rMem) (m : Nat) (P : Poem) (nW nL : Nat) (ad : Nat → Nat) (Fn : Nat → Nat → Int32) (t lo : Int32) (i k : Nat) (hV : mV D M m P nW nL ad Fn t lo) (hi : i < nL) (hk : k < nL) : CMi l D yX4_rhyme cX4_rhyme 3 ((some .int)) 3 0 0 M [.ref (m), .int (nI i), .int (nI k)] (fun r M' => r = nI (zRh P i k) ∧ mV D M' m P nW nL ad Fn (nI 0) lo) := by
  obtain ⟨hP, hA, hB⟩ := id hV
  have hn30 := hP.1.1
  have hn10 := hP.2.1
  refine rM (lv0 := [some (.ref (m)), some (.int (nI i)), some (.int (nI k))]) (by decide) rfl rfl (Nat.le_of_ble_eq_true rfl) (fun P0 E0 S0 m0 as0 bl0 mt0 c0 A F hrt9 hnm => ?_)
  refine rg_aload_n F (pc := 0) dX4_rhyme_0 rfl ?_
  refine rg_iconst F (pc := 1) (v := nI 0) dX4_rhyme_1 (by decide) ?_
  refine rg_put F (pc := 2) (ci := 5) (ty := tyX4 0) rfl inX4 tyX4 tyX4_ok nmX4 hA.1 0 (by decide) q395 (fun _ h9 => h9) rfl (tyX4_ok 0 (by decide)) rfl rfl (Nat.le_of_ble_eq_true rfl) dX4_rhyme_2 ?_
  refine rm_mem hA (t2 := nI 0) (nW2 := nW) (nL2 := nL) (lo2 := lo) rfl (fun Ms1 hAs1 => ?_)
  refine rg_aload_n F (pc := 5) dX4_rhyme_5 rfl ?_
  refine rg_iload_n F (pc := 6) dX4_rhyme_6 rfl ?_
  refine rg_callVi F (pc := 7) (As := [.int (nI i)]) (rest := []) (ci := 5) (r_isLine l D _ m P nW nL ad Fn (nI 0) lo (nI i) ⟨hP, hAs1, hB⟩) q482 vq_X4_isLine rfl hAs1.1 rfl rfl (Nat.le_of_ble_eq_true rfl) (Nat.le_of_ble_eq_true rfl) (Nat.le_of_ble_eq_true rfl) ⟨(Nat.le_of_ble_eq_true rfl), (Nat.le_of_ble_eq_true rfl)⟩ dX4_rhyme_7 (fun r9 M9 hp => ?_)
  refine rg_top (v2 := .int (nI (rBel (nI i) nL).toNat)) (by first | (rw [hp.1]; done) | (rw [hp.1]; rfl)) ?_
  refine rg_mem (M2 := Ms1) hp.2 ?_
  refine rg_bif_eq F (pc := 10) (tgt := 30) dX4_rhyme_10 (by decide) (fun c10 => absurd c10 (by rw [rBel_nI (by omega), decide_eq_true hi]; decide)) (fun c10 => ?_)
  refine rg_aload_n F (pc := 13) dX4_rhyme_13 rfl ?_
  refine rg_iload_n F (pc := 14) dX4_rhyme_14 rfl ?_
  refine rg_callVi F (pc := 15) (As := [.int (nI k)]) (rest := []) (ci := 5) (r_isLine l D _ m P nW nL ad Fn (nI 0) lo (nI k) ⟨hP, hAs1, hB⟩) q482 vq_X4_isLine rfl hAs1.1 rfl rfl (Nat.le_of_ble_eq_true rfl) (Nat.le_of_ble_eq_true rfl) (Nat.le_of_ble_eq_true rfl) ⟨(Nat.le_of_ble_eq_true rfl), (Nat.le_of_ble_eq_true rfl)⟩ dX4_rhyme_15 (fun r9 M9 hp => ?_)
  refine rg_top (v2 := .int (nI (rBel (nI k) nL).toNat)) (by first | (rw [hp.1]; done) | (rw [hp.1]; rfl)) ?_
  refine rg_mem (M2 := Ms1) hp.2 ?_
  refine rg_bif_eq F (pc := 18) (tgt := 30) dX4_rhyme_18 (by decide) (fun c18 => absurd c18 (by rw [rBel_nI (by omega), decide_eq_true hk]; decide)) (fun c18 => ?_)
  refine rg_aload_n F (pc := 21) dX4_rhyme_21 rfl ?_
  refine rg_iload_n F (pc := 22) dX4_rhyme_22 rfl ?_
  refine rg_iload_n F (pc := 23) dX4_rhyme_23 rfl ?_
  refine rg_callVi F (pc := 24) (As := [.int (nI i), .int (nI k)]) (rest := []) (ci := 5) (r_rhymeOf l D _ m P nW nL ad Fn (nI 0) lo i k ⟨hP, hAs1, hB⟩ (by omega) (by omega)) q472 vq_X4_rhymeOf rfl hAs1.1 rfl rfl (Nat.le_of_ble_eq_true rfl) (Nat.le_of_ble_eq_true rfl) (Nat.le_of_ble_eq_true rfl) ⟨(Nat.le_of_ble_eq_true rfl), (Nat.le_of_ble_eq_true rfl)⟩ dX4_rhyme_24 (fun r9 M9 hp => ?_)
  refine rg_top (v2 := .int (nI (zRh P i k))) (by first | (rw [hp.1]; done) | (rw [hp.1]; rfl)) ?_
  refine rg_mem (M2 := Ms1) hp.2 ?_
  refine rg_goto F (pc := 27) (tgt := 35) dX4_rhyme_27 (by decide) ?_
  exact rg_iret F (pc := 35) hrt9 (by decide) (by decide) dX4_rhyme_35 ⟨rfl, hP, hAs1, hB⟩
