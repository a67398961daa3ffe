set_option maxHeartbeats 4000000 in
set_option maxRecDepth 100000 in
theorem r_melts (l : Launch) (D : va_G) (M : rMem) (m : Nat) (P : Poem) (nW nL : Nat) (ad : Nat → Nat) (Fn : Nat → Nat → Int32) (t lo : Int32) (i j : Nat) (hV : mV D M m P nW nL ad Fn t lo) (hi : i < nL) (hj : j < zC P i) : CMi l D yX4_melts cX4_melts 3 ((some .boolean)) 1 0 0 M [.ref (m), .int (nI i), .int (nI j)] (fun r M' => r = nI (zMelt P i j) ∧ M' = M) := by
  obtain ⟨hP, hA, hB⟩ := id hV
  have hn30 := hP.1.1
  have hn10 := hP.2.1
  have hlk := hP.2.2 i hi
  have hz8 := hlk.2.2.2.2.1
  have r0 := hlk.2.2.2.2.2 j hj
  have r1 := hlk.2.2.2.2.2 (j - 1) (by omega)
  have w0 := (hP.1.2 _ r0).2.2.2.2.2
  have w1 := (hP.1.2 _ r1).2.2.2.2.1
  refine rM (lv0 := [some (.ref (m)), some (.int (nI i)), some (.int (nI j))]) (by decide) rfl rfl (Nat.le_of_ble_eq_true rfl) (fun P0 E0 S0 m0 as0 bl0 mt0 c0 A F hrt9 hnm => ?_)
  refine rg_iload_n F (pc := 0) dX4_melts_0 rfl ?_
  refine rg_nif_le F (pc := 1) (tgt := 49) dX4_melts_1 (by decide) (by omega) (fun c1 => ?_) (fun c1 => ?_)
  · refine rg_iconst F (pc := 49) (v := nI 0) dX4_melts_49 (by decide) ?_
    exact rg_zret F (pc := 50) rfl hrt9 (by decide) (by decide) dX4_melts_50 ⟨by unfold zMelt; rw [if_neg (by omega)], rfl⟩
  · refine rg_aload_n F (pc := 4) dX4_melts_4 rfl ?_
    refine rg_get F (pc := 5) (ci := 5) rfl inX4 hA.1 5 (by decide) q413 (fun _ h9 => h9) rfl dX4_melts_5 ?_
    refine rg_aload_n F (pc := 8) dX4_melts_8 rfl ?_
    refine rg_get F (pc := 9) (ci := 5) rfl inX4 hA.1 12 (by decide) q408 (fun _ h9 => h9) rfl dX4_melts_9 ?_
    refine rg_bipush F (pc := 12) (v := nI 8) dX4_melts_12 (by decide) ?_
    refine rg_iload_n F (pc := 14) dX4_melts_14 rfl ?_
    refine rg_imul F (pc := 15) (v := nI (8 * i)) dX4_melts_15 (pk_mul _ _) ?_
    refine rg_iload_n F (pc := 16) dX4_melts_16 rfl ?_
    refine rg_iadd F (pc := 17) (v := nI ((8 * i) + j)) dX4_melts_17 (nI_add _ _) ?_
    refine rg_iconst F (pc := 18) (v := nI 1) dX4_melts_18 (by decide) ?_
    refine rg_isub F (pc := 19) (v := nI ((8 * i) + (j - 1))) dX4_melts_19 ((pk_sub (by omega)).trans (by rw [show 8 * i + j - 1 = 8 * i + (j - 1) by omega])) ?_
    refine rm_ld F hA (pc := 20) (q := 9) (j := (8 * i) + (j - 1)) (x := nI (zR P i ((j - 1)))) (by decide) (show (8 * i) + (j - 1) < 80 by omega) (hB.2.2.2.2 i (by omega) ((j - 1)) (by omega)) dX4_melts_20 ?_
    refine rm_ld F hA (pc := 21) (q := 3) (j := zR P i ((j - 1))) (x := nI (zE P (zR P i ((j - 1))))) (by decide) (show zR P i ((j - 1)) < 30 by omega) (hB.1 (zR P i ((j - 1))) (by omega)).2.2.2.1 dX4_melts_21 ?_
    refine rg_nif_ne F (pc := 22) (tgt := 49) dX4_melts_22 (by decide) (by omega) (fun c22 => ?_) (fun c22 => ?_)
    · refine rg_iconst F (pc := 49) (v := nI 0) dX4_melts_49 (by decide) ?_
      exact rg_zret F (pc := 50) rfl hrt9 (by decide) (by decide) dX4_melts_50 ⟨by unfold zMelt; rw [if_neg (by omega)], rfl⟩
    · refine rg_aload_n F (pc := 25) dX4_melts_25 rfl ?_
      refine rg_get F (pc := 26) (ci := 5) rfl inX4 hA.1 6 (by decide) q414 (fun _ h9 => h9) rfl dX4_melts_26 ?_
      refine rg_aload_n F (pc := 29) dX4_melts_29 rfl ?_
      refine rg_get F (pc := 30) (ci := 5) rfl inX4 hA.1 12 (by decide) q408 (fun _ h9 => h9) rfl dX4_melts_30 ?_
      refine rg_bipush F (pc := 33) (v := nI 8) dX4_melts_33 (by decide) ?_
      refine rg_iload_n F (pc := 35) dX4_melts_35 rfl ?_
      refine rg_imul F (pc := 36) (v := nI (8 * i)) dX4_melts_36 (pk_mul _ _) ?_
      refine rg_iload_n F (pc := 37) dX4_melts_37 rfl ?_
      refine rg_iadd F (pc := 38) (v := nI ((8 * i) + j)) dX4_melts_38 (nI_add _ _) ?_
      refine rm_ld F hA (pc := 39) (q := 9) (j := (8 * i) + j) (x := nI (zR P i j)) (by decide) (show (8 * i) + j < 80 by omega) (hB.2.2.2.2 i (by omega) j (by omega)) dX4_melts_39 ?_
      refine rm_ld F hA (pc := 40) (q := 4) (j := zR P i j) (x := nI (zO P (zR P i j))) (by decide) (show zR P i j < 30 by omega) (hB.1 (zR P i j) (by omega)).2.2.2.2 dX4_melts_40 ?_
      refine rg_iconst F (pc := 41) (v := nI 1) dX4_melts_41 (by decide) ?_
      refine rg_ncmp_ne F (pc := 42) (tgt := 49) dX4_melts_42 (by decide) (by omega) (by omega) (fun c42 => ?_) (fun c42 => ?_)
      · refine rg_iconst F (pc := 49) (v := nI 0) dX4_melts_49 (by decide) ?_
        exact rg_zret F (pc := 50) rfl hrt9 (by decide) (by decide) dX4_melts_50 ⟨by unfold zMelt; rw [if_neg (by omega)], rfl⟩
      · refine rg_iconst F (pc := 45) (v := nI 1) dX4_melts_45 (by decide) ?_
        refine rg_goto F (pc := 46) (tgt := 50) dX4_melts_46 (by decide) ?_
        exact rg_zret F (pc := 50) rfl hrt9 (by decide) (by decide) dX4_melts_50 ⟨by unfold zMelt; rw [if_pos (by omega)], rfl⟩
set_option maxHeartbeats 4000000 in
set_option maxRecDepth 100000 in
theorem r_rhymeOf (l : Launch) (D : va_G) (M : rMem) (m : Nat) (P : Poem) (nW nL : Nat) (ad : Nat → Nat) (Fn : Nat → Nat → Int32) (t lo : Int32) (a b : Nat) (hV : mV D M m P nW nL ad Fn t lo) (ha : a < nL) (hb : b < nL) : CMi l D yX4_rhymeOf cX4_rhymeOf 5 ((some .int)) 2 0 0 M [.ref (m), .int (nI a), .int (nI b)] (fun r M' => r = nI (zRh P a b) ∧ M' = M) := by
  obtain ⟨hP, hA, hB⟩ := id hV
  have hn30 := hP.1.1
  have hn10 := hP.2.1
  have hz8 := (hP.2.2 a ha).2.2.2.2.1
  have hz9 := (hP.2.2 b hb).2.2.2.2.1
  refine rM (lv0 := [some (.ref (m)), some (.int (nI a)), some (.int (nI b)), none, none]) (by decide) rfl rfl (Nat.le_of_ble_eq_true rfl) (fun P0 E0 S0 m0 as0 bl0 mt0 c0 A F hrt9 hnm => ?_)
  refine rg_aload_n F (pc := 0) dX4_rhymeOf_0 rfl ?_
  refine rg_get F (pc := 1) (ci := 5) rfl inX4 hA.1 11 (by decide) q407 (fun _ h9 => h9) rfl dX4_rhymeOf_1 ?_
  refine rg_iload_n F (pc := 4) dX4_rhymeOf_4 rfl ?_
  refine rm_ld F hA (pc := 5) (q := 8) (j := a) (x := nI (zC P a)) (by decide) (show a < 10 by omega) (hB.2.2.1 a (by omega)) dX4_rhymeOf_5 ?_
  refine rg_nif_eq F (pc := 6) (tgt := 18) dX4_rhymeOf_6 (by decide) (by omega) (fun c6 => ?_) (fun c6 => ?_)
  · refine rg_iconst F (pc := 18) (v := nI 0) dX4_rhymeOf_18 (by decide) ?_
    exact rg_iret F (pc := 19) hrt9 (by decide) (by decide) dX4_rhymeOf_19 ⟨by unfold zRh; rw [if_pos (by omega)], rfl⟩
  · refine rg_aload_n F (pc := 9) dX4_rhymeOf_9 rfl ?_
    refine rg_get F (pc := 10) (ci := 5) rfl inX4 hA.1 11 (by decide) q407 (fun _ h9 => h9) rfl dX4_rhymeOf_10 ?_
    refine rg_iload_n F (pc := 13) dX4_rhymeOf_13 rfl ?_
    refine rm_ld F hA (pc := 14) (q := 8) (j := b) (x := nI (zC P b)) (by decide) (show b < 10 by omega) (hB.2.2.1 b (by omega)) dX4_rhymeOf_14 ?_
    refine rg_nif_ne F (pc := 15) (tgt := 20) dX4_rhymeOf_15 (by decide) (by omega) (fun c15 => ?_) (fun c15 => ?_)
    · have ra := (hP.2.2 a ha).2.2.2.2.2 (zC P a - 1) (by omega)
      have rb := (hP.2.2 b hb).2.2.2.2.2 (zC P b - 1) (by omega)
      obtain ⟨wa1, wa2, wa3, wa4, wa5, wa6⟩ := hP.1.2 _ ra
      obtain ⟨wb1, wb2, wb3, wb4, wb5, wb6⟩ := hP.1.2 _ rb
      refine rg_aload_n F (pc := 20) dX4_rhymeOf_20 rfl ?_
      refine rg_iload_n F (pc := 21) dX4_rhymeOf_21 rfl ?_
      refine rg_callVi F (pc := 22) (As := [.int (nI a)]) (rest := []) (ci := 5) (r_last l D _ m P nW nL ad Fn t lo a ⟨hP, hA, hB⟩ (by omega) (by omega)) q475 vq_X4_last rfl hA.1 rfl rfl (Nat.le_of_ble_eq_true rfl) (Nat.le_of_ble_eq_true rfl) (Nat.le_of_ble_eq_true rfl) ⟨(Nat.le_of_ble_eq_true rfl), (Nat.le_of_ble_eq_true rfl)⟩ dX4_rhymeOf_22 (fun r9 M9 hp => ?_)
      refine rg_top (v2 := .int (nI (zR P a (zC P a - 1)))) (by first | (rw [hp.1]; done) | (rw [hp.1]; rfl)) ?_
      refine rg_mem (M2 := M) hp.2 ?_
      refine rg_istore_n F (pc := 25) (lv' := [some (.ref (m)), some (.int (nI a)), some (.int (nI b)), some (.int (nI (zR P a (zC P a - 1)))), none]) dX4_rhymeOf_25 (Nat.le_of_ble_eq_true rfl) rfl ?_
      refine rg_aload_n F (pc := 26) dX4_rhymeOf_26 rfl ?_
      refine rg_iload_n F (pc := 27) dX4_rhymeOf_27 rfl ?_
      refine rg_callVi F (pc := 28) (As := [.int (nI b)]) (rest := []) (ci := 5) (r_last l D _ m P nW nL ad Fn t lo b ⟨hP, hA, hB⟩ (by omega) (by omega)) q475 vq_X4_last rfl hA.1 rfl rfl (Nat.le_of_ble_eq_true rfl) (Nat.le_of_ble_eq_true rfl) (Nat.le_of_ble_eq_true rfl) ⟨(Nat.le_of_ble_eq_true rfl), (Nat.le_of_ble_eq_true rfl)⟩ dX4_rhymeOf_28 (fun r9 M9 hp => ?_)
      refine rg_top (v2 := .int (nI (zR P b (zC P b - 1)))) (by first | (rw [hp.1]; done) | (rw [hp.1]; rfl)) ?_
      refine rg_mem (M2 := M) hp.2 ?_
      refine rg_istore F (pc := 31) (lv' := [some (.ref (m)), some (.int (nI a)), some (.int (nI b)), some (.int (nI (zR P a (zC P a - 1)))), some (.int (nI (zR P b (zC P b - 1))))]) dX4_rhymeOf_31 (Nat.le_of_ble_eq_true rfl) rfl ?_
      refine rg_iload_n F (pc := 33) dX4_rhymeOf_33 rfl ?_
      refine rg_iload F (pc := 34) dX4_rhymeOf_34 rfl ?_
      refine rg_ncmp_eq F (pc := 36) (tgt := 55) dX4_rhymeOf_36 (by decide) (by omega) (by omega) (fun c36 => ?_) (fun c36 => ?_)
      · refine rg_iconst F (pc := 55) (v := nI 0) dX4_rhymeOf_55 (by decide) ?_
        exact rg_iret F (pc := 56) hrt9 (by decide) (by decide) dX4_rhymeOf_56 ⟨by unfold zRh; rw [if_neg (by omega)]; unfold zRhW rRhy; rw [if_pos (Or.inl c36)], rfl⟩
      · refine rg_aload_n F (pc := 39) dX4_rhymeOf_39 rfl ?_
        refine rg_get F (pc := 40) (ci := 5) rfl inX4 hA.1 4 (by decide) q412 (fun _ h9 => h9) rfl dX4_rhymeOf_40 ?_
        refine rg_iload_n F (pc := 43) dX4_rhymeOf_43 rfl ?_
        refine rm_ld F hA (pc := 44) (q := 2) (j := zR P a (zC P a - 1)) (x := nI (zV P (zR P a (zC P a - 1)))) (by decide) (show zR P a (zC P a - 1) < 30 by omega) (hB.1 (zR P a (zC P a - 1)) (by omega)).2.2.1 dX4_rhymeOf_44 ?_
        refine rg_aload_n F (pc := 45) dX4_rhymeOf_45 rfl ?_
        refine rg_get F (pc := 46) (ci := 5) rfl inX4 hA.1 4 (by decide) q412 (fun _ h9 => h9) rfl dX4_rhymeOf_46 ?_
        refine rg_iload F (pc := 49) dX4_rhymeOf_49 rfl ?_
        refine rm_ld F hA (pc := 51) (q := 2) (j := zR P b (zC P b - 1)) (x := nI (zV P (zR P b (zC P b - 1)))) (by decide) (show zR P b (zC P b - 1) < 30 by omega) (hB.1 (zR P b (zC P b - 1)) (by omega)).2.2.1 dX4_rhymeOf_51 ?_
        refine rg_ncmp_eq F (pc := 52) (tgt := 57) dX4_rhymeOf_52 (by decide) (by omega) (by omega) (fun c52 => ?_) (fun c52 => ?_)
        · refine rg_iconst F (pc := 57) (v := nI 1) dX4_rhymeOf_57 (by decide) ?_
          refine rg_aload_n F (pc := 58) dX4_rhymeOf_58 rfl ?_
          refine rg_get F (pc := 59) (ci := 5) rfl inX4 hA.1 5 (by decide) q413 (fun _ h9 => h9) rfl dX4_rhymeOf_59 ?_
          refine rg_iload_n F (pc := 62) dX4_rhymeOf_62 rfl ?_
          refine rm_ld F hA (pc := 63) (q := 3) (j := zR P a (zC P a - 1)) (x := nI (zE P (zR P a (zC P a - 1)))) (by decide) (show zR P a (zC P a - 1) < 30 by omega) (hB.1 (zR P a (zC P a - 1)) (by omega)).2.2.2.1 dX4_rhymeOf_63 ?_
          refine rg_aload_n F (pc := 64) dX4_rhymeOf_64 rfl ?_
          refine rg_get F (pc := 65) (ci := 5) rfl inX4 hA.1 5 (by decide) q413 (fun _ h9 => h9) rfl dX4_rhymeOf_65 ?_
          refine rg_iload F (pc := 68) dX4_rhymeOf_68 rfl ?_
          refine rm_ld F hA (pc := 70) (q := 3) (j := zR P b (zC P b - 1)) (x := nI (zE P (zR P b (zC P b - 1)))) (by decide) (show zR P b (zC P b - 1) < 30 by omega) (hB.1 (zR P b (zC P b - 1)) (by omega)).2.2.2.1 dX4_rhymeOf_70 ?_
          refine rg_ncmp_ne F (pc := 71) (tgt := 78) dX4_rhymeOf_71 (by decide) (by omega) (by omega) (fun c71 => ?_) (fun c71 => ?_)
          · refine rg_iconst F (pc := 78) (v := nI 0) dX4_rhymeOf_78 (by decide) ?_
            refine rg_iadd F (pc := 79) (v := nI (1 + 0)) dX4_rhymeOf_79 (nI_add _ _) ?_
            refine rg_aload_n F (pc := 80) dX4_rhymeOf_80 rfl ?_
            refine rg_get F (pc := 81) (ci := 5) rfl inX4 hA.1 2 (by decide) q410 (fun _ h9 => h9) rfl dX4_rhymeOf_81 ?_
            refine rg_iload_n F (pc := 84) dX4_rhymeOf_84 rfl ?_
            refine rm_ld F hA (pc := 85) (q := 0) (j := zR P a (zC P a - 1)) (x := nI (zS P (zR P a (zC P a - 1)))) (by decide) (show zR P a (zC P a - 1) < 30 by omega) (hB.1 (zR P a (zC P a - 1)) (by omega)).1 dX4_rhymeOf_85 ?_
            refine rg_aload_n F (pc := 86) dX4_rhymeOf_86 rfl ?_
            refine rg_get F (pc := 87) (ci := 5) rfl inX4 hA.1 3 (by decide) q411 (fun _ h9 => h9) rfl dX4_rhymeOf_87 ?_
            refine rg_iload_n F (pc := 90) dX4_rhymeOf_90 rfl ?_
            refine rm_ld F hA (pc := 91) (q := 1) (j := zR P a (zC P a - 1)) (x := nI (zT P (zR P a (zC P a - 1)))) (by decide) (show zR P a (zC P a - 1) < 30 by omega) (hB.1 (zR P a (zC P a - 1)) (by omega)).2.1 dX4_rhymeOf_91 ?_
            refine rg_callSi F (pc := 92) (As := [.int (nI (zS P (zR P a (zC P a - 1)))), .int (nI (zT P (zR P a (zC P a - 1))))]) (rest := [.int (nI (1 + 0))]) (r_lastS l D _ (zS P (zR P a (zC P a - 1))) (zT P (zR P a (zC P a - 1))) (by omega) (by omega) wa3) q478 sq_X4_lastStress rfl rfl (Nat.le_of_ble_eq_true rfl) (Nat.le_of_ble_eq_true rfl) (Nat.le_of_ble_eq_true rfl) ⟨(Nat.le_of_ble_eq_true rfl), (Nat.le_of_ble_eq_true rfl)⟩ dX4_rhymeOf_92 (fun r9 M9 hp => ?_)
            refine rg_top (v2 := .int (nI (rLst (zS P (zR P a (zC P a - 1))) (zT P (zR P a (zC P a - 1)))))) (by first | (rw [hp.1]; done) | (rw [hp.1]; rfl)) ?_
            refine rg_mem (M2 := M) hp.2 ?_
            refine rg_aload_n F (pc := 95) dX4_rhymeOf_95 rfl ?_
            refine rg_get F (pc := 96) (ci := 5) rfl inX4 hA.1 2 (by decide) q410 (fun _ h9 => h9) rfl dX4_rhymeOf_96 ?_
            refine rg_iload F (pc := 99) dX4_rhymeOf_99 rfl ?_
            refine rm_ld F hA (pc := 101) (q := 0) (j := zR P b (zC P b - 1)) (x := nI (zS P (zR P b (zC P b - 1)))) (by decide) (show zR P b (zC P b - 1) < 30 by omega) (hB.1 (zR P b (zC P b - 1)) (by omega)).1 dX4_rhymeOf_101 ?_
            refine rg_aload_n F (pc := 102) dX4_rhymeOf_102 rfl ?_
            refine rg_get F (pc := 103) (ci := 5) rfl inX4 hA.1 3 (by decide) q411 (fun _ h9 => h9) rfl dX4_rhymeOf_103 ?_
            refine rg_iload F (pc := 106) dX4_rhymeOf_106 rfl ?_
            refine rm_ld F hA (pc := 108) (q := 1) (j := zR P b (zC P b - 1)) (x := nI (zT P (zR P b (zC P b - 1)))) (by decide) (show zR P b (zC P b - 1) < 30 by omega) (hB.1 (zR P b (zC P b - 1)) (by omega)).2.1 dX4_rhymeOf_108 ?_
            refine rg_callSi F (pc := 109) (As := [.int (nI (zS P (zR P b (zC P b - 1)))), .int (nI (zT P (zR P b (zC P b - 1))))]) (rest := [.int (nI (rLst (zS P (zR P a (zC P a - 1))) (zT P (zR P a (zC P a - 1))))), .int (nI (1 + 0))]) (r_lastS l D _ (zS P (zR P b (zC P b - 1))) (zT P (zR P b (zC P b - 1))) (by omega) (by omega) wb3) q478 sq_X4_lastStress rfl rfl (Nat.le_of_ble_eq_true rfl) (Nat.le_of_ble_eq_true rfl) (Nat.le_of_ble_eq_true rfl) ⟨(Nat.le_of_ble_eq_true rfl), (Nat.le_of_ble_eq_true rfl)⟩ dX4_rhymeOf_109 (fun r9 M9 hp => ?_)
            refine rg_top (v2 := .int (nI (rLst (zS P (zR P b (zC P b - 1))) (zT P (zR P b (zC P b - 1)))))) (by first | (rw [hp.1]; done) | (rw [hp.1]; rfl)) ?_
            refine rg_mem (M2 := M) hp.2 ?_
            have ls1 := rLst_lt (zS P (zR P a (zC P a - 1))) (zT P (zR P a (zC P a - 1)))
            have ls2 := rLst_lt (zS P (zR P b (zC P b - 1))) (zT P (zR P b (zC P b - 1)))
            refine rg_ncmp_ne F (pc := 112) (tgt := 119) dX4_rhymeOf_112 (by decide) (by omega) (by omega) (fun c112 => ?_) (fun c112 => ?_)
            · refine rg_iconst F (pc := 119) (v := nI 0) dX4_rhymeOf_119 (by decide) ?_
              refine rg_iadd F (pc := 120) (v := nI ((1 + 0) + 0)) dX4_rhymeOf_120 (nI_add _ _) ?_
              exact rg_iret F (pc := 121) hrt9 (by decide) (by decide) dX4_rhymeOf_121 ⟨by unfold zRh; rw [if_neg (by omega)]; unfold zRhW rRhy; rw [if_neg (fun z => z.elim c36 (fun q => q c52)), if_neg c71, if_neg c112], rfl⟩
            · refine rg_iconst F (pc := 115) (v := nI 1) dX4_rhymeOf_115 (by decide) ?_
              refine rg_goto F (pc := 116) (tgt := 120) dX4_rhymeOf_116 (by decide) ?_
              refine rg_iadd F (pc := 120) (v := nI ((1 + 0) + 1)) dX4_rhymeOf_120 (nI_add _ _) ?_
              exact rg_iret F (pc := 121) hrt9 (by decide) (by decide) dX4_rhymeOf_121 ⟨by unfold zRh; rw [if_neg (by omega)]; unfold zRhW rRhy; rw [if_neg (fun z => z.elim c36 (fun q => q c52)), if_neg c71, if_pos c112], rfl⟩
          · refine rg_iconst F (pc := 74) (v := nI 1) dX4_rhymeOf_74 (by decide) ?_
            refine rg_goto F (pc := 75) (tgt := 79) dX4_rhymeOf_75 (by decide) ?_
            refine rg_iadd F (pc := 79) (v := nI (1 + 1)) dX4_rhymeOf_79 (nI_add _ _) ?_
            refine rg_aload_n F (pc := 80) dX4_rhymeOf_80 rfl ?_
            refine rg_get F (pc := 81) (ci := 5) rfl inX4 hA.1 2 (by decide) q410 (fun _ h9 => h9) rfl dX4_rhymeOf_81 ?_
            refine rg_iload_n F (pc := 84) dX4_rhymeOf_84 rfl ?_
            refine rm_ld F hA (pc := 85) (q := 0) (j := zR P a (zC P a - 1)) (x := nI (zS P (zR P a (zC P a - 1)))) (by decide) (show zR P a (zC P a - 1) < 30 by omega) (hB.1 (zR P a (zC P a - 1)) (by omega)).1 dX4_rhymeOf_85 ?_
            refine rg_aload_n F (pc := 86) dX4_rhymeOf_86 rfl ?_
            refine rg_get F (pc := 87) (ci := 5) rfl inX4 hA.1 3 (by decide) q411 (fun _ h9 => h9) rfl dX4_rhymeOf_87 ?_
            refine rg_iload_n F (pc := 90) dX4_rhymeOf_90 rfl ?_
            refine rm_ld F hA (pc := 91) (q := 1) (j := zR P a (zC P a - 1)) (x := nI (zT P (zR P a (zC P a - 1)))) (by decide) (show zR P a (zC P a - 1) < 30 by omega) (hB.1 (zR P a (zC P a - 1)) (by omega)).2.1 dX4_rhymeOf_91 ?_
            refine rg_callSi F (pc := 92) (As := [.int (nI (zS P (zR P a (zC P a - 1)))), .int (nI (zT P (zR P a (zC P a - 1))))]) (rest := [.int (nI (1 + 1))]) (r_lastS l D _ (zS P (zR P a (zC P a - 1))) (zT P (zR P a (zC P a - 1))) (by omega) (by omega) wa3) q478 sq_X4_lastStress rfl rfl (Nat.le_of_ble_eq_true rfl) (Nat.le_of_ble_eq_true rfl) (Nat.le_of_ble_eq_true rfl) ⟨(Nat.le_of_ble_eq_true rfl), (Nat.le_of_ble_eq_true rfl)⟩ dX4_rhymeOf_92 (fun r9 M9 hp => ?_)
            refine rg_top (v2 := .int (nI (rLst (zS P (zR P a (zC P a - 1))) (zT P (zR P a (zC P a - 1)))))) (by first | (rw [hp.1]; done) | (rw [hp.1]; rfl)) ?_
            refine rg_mem (M2 := M) hp.2 ?_
            refine rg_aload_n F (pc := 95) dX4_rhymeOf_95 rfl ?_
            refine rg_get F (pc := 96) (ci := 5) rfl inX4 hA.1 2 (by decide) q410 (fun _ h9 => h9) rfl dX4_rhymeOf_96 ?_
            refine rg_iload F (pc := 99) dX4_rhymeOf_99 rfl ?_
            refine rm_ld F hA (pc := 101) (q := 0) (j := zR P b (zC P b - 1)) (x := nI (zS P (zR P b (zC P b - 1)))) (by decide) (show zR P b (zC P b - 1) < 30 by omega) (hB.1 (zR P b (zC P b - 1)) (by omega)).1 dX4_rhymeOf_101 ?_
            refine rg_aload_n F (pc := 102) dX4_rhymeOf_102 rfl ?_
            refine rg_get F (pc := 103) (ci := 5) rfl inX4 hA.1 3 (by decide) q411 (fun _ h9 => h9) rfl dX4_rhymeOf_103 ?_
            refine rg_iload F (pc := 106) dX4_rhymeOf_106 rfl ?_
            refine rm_ld F hA (pc := 108) (q := 1) (j := zR P b (zC P b - 1)) (x := nI (zT P (zR P b (zC P b - 1)))) (by decide) (show zR P b (zC P b - 1) < 30 by omega) (hB.1 (zR P b (zC P b - 1)) (by omega)).2.1 dX4_rhymeOf_108 ?_
            refine rg_callSi F (pc := 109) (As := [.int (nI (zS P (zR P b (zC P b - 1)))), .int (nI (zT P (zR P b (zC P b - 1))))]) (rest := [.int (nI (rLst (zS P (zR P a (zC P a - 1))) (zT P (zR P a (zC P a - 1))))), .int (nI (1 + 1))]) (r_lastS l D _ (zS P (zR P b (zC P b - 1))) (zT P (zR P b (zC P b - 1))) (by omega) (by omega) wb3) q478 sq_X4_lastStress rfl rfl (Nat.le_of_ble_eq_true rfl) (Nat.le_of_ble_eq_true rfl) (Nat.le_of_ble_eq_true rfl) ⟨(Nat.le_of_ble_eq_true rfl), (Nat.le_of_ble_eq_true rfl)⟩ dX4_rhymeOf_109 (fun r9 M9 hp => ?_)
            refine rg_top (v2 := .int (nI (rLst (zS P (zR P b (zC P b - 1))) (zT P (zR P b (zC P b - 1)))))) (by first | (rw [hp.1]; done) | (rw [hp.1]; rfl)) ?_
            refine rg_mem (M2 := M) hp.2 ?_
            have ls1 := rLst_lt (zS P (zR P a (zC P a - 1))) (zT P (zR P a (zC P a - 1)))
            have ls2 := rLst_lt (zS P (zR P b (zC P b - 1))) (zT P (zR P b (zC P b - 1)))
            refine rg_ncmp_ne F (pc := 112) (tgt := 119) dX4_rhymeOf_112 (by decide) (by omega) (by omega) (fun c112 => ?_) (fun c112 => ?_)
            · refine rg_iconst F (pc := 119) (v := nI 0) dX4_rhymeOf_119 (by decide) ?_
              refine rg_iadd F (pc := 120) (v := nI ((1 + 1) + 0)) dX4_rhymeOf_120 (nI_add _ _) ?_
              exact rg_iret F (pc := 121) hrt9 (by decide) (by decide) dX4_rhymeOf_121 ⟨by unfold zRh; rw [if_neg (by omega)]; unfold zRhW rRhy; rw [if_neg (fun z => z.elim c36 (fun q => q c52)), if_pos c71, if_neg c112], rfl⟩
            · refine rg_iconst F (pc := 115) (v := nI 1) dX4_rhymeOf_115 (by decide) ?_
              refine rg_goto F (pc := 116) (tgt := 120) dX4_rhymeOf_116 (by decide) ?_
              refine rg_iadd F (pc := 120) (v := nI ((1 + 1) + 1)) dX4_rhymeOf_120 (nI_add _ _) ?_
              exact rg_iret F (pc := 121) hrt9 (by decide) (by decide) dX4_rhymeOf_121 ⟨by unfold zRh; rw [if_neg (by omega)]; unfold zRhW rRhy; rw [if_neg (fun z => z.elim c36 (fun q => q c52)), if_pos c71, if_pos c112], rfl⟩
        · refine rg_iconst F (pc := 55) (v := nI 0) dX4_rhymeOf_55 (by decide) ?_
          exact rg_iret F (pc := 56) hrt9 (by decide) (by decide) dX4_rhymeOf_56 ⟨by unfold zRh; rw [if_neg (by omega)]; unfold zRhW rRhy; rw [if_pos (Or.inr c52)], rfl⟩
    · refine rg_iconst F (pc := 18) (v := nI 0) dX4_rhymeOf_18 (by decide) ?_
      exact rg_iret F (pc := 19) hrt9 (by decide) (by decide) dX4_rhymeOf_19 ⟨by unfold zRh; rw [if_pos (by omega)], rfl⟩
set_option maxHeartbeats 4000000 in
set_option maxRecDepth 100000 in
theorem r_ahead (l : Launch) (D : va_G) (M : rMem) (m : Nat) (P : Poem) (nW nL : Nat) (ad : Nat → Nat) (Fn : Nat → Nat → Int32) (t lo : Int32) (i : Nat) (hV : mV D M m P nW nL ad Fn t lo) (hi : i < nL) : CMi l D yX4_rhymeAhead cX4_rhymeAhead 3 ((some .int)) 3 0 0 M [.ref (m), .int (nI i)] (fun r M' => r = nI (zPaid P i) ∧ M' = M) := by
  obtain ⟨hP, hA, hB⟩ := id hV
  have hn30 := hP.1.1
  have hn10 := hP.2.1
  refine rM (lv0 := [some (.ref (m)), some (.int (nI i)), none]) (by decide) rfl rfl (Nat.le_of_ble_eq_true rfl) (fun P0 E0 S0 m0 as0 bl0 mt0 c0 A F hrt9 hnm => ?_)
  refine rg_iload_n F (pc := 0) dX4_rhymeAhead_0 rfl ?_
  refine rg_iconst F (pc := 1) (v := nI 1) dX4_rhymeAhead_1 (by decide) ?_
  refine rg_isub F (pc := 2) (v := nI i - nI 1) dX4_rhymeAhead_2 rfl ?_
  refine rg_istore_n F (pc := 3) (lv' := [some (.ref (m)), some (.int (nI i)), some (.int (nI i - nI 1))]) dX4_rhymeAhead_3 (Nat.le_of_ble_eq_true rfl) rfl ?_
  suffices L0 : ∀ (d9 : Nat) (k : Nat), k < d9 → (k ≤ i) → (zNear P (zK P i) i = zNear P (zK P i) k) → rG P0 l E0 (rR 3 0 0) S0 m0 as0 bl0 mt0 c0 D A 3 (MQ bl0 (va_Qi (fun r M' => r = nI (zPaid P i) ∧ M' = M) (cB D A) A) as0 S0 0 0 A) M 0 0 [some (.ref (m)), some (.int (nI i)), some (.int (nI k - nI 1))] 4 [] from L0 _ i (Nat.lt_succ_self _) (Nat.le_refl _) rfl
  intro d9
  induction d9 with
  | zero => intro k hd9; exact absurd hd9 (Nat.not_lt_zero _)
  | succ d9 ih =>
    intro k hd9 hk1 hn1
    refine rg_iload_n F (pc := 4) dX4_rhymeAhead_4 rfl ?_
    refine rg_if_lt F (pc := 5) (tgt := 36) dX4_rhymeAhead_5 (by decide) (fun c5 => ?_) (fun c5 => ?_)
    · refine rg_iconst F (pc := 36) (v := nI 0) dX4_rhymeAhead_36 (by decide) ?_
      have e0 := rm_neg (by omega) c5
      subst e0
      exact rg_iret F (pc := 37) hrt9 (by decide) (by decide) dX4_rhymeAhead_37 ⟨by unfold zPaid; rw [hn1]; rfl, rfl⟩
    · have hk0 : 0 < k := by rcases Nat.eq_zero_or_pos k with h | h; (subst h; exact absurd rm_0 c5); exact h
      refine rg_eq (lv2 := [some (.ref (m)), some (.int (nI i)), some (.int (nI (k - 1)))]) (st2 := []) (pc2 := 8) (by rw [pk_sub hk0]) rfl rfl ?_
      have mk1 := (hP.2.2 i hi).2.2.2.1
      have mk2 := (hP.2.2 (k - 1) (by omega)).2.2.2.1
      refine rg_aload_n F (pc := 8) dX4_rhymeAhead_8 rfl ?_
      refine rg_get F (pc := 9) (ci := 5) rfl inX4 hA.1 10 (by decide) q471 (fun _ h9 => h9) rfl dX4_rhymeAhead_9 ?_
      refine rg_iload_n F (pc := 12) dX4_rhymeAhead_12 rfl ?_
      refine rm_ld F hA (pc := 13) (q := 7) (j := k - 1) (x := nI (zK P (k - 1))) (by decide) (show k - 1 < 10 by omega) (hB.2.1 (k - 1) (by omega)).2.2 dX4_rhymeAhead_13 ?_
      refine rg_aload_n F (pc := 14) dX4_rhymeAhead_14 rfl ?_
      refine rg_get F (pc := 15) (ci := 5) rfl inX4 hA.1 10 (by decide) q471 (fun _ h9 => h9) rfl dX4_rhymeAhead_15 ?_
      refine rg_iload_n F (pc := 18) dX4_rhymeAhead_18 rfl ?_
      refine rm_ld F hA (pc := 19) (q := 7) (j := i) (x := nI (zK P i)) (by decide) (show i < 10 by omega) (hB.2.1 i (by omega)).2.2 dX4_rhymeAhead_19 ?_
      refine rg_ncmp_ne F (pc := 20) (tgt := 30) dX4_rhymeAhead_20 (by decide) (by omega) (by omega) (fun c20 => ?_) (fun c20 => ?_)
      · refine rg_iinc F (pc := 30) (v := nI (k - 1) - nI 1) (lv' := [some (.ref (m)), some (.int (nI i)), some (.int (nI (k - 1) - nI 1))]) dX4_rhymeAhead_30 rfl (rm_1 _) (Nat.le_of_ble_eq_true rfl) rfl ?_
        refine rg_goto F (pc := 33) (tgt := 4) dX4_rhymeAhead_33 (by decide) ?_
        exact ih (k - 1) (by omega) (by omega) (by rw [hn1, zNear_s P (zK P i) k hk0, if_neg c20])
      · refine rg_aload_n F (pc := 23) dX4_rhymeAhead_23 rfl ?_
        refine rg_iload_n F (pc := 24) dX4_rhymeAhead_24 rfl ?_
        refine rg_iload_n F (pc := 25) dX4_rhymeAhead_25 rfl ?_
        refine rg_callVi F (pc := 26) (As := [.int (nI i), .int (nI (k - 1))]) (rest := []) (ci := 5) (r_rhymeOf l D _ m P nW nL ad Fn t lo i (k - 1) ⟨hP, hA, hB⟩ (by omega) (by omega)) q472 vq_X4_rhymeOf rfl hA.1 rfl rfl (Nat.le_of_ble_eq_true rfl) (Nat.le_of_ble_eq_true rfl) (Nat.le_of_ble_eq_true rfl) ⟨(Nat.le_of_ble_eq_true rfl), (Nat.le_of_ble_eq_true rfl)⟩ dX4_rhymeAhead_26 (fun r9 M9 hp => ?_)
        refine rg_top (v2 := .int (nI (zRh P i (k - 1)))) (by first | (rw [hp.1]; done) | (rw [hp.1]; rfl)) ?_
        refine rg_mem (M2 := M) hp.2 ?_
        exact rg_iret F (pc := 29) hrt9 (by decide) (by decide) dX4_rhymeAhead_29 ⟨by unfold zPaid; rw [hn1, zNear_s P (zK P i) k hk0, if_pos c20], rfl⟩
set_option maxHeartbeats 4000000 in
set_option maxRecDepth 100000 in
theorem r_lacks (l : Launch) (D : va_G) (M : rMem) (m : Nat) (P : Poem) (nW nL : Nat) (ad : Nat → Nat) (Fn : Nat → Nat → Int32) (t lo : Int32) (i : Nat) (hV : mV D M m P nW nL ad Fn t lo) (hi : i < nL) (hs : Fn 12 i = nI (zStay P i)) : CMi l D yX4_lacks cX4_lacks 2 ((some .int)) 2 0 0 M [.ref (m), .int (nI i)] (fun r M' => r = nI (zLack P i) ∧ M' = M) := by
  obtain ⟨hP, hA, hB⟩ := id hV
  have hn30 := hP.1.1
  have hn10 := hP.2.1
  have hle : zStay P i ≤ zRm P i := Nat.min_le_right _ _
  refine rM (lv0 := [some (.ref (m)), some (.int (nI i))]) (by decide) rfl rfl (Nat.le_of_ble_eq_true rfl) (fun P0 E0 S0 m0 as0 bl0 mt0 c0 A F hrt9 hnm => ?_)
  refine rg_aload_n F (pc := 0) dX4_lacks_0 rfl ?_
  refine rg_iload_n F (pc := 1) dX4_lacks_1 rfl ?_
  refine rg_callVi F (pc := 2) (As := [.int (nI i)]) (rest := []) (ci := 5) (r_room l D _ m P nW nL ad Fn t lo i ⟨hP, hA, hB⟩ (by omega)) q452 vq_X4_room rfl hA.1 rfl rfl (Nat.le_of_ble_eq_true rfl) (Nat.le_of_ble_eq_true rfl) (Nat.le_of_ble_eq_true rfl) ⟨(Nat.le_of_ble_eq_true rfl), (Nat.le_of_ble_eq_true rfl)⟩ dX4_lacks_2 (fun r9 M9 hp => ?_)
  refine rg_top (v2 := .int (nI (zRm P i))) (by first | (rw [hp.1]; done) | (rw [hp.1]; rfl)) ?_
  refine rg_mem (M2 := M) hp.2 ?_
  refine rg_aload_n F (pc := 5) dX4_lacks_5 rfl ?_
  refine rg_get F (pc := 6) (ci := 5) rfl inX4 hA.1 15 (by decide) q435 (fun _ h9 => h9) rfl dX4_lacks_6 ?_
  refine rg_iload_n F (pc := 9) dX4_lacks_9 rfl ?_
  refine rm_ld F hA (pc := 10) (q := 12) (j := i) (x := nI (zStay P i)) (by decide) (show i < 10 by omega) hs dX4_lacks_10 ?_
  refine rg_isub F (pc := 11) (v := nI ((zRm P i) - (zStay P i))) dX4_lacks_11 (pk_sub (by omega)) ?_
  exact rg_iret F (pc := 12) hrt9 (by decide) (by decide) dX4_lacks_12 ⟨rfl, rfl⟩
