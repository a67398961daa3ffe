set_option maxHeartbeats 4000000 in
set_option maxRecDepth 100000 in
theorem r_scans (l : Launch) (D : va_G) (M : rMem) (m : Nat) (P : Poem) (nW nL : Nat) (ad : Nat → Nat) (Fn : Nat → Nat → Int32) (t lo : Int32) (i : Nat) (hV : mV D M m P nW nL ad Fn t lo) (hi : i < nL) : CMi l D yX4_scans cX4_scans 6 ((some .int)) 5 0 0 M [.ref (m), .int (nI i)] (fun r M' => r = nI (zScn P nL i 3).2 ∧ ∃ F' lo', mV D M' m P nW nL ad F' (nI 0) lo') := by
  obtain ⟨hP, hA, hB⟩ := id hV
  have hn30 := hP.1.1
  have hn10 := hP.2.1
  have hlk := hP.2.2 i hi
  have hm4 := hlk.1
  refine rM (lv0 := [some (.ref (m)), some (.int (nI i)), none, none, none, none]) (by decide) rfl rfl (Nat.le_of_ble_eq_true rfl) (fun P0 E0 S0 m0 as0 bl0 mt0 c0 A F hrt9 hnm => ?_)
  refine rg_aload_n F (pc := 0) dX4_scans_0 rfl ?_
  refine rg_iconst F (pc := 1) (v := nI 0) dX4_scans_1 (by decide) ?_
  refine rg_put F (pc := 2) (ci := 5) (ty := tyX4 0) rfl inX4 tyX4 tyX4_ok nmX4 hA.1 0 (by decide) q395 (fun _ h9 => h9) rfl (tyX4_ok 0 (by decide)) rfl rfl (Nat.le_of_ble_eq_true rfl) dX4_scans_2 ?_
  refine rm_mem hA (t2 := nI 0) (nW2 := nW) (nL2 := nL) (lo2 := lo) rfl (fun Ms1 hAs1 => ?_)
  refine rg_aload_n F (pc := 5) dX4_scans_5 rfl ?_
  refine rg_iload_n F (pc := 6) dX4_scans_6 rfl ?_
  refine rg_callVi F (pc := 7) (As := [.int (nI i)]) (rest := []) (ci := 5) (r_isLine l D _ m P nW nL ad Fn (nI 0) lo (nI i) ⟨hP, hAs1, hB⟩) q482 vq_X4_isLine rfl hAs1.1 rfl rfl (Nat.le_of_ble_eq_true rfl) (Nat.le_of_ble_eq_true rfl) (Nat.le_of_ble_eq_true rfl) ⟨(Nat.le_of_ble_eq_true rfl), (Nat.le_of_ble_eq_true rfl)⟩ dX4_scans_7 (fun r9 M9 hp => ?_)
  refine rg_top (v2 := .int (nI (rBel (nI i) nL).toNat)) (by first | (rw [hp.1]; done) | (rw [hp.1]; rfl)) ?_
  refine rg_mem (M2 := Ms1) hp.2 ?_
  refine rg_bif_ne F (pc := 10) (tgt := 19) dX4_scans_10 (by decide) (fun c10 => ?_) (fun c10 => absurd c10 (by rw [rBel_nI (by omega), decide_eq_true hi]; decide))
  refine rg_aload_n F (pc := 19) dX4_scans_19 rfl ?_
  refine rg_get F (pc := 20) (ci := 5) rfl inX4 hAs1.1 8 (by decide) q440 (fun _ h9 => h9) rfl dX4_scans_20 ?_
  refine rg_iload_n F (pc := 23) dX4_scans_23 rfl ?_
  refine rm_ld F hAs1 (pc := 24) (q := 5) (j := i) (x := nI (zM P i)) (by decide) (show i < 10 by omega) (hB.2.1 i (by omega)).1 dX4_scans_24 ?_
  refine rg_istore_n F (pc := 25) (lv' := [some (.ref (m)), some (.int (nI i)), some (.int (nI (zM P i))), none, none, none]) dX4_scans_25 (Nat.le_of_ble_eq_true rfl) rfl ?_
  refine rg_iconst F (pc := 26) (v := nI 0) dX4_scans_26 (by decide) ?_
  refine rg_istore_n F (pc := 27) (lv' := [some (.ref (m)), some (.int (nI i)), some (.int (nI (zM P i))), some (.int (nI 0)), none, none]) dX4_scans_27 (Nat.le_of_ble_eq_true rfl) rfl ?_
  refine rg_ldc F (pc := 28) (v := 2147483647) q495 dX4_scans_28 ?_
  refine rg_top (v2 := .int (nI 2147483647)) rfl ?_
  refine rg_istore F (pc := 30) (lv' := [some (.ref (m)), some (.int (nI i)), some (.int (nI (zM P i))), some (.int (nI 0)), some (.int (nI 2147483647)), none]) dX4_scans_30 (Nat.le_of_ble_eq_true rfl) rfl ?_
  refine rg_iconst F (pc := 32) (v := nI 0) dX4_scans_32 (by decide) ?_
  refine rg_istore F (pc := 33) (lv' := [some (.ref (m)), some (.int (nI i)), some (.int (nI (zM P i))), some (.int (nI 0)), some (.int (nI 2147483647)), some (.int (nI 0))]) dX4_scans_33 (Nat.le_of_ble_eq_true rfl) rfl ?_
  refine rg_eq (lv2 := [some (.ref (m)), some (.int (nI i)), some (.int (nI (zM P i))), some (.int (nI ((zSc2 P nL i 0).2))), some (.int (nI ((zSc2 P nL i 0).1))), some (.int (nI 0))]) (st2 := []) (pc2 := 35) rfl rfl rfl ?_
  suffices L1 : ∀ (d9 : Nat) (o q : Nat) (M1 : rMem) (F1 : Nat → Nat → Int32) (lo1 : Int32), 4 - o < d9 → (o ≤ 4) → (q < 4) → (mA D M1 m ad F1 (nI 0) nW nL lo1) → (mB (zMet P i q) nW nL F1) → rG P0 l E0 (rR 5 0 0) S0 m0 as0 bl0 mt0 c0 D A 6 (MQ bl0 (va_Qi (fun r M' => r = nI (zScn P nL i 3).2 ∧ ∃ F' lo', mV D M' m P nW nL ad F' (nI 0) lo') (cB D A) A) as0 S0 0 0 A) M1 0 0 [some (.ref (m)), some (.int (nI i)), some (.int (nI (zM P i))), some (.int (nI ((zSc2 P nL i o).2))), some (.int (nI ((zSc2 P nL i o).1))), some (.int (nI o))] 35 [] from L1 _ 0 (zM P i) _ _ _ (Nat.lt_succ_self _) (Nat.zero_le _) hm4 hAs1 (by rw [zMet_same]; exact hB)
  intro d9
  induction d9 with
  | zero => intro o q M1 F1 lo1 hd9; exact absurd hd9 (Nat.not_lt_zero _)
  | succ d9 ih =>
    intro o q M1 F1 lo1 hd9 ho1 hq1 hA1 hB1
    obtain ⟨hsb1, hsb2⟩ := zSc2_b hlk (nL := nL) o
    refine rg_iload F (pc := 35) dX4_scans_35 rfl ?_
    refine rg_iconst F (pc := 37) (v := nI 4) dX4_scans_37 (by decide) ?_
    refine rg_ncmp_ge F (pc := 38) (tgt := 97) dX4_scans_38 (by decide) (by omega) (by omega) (fun c38 => ?_) (fun c38 => ?_)
    · refine rg_aload_n F (pc := 97) dX4_scans_97 rfl ?_
      refine rg_get F (pc := 98) (ci := 5) rfl inX4 hA1.1 8 (by decide) q440 (fun _ h9 => h9) rfl dX4_scans_98 ?_
      refine rg_iload_n F (pc := 101) dX4_scans_101 rfl ?_
      refine rg_iload_n F (pc := 102) dX4_scans_102 rfl ?_
      refine rm_st F hA1 (pc := 103) (q := 5) (j := i) (x := nI (zM P i)) (by decide) (show i < 10 by omega) dX4_scans_103 (fun Ms3 hAs3 => ?_)
      refine rg_iload_n F (pc := 104) dX4_scans_104 rfl ?_
      exact rg_iret F (pc := 105) hrt9 (by decide) (by decide) dX4_scans_105 ⟨by rw [← zSc2_s hlk, show o = 4 by omega], _, _, hP, hAs3, (by have h := mB_met (i := i) (o := zM P i) hB1; rw [zMet_met, zMet_same] at h; exact h)⟩
    · refine rg_aload_n F (pc := 41) dX4_scans_41 rfl ?_
      refine rg_get F (pc := 42) (ci := 5) rfl inX4 hA1.1 8 (by decide) q440 (fun _ h9 => h9) rfl dX4_scans_42 ?_
      refine rg_iload_n F (pc := 45) dX4_scans_45 rfl ?_
      refine rg_iload F (pc := 46) dX4_scans_46 rfl ?_
      refine rm_st F hA1 (pc := 48) (q := 5) (j := i) (x := nI o) (by decide) (show i < 10 by omega) dX4_scans_48 (fun Ms3 hAs3 => ?_)
      have ho4 : o < 4 := by omega
      have hP2 : zOk (zMet P i o) nW nL := zMet_ok hP ho4
      have hB2 : mB (zMet P i o) nW nL (sf F1 5 (upd (F1 5) i (nI o))) := by have h := mB_met (i := i) (o := o) hB1; rw [zMet_met] at h; exact h
      have hfl : zOff (zMet P i o) i + zLack (zMet P i o) i = zFlt P nL i o := zMet_flt hP hi
      have hfb := zFlt_le hlk nL o
      have hof : zOff (zMet P i o) i ≤ 18 := zOffM_le _ _ _
      refine rg_aload_n F (pc := 49) dX4_scans_49 rfl ?_
      refine rg_callVi F (pc := 50) (As := []) (rest := []) (ci := 5) (r_scan l D _ m (zMet P i o) nW nL ad (sf F1 5 (upd (F1 5) i (nI o))) (nI 0) lo1 ⟨hP2, hAs3, hB2⟩) q485 vq_X4_scan rfl hAs3.1 rfl rfl (Nat.le_of_ble_eq_true rfl) (Nat.le_of_ble_eq_true rfl) (Nat.le_of_ble_eq_true rfl) ⟨(Nat.le_of_ble_eq_true rfl), (Nat.le_of_ble_eq_true rfl)⟩ dX4_scans_50 (fun r9 M3 hp => ?_)
      refine rg_top (v2 := .int (nI (zAll (zMet P i o) nL))) (by rw [hp.1]) ?_
      obtain ⟨-, F3, hA3, hfe3, hS3⟩ := hp
      have hB3 := hB2.fe hfe3
      obtain ⟨s10, s11, s12, s13, s14, s15⟩ := hS3 i hi
      refine rg_pop F (pc := 53) dX4_scans_53 rfl ?_
      refine rg_aload_n F (pc := 54) dX4_scans_54 rfl ?_
      refine rg_get F (pc := 55) (ci := 5) rfl inX4 hA3.1 17 (by decide) q438 (fun _ h9 => h9) rfl dX4_scans_55 ?_
      refine rg_iload_n F (pc := 58) dX4_scans_58 rfl ?_
      refine rm_ld F hA3 (pc := 59) (q := 14) (j := i) (x := nI (zOff (zMet P i o) i)) (by decide) (show i < 10 by omega) s14 dX4_scans_59 ?_
      refine rg_aload_n F (pc := 60) dX4_scans_60 rfl ?_
      refine rg_iload_n F (pc := 61) dX4_scans_61 rfl ?_
      refine rg_callVi F (pc := 62) (As := [.int (nI i)]) (rest := [.int (nI (zOff (zMet P i o) i))]) (ci := 5) (r_lacks l D _ m (zMet P i o) nW nL ad F3 (nI 0) (nI (zCa (zMet P i o) nL)) i ⟨hP2, hA3, hB3⟩ hi s12) q465 vq_X4_lacks rfl hA3.1 rfl rfl (Nat.le_of_ble_eq_true rfl) (Nat.le_of_ble_eq_true rfl) (Nat.le_of_ble_eq_true rfl) ⟨(Nat.le_of_ble_eq_true rfl), (Nat.le_of_ble_eq_true rfl)⟩ dX4_scans_62 (fun r9 M9 hp => ?_)
      refine rg_top (v2 := .int (nI (zLack (zMet P i o) i))) (by first | (rw [hp.1]; done) | (rw [hp.1]; rfl)) ?_
      refine rg_mem (M2 := M3) hp.2 ?_
      refine rg_iadd F (pc := 65) (v := nI (zFlt P nL i o)) dX4_scans_65 ((nI_add _ _).trans (congrArg nI hfl)) ?_
      refine rg_iload F (pc := 66) dX4_scans_66 rfl ?_
      refine rg_ncmp_lt F (pc := 68) (tgt := 74) dX4_scans_68 (by decide) (by omega) (by omega) (fun c68 => ?_) (fun c68 => ?_)
      · refine rg_aload_n F (pc := 74) dX4_scans_74 rfl ?_
        refine rg_get F (pc := 75) (ci := 5) rfl inX4 hA3.1 17 (by decide) q438 (fun _ h9 => h9) rfl dX4_scans_75 ?_
        refine rg_iload_n F (pc := 78) dX4_scans_78 rfl ?_
        refine rm_ld F hA3 (pc := 79) (q := 14) (j := i) (x := nI (zOff (zMet P i o) i)) (by decide) (show i < 10 by omega) s14 dX4_scans_79 ?_
        refine rg_aload_n F (pc := 80) dX4_scans_80 rfl ?_
        refine rg_iload_n F (pc := 81) dX4_scans_81 rfl ?_
        refine rg_callVi F (pc := 82) (As := [.int (nI i)]) (rest := [.int (nI (zOff (zMet P i o) i))]) (ci := 5) (r_lacks l D _ m (zMet P i o) nW nL ad F3 (nI 0) (nI (zCa (zMet P i o) nL)) i ⟨hP2, hA3, hB3⟩ hi s12) q465 vq_X4_lacks rfl hA3.1 rfl rfl (Nat.le_of_ble_eq_true rfl) (Nat.le_of_ble_eq_true rfl) (Nat.le_of_ble_eq_true rfl) ⟨(Nat.le_of_ble_eq_true rfl), (Nat.le_of_ble_eq_true rfl)⟩ dX4_scans_82 (fun r9 M9 hp => ?_)
        refine rg_top (v2 := .int (nI (zLack (zMet P i o) i))) (by first | (rw [hp.1]; done) | (rw [hp.1]; rfl)) ?_
        refine rg_mem (M2 := M3) hp.2 ?_
        refine rg_iadd F (pc := 85) (v := nI (zFlt P nL i o)) dX4_scans_85 ((nI_add _ _).trans (congrArg nI hfl)) ?_
        refine rg_istore F (pc := 86) (lv' := [some (.ref (m)), some (.int (nI i)), some (.int (nI (zM P i))), some (.int (nI ((zSc2 P nL i o).2))), some (.int (nI (zFlt P nL i o))), some (.int (nI o))]) dX4_scans_86 (Nat.le_of_ble_eq_true rfl) rfl ?_
        refine rg_iload F (pc := 88) dX4_scans_88 rfl ?_
        refine rg_istore_n F (pc := 90) (lv' := [some (.ref (m)), some (.int (nI i)), some (.int (nI (zM P i))), some (.int (nI o)), some (.int (nI (zFlt P nL i o))), some (.int (nI o))]) dX4_scans_90 (Nat.le_of_ble_eq_true rfl) rfl ?_
        have e5 : zSc2 P nL i (o + 1) = (zFlt P nL i o, o) := if_pos c68
        refine rg_eq (lv2 := [some (.ref (m)), some (.int (nI i)), some (.int (nI (zM P i))), some (.int (nI ((zSc2 P nL i (o + 1)).2))), some (.int (nI ((zSc2 P nL i (o + 1)).1))), some (.int (nI o))]) (st2 := []) (pc2 := 91) (by rw [e5]) rfl rfl ?_
        refine rg_iinc F (pc := 91) (v := nI (o + 1)) (lv' := [some (.ref (m)), some (.int (nI i)), some (.int (nI (zM P i))), some (.int (nI ((zSc2 P nL i (o + 1)).2))), some (.int (nI ((zSc2 P nL i (o + 1)).1))), some (.int (nI (o + 1)))]) dX4_scans_91 rfl (nI_add _ 1) (Nat.le_of_ble_eq_true rfl) rfl ?_
        refine rg_goto F (pc := 94) (tgt := 35) dX4_scans_94 (by decide) ?_
        exact ih (o + 1) o _ _ _ (by omega) (by omega) (by omega) hA3 hB3
      · refine rg_goto F (pc := 71) (tgt := 91) dX4_scans_71 (by decide) ?_
        have e5 : zSc2 P nL i (o + 1) = zSc2 P nL i o := if_neg (by omega)
        refine rg_eq (lv2 := [some (.ref (m)), some (.int (nI i)), some (.int (nI (zM P i))), some (.int (nI ((zSc2 P nL i (o + 1)).2))), some (.int (nI ((zSc2 P nL i (o + 1)).1))), some (.int (nI o))]) (st2 := []) (pc2 := 91) (by rw [e5]) rfl rfl ?_
        refine rg_iinc F (pc := 91) (v := nI (o + 1)) (lv' := [some (.ref (m)), some (.int (nI i)), some (.int (nI (zM P i))), some (.int (nI ((zSc2 P nL i (o + 1)).2))), some (.int (nI ((zSc2 P nL i (o + 1)).1))), some (.int (nI (o + 1)))]) dX4_scans_91 rfl (nI_add _ 1) (Nat.le_of_ble_eq_true rfl) rfl ?_
        refine rg_goto F (pc := 94) (tgt := 35) dX4_scans_94 (by decide) ?_
        exact ih (o + 1) o _ _ _ (by omega) (by omega) (by omega) hA3 hB3
set_option maxHeartbeats 4000000 in
set_option maxRecDepth 100000 in
theorem r_scans1 (l : Launch) (D : va_G) (M : rMem) (m : Nat) (P : Poem) (nW nL : Nat) (ad : Nat → Nat) (Fn : Nat → Nat → Int32) (t lo : Int32) (j : Int32) (hV : mV D M m P nW nL ad Fn t lo) (hb : rBel j nL = false) : CMi l D yX4_scans cX4_scans 6 ((some .int)) 3 0 0 M [.ref (m), .int (j)] (fun r M' => mV D M' m P nW nL ad Fn (nI 1) lo) := by
  obtain ⟨hP, hA, hB⟩ := id hV
  have hn30 := hP.1.1
  have hn10 := hP.2.1
  refine rM (lv0 := [some (.ref (m)), some (.int (j)), none, none, none, none]) (by decide) rfl rfl (Nat.le_of_ble_eq_true rfl) (fun P0 E0 S0 m0 as0 bl0 mt0 c0 A F hrt9 hnm => ?_)
  refine rg_aload_n F (pc := 0) dX4_scans_0 rfl ?_
  refine rg_iconst F (pc := 1) (v := nI 0) dX4_scans_1 (by decide) ?_
  refine rg_put F (pc := 2) (ci := 5) (ty := tyX4 0) rfl inX4 tyX4 tyX4_ok nmX4 hA.1 0 (by decide) q395 (fun _ h9 => h9) rfl (tyX4_ok 0 (by decide)) rfl rfl (Nat.le_of_ble_eq_true rfl) dX4_scans_2 ?_
  refine rm_mem hA (t2 := nI 0) (nW2 := nW) (nL2 := nL) (lo2 := lo) rfl (fun Ms1 hAs1 => ?_)
  refine rg_aload_n F (pc := 5) dX4_scans_5 rfl ?_
  refine rg_iload_n F (pc := 6) dX4_scans_6 rfl ?_
  refine rg_callVi F (pc := 7) (As := [.int (j)]) (rest := []) (ci := 5) (r_isLine l D _ m P nW nL ad Fn (nI 0) lo j ⟨hP, hAs1, hB⟩) q482 vq_X4_isLine rfl hAs1.1 rfl rfl (Nat.le_of_ble_eq_true rfl) (Nat.le_of_ble_eq_true rfl) (Nat.le_of_ble_eq_true rfl) ⟨(Nat.le_of_ble_eq_true rfl), (Nat.le_of_ble_eq_true rfl)⟩ dX4_scans_7 (fun r9 M9 hp => ?_)
  refine rg_top (v2 := .int (nI (rBel j nL).toNat)) (by first | (rw [hp.1]; done) | (rw [hp.1]; rfl)) ?_
  refine rg_mem (M2 := Ms1) hp.2 ?_
  refine rg_bif_ne F (pc := 10) (tgt := 19) dX4_scans_10 (by decide) (fun c10 => absurd c10 (by rw [hb]; decide)) (fun c10 => ?_)
  refine rg_aload_n F (pc := 13) dX4_scans_13 rfl ?_
  refine rg_iconst F (pc := 14) (v := nI 1) dX4_scans_14 (by decide) ?_
  refine rg_callVi F (pc := 15) (As := [.int (nI 1)]) (rest := []) (ci := 5) (r_no l D _ m P nW nL ad Fn (nI 0) lo (nI 1) ⟨hP, hAs1, hB⟩) q415 vq_X4_no rfl hAs1.1 rfl rfl (Nat.le_of_ble_eq_true rfl) (Nat.le_of_ble_eq_true rfl) (Nat.le_of_ble_eq_true rfl) ⟨(Nat.le_of_ble_eq_true rfl), (Nat.le_of_ble_eq_true rfl)⟩ dX4_scans_15 (fun r9 Mn hp => ?_)
  refine rg_top (v2 := .int (nI 0)) (by rw [hp.1]) ?_
  exact rg_iret F (pc := 18) hrt9 (by decide) (by decide) dX4_scans_18 ⟨hP, hp.2.2.1, hB⟩
set_option maxHeartbeats 4000000 in
set_option maxRecDepth 100000 in
theorem r_best (l : Launch) (D : va_G) (M : rMem) (m : Nat) (P : Poem) (nW nL : Nat) (ad : Nat → Nat) (Fn : Nat → Nat → Int32) (t lo : Int32) (i p : Nat) (hV : mV D M m P nW nL ad Fn t lo) (hi : i < nL) (hp9 : p < zC P i) : CMi l D yX4_best cX4_best 7 ((some .int)) 6 0 0 M [.ref (m), .int (nI i), .int (nI p)] (fun r M' => r = nI (zBest P i p nL nW) ∧ ∃ F' lo', mV D M' m P nW nL ad F' (nI 0) lo') := by
  obtain ⟨hP, hA, hB⟩ := id hV
  have hn30 := hP.1.1
  have hn10 := hP.2.1
  have hz8 := (hP.2.2 i hi).2.2.2.2.1
  have hrp := (hP.2.2 i hi).2.2.2.2.2 p hp9
  refine rM (lv0 := [some (.ref (m)), some (.int (nI i)), some (.int (nI p)), none, none, none, none]) (by decide) rfl rfl (Nat.le_of_ble_eq_true rfl) (fun P0 E0 S0 m0 as0 bl0 mt0 c0 A F hrt9 hnm => ?_)
  refine rg_aload_n F (pc := 0) dX4_best_0 rfl ?_
  refine rg_iconst F (pc := 1) (v := nI 0) dX4_best_1 (by decide) ?_
  refine rg_put F (pc := 2) (ci := 5) (ty := tyX4 0) rfl inX4 tyX4 tyX4_ok nmX4 hA.1 0 (by decide) q395 (fun _ h9 => h9) rfl (tyX4_ok 0 (by decide)) rfl rfl (Nat.le_of_ble_eq_true rfl) dX4_best_2 ?_
  refine rm_mem hA (t2 := nI 0) (nW2 := nW) (nL2 := nL) (lo2 := lo) rfl (fun Ms1 hAs1 => ?_)
  refine rg_aload_n F (pc := 5) dX4_best_5 rfl ?_
  refine rg_iload_n F (pc := 6) dX4_best_6 rfl ?_
  refine rg_callVi F (pc := 7) (As := [.int (nI i)]) (rest := []) (ci := 5) (r_isLine l D _ m P nW nL ad Fn (nI 0) lo (nI i) ⟨hP, hAs1, hB⟩) q482 vq_X4_isLine rfl hAs1.1 rfl rfl (Nat.le_of_ble_eq_true rfl) (Nat.le_of_ble_eq_true rfl) (Nat.le_of_ble_eq_true rfl) ⟨(Nat.le_of_ble_eq_true rfl), (Nat.le_of_ble_eq_true rfl)⟩ dX4_best_7 (fun r9 M9 hp => ?_)
  refine rg_top (v2 := .int (nI (rBel (nI i) nL).toNat)) (by first | (rw [hp.1]; done) | (rw [hp.1]; rfl)) ?_
  refine rg_mem (M2 := Ms1) hp.2 ?_
  refine rg_bif_eq F (pc := 10) (tgt := 29) dX4_best_10 (by decide) (fun c10 => absurd c10 (by rw [rBel_nI (by omega), decide_eq_true hi]; decide)) (fun c10 => ?_)
  refine rg_iload_n F (pc := 13) dX4_best_13 rfl ?_
  refine rg_iconst F (pc := 14) (v := nI 0) dX4_best_14 (by decide) ?_
  refine rg_aload_n F (pc := 15) dX4_best_15 rfl ?_
  refine rg_get F (pc := 16) (ci := 5) rfl inX4 hAs1.1 11 (by decide) q407 (fun _ h9 => h9) rfl dX4_best_16 ?_
  refine rg_iload_n F (pc := 19) dX4_best_19 rfl ?_
  refine rm_ld F hAs1 (pc := 20) (q := 8) (j := i) (x := nI (zC P i)) (by decide) (show i < 10 by omega) (hB.2.2.1 i (by omega)) dX4_best_20 ?_
  refine rg_iconst F (pc := 21) (v := nI 1) dX4_best_21 (by decide) ?_
  refine rg_isub F (pc := 22) (v := nI (zC P i) - nI 1) dX4_best_22 rfl ?_
  refine rg_callSi F (pc := 23) (As := [.int (nI p), .int (nI 0), .int (nI (zC P i) - nI 1)]) (rest := []) (r_isIn l D _ (nI p) (nI 0) (nI (zC P i) - nI 1)) q401 sq_X4_isIn rfl rfl (Nat.le_of_ble_eq_true rfl) (Nat.le_of_ble_eq_true rfl) (Nat.le_of_ble_eq_true rfl) ⟨(Nat.le_of_ble_eq_true rfl), (Nat.le_of_ble_eq_true rfl)⟩ dX4_best_23 (fun r9 M9 hp => ?_)
  refine rg_top (v2 := .int (nI (mIn (nI p) (nI 0) (nI (zC P i) - nI 1)).toNat)) (by first | (rw [hp.1]; done) | (rw [hp.1]; rfl)) ?_
  refine rg_mem (M2 := Ms1) hp.2 ?_
  refine rg_bif_ne F (pc := 26) (tgt := 35) dX4_best_26 (by decide) (fun c26 => ?_) (fun c26 => absurd c26 (by rw [mIn_bel (by omega), rBel_nI (by omega), decide_eq_true hp9]; decide))
  refine rg_iconst F (pc := 35) (v := (-1)) dX4_best_35 (by decide) ?_
  refine rg_istore_n F (pc := 36) (lv' := [some (.ref (m)), some (.int (nI i)), some (.int (nI p)), some (.int ((-1))), none, none, none]) dX4_best_36 (Nat.le_of_ble_eq_true rfl) rfl ?_
  refine rg_ldc F (pc := 37) (v := 2147483647) q495 dX4_best_37 ?_
  refine rg_top (v2 := .int (nI 2147483647)) rfl ?_
  refine rg_istore F (pc := 39) (lv' := [some (.ref (m)), some (.int (nI i)), some (.int (nI p)), some (.int ((-1))), some (.int (nI 2147483647)), none, none]) dX4_best_39 (Nat.le_of_ble_eq_true rfl) rfl ?_
  refine rg_iconst F (pc := 41) (v := nI 0) dX4_best_41 (by decide) ?_
  refine rg_istore F (pc := 42) (lv' := [some (.ref (m)), some (.int (nI i)), some (.int (nI p)), some (.int ((-1))), some (.int (nI 2147483647)), some (.int (nI 0)), none]) dX4_best_42 (Nat.le_of_ble_eq_true rfl) rfl ?_
  refine rg_eq (lv2 := [some (.ref (m)), some (.int (nI i)), some (.int (nI p)), some (.int ((-1))), some (.int (nI ((zBst P i p nL (zR P i p) 0).1))), some (.int (nI 0)), none]) (st2 := []) (pc2 := 44) rfl rfl rfl ?_
  suffices L1 : ∀ (d9 : Nat) (w : Nat) (b : Int32) (M1 : rMem) (F1 : Nat → Nat → Int32) (lo1 : Int32), nW - w < d9 → (w ≤ nW) → (0 < w → b = nI (zBst P i p nL (zR P i p) w).2) → (mA D M1 m ad F1 (nI 0) nW nL lo1) → (mB P nW nL F1) → rG P0 l E0 (rR 6 0 0) S0 m0 as0 bl0 mt0 c0 D A 7 (MQ bl0 (va_Qi (fun r M' => r = nI (zBest P i p nL nW) ∧ ∃ F' lo', mV D M' m P nW nL ad F' (nI 0) lo') (cB D A) A) as0 S0 0 0 A) M1 0 0 [some (.ref (m)), some (.int (nI i)), some (.int (nI p)), some (.int (b)), some (.int (nI ((zBst P i p nL (zR P i p) w).1))), some (.int (nI w)), none] 44 [] from L1 _ 0 (-1) _ _ _ (Nat.lt_succ_self _) (Nat.zero_le _) (fun h => absurd h (Nat.lt_irrefl _)) hAs1 hB
  intro d9
  induction d9 with
  | zero => intro w b M1 F1 lo1 hd9; exact absurd hd9 (Nat.not_lt_zero _)
  | succ d9 ih =>
    intro w b M1 F1 lo1 hd9 hw1 hb1 hA1 hB1
    have hbs := (zBst_le (nL := nL) hP hi hp9 hrp w hw1).1
    refine rg_iload F (pc := 44) dX4_best_44 rfl ?_
    refine rg_aload_n F (pc := 46) dX4_best_46 rfl ?_
    refine rg_get F (pc := 47) (ci := 5) rfl inX4 hA1.1 1 (by decide) q400 (fun _ h9 => h9) rfl dX4_best_47 ?_
    refine rg_ncmp_ge F (pc := 50) (tgt := 90) dX4_best_50 (by decide) (by omega) (by omega) (fun c50 => ?_) (fun c50 => ?_)
    · refine rg_iload_n F (pc := 90) dX4_best_90 rfl ?_
      exact rg_iret F (pc := 91) hrt9 (by decide) (by decide) dX4_best_91 ⟨(hb1 (by omega)).trans (by rw [show w = nW by omega]; rfl), _, _, hP, hA1, hB1⟩
    · have hw : w < nW := by omega
      have htr := zTry_le hP hi hp9 hw
      refine rg_aload_n F (pc := 53) dX4_best_53 rfl ?_
      refine rg_bipush F (pc := 54) (v := nI 8) dX4_best_54 (by decide) ?_
      refine rg_iload_n F (pc := 56) dX4_best_56 rfl ?_
      refine rg_imul F (pc := 57) (v := nI (8 * i)) dX4_best_57 (pk_mul _ _) ?_
      refine rg_iload_n F (pc := 58) dX4_best_58 rfl ?_
      refine rg_iadd F (pc := 59) (v := nI ((8 * i) + p)) dX4_best_59 (nI_add _ _) ?_
      refine rg_iload F (pc := 60) dX4_best_60 rfl ?_
      refine rg_callVi F (pc := 62) (As := [.int (nI ((8 * i) + p)), .int (nI w)]) (rest := []) (ci := 5) (r_taxesWith l D _ m P nW nL ad F1 (nI 0) lo1 i p w ⟨hP, hA1, hB1⟩ hi hp9 hw) q503 vq_X4_taxesWith rfl hA1.1 rfl rfl (Nat.le_of_ble_eq_true rfl) (Nat.le_of_ble_eq_true rfl) (Nat.le_of_ble_eq_true rfl) ⟨(Nat.le_of_ble_eq_true rfl), (Nat.le_of_ble_eq_true rfl)⟩ dX4_best_62 (fun r9 Mt hp => ?_)
      refine rg_top (v2 := .int (nI (zTry P i p w nL))) (by rw [hp.1]) ?_
      obtain ⟨-, Ft, lot, -, hAt, hBt⟩ := hp
      refine rg_istore F (pc := 65) (lv' := [some (.ref (m)), some (.int (nI i)), some (.int (nI p)), some (.int (b)), some (.int (nI ((zBst P i p nL (zR P i p) w).1))), some (.int (nI w)), some (.int (nI (zTry P i p w nL)))]) dX4_best_65 (Nat.le_of_ble_eq_true rfl) rfl ?_
      refine rg_iload F (pc := 67) dX4_best_67 rfl ?_
      refine rg_iload F (pc := 69) dX4_best_69 rfl ?_
      refine rg_ncmp_lt F (pc := 71) (tgt := 77) dX4_best_71 (by decide) (by omega) (by omega) (fun c71 => ?_) (fun c71 => ?_)
      · refine rg_iload F (pc := 77) dX4_best_77 rfl ?_
        refine rg_istore F (pc := 79) (lv' := [some (.ref (m)), some (.int (nI i)), some (.int (nI p)), some (.int (b)), some (.int (nI (zTry P i p w nL))), some (.int (nI w)), some (.int (nI (zTry P i p w nL)))]) dX4_best_79 (Nat.le_of_ble_eq_true rfl) rfl ?_
        refine rg_iload F (pc := 81) dX4_best_81 rfl ?_
        refine rg_istore_n F (pc := 83) (lv' := [some (.ref (m)), some (.int (nI i)), some (.int (nI p)), some (.int (nI w)), some (.int (nI (zTry P i p w nL))), some (.int (nI w)), some (.int (nI (zTry P i p w nL)))]) dX4_best_83 (Nat.le_of_ble_eq_true rfl) rfl ?_
        have e5 : zBst P i p nL (zR P i p) (w + 1) = (zTry P i p w nL, w) := if_pos c71
        refine rg_eq (lv2 := [some (.ref (m)), some (.int (nI i)), some (.int (nI p)), some (.int (nI w)), some (.int (nI ((zBst P i p nL (zR P i p) (w + 1)).1))), some (.int (nI w)), some (.int (nI (zTry P i p w nL)))]) (st2 := []) (pc2 := 84) (by rw [e5]) rfl rfl ?_
        refine rg_sub (lv' := [some (.ref (m)), some (.int (nI i)), some (.int (nI p)), some (.int (nI w)), some (.int (nI ((zBst P i p nL (zR P i p) (w + 1)).1))), some (.int (nI w)), none]) (by repeat' constructor) ?_
        refine rg_iinc F (pc := 84) (v := nI (w + 1)) (lv' := [some (.ref (m)), some (.int (nI i)), some (.int (nI p)), some (.int (nI w)), some (.int (nI ((zBst P i p nL (zR P i p) (w + 1)).1))), some (.int (nI (w + 1))), none]) dX4_best_84 rfl (nI_add _ 1) (Nat.le_of_ble_eq_true rfl) rfl ?_
        refine rg_goto F (pc := 87) (tgt := 44) dX4_best_87 (by decide) ?_
        exact ih (w + 1) _ _ _ _ (by omega) (by omega) (fun _ => by rw [e5]) hAt hBt
      · refine rg_goto F (pc := 74) (tgt := 84) dX4_best_74 (by decide) ?_
        have e5 : zBst P i p nL (zR P i p) (w + 1) = zBst P i p nL (zR P i p) w := if_neg (by omega)
        refine rg_eq (lv2 := [some (.ref (m)), some (.int (nI i)), some (.int (nI p)), some (.int (b)), some (.int (nI ((zBst P i p nL (zR P i p) (w + 1)).1))), some (.int (nI w)), some (.int (nI (zTry P i p w nL)))]) (st2 := []) (pc2 := 84) (by rw [e5]) rfl rfl ?_
        refine rg_sub (lv' := [some (.ref (m)), some (.int (nI i)), some (.int (nI p)), some (.int (b)), some (.int (nI ((zBst P i p nL (zR P i p) (w + 1)).1))), some (.int (nI w)), none]) (by repeat' constructor) ?_
        refine rg_iinc F (pc := 84) (v := nI (w + 1)) (lv' := [some (.ref (m)), some (.int (nI i)), some (.int (nI p)), some (.int (b)), some (.int (nI ((zBst P i p nL (zR P i p) (w + 1)).1))), some (.int (nI (w + 1))), none]) dX4_best_84 rfl (nI_add _ 1) (Nat.le_of_ble_eq_true rfl) rfl ?_
        refine rg_goto F (pc := 87) (tgt := 44) dX4_best_87 (by decide) ?_
        exact ih (w + 1) _ _ _ _ (by omega) (by omega) (fun _ => by rw [e5]; exact hb1 (Nat.pos_of_ne_zero (fun z => by subst z; exact absurd (show zTry P i p 0 nL < 2147483647 by omega) (Nat.not_lt.mpr c71)))) hAt hBt
set_option maxHeartbeats 4000000 in
set_option maxRecDepth 100000 in
theorem r_best1 (l : Launch) (D : va_G) (M : rMem) (m : Nat) (P : Poem) (nW nL : Nat) (ad : Nat → Nat) (Fn : Nat → Nat → Int32) (t lo : Int32) (j q : Int32) (hV : mV D M m P nW nL ad Fn t lo) (hb : rBel j nL = false) : CMi l D yX4_best cX4_best 7 ((some .int)) 3 0 0 M [.ref (m), .int (j), .int (q)] (fun r M' => mV D M' m P nW nL ad Fn (nI 1) lo) := by
  obtain ⟨hP, hA, hB⟩ := id hV
  have hn30 := hP.1.1
  have hn10 := hP.2.1
  refine rM (lv0 := [some (.ref (m)), some (.int (j)), some (.int (q)), none, none, none, none]) (by decide) rfl rfl (Nat.le_of_ble_eq_true rfl) (fun P0 E0 S0 m0 as0 bl0 mt0 c0 A F hrt9 hnm => ?_)
  refine rg_aload_n F (pc := 0) dX4_best_0 rfl ?_
  refine rg_iconst F (pc := 1) (v := nI 0) dX4_best_1 (by decide) ?_
  refine rg_put F (pc := 2) (ci := 5) (ty := tyX4 0) rfl inX4 tyX4 tyX4_ok nmX4 hA.1 0 (by decide) q395 (fun _ h9 => h9) rfl (tyX4_ok 0 (by decide)) rfl rfl (Nat.le_of_ble_eq_true rfl) dX4_best_2 ?_
  refine rm_mem hA (t2 := nI 0) (nW2 := nW) (nL2 := nL) (lo2 := lo) rfl (fun Ms1 hAs1 => ?_)
  refine rg_aload_n F (pc := 5) dX4_best_5 rfl ?_
  refine rg_iload_n F (pc := 6) dX4_best_6 rfl ?_
  refine rg_callVi F (pc := 7) (As := [.int (j)]) (rest := []) (ci := 5) (r_isLine l D _ m P nW nL ad Fn (nI 0) lo j ⟨hP, hAs1, hB⟩) q482 vq_X4_isLine rfl hAs1.1 rfl rfl (Nat.le_of_ble_eq_true rfl) (Nat.le_of_ble_eq_true rfl) (Nat.le_of_ble_eq_true rfl) ⟨(Nat.le_of_ble_eq_true rfl), (Nat.le_of_ble_eq_true rfl)⟩ dX4_best_7 (fun r9 M9 hp => ?_)
  refine rg_top (v2 := .int (nI (rBel j nL).toNat)) (by first | (rw [hp.1]; done) | (rw [hp.1]; rfl)) ?_
  refine rg_mem (M2 := Ms1) hp.2 ?_
  refine rg_bif_eq F (pc := 10) (tgt := 29) dX4_best_10 (by decide) (fun c10 => ?_) (fun c10 => absurd c10 (by rw [hb]; decide))
  refine rg_aload_n F (pc := 29) dX4_best_29 rfl ?_
  refine rg_iconst F (pc := 30) (v := nI 1) dX4_best_30 (by decide) ?_
  refine rg_callVi F (pc := 31) (As := [.int (nI 1)]) (rest := []) (ci := 5) (r_no l D _ m P nW nL ad Fn (nI 0) lo (nI 1) ⟨hP, hAs1, hB⟩) q415 vq_X4_no rfl hAs1.1 rfl rfl (Nat.le_of_ble_eq_true rfl) (Nat.le_of_ble_eq_true rfl) (Nat.le_of_ble_eq_true rfl) ⟨(Nat.le_of_ble_eq_true rfl), (Nat.le_of_ble_eq_true rfl)⟩ dX4_best_31 (fun r9 Mn hp => ?_)
  refine rg_top (v2 := .int (nI 0)) (by rw [hp.1]) ?_
  exact rg_iret F (pc := 34) hrt9 (by decide) (by decide) dX4_best_34 ⟨hP, hp.2.2.1, hB⟩
set_option maxHeartbeats 4000000 in
set_option maxRecDepth 100000 in
theorem r_best2 (l : Launch) (D : va_G) (M : rMem) (m : Nat) (P : Poem) (nW nL : Nat) (ad : Nat → Nat) (Fn : Nat → Nat → Int32) (t lo : Int32) (i : Nat) (j : Int32) (hV : mV D M m P nW nL ad Fn t lo) (hi : i < nL) (hb : rBel j (zC P i) = false) : CMi l D yX4_best cX4_best 7 ((some .int)) 3 0 0 M [.ref (m), .int (nI i), .int (j)] (fun r M' => mV D M' m P nW nL ad Fn (nI 1) lo) := by
  obtain ⟨hP, hA, hB⟩ := id hV
  have hn30 := hP.1.1
  have hn10 := hP.2.1
  have hz8 := (hP.2.2 i hi).2.2.2.2.1
  refine rM (lv0 := [some (.ref (m)), some (.int (nI i)), some (.int (j)), none, none, none, none]) (by decide) rfl rfl (Nat.le_of_ble_eq_true rfl) (fun P0 E0 S0 m0 as0 bl0 mt0 c0 A F hrt9 hnm => ?_)
  refine rg_aload_n F (pc := 0) dX4_best_0 rfl ?_
  refine rg_iconst F (pc := 1) (v := nI 0) dX4_best_1 (by decide) ?_
  refine rg_put F (pc := 2) (ci := 5) (ty := tyX4 0) rfl inX4 tyX4 tyX4_ok nmX4 hA.1 0 (by decide) q395 (fun _ h9 => h9) rfl (tyX4_ok 0 (by decide)) rfl rfl (Nat.le_of_ble_eq_true rfl) dX4_best_2 ?_
  refine rm_mem hA (t2 := nI 0) (nW2 := nW) (nL2 := nL) (lo2 := lo) rfl (fun Ms1 hAs1 => ?_)
  refine rg_aload_n F (pc := 5) dX4_best_5 rfl ?_
  refine rg_iload_n F (pc := 6) dX4_best_6 rfl ?_
  refine rg_callVi F (pc := 7) (As := [.int (nI i)]) (rest := []) (ci := 5) (r_isLine l D _ m P nW nL ad Fn (nI 0) lo (nI i) ⟨hP, hAs1, hB⟩) q482 vq_X4_isLine rfl hAs1.1 rfl rfl (Nat.le_of_ble_eq_true rfl) (Nat.le_of_ble_eq_true rfl) (Nat.le_of_ble_eq_true rfl) ⟨(Nat.le_of_ble_eq_true rfl), (Nat.le_of_ble_eq_true rfl)⟩ dX4_best_7 (fun r9 M9 hp => ?_)
  refine rg_top (v2 := .int (nI (rBel (nI i) nL).toNat)) (by first | (rw [hp.1]; done) | (rw [hp.1]; rfl)) ?_
  refine rg_mem (M2 := Ms1) hp.2 ?_
  refine rg_bif_eq F (pc := 10) (tgt := 29) dX4_best_10 (by decide) (fun c10 => absurd c10 (by rw [rBel_nI (by omega), decide_eq_true hi]; decide)) (fun c10 => ?_)
  refine rg_iload_n F (pc := 13) dX4_best_13 rfl ?_
  refine rg_iconst F (pc := 14) (v := nI 0) dX4_best_14 (by decide) ?_
  refine rg_aload_n F (pc := 15) dX4_best_15 rfl ?_
  refine rg_get F (pc := 16) (ci := 5) rfl inX4 hAs1.1 11 (by decide) q407 (fun _ h9 => h9) rfl dX4_best_16 ?_
  refine rg_iload_n F (pc := 19) dX4_best_19 rfl ?_
  refine rm_ld F hAs1 (pc := 20) (q := 8) (j := i) (x := nI (zC P i)) (by decide) (show i < 10 by omega) (hB.2.2.1 i (by omega)) dX4_best_20 ?_
  refine rg_iconst F (pc := 21) (v := nI 1) dX4_best_21 (by decide) ?_
  refine rg_isub F (pc := 22) (v := nI (zC P i) - nI 1) dX4_best_22 rfl ?_
  refine rg_callSi F (pc := 23) (As := [.int (j), .int (nI 0), .int (nI (zC P i) - nI 1)]) (rest := []) (r_isIn l D _ j (nI 0) (nI (zC P i) - nI 1)) q401 sq_X4_isIn rfl rfl (Nat.le_of_ble_eq_true rfl) (Nat.le_of_ble_eq_true rfl) (Nat.le_of_ble_eq_true rfl) ⟨(Nat.le_of_ble_eq_true rfl), (Nat.le_of_ble_eq_true rfl)⟩ dX4_best_23 (fun r9 M9 hp => ?_)
  refine rg_top (v2 := .int (nI (mIn j (nI 0) (nI (zC P i) - nI 1)).toNat)) (by first | (rw [hp.1]; done) | (rw [hp.1]; rfl)) ?_
  refine rg_mem (M2 := Ms1) hp.2 ?_
  refine rg_bif_ne F (pc := 26) (tgt := 35) dX4_best_26 (by decide) (fun c26 => absurd c26 (by rw [mIn_bel (by omega), hb]; decide)) (fun c26 => ?_)
  refine rg_aload_n F (pc := 29) dX4_best_29 rfl ?_
  refine rg_iconst F (pc := 30) (v := nI 1) dX4_best_30 (by decide) ?_
  refine rg_callVi F (pc := 31) (As := [.int (nI 1)]) (rest := []) (ci := 5) (r_no l D _ m P nW nL ad Fn (nI 0) lo (nI 1) ⟨hP, hAs1, hB⟩) q415 vq_X4_no rfl hAs1.1 rfl rfl (Nat.le_of_ble_eq_true rfl) (Nat.le_of_ble_eq_true rfl) (Nat.le_of_ble_eq_true rfl) ⟨(Nat.le_of_ble_eq_true rfl), (Nat.le_of_ble_eq_true rfl)⟩ dX4_best_31 (fun r9 Mn hp => ?_)
  refine rg_top (v2 := .int (nI 0)) (by rw [hp.1]) ?_
  exact rg_iret F (pc := 34) hrt9 (by decide) (by decide) dX4_best_34 ⟨hP, hp.2.2.1, hB⟩
set_option maxHeartbeats 4000000 in
set_option maxRecDepth 100000 in
theorem r_worst (l : Launch) (D : va_G) (M : rMem) (m : Nat) (P : Poem) (nW nL : Nat) (ad : Nat → Nat) (Fn : Nat → Nat → Int32) (t lo : Int32) (hV : mV D M m P nW nL ad Fn t lo) : CMi l D yX4_worst cX4_worst 7 ((some .int)) 6 0 0 M [.ref (m)] (fun r M' => r = (zWo P nW nL nL).2 ∧ ∃ F' lo', mV D M' m P nW nL ad F' (nI 0) lo') := by
  obtain ⟨hP, hA, hB⟩ := id hV
  have hn30 := hP.1.1
  have hn10 := hP.2.1
  have hal := zAll_le hP nL (Nat.le_refl _)
  refine rM (lv0 := [some (.ref (m)), none, none, none, none, none, none]) (by decide) rfl rfl (Nat.le_of_ble_eq_true rfl) (fun P0 E0 S0 m0 as0 bl0 mt0 c0 A F hrt9 hnm => ?_)
  refine rg_aload_n F (pc := 0) dX4_worst_0 rfl ?_
  refine rg_iconst F (pc := 1) (v := nI 0) dX4_worst_1 (by decide) ?_
  refine rg_put F (pc := 2) (ci := 5) (ty := tyX4 0) rfl inX4 tyX4 tyX4_ok nmX4 hA.1 0 (by decide) q395 (fun _ h9 => h9) rfl (tyX4_ok 0 (by decide)) rfl rfl (Nat.le_of_ble_eq_true rfl) dX4_worst_2 ?_
  refine rm_mem hA (t2 := nI 0) (nW2 := nW) (nL2 := nL) (lo2 := lo) rfl (fun Ms1 hAs1 => ?_)
  refine rg_aload_n F (pc := 5) dX4_worst_5 rfl ?_
  refine rg_callVi F (pc := 6) (As := []) (rest := []) (ci := 5) (r_scan l D _ m P nW nL ad Fn (nI 0) lo ⟨hP, hAs1, hB⟩) q485 vq_X4_scan rfl hAs1.1 rfl rfl (Nat.le_of_ble_eq_true rfl) (Nat.le_of_ble_eq_true rfl) (Nat.le_of_ble_eq_true rfl) ⟨(Nat.le_of_ble_eq_true rfl), (Nat.le_of_ble_eq_true rfl)⟩ dX4_worst_6 (fun r9 Mc2 hp => ?_)
  refine rg_top (v2 := .int (nI (zAll P nL))) (by rw [hp.1]) ?_
  obtain ⟨-, Fc2, hAc2, hfec2, hS2⟩ := hp
  have hBc2 := hB.fe hfec2
  refine rg_istore_n F (pc := 9) (lv' := [some (.ref (m)), some (.int (nI (zAll P nL))), none, none, none, none, none]) dX4_worst_9 (Nat.le_of_ble_eq_true rfl) rfl ?_
  refine rg_iconst F (pc := 10) (v := (-1)) dX4_worst_10 (by decide) ?_
  refine rg_istore_n F (pc := 11) (lv' := [some (.ref (m)), some (.int (nI (zAll P nL))), some (.int ((-1))), none, none, none, none]) dX4_worst_11 (Nat.le_of_ble_eq_true rfl) rfl ?_
  refine rg_iconst F (pc := 12) (v := nI 0) dX4_worst_12 (by decide) ?_
  refine rg_istore_n F (pc := 13) (lv' := [some (.ref (m)), some (.int (nI (zAll P nL))), some (.int ((-1))), some (.int (nI 0)), none, none, none]) dX4_worst_13 (Nat.le_of_ble_eq_true rfl) rfl ?_
  refine rg_eq (lv2 := [some (.ref (m)), some (.int (nI ((zWo P nW nL 0).1))), some (.int ((zWo P nW nL 0).2)), some (.int (nI 0)), none, none, none]) (st2 := []) (pc2 := 14) rfl rfl rfl ?_
  suffices L2 : ∀ (d9 : Nat) (k : Nat) (M1 : rMem) (F1 : Nat → Nat → Int32) (lo1 : Int32), nL - k < d9 → (k ≤ nL) → (mA D M1 m ad F1 (nI 0) nW nL lo1) → (mB P nW nL F1) → rG P0 l E0 (rR 6 0 0) S0 m0 as0 bl0 mt0 c0 D A 7 (MQ bl0 (va_Qi (fun r M' => r = (zWo P nW nL nL).2 ∧ ∃ F' lo', mV D M' m P nW nL ad F' (nI 0) lo') (cB D A) A) as0 S0 0 0 A) M1 0 0 [some (.ref (m)), some (.int (nI ((zWo P nW nL k).1))), some (.int ((zWo P nW nL k).2)), some (.int (nI k)), none, none, none] 14 [] from L2 _ 0 _ _ _ (Nat.lt_succ_self _) (Nat.zero_le _) hAc2 hBc2
  intro d9
  induction d9 with
  | zero => intro k M1 F1 lo1 hd9; exact absurd hd9 (Nat.not_lt_zero _)
  | succ d9 ih =>
    intro k M1 F1 lo1 hd9 hk1 hA1 hB1
    have hwo := zWo_le P nW nL k
    refine rg_iload_n F (pc := 14) dX4_worst_14 rfl ?_
    refine rg_aload_n F (pc := 15) dX4_worst_15 rfl ?_
    refine rg_get F (pc := 16) (ci := 5) rfl inX4 hA1.1 7 (by decide) q406 (fun _ h9 => h9) rfl dX4_worst_16 ?_
    refine rg_ncmp_ge F (pc := 19) (tgt := 101) dX4_worst_19 (by decide) (by omega) (by omega) (fun c19 => ?_) (fun c19 => ?_)
    · refine rg_iload_n F (pc := 101) dX4_worst_101 rfl ?_
      exact rg_iret F (pc := 102) hrt9 (by decide) (by decide) dX4_worst_102 ⟨by rw [show nL = k by omega], _, _, hP, hA1, hB1⟩
    · have hk : k < nL := by omega
      have hz8 := (hP.2.2 k hk).2.2.2.2.1
      refine rg_iconst F (pc := 22) (v := nI 0) dX4_worst_22 (by decide) ?_
      refine rg_istore F (pc := 23) (lv' := [some (.ref (m)), some (.int (nI ((zWo P nW nL k).1))), some (.int ((zWo P nW nL k).2)), some (.int (nI k)), some (.int (nI 0)), none, none]) dX4_worst_23 (Nat.le_of_ble_eq_true rfl) rfl ?_
      refine rg_eq (lv2 := [some (.ref (m)), some (.int (nI ((zWi P nW nL k (zWo P nW nL k) 0).1))), some (.int ((zWi P nW nL k (zWo P nW nL k) 0).2)), some (.int (nI k)), some (.int (nI 0)), none, none]) (st2 := []) (pc2 := 25) rfl rfl rfl ?_
      suffices L3 : ∀ (d9 : Nat) (i : Nat) (M2 : rMem) (F2 : Nat → Nat → Int32) (lo2 : Int32), zC P k - i < d9 → (i ≤ zC P k) → (mA D M2 m ad F2 (nI 0) nW nL lo2) → (mB P nW nL F2) → rG P0 l E0 (rR 6 0 0) S0 m0 as0 bl0 mt0 c0 D A 7 (MQ bl0 (va_Qi (fun r M' => r = (zWo P nW nL nL).2 ∧ ∃ F' lo', mV D M' m P nW nL ad F' (nI 0) lo') (cB D A) A) as0 S0 0 0 A) M2 0 0 [some (.ref (m)), some (.int (nI ((zWi P nW nL k (zWo P nW nL k) i).1))), some (.int ((zWi P nW nL k (zWo P nW nL k) i).2)), some (.int (nI k)), some (.int (nI i)), none, none] 25 [] from L3 _ 0 _ _ _ (Nat.lt_succ_self _) (Nat.zero_le _) hA1 hB1
      intro d9
      induction d9 with
      | zero => intro i M2 F2 lo2 hd9; exact absurd hd9 (Nat.not_lt_zero _)
      | succ d9 ihi =>
        intro i M2 F2 lo2 hd9 hi1 hA2 hB2
        have hwi := zWi_le P nW nL k (zWo P nW nL k) i
        refine rg_iload F (pc := 25) dX4_worst_25 rfl ?_
        refine rg_aload_n F (pc := 27) dX4_worst_27 rfl ?_
        refine rg_get F (pc := 28) (ci := 5) rfl inX4 hA2.1 11 (by decide) q407 (fun _ h9 => h9) rfl dX4_worst_28 ?_
        refine rg_iload_n F (pc := 31) dX4_worst_31 rfl ?_
        refine rm_ld F hA2 (pc := 32) (q := 8) (j := k) (x := nI (zC P k)) (by decide) (show k < 10 by omega) (hB2.2.2.1 k (by omega)) dX4_worst_32 ?_
        refine rg_ncmp_ge F (pc := 33) (tgt := 95) dX4_worst_33 (by decide) (by omega) (by omega) (fun c33 => ?_) (fun c33 => ?_)
        · have ei : i = zC P k := by omega
          refine rg_eq (lv2 := [some (.ref (m)), some (.int (nI ((zWo P nW nL (k + 1)).1))), some (.int ((zWo P nW nL (k + 1)).2)), some (.int (nI k)), some (.int (nI i)), none, none]) (st2 := []) (pc2 := 95) (by rw [ei]; rfl) rfl rfl ?_
          refine rg_sub (lv' := [some (.ref (m)), some (.int (nI ((zWo P nW nL (k + 1)).1))), some (.int ((zWo P nW nL (k + 1)).2)), some (.int (nI k)), none, none, none]) (by repeat' constructor) ?_
          refine rg_iinc F (pc := 95) (v := nI (k + 1)) (lv' := [some (.ref (m)), some (.int (nI ((zWo P nW nL (k + 1)).1))), some (.int ((zWo P nW nL (k + 1)).2)), some (.int (nI (k + 1))), none, none, none]) dX4_worst_95 rfl (nI_add _ 1) (Nat.le_of_ble_eq_true rfl) rfl ?_
          refine rg_goto F (pc := 98) (tgt := 14) dX4_worst_98 (by decide) ?_
          exact ih (k + 1) _ _ _ (by omega) (by omega) hA2 hB2
        · have hi : i < zC P k := by omega
          have hrp := (hP.2.2 k hk).2.2.2.2.2 i hi
          refine rg_iconst F (pc := 36) (v := nI 0) dX4_worst_36 (by decide) ?_
          refine rg_istore F (pc := 37) (lv' := [some (.ref (m)), some (.int (nI ((zWi P nW nL k (zWo P nW nL k) i).1))), some (.int ((zWi P nW nL k (zWo P nW nL k) i).2)), some (.int (nI k)), some (.int (nI i)), some (.int (nI 0)), none]) dX4_worst_37 (Nat.le_of_ble_eq_true rfl) rfl ?_
          refine rg_eq (lv2 := [some (.ref (m)), some (.int (nI ((zIn P nL k i (zR P k i) (zWi P nW nL k (zWo P nW nL k) i) 0).1))), some (.int ((zIn P nL k i (zR P k i) (zWi P nW nL k (zWo P nW nL k) i) 0).2)), some (.int (nI k)), some (.int (nI i)), some (.int (nI 0)), none]) (st2 := []) (pc2 := 39) (by rw [zIn_0 (by omega)]) rfl rfl ?_
          suffices L4 : ∀ (d9 : Nat) (w : Nat) (M3 : rMem) (F3 : Nat → Nat → Int32) (lo3 : Int32), nW - w < d9 → (w ≤ nW) → (mA D M3 m ad F3 (nI 0) nW nL lo3) → (mB P nW nL F3) → rG P0 l E0 (rR 6 0 0) S0 m0 as0 bl0 mt0 c0 D A 7 (MQ bl0 (va_Qi (fun r M' => r = (zWo P nW nL nL).2 ∧ ∃ F' lo', mV D M' m P nW nL ad F' (nI 0) lo') (cB D A) A) as0 S0 0 0 A) M3 0 0 [some (.ref (m)), some (.int (nI ((zIn P nL k i (zR P k i) (zWi P nW nL k (zWo P nW nL k) i) w).1))), some (.int ((zIn P nL k i (zR P k i) (zWi P nW nL k (zWo P nW nL k) i) w).2)), some (.int (nI k)), some (.int (nI i)), some (.int (nI w)), none] 39 [] from L4 _ 0 _ _ _ (Nat.lt_succ_self _) (Nat.zero_le _) hA2 hB2
          intro d9
          induction d9 with
          | zero => intro w M3 F3 lo3 hd9; exact absurd hd9 (Nat.not_lt_zero _)
          | succ d9 ihw =>
            intro w M3 F3 lo3 hd9 hw1 hA3 hB3
            have hwn := zIn_le (P := P) (nL := nL) (k := k) (i := i) (b0 := zR P k i) (s := zWi P nW nL k (zWo P nW nL k) i) w
            refine rg_iload F (pc := 39) dX4_worst_39 rfl ?_
            refine rg_aload_n F (pc := 41) dX4_worst_41 rfl ?_
            refine rg_get F (pc := 42) (ci := 5) rfl inX4 hA3.1 1 (by decide) q400 (fun _ h9 => h9) rfl dX4_worst_42 ?_
            refine rg_ncmp_ge F (pc := 45) (tgt := 89) dX4_worst_45 (by decide) (by omega) (by omega) (fun c45 => ?_) (fun c45 => ?_)
            · have ew : w = nW := by omega
              refine rg_eq (lv2 := [some (.ref (m)), some (.int (nI ((zWi P nW nL k (zWo P nW nL k) (i + 1)).1))), some (.int ((zWi P nW nL k (zWo P nW nL k) (i + 1)).2)), some (.int (nI k)), some (.int (nI i)), some (.int (nI w)), none]) (st2 := []) (pc2 := 89) (by rw [ew, zIn_n hP hk hi (by omega)]; rfl) rfl rfl ?_
              refine rg_sub (lv' := [some (.ref (m)), some (.int (nI ((zWi P nW nL k (zWo P nW nL k) (i + 1)).1))), some (.int ((zWi P nW nL k (zWo P nW nL k) (i + 1)).2)), some (.int (nI k)), some (.int (nI i)), none, none]) (by repeat' constructor) ?_
              refine rg_iinc F (pc := 89) (v := nI (i + 1)) (lv' := [some (.ref (m)), some (.int (nI ((zWi P nW nL k (zWo P nW nL k) (i + 1)).1))), some (.int ((zWi P nW nL k (zWo P nW nL k) (i + 1)).2)), some (.int (nI k)), some (.int (nI (i + 1))), none, none]) dX4_worst_89 rfl (nI_add _ 1) (Nat.le_of_ble_eq_true rfl) rfl ?_
              refine rg_goto F (pc := 92) (tgt := 25) dX4_worst_92 (by decide) ?_
              exact ihi (i + 1) _ _ _ (by omega) (by omega) hA3 hB3
            · have hw : w < nW := by omega
              have htr := zTry_le hP hk hi hw
              refine rg_aload_n F (pc := 48) dX4_worst_48 rfl ?_
              refine rg_bipush F (pc := 49) (v := nI 8) dX4_worst_49 (by decide) ?_
              refine rg_iload_n F (pc := 51) dX4_worst_51 rfl ?_
              refine rg_imul F (pc := 52) (v := nI (8 * k)) dX4_worst_52 (pk_mul _ _) ?_
              refine rg_iload F (pc := 53) dX4_worst_53 rfl ?_
              refine rg_iadd F (pc := 55) (v := nI ((8 * k) + i)) dX4_worst_55 (nI_add _ _) ?_
              refine rg_iload F (pc := 56) dX4_worst_56 rfl ?_
              refine rg_callVi F (pc := 58) (As := [.int (nI ((8 * k) + i)), .int (nI w)]) (rest := []) (ci := 5) (r_taxesWith l D _ m P nW nL ad F3 (nI 0) lo3 k i w ⟨hP, hA3, hB3⟩ hk hi hw) q503 vq_X4_taxesWith rfl hA3.1 rfl rfl (Nat.le_of_ble_eq_true rfl) (Nat.le_of_ble_eq_true rfl) (Nat.le_of_ble_eq_true rfl) ⟨(Nat.le_of_ble_eq_true rfl), (Nat.le_of_ble_eq_true rfl)⟩ dX4_worst_58 (fun r9 Mt hp => ?_)
              refine rg_top (v2 := .int (nI (zTry P k i w nL))) (by rw [hp.1]) ?_
              obtain ⟨-, Ft, lot, -, hAt, hBt⟩ := hp
              refine rg_istore F (pc := 61) (lv' := [some (.ref (m)), some (.int (nI ((zIn P nL k i (zR P k i) (zWi P nW nL k (zWo P nW nL k) i) w).1))), some (.int ((zIn P nL k i (zR P k i) (zWi P nW nL k (zWo P nW nL k) i) w).2)), some (.int (nI k)), some (.int (nI i)), some (.int (nI w)), some (.int (nI (zTry P k i w nL)))]) dX4_worst_61 (Nat.le_of_ble_eq_true rfl) rfl ?_
              refine rg_iload F (pc := 63) dX4_worst_63 rfl ?_
              refine rg_iload_n F (pc := 65) dX4_worst_65 rfl ?_
              refine rg_ncmp_lt F (pc := 66) (tgt := 72) dX4_worst_66 (by decide) (by omega) (by omega) (fun c66 => ?_) (fun c66 => ?_)
              · refine rg_iload F (pc := 72) dX4_worst_72 rfl ?_
                refine rg_istore_n F (pc := 74) (lv' := [some (.ref (m)), some (.int (nI (zTry P k i w nL))), some (.int ((zIn P nL k i (zR P k i) (zWi P nW nL k (zWo P nW nL k) i) w).2)), some (.int (nI k)), some (.int (nI i)), some (.int (nI w)), some (.int (nI (zTry P k i w nL)))]) dX4_worst_74 (Nat.le_of_ble_eq_true rfl) rfl ?_
                refine rg_bipush F (pc := 75) (v := nI 10) dX4_worst_75 (by decide) ?_
                refine rg_iload_n F (pc := 77) dX4_worst_77 rfl ?_
                refine rg_imul F (pc := 78) (v := nI (10 * k)) dX4_worst_78 (pk_mul _ _) ?_
                refine rg_iload F (pc := 79) dX4_worst_79 rfl ?_
                refine rg_iadd F (pc := 81) (v := nI ((10 * k) + i)) dX4_worst_81 (nI_add _ _) ?_
                refine rg_istore_n F (pc := 82) (lv' := [some (.ref (m)), some (.int (nI (zTry P k i w nL))), some (.int (nI ((10 * k) + i))), some (.int (nI k)), some (.int (nI i)), some (.int (nI w)), some (.int (nI (zTry P k i w nL)))]) dX4_worst_82 (Nat.le_of_ble_eq_true rfl) rfl ?_
                have e5 : (zIn P nL k i (zR P k i) (zWi P nW nL k (zWo P nW nL k) i) (w + 1)) = (zTry P k i w nL, nI (10 * k + i)) := zIn_t c66
                refine rg_eq (lv2 := [some (.ref (m)), some (.int (nI ((zIn P nL k i (zR P k i) (zWi P nW nL k (zWo P nW nL k) i) (w + 1)).1))), some (.int ((zIn P nL k i (zR P k i) (zWi P nW nL k (zWo P nW nL k) i) (w + 1)).2)), some (.int (nI k)), some (.int (nI i)), some (.int (nI w)), some (.int (nI (zTry P k i w nL)))]) (st2 := []) (pc2 := 83) (by rw [e5]) rfl rfl ?_
                refine rg_sub (lv' := [some (.ref (m)), some (.int (nI ((zIn P nL k i (zR P k i) (zWi P nW nL k (zWo P nW nL k) i) (w + 1)).1))), some (.int ((zIn P nL k i (zR P k i) (zWi P nW nL k (zWo P nW nL k) i) (w + 1)).2)), some (.int (nI k)), some (.int (nI i)), some (.int (nI w)), none]) (by repeat' constructor) ?_
                refine rg_iinc F (pc := 83) (v := nI (w + 1)) (lv' := [some (.ref (m)), some (.int (nI ((zIn P nL k i (zR P k i) (zWi P nW nL k (zWo P nW nL k) i) (w + 1)).1))), some (.int ((zIn P nL k i (zR P k i) (zWi P nW nL k (zWo P nW nL k) i) (w + 1)).2)), some (.int (nI k)), some (.int (nI i)), some (.int (nI (w + 1))), none]) dX4_worst_83 rfl (nI_add _ 1) (Nat.le_of_ble_eq_true rfl) rfl ?_
                refine rg_goto F (pc := 86) (tgt := 39) dX4_worst_86 (by decide) ?_
                exact ihw (w + 1) _ _ _ (by omega) (by omega) hAt hBt
              · refine rg_goto F (pc := 69) (tgt := 83) dX4_worst_69 (by decide) ?_
                have e5 : (zIn P nL k i (zR P k i) (zWi P nW nL k (zWo P nW nL k) i) (w + 1)) = (zIn P nL k i (zR P k i) (zWi P nW nL k (zWo P nW nL k) i) w) := zIn_f c66
                refine rg_eq (lv2 := [some (.ref (m)), some (.int (nI ((zIn P nL k i (zR P k i) (zWi P nW nL k (zWo P nW nL k) i) (w + 1)).1))), some (.int ((zIn P nL k i (zR P k i) (zWi P nW nL k (zWo P nW nL k) i) (w + 1)).2)), some (.int (nI k)), some (.int (nI i)), some (.int (nI w)), some (.int (nI (zTry P k i w nL)))]) (st2 := []) (pc2 := 83) (by rw [e5]) rfl rfl ?_
                refine rg_sub (lv' := [some (.ref (m)), some (.int (nI ((zIn P nL k i (zR P k i) (zWi P nW nL k (zWo P nW nL k) i) (w + 1)).1))), some (.int ((zIn P nL k i (zR P k i) (zWi P nW nL k (zWo P nW nL k) i) (w + 1)).2)), some (.int (nI k)), some (.int (nI i)), some (.int (nI w)), none]) (by repeat' constructor) ?_
                refine rg_iinc F (pc := 83) (v := nI (w + 1)) (lv' := [some (.ref (m)), some (.int (nI ((zIn P nL k i (zR P k i) (zWi P nW nL k (zWo P nW nL k) i) (w + 1)).1))), some (.int ((zIn P nL k i (zR P k i) (zWi P nW nL k (zWo P nW nL k) i) (w + 1)).2)), some (.int (nI k)), some (.int (nI i)), some (.int (nI (w + 1))), none]) dX4_worst_83 rfl (nI_add _ 1) (Nat.le_of_ble_eq_true rfl) rfl ?_
                refine rg_goto F (pc := 86) (tgt := 39) dX4_worst_86 (by decide) ?_
                exact ihw (w + 1) _ _ _ (by omega) (by omega) hAt hBt
