set_option maxHeartbeats 4000000 in
set_option maxRecDepth 100000 in
theorem r_putOwn (l : Launch) (D : va_G) (M : rMem) (m : Nat) (P : Poem) (nW nL : Nat) (ad : Nat → Nat) (Fn : Nat → Nat → Int32) (t lo : Int32) (i sz X : Nat) (hV : mV D M m P nW nL ad Fn t lo) (hi : i < nL) (hs8 : sz ≤ 288) (hX : X < 2 ^ sz) (hG : ∀ q, q < sz → Fn 16 q = nI (gB X q)) : CMi l D yX4_putOwn cX4_putOwn 8 ((some .int)) 3 0 0 M [.ref (m), .int (nI i), .int (nI sz)] (fun r M' => r = nI (sz + zo P i) ∧ ∃ F', mA D M' m ad F' t nW nL lo ∧ (∀ q, q ≠ 16 → F' q = Fn q) ∧ ∀ q, q < sz + zo P i → F' 16 q = nI (gB (X ||| zb P i * 2 ^ sz) q)) := by
  obtain ⟨hP, hA, hB⟩ := id hV
  have hn30 := hP.1.1
  have hn10 := hP.2.1
  have hlk := hP.2.2 i hi
  have hz8 := hlk.2.2.2.2.1
  refine rM (lv0 := [some (.ref (m)), some (.int (nI i)), some (.int (nI sz)), none, none, none, none, none]) (by decide) rfl rfl (Nat.le_of_ble_eq_true rfl) (fun P0 E0 S0 m0 as0 bl0 mt0 c0 A F hrt9 hnm => ?_)
  refine rg_iload_n F (pc := 0) dX4_putOwn_0 rfl ?_
  refine rg_istore_n F (pc := 1) (lv' := [some (.ref (m)), some (.int (nI i)), some (.int (nI sz)), some (.int (nI sz)), none, none, none, none]) dX4_putOwn_1 (Nat.le_of_ble_eq_true rfl) rfl ?_
  refine rg_iconst F (pc := 2) (v := nI 0) dX4_putOwn_2 (by decide) ?_
  refine rg_istore F (pc := 3) (lv' := [some (.ref (m)), some (.int (nI i)), some (.int (nI sz)), some (.int (nI sz)), some (.int (nI 0)), none, none, none]) dX4_putOwn_3 (Nat.le_of_ble_eq_true rfl) rfl ?_
  refine rg_eq (lv2 := [some (.ref (m)), some (.int (nI i)), some (.int (nI sz)), some (.int (nI (sz + zOL P i 0))), some (.int (nI 0)), none, none, none]) (st2 := []) (pc2 := 5) rfl rfl rfl ?_
  suffices L0 : ∀ (d9 : Nat) (j : Nat) (M1 : rMem) (F1 : Nat → Nat → Int32), zC P i - j < d9 → (j ≤ zC P i) → (mA D M1 m ad F1 t nW nL lo) → (∀ q, q ≠ 16 → F1 q = Fn q) → (∀ q, q < sz + zOL P i j → F1 16 q = nI (gB (X ||| zOB P i j * 2 ^ sz) q)) → rG P0 l E0 (rR 3 0 0) S0 m0 as0 bl0 mt0 c0 D A 8 (MQ bl0 (va_Qi (fun r M' => r = nI (sz + zo P i) ∧ ∃ F', mA D M' m ad F' t nW nL lo ∧ (∀ q, q ≠ 16 → F' q = Fn q) ∧ ∀ q, q < sz + zo P i → F' 16 q = nI (gB (X ||| zb P i * 2 ^ sz) q)) (cB D A) A) as0 S0 0 0 A) M1 0 0 [some (.ref (m)), some (.int (nI i)), some (.int (nI sz)), some (.int (nI (sz + zOL P i j))), some (.int (nI j)), none, none, none] 5 [] from L0 _ 0 _ _ (Nat.lt_succ_self _) (Nat.zero_le _) hA (fun _ _ => rfl) (fun q hq => by rw [hG q hq, show zOB P i 0 = 0 from rfl, Nat.zero_mul, Nat.or_zero])
  intro d9
  induction d9 with
  | zero => intro j M1 F1 hd9; exact absurd hd9 (Nat.not_lt_zero _)
  | succ d9 ih =>
    intro j M1 F1 hd9 hj1 hA1 hk1 hG1
    have hB1 : mB P nW nL F1 := hB.fe (fun k hk => hk1 k (by omega))
    obtain ⟨b1, b2, b3, b4⟩ := zOL_b hP.1 hlk.2.2.2.2.2 j hj1
    refine rg_iload F (pc := 5) dX4_putOwn_5 rfl ?_
    refine rg_aload_n F (pc := 7) dX4_putOwn_7 rfl ?_
    refine rg_get F (pc := 8) (ci := 5) rfl inX4 hA1.1 11 (by decide) q407 (fun _ h9 => h9) rfl dX4_putOwn_8 ?_
    refine rg_iload_n F (pc := 11) dX4_putOwn_11 rfl ?_
    refine rm_ld F hA1 (pc := 12) (q := 8) (j := i) (x := nI (zC P i)) (by decide) (show i < 10 by omega) (hB1.2.2.1 i (by omega)) dX4_putOwn_12 ?_
    refine rg_ncmp_ge F (pc := 13) (tgt := 115) dX4_putOwn_13 (by decide) (by omega) (by omega) (fun c13 => ?_) (fun c13 => ?_)
    · refine rg_iload_n F (pc := 115) dX4_putOwn_115 rfl ?_
      have e9 : j = zC P i := by omega
      subst e9
      exact rg_iret F (pc := 116) hrt9 (by decide) (by decide) dX4_putOwn_116 ⟨rfl, F1, hA1, hk1, hG1⟩
    · have hjc : j < zC P i := by omega
      have rj := hlk.2.2.2.2.2 j hjc
      obtain ⟨w1, w2, w3, -⟩ := hP.1.2 _ rj
      have hm1 := zMelt_le P i j
      have h16 : (2 : Nat) ^ zS P (zR P i j) ≤ 2 ^ 4 := Nat.pow_le_pow_right (by decide) w2
      refine rg_aload_n F (pc := 16) dX4_putOwn_16 rfl ?_
      refine rg_get F (pc := 17) (ci := 5) rfl inX4 hA1.1 12 (by decide) q408 (fun _ h9 => h9) rfl dX4_putOwn_17 ?_
      refine rg_bipush F (pc := 20) (v := nI 8) dX4_putOwn_20 (by decide) ?_
      refine rg_iload_n F (pc := 22) dX4_putOwn_22 rfl ?_
      refine rg_imul F (pc := 23) (v := nI (8 * i)) dX4_putOwn_23 (pk_mul _ _) ?_
      refine rg_iload F (pc := 24) dX4_putOwn_24 rfl ?_
      refine rg_iadd F (pc := 26) (v := nI ((8 * i) + j)) dX4_putOwn_26 (nI_add _ _) ?_
      refine rm_ld F hA1 (pc := 27) (q := 9) (j := (8 * i) + j) (x := nI (zR P i j)) (by decide) (show (8 * i) + j < 80 by omega) (hB1.2.2.2.2 i (by omega) j (by omega)) dX4_putOwn_27 ?_
      refine rg_istore F (pc := 28) (lv' := [some (.ref (m)), some (.int (nI i)), some (.int (nI sz)), some (.int (nI (sz + zOL P i j))), some (.int (nI j)), some (.int (nI (zR P i j))), none, none]) dX4_putOwn_28 (Nat.le_of_ble_eq_true rfl) rfl ?_
      refine rg_iconst F (pc := 30) (v := nI 0) dX4_putOwn_30 (by decide) ?_
      refine rg_istore F (pc := 31) (lv' := [some (.ref (m)), some (.int (nI i)), some (.int (nI sz)), some (.int (nI (sz + zOL P i j))), some (.int (nI j)), some (.int (nI (zR P i j))), some (.int (nI 0)), none]) dX4_putOwn_31 (Nat.le_of_ble_eq_true rfl) rfl ?_
      refine rg_aload_n F (pc := 33) dX4_putOwn_33 rfl ?_
      refine rg_iload_n F (pc := 34) dX4_putOwn_34 rfl ?_
      refine rg_iload F (pc := 35) dX4_putOwn_35 rfl ?_
      refine rg_callVi F (pc := 37) (As := [.int (nI i), .int (nI j)]) (rest := []) (ci := 5) (r_melts l D _ m P nW nL ad F1 t lo i j ⟨hP, hA1, hB1⟩ (by omega) hjc) q449 vq_X4_melts rfl hA1.1 rfl rfl (Nat.le_of_ble_eq_true rfl) (Nat.le_of_ble_eq_true rfl) (Nat.le_of_ble_eq_true rfl) ⟨(Nat.le_of_ble_eq_true rfl), (Nat.le_of_ble_eq_true rfl)⟩ dX4_putOwn_37 (fun r9 M9 hp => ?_)
      refine rg_top (v2 := .int (nI (zMelt P i j))) (by first | (rw [hp.1]; done) | (rw [hp.1]; rfl)) ?_
      refine rg_mem (M2 := M1) hp.2 ?_
      refine rg_nif_eq F (pc := 40) (tgt := 66) dX4_putOwn_40 (by decide) (by omega) (fun c40 => ?_) (fun c40 => ?_)
      · refine rg_iload F (pc := 66) dX4_putOwn_66 rfl ?_
        refine rg_istore F (pc := 68) (lv' := [some (.ref (m)), some (.int (nI i)), some (.int (nI sz)), some (.int (nI (sz + zOL P i j))), some (.int (nI j)), some (.int (nI (zR P i j))), some (.int (nI 0)), some (.int (nI 0))]) dX4_putOwn_68 (Nat.le_of_ble_eq_true rfl) rfl ?_
        refine rg_sub (lv' := [some (.ref (m)), some (.int (nI i)), some (.int (nI sz)), some (.int (nI (sz + zOL P i j))), some (.int (nI j)), some (.int (nI (zR P i j))), none, some (.int (nI 0))]) (by repeat' constructor) ?_
        refine rg_eq (lv2 := [some (.ref (m)), some (.int (nI i)), some (.int (nI sz)), some (.int (nI (sz + (zOL P i j - zMelt P i j) + zMelt P i j))), some (.int (nI j)), some (.int (nI (zR P i j))), none, some (.int (nI (zMelt P i j)))]) (st2 := []) (pc2 := 70) (by rw [show sz + (zOL P i j - zMelt P i j) + zMelt P i j = sz + zOL P i j by omega, show zMelt P i j = 0 by omega]) rfl rfl ?_
        suffices L1 : ∀ (d9 : Nat) (k : Nat) (M2 : rMem) (F2 : Nat → Nat → Int32), zS P (zR P i j) - k < d9 → (zMelt P i j ≤ k) → (k ≤ zS P (zR P i j)) → (mA D M2 m ad F2 t nW nL lo) → (∀ q, q ≠ 16 → F2 q = Fn q) → (∀ q, q < sz + (zOL P i j - zMelt P i j) + k → F2 16 q = nI (gB (gN X (zOB P i j) (zT P (zR P i j) % 2 ^ k) (zOL P i j - zMelt P i j) sz) q)) → rG P0 l E0 (rR 3 0 0) S0 m0 as0 bl0 mt0 c0 D A 8 (MQ bl0 (va_Qi (fun r M' => r = nI (sz + zo P i) ∧ ∃ F', mA D M' m ad F' t nW nL lo ∧ (∀ q, q ≠ 16 → F' q = Fn q) ∧ ∀ q, q < sz + zo P i → F' 16 q = nI (gB (X ||| zb P i * 2 ^ sz) q)) (cB D A) A) as0 S0 0 0 A) M2 0 0 [some (.ref (m)), some (.int (nI i)), some (.int (nI sz)), some (.int (nI (sz + (zOL P i j - zMelt P i j) + k))), some (.int (nI j)), some (.int (nI (zR P i j))), none, some (.int (nI k))] 70 [] from L1 _ (zMelt P i j) _ _ (Nat.lt_succ_self _) (Nat.le_refl _) (by omega) hA1 hk1 (fun q hq => by rw [hG1 q (by omega), show zMelt P i j = 0 by omega, g_start])
        intro d9
        induction d9 with
        | zero => intro k M2 F2 hd9; exact absurd hd9 (Nat.not_lt_zero _)
        | succ d9 ihk =>
          intro k M2 F2 hd9 hm2 hks hA2 hk2 hG2
          have hB2 : mB P nW nL F2 := hB.fe (fun k hk => hk2 k (by omega))
          refine rg_iload F (pc := 70) dX4_putOwn_70 rfl ?_
          refine rg_aload_n F (pc := 72) dX4_putOwn_72 rfl ?_
          refine rg_get F (pc := 73) (ci := 5) rfl inX4 hA2.1 2 (by decide) q410 (fun _ h9 => h9) rfl dX4_putOwn_73 ?_
          refine rg_iload F (pc := 76) dX4_putOwn_76 rfl ?_
          refine rm_ld F hA2 (pc := 78) (q := 0) (j := zR P i j) (x := nI (zS P (zR P i j))) (by decide) (show zR P i j < 30 by omega) (hB2.1 (zR P i j) (by omega)).1 dX4_putOwn_78 ?_
          refine rg_ncmp_ge F (pc := 79) (tgt := 109) dX4_putOwn_79 (by decide) (by omega) (by omega) (fun c79 => ?_) (fun c79 => ?_)
          · have e4 : k = zS P (zR P i j) := by omega
            refine rg_eq (lv2 := [some (.ref (m)), some (.int (nI i)), some (.int (nI sz)), some (.int (nI (sz + zOL P i (j + 1)))), some (.int (nI j)), some (.int (nI (zR P i j))), none, some (.int (nI k))]) (st2 := []) (pc2 := 109) (by rw [show sz + zOL P i (j + 1) = sz + (zOL P i j - zMelt P i j) + k from by show sz + (zOL P i j - zMelt P i j + zS P (zR P i j)) = _; omega]) rfl rfl ?_
            refine rg_sub (lv' := [some (.ref (m)), some (.int (nI i)), some (.int (nI sz)), some (.int (nI (sz + zOL P i (j + 1)))), some (.int (nI j)), none, none, none]) (by repeat' constructor) ?_
            refine rg_iinc F (pc := 109) (v := nI (j + 1)) (lv' := [some (.ref (m)), some (.int (nI i)), some (.int (nI sz)), some (.int (nI (sz + zOL P i (j + 1)))), some (.int (nI (j + 1))), none, none, none]) dX4_putOwn_109 rfl (nI_add _ 1) (Nat.le_of_ble_eq_true rfl) rfl ?_
            refine rg_goto F (pc := 112) (tgt := 5) dX4_putOwn_112 (by decide) ?_
            exact ih (j + 1) _ _ (by omega) (by omega) hA2 hk2 (fun q hq => by rw [hG2 q (by have e5 : zOL P i (j + 1) = zOL P i j - zMelt P i j + zS P (zR P i j) := rfl; omega), e4, g_end _ _ _ _ _ _ w3]; rfl)
          · refine rg_aload_n F (pc := 82) dX4_putOwn_82 rfl ?_
            refine rg_get F (pc := 83) (ci := 5) rfl inX4 hA2.1 19 (by decide) q439 (fun _ h9 => h9) rfl dX4_putOwn_83 ?_
            refine rg_iload_n F (pc := 86) dX4_putOwn_86 rfl ?_
            refine rg_aload_n F (pc := 87) dX4_putOwn_87 rfl ?_
            refine rg_get F (pc := 88) (ci := 5) rfl inX4 hA2.1 3 (by decide) q411 (fun _ h9 => h9) rfl dX4_putOwn_88 ?_
            refine rg_iload F (pc := 91) dX4_putOwn_91 rfl ?_
            refine rm_ld F hA2 (pc := 93) (q := 1) (j := zR P i j) (x := nI (zT P (zR P i j))) (by decide) (show zR P i j < 30 by omega) (hB2.1 (zR P i j) (by omega)).2.1 dX4_putOwn_93 ?_
            refine rg_iload F (pc := 94) dX4_putOwn_94 rfl ?_
            refine rg_ishr F (pc := 96) (v := nI ((zT P (zR P i j)) / 2 ^ k)) dX4_putOwn_96 (rn_shr (by omega) (by omega)) ?_
            refine rg_iconst F (pc := 97) (v := nI 1) dX4_putOwn_97 (by decide) ?_
            refine rg_iand F (pc := 98) (v := nI (((zT P (zR P i j)) / 2 ^ k) % 2)) dX4_putOwn_98 (rn_and1 (Nat.lt_of_le_of_lt (Nat.div_le_self _ _) (by omega))) ?_
            refine rm_st F hA2 (pc := 99) (q := 16) (j := sz + (zOL P i j - zMelt P i j) + k) (x := nI (((zT P (zR P i j)) / 2 ^ k) % 2)) (by decide) (show sz + (zOL P i j - zMelt P i j) + k < 320 by omega) dX4_putOwn_99 (fun Ms3 hAs3 => ?_)
            refine rg_iinc F (pc := 100) (v := nI (sz + (zOL P i j - zMelt P i j) + k + 1)) (lv' := [some (.ref (m)), some (.int (nI i)), some (.int (nI sz)), some (.int (nI (sz + (zOL P i j - zMelt P i j) + k + 1))), some (.int (nI j)), some (.int (nI (zR P i j))), none, some (.int (nI k))]) dX4_putOwn_100 rfl (nI_add _ 1) (Nat.le_of_ble_eq_true rfl) rfl ?_
            refine rg_iinc F (pc := 103) (v := nI (k + 1)) (lv' := [some (.ref (m)), some (.int (nI i)), some (.int (nI sz)), some (.int (nI (sz + (zOL P i j - zMelt P i j) + k + 1))), some (.int (nI j)), some (.int (nI (zR P i j))), none, some (.int (nI (k + 1)))]) dX4_putOwn_103 rfl (nI_add _ 1) (Nat.le_of_ble_eq_true rfl) rfl ?_
            refine rg_goto F (pc := 106) (tgt := 70) dX4_putOwn_106 (by decide) ?_
            exact ihk (k + 1) _ _ (by omega) (by omega) (by omega) hAs3 (fun q hq => by rw [sf_ne _ _ hq]; exact hk2 q hq) (fun q hq => by rw [sf_eq]; unfold upd; by_cases e : q = sz + (zOL P i j - zMelt P i j) + k; (rw [if_pos e, e, g_step1 hX (Nat.lt_of_lt_of_le b3 (Nat.pow_le_pow_right (by decide) (by omega)))]); (rw [if_neg e, hG2 q (by omega), g_step0 (by omega)]))
      · refine rg_aload_n F (pc := 43) dX4_putOwn_43 rfl ?_
        refine rg_get F (pc := 44) (ci := 5) rfl inX4 hA1.1 19 (by decide) q439 (fun _ h9 => h9) rfl dX4_putOwn_44 ?_
        refine rg_iload_n F (pc := 47) dX4_putOwn_47 rfl ?_
        refine rg_iconst F (pc := 48) (v := nI 1) dX4_putOwn_48 (by decide) ?_
        refine rg_isub F (pc := 49) (v := nI ((sz + zOL P i j) - 1)) dX4_putOwn_49 (pk_sub (by omega)) ?_
        refine rg_dup2 F (pc := 50) dX4_putOwn_50 rfl rfl ?_
        refine rm_ld F hA1 (pc := 51) (q := 16) (j := (sz + zOL P i j) - 1) (x := nI (gB (X ||| zOB P i j * 2 ^ sz) (sz + zOL P i j - 1))) (by decide) (show sz + zOL P i j - 1 < 320 by omega) (hG1 _ (by omega)) dX4_putOwn_51 ?_
        refine rg_aload_n F (pc := 52) dX4_putOwn_52 rfl ?_
        refine rg_get F (pc := 53) (ci := 5) rfl inX4 hA1.1 3 (by decide) q411 (fun _ h9 => h9) rfl dX4_putOwn_53 ?_
        refine rg_iload F (pc := 56) dX4_putOwn_56 rfl ?_
        refine rm_ld F hA1 (pc := 58) (q := 1) (j := zR P i j) (x := nI (zT P (zR P i j))) (by decide) (show zR P i j < 30 by omega) (hB1.1 (zR P i j) (by omega)).2.1 dX4_putOwn_58 ?_
        refine rg_iconst F (pc := 59) (v := nI 1) dX4_putOwn_59 (by decide) ?_
        refine rg_iand F (pc := 60) (v := nI ((zT P (zR P i j)) % 2)) dX4_putOwn_60 (rn_and1 (by omega)) ?_
        refine rg_ior F (pc := 61) (v := nI ((gB (X ||| zOB P i j * 2 ^ sz) (sz + zOL P i j - 1)) ||| ((zT P (zR P i j)) % 2))) dX4_putOwn_61 (rn_or _ _) ?_
        refine rm_st F hA1 (pc := 62) (q := 16) (j := (sz + zOL P i j) - 1) (x := nI ((gB (X ||| zOB P i j * 2 ^ sz) (sz + zOL P i j - 1)) ||| ((zT P (zR P i j)) % 2))) (by decide) (show sz + zOL P i j - 1 < 320 by omega) dX4_putOwn_62 (fun Ms2 hAs2 => ?_)
        refine rg_iconst F (pc := 63) (v := nI 1) dX4_putOwn_63 (by decide) ?_
        refine rg_istore F (pc := 64) (lv' := [some (.ref (m)), some (.int (nI i)), some (.int (nI sz)), some (.int (nI (sz + zOL P i j))), some (.int (nI j)), some (.int (nI (zR P i j))), some (.int (nI 1)), none]) dX4_putOwn_64 (Nat.le_of_ble_eq_true rfl) rfl ?_
        refine rg_iload F (pc := 66) dX4_putOwn_66 rfl ?_
        refine rg_istore F (pc := 68) (lv' := [some (.ref (m)), some (.int (nI i)), some (.int (nI sz)), some (.int (nI (sz + zOL P i j))), some (.int (nI j)), some (.int (nI (zR P i j))), some (.int (nI 1)), some (.int (nI 1))]) dX4_putOwn_68 (Nat.le_of_ble_eq_true rfl) rfl ?_
        refine rg_sub (lv' := [some (.ref (m)), some (.int (nI i)), some (.int (nI sz)), some (.int (nI (sz + zOL P i j))), some (.int (nI j)), some (.int (nI (zR P i j))), none, some (.int (nI 1))]) (by repeat' constructor) ?_
        have em : zMelt P i j = 1 := by omega
        refine rg_eq (lv2 := [some (.ref (m)), some (.int (nI i)), some (.int (nI sz)), some (.int (nI (sz + (zOL P i j - zMelt P i j) + zMelt P i j))), some (.int (nI j)), some (.int (nI (zR P i j))), none, some (.int (nI (zMelt P i j)))]) (st2 := []) (pc2 := 70) (by rw [show sz + (zOL P i j - zMelt P i j) + zMelt P i j = sz + zOL P i j by omega, show zMelt P i j = 1 by omega]) rfl rfl ?_
        suffices L2 : ∀ (d9 : Nat) (k : Nat) (M2 : rMem) (F2 : Nat → Nat → Int32), zS P (zR P i j) - k < d9 → (zMelt P i j ≤ k) → (k ≤ zS P (zR P i j)) → (mA D M2 m ad F2 t nW nL lo) → (∀ q, q ≠ 16 → F2 q = Fn q) → (∀ q, q < sz + (zOL P i j - zMelt P i j) + k → F2 16 q = nI (gB (gN X (zOB P i j) (zT P (zR P i j) % 2 ^ k) (zOL P i j - zMelt P i j) sz) q)) → rG P0 l E0 (rR 3 0 0) S0 m0 as0 bl0 mt0 c0 D A 8 (MQ bl0 (va_Qi (fun r M' => r = nI (sz + zo P i) ∧ ∃ F', mA D M' m ad F' t nW nL lo ∧ (∀ q, q ≠ 16 → F' q = Fn q) ∧ ∀ q, q < sz + zo P i → F' 16 q = nI (gB (X ||| zb P i * 2 ^ sz) q)) (cB D A) A) as0 S0 0 0 A) M2 0 0 [some (.ref (m)), some (.int (nI i)), some (.int (nI sz)), some (.int (nI (sz + (zOL P i j - zMelt P i j) + k))), some (.int (nI j)), some (.int (nI (zR P i j))), none, some (.int (nI k))] 70 [] from L2 _ (zMelt P i j) _ _ (Nat.lt_succ_self _) (Nat.le_refl _) (by omega) hAs2 (fun q hq => by rw [sf_ne _ _ hq]; exact hk1 q hq) (fun q hq => by rw [sf_eq]; unfold upd; rw [em]; by_cases e : q = sz + zOL P i j - 1; (rw [if_pos e, e, show sz + zOL P i j - 1 = sz + (zOL P i j - 1) by omega, g_melt1]); (rw [if_neg e, hG1 q (by omega), g_melt0 (by omega)]))
        intro d9
        induction d9 with
        | zero => intro k M2 F2 hd9; exact absurd hd9 (Nat.not_lt_zero _)
        | succ d9 ihk =>
          intro k M2 F2 hd9 hm2 hks hA2 hk2 hG2
          have hB2 : mB P nW nL F2 := hB.fe (fun k hk => hk2 k (by omega))
          refine rg_iload F (pc := 70) dX4_putOwn_70 rfl ?_
          refine rg_aload_n F (pc := 72) dX4_putOwn_72 rfl ?_
          refine rg_get F (pc := 73) (ci := 5) rfl inX4 hA2.1 2 (by decide) q410 (fun _ h9 => h9) rfl dX4_putOwn_73 ?_
          refine rg_iload F (pc := 76) dX4_putOwn_76 rfl ?_
          refine rm_ld F hA2 (pc := 78) (q := 0) (j := zR P i j) (x := nI (zS P (zR P i j))) (by decide) (show zR P i j < 30 by omega) (hB2.1 (zR P i j) (by omega)).1 dX4_putOwn_78 ?_
          refine rg_ncmp_ge F (pc := 79) (tgt := 109) dX4_putOwn_79 (by decide) (by omega) (by omega) (fun c79 => ?_) (fun c79 => ?_)
          · have e4 : k = zS P (zR P i j) := by omega
            refine rg_eq (lv2 := [some (.ref (m)), some (.int (nI i)), some (.int (nI sz)), some (.int (nI (sz + zOL P i (j + 1)))), some (.int (nI j)), some (.int (nI (zR P i j))), none, some (.int (nI k))]) (st2 := []) (pc2 := 109) (by rw [show sz + zOL P i (j + 1) = sz + (zOL P i j - zMelt P i j) + k from by show sz + (zOL P i j - zMelt P i j + zS P (zR P i j)) = _; omega]) rfl rfl ?_
            refine rg_sub (lv' := [some (.ref (m)), some (.int (nI i)), some (.int (nI sz)), some (.int (nI (sz + zOL P i (j + 1)))), some (.int (nI j)), none, none, none]) (by repeat' constructor) ?_
            refine rg_iinc F (pc := 109) (v := nI (j + 1)) (lv' := [some (.ref (m)), some (.int (nI i)), some (.int (nI sz)), some (.int (nI (sz + zOL P i (j + 1)))), some (.int (nI (j + 1))), none, none, none]) dX4_putOwn_109 rfl (nI_add _ 1) (Nat.le_of_ble_eq_true rfl) rfl ?_
            refine rg_goto F (pc := 112) (tgt := 5) dX4_putOwn_112 (by decide) ?_
            exact ih (j + 1) _ _ (by omega) (by omega) hA2 hk2 (fun q hq => by rw [hG2 q (by have e5 : zOL P i (j + 1) = zOL P i j - zMelt P i j + zS P (zR P i j) := rfl; omega), e4, g_end _ _ _ _ _ _ w3]; rfl)
          · refine rg_aload_n F (pc := 82) dX4_putOwn_82 rfl ?_
            refine rg_get F (pc := 83) (ci := 5) rfl inX4 hA2.1 19 (by decide) q439 (fun _ h9 => h9) rfl dX4_putOwn_83 ?_
            refine rg_iload_n F (pc := 86) dX4_putOwn_86 rfl ?_
            refine rg_aload_n F (pc := 87) dX4_putOwn_87 rfl ?_
            refine rg_get F (pc := 88) (ci := 5) rfl inX4 hA2.1 3 (by decide) q411 (fun _ h9 => h9) rfl dX4_putOwn_88 ?_
            refine rg_iload F (pc := 91) dX4_putOwn_91 rfl ?_
            refine rm_ld F hA2 (pc := 93) (q := 1) (j := zR P i j) (x := nI (zT P (zR P i j))) (by decide) (show zR P i j < 30 by omega) (hB2.1 (zR P i j) (by omega)).2.1 dX4_putOwn_93 ?_
            refine rg_iload F (pc := 94) dX4_putOwn_94 rfl ?_
            refine rg_ishr F (pc := 96) (v := nI ((zT P (zR P i j)) / 2 ^ k)) dX4_putOwn_96 (rn_shr (by omega) (by omega)) ?_
            refine rg_iconst F (pc := 97) (v := nI 1) dX4_putOwn_97 (by decide) ?_
            refine rg_iand F (pc := 98) (v := nI (((zT P (zR P i j)) / 2 ^ k) % 2)) dX4_putOwn_98 (rn_and1 (Nat.lt_of_le_of_lt (Nat.div_le_self _ _) (by omega))) ?_
            refine rm_st F hA2 (pc := 99) (q := 16) (j := sz + (zOL P i j - zMelt P i j) + k) (x := nI (((zT P (zR P i j)) / 2 ^ k) % 2)) (by decide) (show sz + (zOL P i j - zMelt P i j) + k < 320 by omega) dX4_putOwn_99 (fun Ms4 hAs4 => ?_)
            refine rg_iinc F (pc := 100) (v := nI (sz + (zOL P i j - zMelt P i j) + k + 1)) (lv' := [some (.ref (m)), some (.int (nI i)), some (.int (nI sz)), some (.int (nI (sz + (zOL P i j - zMelt P i j) + k + 1))), some (.int (nI j)), some (.int (nI (zR P i j))), none, some (.int (nI k))]) dX4_putOwn_100 rfl (nI_add _ 1) (Nat.le_of_ble_eq_true rfl) rfl ?_
            refine rg_iinc F (pc := 103) (v := nI (k + 1)) (lv' := [some (.ref (m)), some (.int (nI i)), some (.int (nI sz)), some (.int (nI (sz + (zOL P i j - zMelt P i j) + k + 1))), some (.int (nI j)), some (.int (nI (zR P i j))), none, some (.int (nI (k + 1)))]) dX4_putOwn_103 rfl (nI_add _ 1) (Nat.le_of_ble_eq_true rfl) rfl ?_
            refine rg_goto F (pc := 106) (tgt := 70) dX4_putOwn_106 (by decide) ?_
            exact ihk (k + 1) _ _ (by omega) (by omega) (by omega) hAs4 (fun q hq => by rw [sf_ne _ _ hq]; exact hk2 q hq) (fun q hq => by rw [sf_eq]; unfold upd; by_cases e : q = sz + (zOL P i j - zMelt P i j) + k; (rw [if_pos e, e, g_step1 hX (Nat.lt_of_lt_of_le b3 (Nat.pow_le_pow_right (by decide) (by omega)))]); (rw [if_neg e, hG2 q (by omega), g_step0 (by omega)]))
