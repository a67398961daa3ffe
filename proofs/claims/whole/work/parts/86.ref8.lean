set_option maxHeartbeats 4000000 in
set_option maxRecDepth 100000 in
theorem r_word (l : Launch) (D : va_G) (M : rMem) (m : Nat) (P : Poem) (nW nL : Nat) (ad : Nat → Nat) (Fn : Nat → Nat → Int32) (t9 lo : Int32) (s t v e o : Nat) (hV : mV D M m P nW nL ad Fn t9 lo) (hn : nW < 30) (hs1 : 1 ≤ s) (hs4 : s ≤ 4) (ht : t < 2 ^ s) (hv : v < 10) (he : e < 10) (ho : o < 2) : CMi l D yX4_word cX4_word 6 ((some .int)) 3 0 0 M [.ref (m), .int (nI s), .int (nI t), .int (nI v), .int (nI e), .int (nI o)] (fun r M' => r = nI nW ∧ ∃ F', mV D M' m (zNewW P nW s t v e o) (nW + 1) nL ad F' (nI 0) lo) := by
  obtain ⟨hP, hA, hB⟩ := id hV
  have hn30 := hP.1.1
  have hn10 := hP.2.1
  have h16 := pw_16 hs4
  refine rM (lv0 := [some (.ref (m)), some (.int (nI s)), some (.int (nI t)), some (.int (nI v)), some (.int (nI e)), some (.int (nI o))]) (by decide) rfl rfl (Nat.le_of_ble_eq_true rfl) (fun P0 E0 S0 m0 as0 bl0 mt0 c0 A F hrt9 hnm => ?_)
  refine rg_aload_n F (pc := 0) dX4_word_0 rfl ?_
  refine rg_iconst F (pc := 1) (v := nI 0) dX4_word_1 (by decide) ?_
  refine rg_put F (pc := 2) (ci := 5) (ty := tyX4 0) rfl inX4 tyX4 tyX4_ok nmX4 hA.1 0 (by decide) q395 (fun _ h9 => h9) rfl (tyX4_ok 0 (by decide)) rfl rfl (Nat.le_of_ble_eq_true rfl) dX4_word_2 ?_
  refine rm_mem hA (t2 := nI 0) (nW2 := nW) (nL2 := nL) (lo2 := lo) rfl (fun Ms1 hAs1 => ?_)
  refine rg_iload_n F (pc := 5) dX4_word_5 rfl ?_
  refine rg_iconst F (pc := 6) (v := nI 1) dX4_word_6 (by decide) ?_
  refine rg_iconst F (pc := 7) (v := nI 4) dX4_word_7 (by decide) ?_
  refine rg_callSi F (pc := 8) (As := [.int (nI s), .int (nI 1), .int (nI 4)]) (rest := []) (r_isIn l D _ (nI s) (nI 1) (nI 4)) q401 sq_X4_isIn rfl rfl (Nat.le_of_ble_eq_true rfl) (Nat.le_of_ble_eq_true rfl) (Nat.le_of_ble_eq_true rfl) ⟨(Nat.le_of_ble_eq_true rfl), (Nat.le_of_ble_eq_true rfl)⟩ dX4_word_8 (fun r9 M9 hp => ?_)
  refine rg_top (v2 := .int (nI (mIn (nI s) (nI 1) (nI 4)).toNat)) (by first | (rw [hp.1]; done) | (rw [hp.1]; rfl)) ?_
  refine rg_mem (M2 := Ms1) hp.2 ?_
  refine rg_bif_eq F (pc := 11) (tgt := 48) dX4_word_11 (by decide) (fun c11 => absurd c11 (by rw [mIn_n (show 1 ≤ s by omega) (show s ≤ 4 by omega) (by omega)]; decide)) (fun c11 => ?_)
  refine rg_iload_n F (pc := 14) dX4_word_14 rfl ?_
  refine rg_iconst F (pc := 15) (v := nI 0) dX4_word_15 (by decide) ?_
  refine rg_iconst F (pc := 16) (v := nI 1) dX4_word_16 (by decide) ?_
  refine rg_iload_n F (pc := 17) dX4_word_17 rfl ?_
  refine rg_ishl F (pc := 18) (v := nI (1 * 2 ^ s)) dX4_word_18 (rn_shl (by omega)) ?_
  refine rg_iconst F (pc := 19) (v := nI 1) dX4_word_19 (by decide) ?_
  refine rg_isub F (pc := 20) (v := nI ((1 * 2 ^ s) - 1)) dX4_word_20 (pk_sub (by omega)) ?_
  refine rg_callSi F (pc := 21) (As := [.int (nI t), .int (nI 0), .int (nI ((1 * 2 ^ s) - 1))]) (rest := []) (r_isIn l D _ (nI t) (nI 0) (nI ((1 * 2 ^ s) - 1))) q401 sq_X4_isIn rfl rfl (Nat.le_of_ble_eq_true rfl) (Nat.le_of_ble_eq_true rfl) (Nat.le_of_ble_eq_true rfl) ⟨(Nat.le_of_ble_eq_true rfl), (Nat.le_of_ble_eq_true rfl)⟩ dX4_word_21 (fun r9 M9 hp => ?_)
  refine rg_top (v2 := .int (nI (mIn (nI t) (nI 0) (nI ((1 * 2 ^ s) - 1))).toNat)) (by first | (rw [hp.1]; done) | (rw [hp.1]; rfl)) ?_
  refine rg_mem (M2 := Ms1) hp.2 ?_
  refine rg_bif_eq F (pc := 24) (tgt := 48) dX4_word_24 (by decide) (fun c24 => absurd c24 (by rw [mIn_n (Nat.zero_le _) (show t ≤ 1 * 2 ^ s - 1 by omega) (by omega)]; decide)) (fun c24 => ?_)
  refine rg_iload_n F (pc := 27) dX4_word_27 rfl ?_
  refine rg_iconst F (pc := 28) (v := nI 0) dX4_word_28 (by decide) ?_
  refine rg_bipush F (pc := 29) (v := nI 9) dX4_word_29 (by decide) ?_
  refine rg_callSi F (pc := 31) (As := [.int (nI v), .int (nI 0), .int (nI 9)]) (rest := []) (r_isIn l D _ (nI v) (nI 0) (nI 9)) q401 sq_X4_isIn rfl rfl (Nat.le_of_ble_eq_true rfl) (Nat.le_of_ble_eq_true rfl) (Nat.le_of_ble_eq_true rfl) ⟨(Nat.le_of_ble_eq_true rfl), (Nat.le_of_ble_eq_true rfl)⟩ dX4_word_31 (fun r9 M9 hp => ?_)
  refine rg_top (v2 := .int (nI (mIn (nI v) (nI 0) (nI 9)).toNat)) (by first | (rw [hp.1]; done) | (rw [hp.1]; rfl)) ?_
  refine rg_mem (M2 := Ms1) hp.2 ?_
  refine rg_bif_eq F (pc := 34) (tgt := 48) dX4_word_34 (by decide) (fun c34 => absurd c34 (by rw [mIn_n (show 0 ≤ v by omega) (show v ≤ 9 by omega) (by omega)]; decide)) (fun c34 => ?_)
  refine rg_iload F (pc := 37) dX4_word_37 rfl ?_
  refine rg_iconst F (pc := 39) (v := nI 0) dX4_word_39 (by decide) ?_
  refine rg_bipush F (pc := 40) (v := nI 9) dX4_word_40 (by decide) ?_
  refine rg_callSi F (pc := 42) (As := [.int (nI e), .int (nI 0), .int (nI 9)]) (rest := []) (r_isIn l D _ (nI e) (nI 0) (nI 9)) q401 sq_X4_isIn rfl rfl (Nat.le_of_ble_eq_true rfl) (Nat.le_of_ble_eq_true rfl) (Nat.le_of_ble_eq_true rfl) ⟨(Nat.le_of_ble_eq_true rfl), (Nat.le_of_ble_eq_true rfl)⟩ dX4_word_42 (fun r9 M9 hp => ?_)
  refine rg_top (v2 := .int (nI (mIn (nI e) (nI 0) (nI 9)).toNat)) (by first | (rw [hp.1]; done) | (rw [hp.1]; rfl)) ?_
  refine rg_mem (M2 := Ms1) hp.2 ?_
  refine rg_bif_ne F (pc := 45) (tgt := 54) dX4_word_45 (by decide) (fun c45 => ?_) (fun c45 => absurd c45 (by rw [mIn_n (show 0 ≤ e by omega) (show e ≤ 9 by omega) (by omega)]; decide))
  refine rg_aload_n F (pc := 54) dX4_word_54 rfl ?_
  refine rg_get F (pc := 55) (ci := 5) rfl inX4 hAs1.1 1 (by decide) q400 (fun _ h9 => h9) rfl dX4_word_55 ?_
  refine rg_bipush F (pc := 58) (v := nI 30) dX4_word_58 (by decide) ?_
  refine rg_ncmp_ne F (pc := 60) (tgt := 69) dX4_word_60 (by decide) (by omega) (by omega) (fun c60 => ?_) (fun c60 => by exfalso; omega)
  refine rg_aload_n F (pc := 69) dX4_word_69 rfl ?_
  refine rg_get F (pc := 70) (ci := 5) rfl inX4 hAs1.1 2 (by decide) q410 (fun _ h9 => h9) rfl dX4_word_70 ?_
  refine rg_aload_n F (pc := 73) dX4_word_73 rfl ?_
  refine rg_get F (pc := 74) (ci := 5) rfl inX4 hAs1.1 1 (by decide) q400 (fun _ h9 => h9) rfl dX4_word_74 ?_
  refine rg_iload_n F (pc := 77) dX4_word_77 rfl ?_
  refine rm_st F hAs1 (pc := 78) (q := 0) (j := nW) (x := nI s) (by decide) (show nW < 30 by omega) dX4_word_78 (fun Ms2 hAs2 => ?_)
  refine rg_aload_n F (pc := 79) dX4_word_79 rfl ?_
  refine rg_get F (pc := 80) (ci := 5) rfl inX4 hAs2.1 3 (by decide) q411 (fun _ h9 => h9) rfl dX4_word_80 ?_
  refine rg_aload_n F (pc := 83) dX4_word_83 rfl ?_
  refine rg_get F (pc := 84) (ci := 5) rfl inX4 hAs2.1 1 (by decide) q400 (fun _ h9 => h9) rfl dX4_word_84 ?_
  refine rg_iload_n F (pc := 87) dX4_word_87 rfl ?_
  refine rm_st F hAs2 (pc := 88) (q := 1) (j := nW) (x := nI t) (by decide) (show nW < 30 by omega) dX4_word_88 (fun Ms3 hAs3 => ?_)
  refine rg_aload_n F (pc := 89) dX4_word_89 rfl ?_
  refine rg_get F (pc := 90) (ci := 5) rfl inX4 hAs3.1 4 (by decide) q412 (fun _ h9 => h9) rfl dX4_word_90 ?_
  refine rg_aload_n F (pc := 93) dX4_word_93 rfl ?_
  refine rg_get F (pc := 94) (ci := 5) rfl inX4 hAs3.1 1 (by decide) q400 (fun _ h9 => h9) rfl dX4_word_94 ?_
  refine rg_iload_n F (pc := 97) dX4_word_97 rfl ?_
  refine rm_st F hAs3 (pc := 98) (q := 2) (j := nW) (x := nI v) (by decide) (show nW < 30 by omega) dX4_word_98 (fun Ms4 hAs4 => ?_)
  refine rg_aload_n F (pc := 99) dX4_word_99 rfl ?_
  refine rg_get F (pc := 100) (ci := 5) rfl inX4 hAs4.1 5 (by decide) q413 (fun _ h9 => h9) rfl dX4_word_100 ?_
  refine rg_aload_n F (pc := 103) dX4_word_103 rfl ?_
  refine rg_get F (pc := 104) (ci := 5) rfl inX4 hAs4.1 1 (by decide) q400 (fun _ h9 => h9) rfl dX4_word_104 ?_
  refine rg_iload F (pc := 107) dX4_word_107 rfl ?_
  refine rm_st F hAs4 (pc := 109) (q := 3) (j := nW) (x := nI e) (by decide) (show nW < 30 by omega) dX4_word_109 (fun Ms5 hAs5 => ?_)
  refine rg_aload_n F (pc := 110) dX4_word_110 rfl ?_
  refine rg_get F (pc := 111) (ci := 5) rfl inX4 hAs5.1 6 (by decide) q414 (fun _ h9 => h9) rfl dX4_word_111 ?_
  refine rg_aload_n F (pc := 114) dX4_word_114 rfl ?_
  refine rg_get F (pc := 115) (ci := 5) rfl inX4 hAs5.1 1 (by decide) q400 (fun _ h9 => h9) rfl dX4_word_115 ?_
  refine rg_iload F (pc := 118) dX4_word_118 rfl ?_
  refine rg_nif_eq F (pc := 120) (tgt := 127) dX4_word_120 (by decide) (by omega) (fun c120 => ?_) (fun c120 => ?_)
  · refine rg_iconst F (pc := 127) (v := nI 0) dX4_word_127 (by decide) ?_
    refine rg_top (v2 := .int (nI o)) (by rw [show o = 0 by omega]) ?_
    refine rm_st F hAs5 (pc := 128) (q := 4) (j := nW) (x := nI o) (by decide) (show nW < 30 by omega) dX4_word_128 (fun Ms6 hAs6 => ?_)
    refine rg_aload_n F (pc := 129) dX4_word_129 rfl ?_
    refine rg_dup F (pc := 130) dX4_word_130 rfl ?_
    refine rg_get F (pc := 131) (ci := 5) rfl inX4 hAs6.1 1 (by decide) q400 (fun _ h9 => h9) rfl dX4_word_131 ?_
    refine rg_iconst F (pc := 134) (v := nI 1) dX4_word_134 (by decide) ?_
    refine rg_iadd F (pc := 135) (v := nI (nW + 1)) dX4_word_135 (nI_add _ _) ?_
    refine rg_put F (pc := 136) (ci := 5) (ty := tyX4 1) rfl inX4 tyX4 tyX4_ok nmX4 hAs6.1 1 (by decide) q400 (fun _ h9 => h9) rfl (tyX4_ok 1 (by decide)) rfl rfl (Nat.le_of_ble_eq_true rfl) dX4_word_136 ?_
    refine rm_mem hAs6 (t2 := nI 0) (nW2 := nW + 1) (nL2 := nL) (lo2 := lo) rfl (fun Ms7 hAs7 => ?_)
    refine rg_aload_n F (pc := 139) dX4_word_139 rfl ?_
    refine rg_get F (pc := 140) (ci := 5) rfl inX4 hAs7.1 1 (by decide) q400 (fun _ h9 => h9) rfl dX4_word_140 ?_
    refine rg_iconst F (pc := 143) (v := nI 1) dX4_word_143 (by decide) ?_
    refine rg_isub F (pc := 144) (v := nI nW) dX4_word_144 ((pk_sub (by omega)).trans (by rw [Nat.add_sub_cancel])) ?_
    exact rg_iret F (pc := 145) hrt9 (by decide) (by decide) dX4_word_145 ⟨rfl, _, zNewW_ok hP hn hs1 hs4 ht hv he ho, hAs7, mB_newW s t v e o hB⟩
  · refine rg_iconst F (pc := 123) (v := nI 1) dX4_word_123 (by decide) ?_
    refine rg_goto F (pc := 124) (tgt := 128) dX4_word_124 (by decide) ?_
    refine rg_top (v2 := .int (nI o)) (by rw [show o = 1 by omega]) ?_
    refine rm_st F hAs5 (pc := 128) (q := 4) (j := nW) (x := nI o) (by decide) (show nW < 30 by omega) dX4_word_128 (fun Ms6 hAs6 => ?_)
    refine rg_aload_n F (pc := 129) dX4_word_129 rfl ?_
    refine rg_dup F (pc := 130) dX4_word_130 rfl ?_
    refine rg_get F (pc := 131) (ci := 5) rfl inX4 hAs6.1 1 (by decide) q400 (fun _ h9 => h9) rfl dX4_word_131 ?_
    refine rg_iconst F (pc := 134) (v := nI 1) dX4_word_134 (by decide) ?_
    refine rg_iadd F (pc := 135) (v := nI (nW + 1)) dX4_word_135 (nI_add _ _) ?_
    refine rg_put F (pc := 136) (ci := 5) (ty := tyX4 1) rfl inX4 tyX4 tyX4_ok nmX4 hAs6.1 1 (by decide) q400 (fun _ h9 => h9) rfl (tyX4_ok 1 (by decide)) rfl rfl (Nat.le_of_ble_eq_true rfl) dX4_word_136 ?_
    refine rm_mem hAs6 (t2 := nI 0) (nW2 := nW + 1) (nL2 := nL) (lo2 := lo) rfl (fun Ms7 hAs7 => ?_)
    refine rg_aload_n F (pc := 139) dX4_word_139 rfl ?_
    refine rg_get F (pc := 140) (ci := 5) rfl inX4 hAs7.1 1 (by decide) q400 (fun _ h9 => h9) rfl dX4_word_140 ?_
    refine rg_iconst F (pc := 143) (v := nI 1) dX4_word_143 (by decide) ?_
    refine rg_isub F (pc := 144) (v := nI nW) dX4_word_144 ((pk_sub (by omega)).trans (by rw [Nat.add_sub_cancel])) ?_
    exact rg_iret F (pc := 145) hrt9 (by decide) (by decide) dX4_word_145 ⟨rfl, _, zNewW_ok hP hn hs1 hs4 ht hv he ho, hAs7, mB_newW s t v e o hB⟩
