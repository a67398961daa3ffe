theorem mIn_n {n a b : Nat} (h1 : a ≤ n) (h2 : n ≤ b) (hb : b < 2 ^ 31) : mIn (nI n) (nI a) (nI b) = true :=
  mIn_in (fun z => by have h := (nI_ltI (show n < 2 ^ 31 by omega) (show a < 2 ^ 31 by omega)).mp z; omega) (fun z => by have h := (nI_ltI hb (show n < 2 ^ 31 by omega)).mp z; omega)
set_option maxHeartbeats 4000000 in
set_option maxRecDepth 100000 in
theorem r_line (l : Launch) (D : va_G) (M : rMem) (m : Nat) (P : Poem) (nW nL : Nat) (ad : Nat → Nat) (Fn : Nat → Nat → Int32) (t lo : Int32) (a f k : Nat) (hV : mV D M m P nW nL ad Fn t lo) (hn : nL < 10) (hm4 : a < 4) (hfa : 1 ≤ f) (hf6 : f ≤ 6) (hk : k < 6) : CMi l D yX4_line cX4_line 4 ((some .int)) 3 0 0 M [.ref (m), .int (nI a), .int (nI f), .int (nI k)] (fun r M' => r = nI nL ∧ ∃ F', mV D M' m (zNewL P nL a f k) nW (nL + 1) ad F' (nI 0) lo) := by
  obtain ⟨hP, hA, hB⟩ := id hV
  have hn30 := hP.1.1
  have hn10 := hP.2.1
  refine rM (lv0 := [some (.ref (m)), some (.int (nI a)), some (.int (nI f)), some (.int (nI k))]) (by decide) rfl rfl (Nat.le_of_ble_eq_true rfl) (fun P0 E0 S0 m0 as0 bl0 mt0 c0 A F hrt9 hnm => ?_)
  refine rg_aload_n F (pc := 0) dX4_line_0 rfl ?_
  refine rg_iconst F (pc := 1) (v := nI 0) dX4_line_1 (by decide) ?_
  refine rg_put F (pc := 2) (ci := 5) (ty := tyX4 0) rfl inX4 tyX4 tyX4_ok nmX4 hA.1 0 (by decide) q395 (fun _ h9 => h9) rfl (tyX4_ok 0 (by decide)) rfl rfl (Nat.le_of_ble_eq_true rfl) dX4_line_2 ?_
  refine rm_mem hA (t2 := nI 0) (nW2 := nW) (nL2 := nL) (lo2 := lo) rfl (fun Ms1 hAs1 => ?_)
  refine rg_iload_n F (pc := 5) dX4_line_5 rfl ?_
  refine rg_iconst F (pc := 6) (v := nI 0) dX4_line_6 (by decide) ?_
  refine rg_iconst F (pc := 7) (v := nI 3) dX4_line_7 (by decide) ?_
  refine rg_callSi F (pc := 8) (As := [.int (nI a), .int (nI 0), .int (nI 3)]) (rest := []) (r_isIn l D _ (nI a) (nI 0) (nI 3)) q401 sq_X4_isIn rfl rfl (Nat.le_of_ble_eq_true rfl) (Nat.le_of_ble_eq_true rfl) (Nat.le_of_ble_eq_true rfl) ⟨(Nat.le_of_ble_eq_true rfl), (Nat.le_of_ble_eq_true rfl)⟩ dX4_line_8 (fun r9 M9 hp => ?_)
  refine rg_top (v2 := .int (nI (mIn (nI a) (nI 0) (nI 3)).toNat)) (by first | (rw [hp.1]; done) | (rw [hp.1]; rfl)) ?_
  refine rg_mem (M2 := Ms1) hp.2 ?_
  refine rg_bif_eq F (pc := 11) (tgt := 33) dX4_line_11 (by decide) (fun c11 => absurd c11 (by rw [mIn_n (show 0 ≤ a by omega) (show a ≤ 3 by omega) (by omega)]; decide)) (fun c11 => ?_)
  refine rg_iload_n F (pc := 14) dX4_line_14 rfl ?_
  refine rg_iconst F (pc := 15) (v := nI 1) dX4_line_15 (by decide) ?_
  refine rg_bipush F (pc := 16) (v := nI 6) dX4_line_16 (by decide) ?_
  refine rg_callSi F (pc := 18) (As := [.int (nI f), .int (nI 1), .int (nI 6)]) (rest := []) (r_isIn l D _ (nI f) (nI 1) (nI 6)) q401 sq_X4_isIn rfl rfl (Nat.le_of_ble_eq_true rfl) (Nat.le_of_ble_eq_true rfl) (Nat.le_of_ble_eq_true rfl) ⟨(Nat.le_of_ble_eq_true rfl), (Nat.le_of_ble_eq_true rfl)⟩ dX4_line_18 (fun r9 M9 hp => ?_)
  refine rg_top (v2 := .int (nI (mIn (nI f) (nI 1) (nI 6)).toNat)) (by first | (rw [hp.1]; done) | (rw [hp.1]; rfl)) ?_
  refine rg_mem (M2 := Ms1) hp.2 ?_
  refine rg_bif_eq F (pc := 21) (tgt := 33) dX4_line_21 (by decide) (fun c21 => absurd c21 (by rw [mIn_n (show 1 ≤ f by omega) (show f ≤ 6 by omega) (by omega)]; decide)) (fun c21 => ?_)
  refine rg_iload_n F (pc := 24) dX4_line_24 rfl ?_
  refine rg_iconst F (pc := 25) (v := nI 0) dX4_line_25 (by decide) ?_
  refine rg_iconst F (pc := 26) (v := nI 5) dX4_line_26 (by decide) ?_
  refine rg_callSi F (pc := 27) (As := [.int (nI k), .int (nI 0), .int (nI 5)]) (rest := []) (r_isIn l D _ (nI k) (nI 0) (nI 5)) q401 sq_X4_isIn rfl rfl (Nat.le_of_ble_eq_true rfl) (Nat.le_of_ble_eq_true rfl) (Nat.le_of_ble_eq_true rfl) ⟨(Nat.le_of_ble_eq_true rfl), (Nat.le_of_ble_eq_true rfl)⟩ dX4_line_27 (fun r9 M9 hp => ?_)
  refine rg_top (v2 := .int (nI (mIn (nI k) (nI 0) (nI 5)).toNat)) (by first | (rw [hp.1]; done) | (rw [hp.1]; rfl)) ?_
  refine rg_mem (M2 := Ms1) hp.2 ?_
  refine rg_bif_ne F (pc := 30) (tgt := 39) dX4_line_30 (by decide) (fun c30 => ?_) (fun c30 => absurd c30 (by rw [mIn_n (show 0 ≤ k by omega) (show k ≤ 5 by omega) (by omega)]; decide))
  refine rg_aload_n F (pc := 39) dX4_line_39 rfl ?_
  refine rg_get F (pc := 40) (ci := 5) rfl inX4 hAs1.1 7 (by decide) q406 (fun _ h9 => h9) rfl dX4_line_40 ?_
  refine rg_bipush F (pc := 43) (v := nI 10) dX4_line_43 (by decide) ?_
  refine rg_ncmp_ne F (pc := 45) (tgt := 54) dX4_line_45 (by decide) (by omega) (by omega) (fun c45 => ?_) (fun c45 => by exfalso; omega)
  refine rg_aload_n F (pc := 54) dX4_line_54 rfl ?_
  refine rg_get F (pc := 55) (ci := 5) rfl inX4 hAs1.1 8 (by decide) q440 (fun _ h9 => h9) rfl dX4_line_55 ?_
  refine rg_aload_n F (pc := 58) dX4_line_58 rfl ?_
  refine rg_get F (pc := 59) (ci := 5) rfl inX4 hAs1.1 7 (by decide) q406 (fun _ h9 => h9) rfl dX4_line_59 ?_
  refine rg_iload_n F (pc := 62) dX4_line_62 rfl ?_
  refine rm_st F hAs1 (pc := 63) (q := 5) (j := nL) (x := nI a) (by decide) (show nL < 10 by omega) dX4_line_63 (fun Ms2 hAs2 => ?_)
  refine rg_aload_n F (pc := 64) dX4_line_64 rfl ?_
  refine rg_get F (pc := 65) (ci := 5) rfl inX4 hAs2.1 9 (by decide) q443 (fun _ h9 => h9) rfl dX4_line_65 ?_
  refine rg_aload_n F (pc := 68) dX4_line_68 rfl ?_
  refine rg_get F (pc := 69) (ci := 5) rfl inX4 hAs2.1 7 (by decide) q406 (fun _ h9 => h9) rfl dX4_line_69 ?_
  refine rg_iload_n F (pc := 72) dX4_line_72 rfl ?_
  refine rm_st F hAs2 (pc := 73) (q := 6) (j := nL) (x := nI f) (by decide) (show nL < 10 by omega) dX4_line_73 (fun Ms3 hAs3 => ?_)
  refine rg_aload_n F (pc := 74) dX4_line_74 rfl ?_
  refine rg_get F (pc := 75) (ci := 5) rfl inX4 hAs3.1 10 (by decide) q471 (fun _ h9 => h9) rfl dX4_line_75 ?_
  refine rg_aload_n F (pc := 78) dX4_line_78 rfl ?_
  refine rg_get F (pc := 79) (ci := 5) rfl inX4 hAs3.1 7 (by decide) q406 (fun _ h9 => h9) rfl dX4_line_79 ?_
  refine rg_iload_n F (pc := 82) dX4_line_82 rfl ?_
  refine rm_st F hAs3 (pc := 83) (q := 7) (j := nL) (x := nI k) (by decide) (show nL < 10 by omega) dX4_line_83 (fun Ms4 hAs4 => ?_)
  refine rg_aload_n F (pc := 84) dX4_line_84 rfl ?_
  refine rg_dup F (pc := 85) dX4_line_85 rfl ?_
  refine rg_get F (pc := 86) (ci := 5) rfl inX4 hAs4.1 7 (by decide) q406 (fun _ h9 => h9) rfl dX4_line_86 ?_
  refine rg_iconst F (pc := 89) (v := nI 1) dX4_line_89 (by decide) ?_
  refine rg_iadd F (pc := 90) (v := nI (nL + 1)) dX4_line_90 (nI_add _ _) ?_
  refine rg_put F (pc := 91) (ci := 5) (ty := tyX4 7) rfl inX4 tyX4 tyX4_ok nmX4 hAs4.1 7 (by decide) q406 (fun _ h9 => h9) rfl (tyX4_ok 7 (by decide)) rfl rfl (Nat.le_of_ble_eq_true rfl) dX4_line_91 ?_
  refine rm_mem hAs4 (t2 := nI 0) (nW2 := nW) (nL2 := nL + 1) (lo2 := lo) rfl (fun Ms5 hAs5 => ?_)
  refine rg_aload_n F (pc := 94) dX4_line_94 rfl ?_
  refine rg_get F (pc := 95) (ci := 5) rfl inX4 hAs5.1 7 (by decide) q406 (fun _ h9 => h9) rfl dX4_line_95 ?_
  refine rg_iconst F (pc := 98) (v := nI 1) dX4_line_98 (by decide) ?_
  refine rg_isub F (pc := 99) (v := nI nL) dX4_line_99 ((pk_sub (by omega)).trans (by rw [Nat.add_sub_cancel])) ?_
  exact rg_iret F (pc := 100) hrt9 (by decide) (by decide) dX4_line_100 ⟨rfl, _, zNewL_ok hP hn hm4 hfa hf6 hk, hAs5, mB_newL a f k hB hn⟩
