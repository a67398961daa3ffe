set_option maxHeartbeats 4000000 in
set_option maxRecDepth 100000 in
theorem r_word1 (l : Launch) (D : va_G) (M : rMem) (m : Nat) (P : Poem) (nW nL : Nat) (ad : Nat → Nat) (Fn : Nat → Nat → Int32) (t lo : Int32) (s v9 w9 e9 o9 : Int32) (hV : mV D M m P nW nL ad Fn t lo) (hb : ¬ (mIn s (nI 1) (nI 4) = true ∧ mIn v9 (nI 0) (((nI 1) <<< (s &&& 31)) - (nI 1)) = true ∧ mIn w9 (nI 0) (nI 9) = true ∧ mIn e9 (nI 0) (nI 9) = true)) : CMi l D yX4_word cX4_word 6 ((some .int)) 3 0 0 M [.ref (m), .int (s), .int (v9), .int (w9), .int (e9), .int (o9)] (fun r M' => mV D M' m P nW nL ad Fn (nI 1) lo) := by
  obtain ⟨hP, hA, hB⟩ := id hV
  have hn30 := hP.1.1
  have hn10 := hP.2.1
  refine rM (lv0 := [some (.ref (m)), some (.int (s)), some (.int (v9)), some (.int (w9)), some (.int (e9)), some (.int (o9))]) (by decide) rfl rfl (Nat.le_of_ble_eq_true rfl) (fun P0 E0 S0 m0 as0 bl0 mt0 c0 A F hrt9 hnm => ?_)
  refine rg_aload_n F (pc := 0) dX4_word_0 rfl ?_
  refine rg_iconst F (pc := 1) (v := nI 0) dX4_word_1 (by decide) ?_
  refine rg_put F (pc := 2) (ci := 5) (ty := tyX4 0) rfl inX4 tyX4 tyX4_ok nmX4 hA.1 0 (by decide) q395 (fun _ h9 => h9) rfl (tyX4_ok 0 (by decide)) rfl rfl (Nat.le_of_ble_eq_true rfl) dX4_word_2 ?_
  refine rm_mem hA (t2 := nI 0) (nW2 := nW) (nL2 := nL) (lo2 := lo) rfl (fun Ms1 hAs1 => ?_)
  refine rg_iload_n F (pc := 5) dX4_word_5 rfl ?_
  refine rg_iconst F (pc := 6) (v := nI 1) dX4_word_6 (by decide) ?_
  refine rg_iconst F (pc := 7) (v := nI 4) dX4_word_7 (by decide) ?_
  refine rg_callSi F (pc := 8) (As := [.int (s), .int (nI 1), .int (nI 4)]) (rest := []) (r_isIn l D _ s (nI 1) (nI 4)) q401 sq_X4_isIn rfl rfl (Nat.le_of_ble_eq_true rfl) (Nat.le_of_ble_eq_true rfl) (Nat.le_of_ble_eq_true rfl) ⟨(Nat.le_of_ble_eq_true rfl), (Nat.le_of_ble_eq_true rfl)⟩ dX4_word_8 (fun r9 M9 hp => ?_)
  refine rg_top (v2 := .int (nI (mIn s (nI 1) (nI 4)).toNat)) (by first | (rw [hp.1]; done) | (rw [hp.1]; rfl)) ?_
  refine rg_mem (M2 := Ms1) hp.2 ?_
  refine rg_bif_eq F (pc := 11) (tgt := 48) dX4_word_11 (by decide) (fun c11 => ?_) (fun c11 => ?_)
  · refine rg_aload_n F (pc := 48) dX4_word_48 rfl ?_
    refine rg_iconst F (pc := 49) (v := nI 1) dX4_word_49 (by decide) ?_
    refine rg_callVi F (pc := 50) (As := [.int (nI 1)]) (rest := []) (ci := 5) (r_no l D _ m P nW nL ad Fn (nI 0) lo (nI 1) ⟨hP, hAs1, hB⟩) q415 vq_X4_no rfl hAs1.1 rfl rfl (Nat.le_of_ble_eq_true rfl) (Nat.le_of_ble_eq_true rfl) (Nat.le_of_ble_eq_true rfl) ⟨(Nat.le_of_ble_eq_true rfl), (Nat.le_of_ble_eq_true rfl)⟩ dX4_word_50 (fun r9 Mn hp => ?_)
    refine rg_top (v2 := .int (nI 0)) (by rw [hp.1]) ?_
    exact rg_iret F (pc := 53) hrt9 (by decide) (by decide) dX4_word_53 ⟨hP, hp.2.2.1, hB⟩
  · refine rg_iload_n F (pc := 14) dX4_word_14 rfl ?_
    refine rg_iconst F (pc := 15) (v := nI 0) dX4_word_15 (by decide) ?_
    refine rg_iconst F (pc := 16) (v := nI 1) dX4_word_16 (by decide) ?_
    refine rg_iload_n F (pc := 17) dX4_word_17 rfl ?_
    refine rg_ishl F (pc := 18) (v := (nI 1) <<< (s &&& 31)) dX4_word_18 rfl ?_
    refine rg_iconst F (pc := 19) (v := nI 1) dX4_word_19 (by decide) ?_
    refine rg_isub F (pc := 20) (v := ((nI 1) <<< (s &&& 31)) - (nI 1)) dX4_word_20 rfl ?_
    refine rg_callSi F (pc := 21) (As := [.int (v9), .int (nI 0), .int (((nI 1) <<< (s &&& 31)) - (nI 1))]) (rest := []) (r_isIn l D _ v9 (nI 0) (((nI 1) <<< (s &&& 31)) - (nI 1))) q401 sq_X4_isIn rfl rfl (Nat.le_of_ble_eq_true rfl) (Nat.le_of_ble_eq_true rfl) (Nat.le_of_ble_eq_true rfl) ⟨(Nat.le_of_ble_eq_true rfl), (Nat.le_of_ble_eq_true rfl)⟩ dX4_word_21 (fun r9 M9 hp => ?_)
    refine rg_top (v2 := .int (nI (mIn v9 (nI 0) (((nI 1) <<< (s &&& 31)) - (nI 1))).toNat)) (by first | (rw [hp.1]; done) | (rw [hp.1]; rfl)) ?_
    refine rg_mem (M2 := Ms1) hp.2 ?_
    refine rg_bif_eq F (pc := 24) (tgt := 48) dX4_word_24 (by decide) (fun c24 => ?_) (fun c24 => ?_)
    · refine rg_aload_n F (pc := 48) dX4_word_48 rfl ?_
      refine rg_iconst F (pc := 49) (v := nI 1) dX4_word_49 (by decide) ?_
      refine rg_callVi F (pc := 50) (As := [.int (nI 1)]) (rest := []) (ci := 5) (r_no l D _ m P nW nL ad Fn (nI 0) lo (nI 1) ⟨hP, hAs1, hB⟩) q415 vq_X4_no rfl hAs1.1 rfl rfl (Nat.le_of_ble_eq_true rfl) (Nat.le_of_ble_eq_true rfl) (Nat.le_of_ble_eq_true rfl) ⟨(Nat.le_of_ble_eq_true rfl), (Nat.le_of_ble_eq_true rfl)⟩ dX4_word_50 (fun r9 Mn hp => ?_)
      refine rg_top (v2 := .int (nI 0)) (by rw [hp.1]) ?_
      exact rg_iret F (pc := 53) hrt9 (by decide) (by decide) dX4_word_53 ⟨hP, hp.2.2.1, hB⟩
    · refine rg_iload_n F (pc := 27) dX4_word_27 rfl ?_
      refine rg_iconst F (pc := 28) (v := nI 0) dX4_word_28 (by decide) ?_
      refine rg_bipush F (pc := 29) (v := nI 9) dX4_word_29 (by decide) ?_
      refine rg_callSi F (pc := 31) (As := [.int (w9), .int (nI 0), .int (nI 9)]) (rest := []) (r_isIn l D _ w9 (nI 0) (nI 9)) q401 sq_X4_isIn rfl rfl (Nat.le_of_ble_eq_true rfl) (Nat.le_of_ble_eq_true rfl) (Nat.le_of_ble_eq_true rfl) ⟨(Nat.le_of_ble_eq_true rfl), (Nat.le_of_ble_eq_true rfl)⟩ dX4_word_31 (fun r9 M9 hp => ?_)
      refine rg_top (v2 := .int (nI (mIn w9 (nI 0) (nI 9)).toNat)) (by first | (rw [hp.1]; done) | (rw [hp.1]; rfl)) ?_
      refine rg_mem (M2 := Ms1) hp.2 ?_
      refine rg_bif_eq F (pc := 34) (tgt := 48) dX4_word_34 (by decide) (fun c34 => ?_) (fun c34 => ?_)
      · refine rg_aload_n F (pc := 48) dX4_word_48 rfl ?_
        refine rg_iconst F (pc := 49) (v := nI 1) dX4_word_49 (by decide) ?_
        refine rg_callVi F (pc := 50) (As := [.int (nI 1)]) (rest := []) (ci := 5) (r_no l D _ m P nW nL ad Fn (nI 0) lo (nI 1) ⟨hP, hAs1, hB⟩) q415 vq_X4_no rfl hAs1.1 rfl rfl (Nat.le_of_ble_eq_true rfl) (Nat.le_of_ble_eq_true rfl) (Nat.le_of_ble_eq_true rfl) ⟨(Nat.le_of_ble_eq_true rfl), (Nat.le_of_ble_eq_true rfl)⟩ dX4_word_50 (fun r9 Mn hp => ?_)
        refine rg_top (v2 := .int (nI 0)) (by rw [hp.1]) ?_
        exact rg_iret F (pc := 53) hrt9 (by decide) (by decide) dX4_word_53 ⟨hP, hp.2.2.1, hB⟩
      · refine rg_iload F (pc := 37) dX4_word_37 rfl ?_
        refine rg_iconst F (pc := 39) (v := nI 0) dX4_word_39 (by decide) ?_
        refine rg_bipush F (pc := 40) (v := nI 9) dX4_word_40 (by decide) ?_
        refine rg_callSi F (pc := 42) (As := [.int (e9), .int (nI 0), .int (nI 9)]) (rest := []) (r_isIn l D _ e9 (nI 0) (nI 9)) q401 sq_X4_isIn rfl rfl (Nat.le_of_ble_eq_true rfl) (Nat.le_of_ble_eq_true rfl) (Nat.le_of_ble_eq_true rfl) ⟨(Nat.le_of_ble_eq_true rfl), (Nat.le_of_ble_eq_true rfl)⟩ dX4_word_42 (fun r9 M9 hp => ?_)
        refine rg_top (v2 := .int (nI (mIn e9 (nI 0) (nI 9)).toNat)) (by first | (rw [hp.1]; done) | (rw [hp.1]; rfl)) ?_
        refine rg_mem (M2 := Ms1) hp.2 ?_
        refine rg_bif_ne F (pc := 45) (tgt := 54) dX4_word_45 (by decide) (fun c45 => absurd ⟨c11, c24, c34, c45⟩ hb) (fun c45 => ?_)
        refine rg_aload_n F (pc := 48) dX4_word_48 rfl ?_
        refine rg_iconst F (pc := 49) (v := nI 1) dX4_word_49 (by decide) ?_
        refine rg_callVi F (pc := 50) (As := [.int (nI 1)]) (rest := []) (ci := 5) (r_no l D _ m P nW nL ad Fn (nI 0) lo (nI 1) ⟨hP, hAs1, hB⟩) q415 vq_X4_no rfl hAs1.1 rfl rfl (Nat.le_of_ble_eq_true rfl) (Nat.le_of_ble_eq_true rfl) (Nat.le_of_ble_eq_true rfl) ⟨(Nat.le_of_ble_eq_true rfl), (Nat.le_of_ble_eq_true rfl)⟩ dX4_word_50 (fun r9 Mn hp => ?_)
        refine rg_top (v2 := .int (nI 0)) (by rw [hp.1]) ?_
        exact rg_iret F (pc := 53) hrt9 (by decide) (by decide) dX4_word_53 ⟨hP, hp.2.2.1, hB⟩
set_option maxHeartbeats 4000000 in
set_option maxRecDepth 100000 in
theorem r_word2 (l : Launch) (D : va_G) (M : rMem) (m : Nat) (P : Poem) (nW nL : Nat) (ad : Nat → Nat) (Fn : Nat → Nat → Int32) (t9 lo : Int32) (s t v e o : Nat) (hV : mV D M m P nW nL ad Fn t9 lo) (hn : nW = 30) (hs1 : 1 ≤ s) (hs4 : s ≤ 4) (ht : t < 2 ^ s) (hv : v < 10) (he : e < 10) (ho : o < 2) : CMi l D yX4_word cX4_word 6 ((some .int)) 3 0 0 M [.ref (m), .int (nI s), .int (nI t), .int (nI v), .int (nI e), .int (nI o)] (fun r M' => mV D M' m P nW nL ad Fn (nI 2) lo) := by
  obtain ⟨hP, hA, hB⟩ := id hV
  have hn30 := hP.1.1
  have hn10 := hP.2.1
  have h16 := pw_16 hs4
  refine rM (lv0 := [some (.ref (m)), some (.int (nI s)), some (.int (nI t)), some (.int (nI v)), some (.int (nI e)), some (.int (nI o))]) (by decide) rfl rfl (Nat.le_of_ble_eq_true rfl) (fun P0 E0 S0 m0 as0 bl0 mt0 c0 A F hrt9 hnm => ?_)
  refine rg_aload_n F (pc := 0) dX4_word_0 rfl ?_
  refine rg_iconst F (pc := 1) (v := nI 0) dX4_word_1 (by decide) ?_
  refine rg_put F (pc := 2) (ci := 5) (ty := tyX4 0) rfl inX4 tyX4 tyX4_ok nmX4 hA.1 0 (by decide) q395 (fun _ h9 => h9) rfl (tyX4_ok 0 (by decide)) rfl rfl (Nat.le_of_ble_eq_true rfl) dX4_word_2 ?_
  refine rm_mem hA (t2 := nI 0) (nW2 := nW) (nL2 := nL) (lo2 := lo) rfl (fun Ms1 hAs1 => ?_)
  refine rg_iload_n F (pc := 5) dX4_word_5 rfl ?_
  refine rg_iconst F (pc := 6) (v := nI 1) dX4_word_6 (by decide) ?_
  refine rg_iconst F (pc := 7) (v := nI 4) dX4_word_7 (by decide) ?_
  refine rg_callSi F (pc := 8) (As := [.int (nI s), .int (nI 1), .int (nI 4)]) (rest := []) (r_isIn l D _ (nI s) (nI 1) (nI 4)) q401 sq_X4_isIn rfl rfl (Nat.le_of_ble_eq_true rfl) (Nat.le_of_ble_eq_true rfl) (Nat.le_of_ble_eq_true rfl) ⟨(Nat.le_of_ble_eq_true rfl), (Nat.le_of_ble_eq_true rfl)⟩ dX4_word_8 (fun r9 M9 hp => ?_)
  refine rg_top (v2 := .int (nI (mIn (nI s) (nI 1) (nI 4)).toNat)) (by first | (rw [hp.1]; done) | (rw [hp.1]; rfl)) ?_
  refine rg_mem (M2 := Ms1) hp.2 ?_
  refine rg_bif_eq F (pc := 11) (tgt := 48) dX4_word_11 (by decide) (fun c11 => absurd c11 (by rw [mIn_n (show 1 ≤ s by omega) (show s ≤ 4 by omega) (by omega)]; decide)) (fun c11 => ?_)
  refine rg_iload_n F (pc := 14) dX4_word_14 rfl ?_
  refine rg_iconst F (pc := 15) (v := nI 0) dX4_word_15 (by decide) ?_
  refine rg_iconst F (pc := 16) (v := nI 1) dX4_word_16 (by decide) ?_
  refine rg_iload_n F (pc := 17) dX4_word_17 rfl ?_
  refine rg_ishl F (pc := 18) (v := nI (1 * 2 ^ s)) dX4_word_18 (rn_shl (by omega)) ?_
  refine rg_iconst F (pc := 19) (v := nI 1) dX4_word_19 (by decide) ?_
  refine rg_isub F (pc := 20) (v := nI ((1 * 2 ^ s) - 1)) dX4_word_20 (pk_sub (by omega)) ?_
  refine rg_callSi F (pc := 21) (As := [.int (nI t), .int (nI 0), .int (nI ((1 * 2 ^ s) - 1))]) (rest := []) (r_isIn l D _ (nI t) (nI 0) (nI ((1 * 2 ^ s) - 1))) q401 sq_X4_isIn rfl rfl (Nat.le_of_ble_eq_true rfl) (Nat.le_of_ble_eq_true rfl) (Nat.le_of_ble_eq_true rfl) ⟨(Nat.le_of_ble_eq_true rfl), (Nat.le_of_ble_eq_true rfl)⟩ dX4_word_21 (fun r9 M9 hp => ?_)
  refine rg_top (v2 := .int (nI (mIn (nI t) (nI 0) (nI ((1 * 2 ^ s) - 1))).toNat)) (by first | (rw [hp.1]; done) | (rw [hp.1]; rfl)) ?_
  refine rg_mem (M2 := Ms1) hp.2 ?_
  refine rg_bif_eq F (pc := 24) (tgt := 48) dX4_word_24 (by decide) (fun c24 => absurd c24 (by rw [mIn_n (Nat.zero_le _) (show t ≤ 1 * 2 ^ s - 1 by omega) (by omega)]; decide)) (fun c24 => ?_)
  refine rg_iload_n F (pc := 27) dX4_word_27 rfl ?_
  refine rg_iconst F (pc := 28) (v := nI 0) dX4_word_28 (by decide) ?_
  refine rg_bipush F (pc := 29) (v := nI 9) dX4_word_29 (by decide) ?_
  refine rg_callSi F (pc := 31) (As := [.int (nI v), .int (nI 0), .int (nI 9)]) (rest := []) (r_isIn l D _ (nI v) (nI 0) (nI 9)) q401 sq_X4_isIn rfl rfl (Nat.le_of_ble_eq_true rfl) (Nat.le_of_ble_eq_true rfl) (Nat.le_of_ble_eq_true rfl) ⟨(Nat.le_of_ble_eq_true rfl), (Nat.le_of_ble_eq_true rfl)⟩ dX4_word_31 (fun r9 M9 hp => ?_)
  refine rg_top (v2 := .int (nI (mIn (nI v) (nI 0) (nI 9)).toNat)) (by first | (rw [hp.1]; done) | (rw [hp.1]; rfl)) ?_
  refine rg_mem (M2 := Ms1) hp.2 ?_
  refine rg_bif_eq F (pc := 34) (tgt := 48) dX4_word_34 (by decide) (fun c34 => absurd c34 (by rw [mIn_n (show 0 ≤ v by omega) (show v ≤ 9 by omega) (by omega)]; decide)) (fun c34 => ?_)
  refine rg_iload F (pc := 37) dX4_word_37 rfl ?_
  refine rg_iconst F (pc := 39) (v := nI 0) dX4_word_39 (by decide) ?_
  refine rg_bipush F (pc := 40) (v := nI 9) dX4_word_40 (by decide) ?_
  refine rg_callSi F (pc := 42) (As := [.int (nI e), .int (nI 0), .int (nI 9)]) (rest := []) (r_isIn l D _ (nI e) (nI 0) (nI 9)) q401 sq_X4_isIn rfl rfl (Nat.le_of_ble_eq_true rfl) (Nat.le_of_ble_eq_true rfl) (Nat.le_of_ble_eq_true rfl) ⟨(Nat.le_of_ble_eq_true rfl), (Nat.le_of_ble_eq_true rfl)⟩ dX4_word_42 (fun r9 M9 hp => ?_)
  refine rg_top (v2 := .int (nI (mIn (nI e) (nI 0) (nI 9)).toNat)) (by first | (rw [hp.1]; done) | (rw [hp.1]; rfl)) ?_
  refine rg_mem (M2 := Ms1) hp.2 ?_
  refine rg_bif_ne F (pc := 45) (tgt := 54) dX4_word_45 (by decide) (fun c45 => ?_) (fun c45 => absurd c45 (by rw [mIn_n (show 0 ≤ e by omega) (show e ≤ 9 by omega) (by omega)]; decide))
  refine rg_aload_n F (pc := 54) dX4_word_54 rfl ?_
  refine rg_get F (pc := 55) (ci := 5) rfl inX4 hAs1.1 1 (by decide) q400 (fun _ h9 => h9) rfl dX4_word_55 ?_
  refine rg_bipush F (pc := 58) (v := nI 30) dX4_word_58 (by decide) ?_
  refine rg_ncmp_ne F (pc := 60) (tgt := 69) dX4_word_60 (by decide) (by omega) (by omega) (fun c60 => by exfalso; omega) (fun c60 => ?_)
  refine rg_aload_n F (pc := 63) dX4_word_63 rfl ?_
  refine rg_iconst F (pc := 64) (v := nI 2) dX4_word_64 (by decide) ?_
  refine rg_callVi F (pc := 65) (As := [.int (nI 2)]) (rest := []) (ci := 5) (r_no l D _ m P nW nL ad Fn (nI 0) lo (nI 2) ⟨hP, hAs1, hB⟩) q415 vq_X4_no rfl hAs1.1 rfl rfl (Nat.le_of_ble_eq_true rfl) (Nat.le_of_ble_eq_true rfl) (Nat.le_of_ble_eq_true rfl) ⟨(Nat.le_of_ble_eq_true rfl), (Nat.le_of_ble_eq_true rfl)⟩ dX4_word_65 (fun r9 Mn hp => ?_)
  refine rg_top (v2 := .int (nI 0)) (by rw [hp.1]) ?_
  exact rg_iret F (pc := 68) hrt9 (by decide) (by decide) dX4_word_68 ⟨hP, hp.2.2.1, hB⟩
set_option maxHeartbeats 4000000 in
set_option maxRecDepth 100000 in
theorem r_line1 (l : Launch) (D : va_G) (M : rMem) (m : Nat) (P : Poem) (nW nL : Nat) (ad : Nat → Nat) (Fn : Nat → Nat → Int32) (t lo : Int32) (a9 f9 k9 : Int32) (hV : mV D M m P nW nL ad Fn t lo) (hb : ¬ (mIn a9 (nI 0) (nI 3) = true ∧ mIn f9 (nI 1) (nI 6) = true ∧ mIn k9 (nI 0) (nI 5) = true)) : CMi l D yX4_line cX4_line 4 ((some .int)) 3 0 0 M [.ref (m), .int (a9), .int (f9), .int (k9)] (fun r M' => mV D M' m P nW nL ad Fn (nI 1) lo) := by
  obtain ⟨hP, hA, hB⟩ := id hV
  have hn30 := hP.1.1
  have hn10 := hP.2.1
  refine rM (lv0 := [some (.ref (m)), some (.int (a9)), some (.int (f9)), some (.int (k9))]) (by decide) rfl rfl (Nat.le_of_ble_eq_true rfl) (fun P0 E0 S0 m0 as0 bl0 mt0 c0 A F hrt9 hnm => ?_)
  refine rg_aload_n F (pc := 0) dX4_line_0 rfl ?_
  refine rg_iconst F (pc := 1) (v := nI 0) dX4_line_1 (by decide) ?_
  refine rg_put F (pc := 2) (ci := 5) (ty := tyX4 0) rfl inX4 tyX4 tyX4_ok nmX4 hA.1 0 (by decide) q395 (fun _ h9 => h9) rfl (tyX4_ok 0 (by decide)) rfl rfl (Nat.le_of_ble_eq_true rfl) dX4_line_2 ?_
  refine rm_mem hA (t2 := nI 0) (nW2 := nW) (nL2 := nL) (lo2 := lo) rfl (fun Ms1 hAs1 => ?_)
  refine rg_iload_n F (pc := 5) dX4_line_5 rfl ?_
  refine rg_iconst F (pc := 6) (v := nI 0) dX4_line_6 (by decide) ?_
  refine rg_iconst F (pc := 7) (v := nI 3) dX4_line_7 (by decide) ?_
  refine rg_callSi F (pc := 8) (As := [.int (a9), .int (nI 0), .int (nI 3)]) (rest := []) (r_isIn l D _ a9 (nI 0) (nI 3)) q401 sq_X4_isIn rfl rfl (Nat.le_of_ble_eq_true rfl) (Nat.le_of_ble_eq_true rfl) (Nat.le_of_ble_eq_true rfl) ⟨(Nat.le_of_ble_eq_true rfl), (Nat.le_of_ble_eq_true rfl)⟩ dX4_line_8 (fun r9 M9 hp => ?_)
  refine rg_top (v2 := .int (nI (mIn a9 (nI 0) (nI 3)).toNat)) (by first | (rw [hp.1]; done) | (rw [hp.1]; rfl)) ?_
  refine rg_mem (M2 := Ms1) hp.2 ?_
  refine rg_bif_eq F (pc := 11) (tgt := 33) dX4_line_11 (by decide) (fun c11 => ?_) (fun c11 => ?_)
  · refine rg_aload_n F (pc := 33) dX4_line_33 rfl ?_
    refine rg_iconst F (pc := 34) (v := nI 1) dX4_line_34 (by decide) ?_
    refine rg_callVi F (pc := 35) (As := [.int (nI 1)]) (rest := []) (ci := 5) (r_no l D _ m P nW nL ad Fn (nI 0) lo (nI 1) ⟨hP, hAs1, hB⟩) q415 vq_X4_no rfl hAs1.1 rfl rfl (Nat.le_of_ble_eq_true rfl) (Nat.le_of_ble_eq_true rfl) (Nat.le_of_ble_eq_true rfl) ⟨(Nat.le_of_ble_eq_true rfl), (Nat.le_of_ble_eq_true rfl)⟩ dX4_line_35 (fun r9 Mn hp => ?_)
    refine rg_top (v2 := .int (nI 0)) (by rw [hp.1]) ?_
    exact rg_iret F (pc := 38) hrt9 (by decide) (by decide) dX4_line_38 ⟨hP, hp.2.2.1, hB⟩
  · refine rg_iload_n F (pc := 14) dX4_line_14 rfl ?_
    refine rg_iconst F (pc := 15) (v := nI 1) dX4_line_15 (by decide) ?_
    refine rg_bipush F (pc := 16) (v := nI 6) dX4_line_16 (by decide) ?_
    refine rg_callSi F (pc := 18) (As := [.int (f9), .int (nI 1), .int (nI 6)]) (rest := []) (r_isIn l D _ f9 (nI 1) (nI 6)) q401 sq_X4_isIn rfl rfl (Nat.le_of_ble_eq_true rfl) (Nat.le_of_ble_eq_true rfl) (Nat.le_of_ble_eq_true rfl) ⟨(Nat.le_of_ble_eq_true rfl), (Nat.le_of_ble_eq_true rfl)⟩ dX4_line_18 (fun r9 M9 hp => ?_)
    refine rg_top (v2 := .int (nI (mIn f9 (nI 1) (nI 6)).toNat)) (by first | (rw [hp.1]; done) | (rw [hp.1]; rfl)) ?_
    refine rg_mem (M2 := Ms1) hp.2 ?_
    refine rg_bif_eq F (pc := 21) (tgt := 33) dX4_line_21 (by decide) (fun c21 => ?_) (fun c21 => ?_)
    · refine rg_aload_n F (pc := 33) dX4_line_33 rfl ?_
      refine rg_iconst F (pc := 34) (v := nI 1) dX4_line_34 (by decide) ?_
      refine rg_callVi F (pc := 35) (As := [.int (nI 1)]) (rest := []) (ci := 5) (r_no l D _ m P nW nL ad Fn (nI 0) lo (nI 1) ⟨hP, hAs1, hB⟩) q415 vq_X4_no rfl hAs1.1 rfl rfl (Nat.le_of_ble_eq_true rfl) (Nat.le_of_ble_eq_true rfl) (Nat.le_of_ble_eq_true rfl) ⟨(Nat.le_of_ble_eq_true rfl), (Nat.le_of_ble_eq_true rfl)⟩ dX4_line_35 (fun r9 Mn hp => ?_)
      refine rg_top (v2 := .int (nI 0)) (by rw [hp.1]) ?_
      exact rg_iret F (pc := 38) hrt9 (by decide) (by decide) dX4_line_38 ⟨hP, hp.2.2.1, hB⟩
    · refine rg_iload_n F (pc := 24) dX4_line_24 rfl ?_
      refine rg_iconst F (pc := 25) (v := nI 0) dX4_line_25 (by decide) ?_
      refine rg_iconst F (pc := 26) (v := nI 5) dX4_line_26 (by decide) ?_
      refine rg_callSi F (pc := 27) (As := [.int (k9), .int (nI 0), .int (nI 5)]) (rest := []) (r_isIn l D _ k9 (nI 0) (nI 5)) q401 sq_X4_isIn rfl rfl (Nat.le_of_ble_eq_true rfl) (Nat.le_of_ble_eq_true rfl) (Nat.le_of_ble_eq_true rfl) ⟨(Nat.le_of_ble_eq_true rfl), (Nat.le_of_ble_eq_true rfl)⟩ dX4_line_27 (fun r9 M9 hp => ?_)
      refine rg_top (v2 := .int (nI (mIn k9 (nI 0) (nI 5)).toNat)) (by first | (rw [hp.1]; done) | (rw [hp.1]; rfl)) ?_
      refine rg_mem (M2 := Ms1) hp.2 ?_
      refine rg_bif_ne F (pc := 30) (tgt := 39) dX4_line_30 (by decide) (fun c30 => absurd ⟨c11, c21, c30⟩ hb) (fun c30 => ?_)
      refine rg_aload_n F (pc := 33) dX4_line_33 rfl ?_
      refine rg_iconst F (pc := 34) (v := nI 1) dX4_line_34 (by decide) ?_
      refine rg_callVi F (pc := 35) (As := [.int (nI 1)]) (rest := []) (ci := 5) (r_no l D _ m P nW nL ad Fn (nI 0) lo (nI 1) ⟨hP, hAs1, hB⟩) q415 vq_X4_no rfl hAs1.1 rfl rfl (Nat.le_of_ble_eq_true rfl) (Nat.le_of_ble_eq_true rfl) (Nat.le_of_ble_eq_true rfl) ⟨(Nat.le_of_ble_eq_true rfl), (Nat.le_of_ble_eq_true rfl)⟩ dX4_line_35 (fun r9 Mn hp => ?_)
      refine rg_top (v2 := .int (nI 0)) (by rw [hp.1]) ?_
      exact rg_iret F (pc := 38) hrt9 (by decide) (by decide) dX4_line_38 ⟨hP, hp.2.2.1, hB⟩
set_option maxHeartbeats 4000000 in
set_option maxRecDepth 100000 in
theorem r_line2 (l : Launch) (D : va_G) (M : rMem) (m : Nat) (P : Poem) (nW nL : Nat) (ad : Nat → Nat) (Fn : Nat → Nat → Int32) (t lo : Int32) (a f k : Nat) (hV : mV D M m P nW nL ad Fn t lo) (hn : nL = 10) (hm4 : a < 4) (hfa : 1 ≤ f) (hf6 : f ≤ 6) (hk : k < 6) : CMi l D yX4_line cX4_line 4 ((some .int)) 3 0 0 M [.ref (m), .int (nI a), .int (nI f), .int (nI k)] (fun r M' => mV D M' m P nW nL ad Fn (nI 2) lo) := by
  obtain ⟨hP, hA, hB⟩ := id hV
  have hn30 := hP.1.1
  have hn10 := hP.2.1
  refine rM (lv0 := [some (.ref (m)), some (.int (nI a)), some (.int (nI f)), some (.int (nI k))]) (by decide) rfl rfl (Nat.le_of_ble_eq_true rfl) (fun P0 E0 S0 m0 as0 bl0 mt0 c0 A F hrt9 hnm => ?_)
  refine rg_aload_n F (pc := 0) dX4_line_0 rfl ?_
  refine rg_iconst F (pc := 1) (v := nI 0) dX4_line_1 (by decide) ?_
  refine rg_put F (pc := 2) (ci := 5) (ty := tyX4 0) rfl inX4 tyX4 tyX4_ok nmX4 hA.1 0 (by decide) q395 (fun _ h9 => h9) rfl (tyX4_ok 0 (by decide)) rfl rfl (Nat.le_of_ble_eq_true rfl) dX4_line_2 ?_
  refine rm_mem hA (t2 := nI 0) (nW2 := nW) (nL2 := nL) (lo2 := lo) rfl (fun Ms1 hAs1 => ?_)
  refine rg_iload_n F (pc := 5) dX4_line_5 rfl ?_
  refine rg_iconst F (pc := 6) (v := nI 0) dX4_line_6 (by decide) ?_
  refine rg_iconst F (pc := 7) (v := nI 3) dX4_line_7 (by decide) ?_
  refine rg_callSi F (pc := 8) (As := [.int (nI a), .int (nI 0), .int (nI 3)]) (rest := []) (r_isIn l D _ (nI a) (nI 0) (nI 3)) q401 sq_X4_isIn rfl rfl (Nat.le_of_ble_eq_true rfl) (Nat.le_of_ble_eq_true rfl) (Nat.le_of_ble_eq_true rfl) ⟨(Nat.le_of_ble_eq_true rfl), (Nat.le_of_ble_eq_true rfl)⟩ dX4_line_8 (fun r9 M9 hp => ?_)
  refine rg_top (v2 := .int (nI (mIn (nI a) (nI 0) (nI 3)).toNat)) (by first | (rw [hp.1]; done) | (rw [hp.1]; rfl)) ?_
  refine rg_mem (M2 := Ms1) hp.2 ?_
  refine rg_bif_eq F (pc := 11) (tgt := 33) dX4_line_11 (by decide) (fun c11 => absurd c11 (by rw [mIn_n (show 0 ≤ a by omega) (show a ≤ 3 by omega) (by omega)]; decide)) (fun c11 => ?_)
  refine rg_iload_n F (pc := 14) dX4_line_14 rfl ?_
  refine rg_iconst F (pc := 15) (v := nI 1) dX4_line_15 (by decide) ?_
  refine rg_bipush F (pc := 16) (v := nI 6) dX4_line_16 (by decide) ?_
  refine rg_callSi F (pc := 18) (As := [.int (nI f), .int (nI 1), .int (nI 6)]) (rest := []) (r_isIn l D _ (nI f) (nI 1) (nI 6)) q401 sq_X4_isIn rfl rfl (Nat.le_of_ble_eq_true rfl) (Nat.le_of_ble_eq_true rfl) (Nat.le_of_ble_eq_true rfl) ⟨(Nat.le_of_ble_eq_true rfl), (Nat.le_of_ble_eq_true rfl)⟩ dX4_line_18 (fun r9 M9 hp => ?_)
  refine rg_top (v2 := .int (nI (mIn (nI f) (nI 1) (nI 6)).toNat)) (by first | (rw [hp.1]; done) | (rw [hp.1]; rfl)) ?_
  refine rg_mem (M2 := Ms1) hp.2 ?_
  refine rg_bif_eq F (pc := 21) (tgt := 33) dX4_line_21 (by decide) (fun c21 => absurd c21 (by rw [mIn_n (show 1 ≤ f by omega) (show f ≤ 6 by omega) (by omega)]; decide)) (fun c21 => ?_)
  refine rg_iload_n F (pc := 24) dX4_line_24 rfl ?_
  refine rg_iconst F (pc := 25) (v := nI 0) dX4_line_25 (by decide) ?_
  refine rg_iconst F (pc := 26) (v := nI 5) dX4_line_26 (by decide) ?_
  refine rg_callSi F (pc := 27) (As := [.int (nI k), .int (nI 0), .int (nI 5)]) (rest := []) (r_isIn l D _ (nI k) (nI 0) (nI 5)) q401 sq_X4_isIn rfl rfl (Nat.le_of_ble_eq_true rfl) (Nat.le_of_ble_eq_true rfl) (Nat.le_of_ble_eq_true rfl) ⟨(Nat.le_of_ble_eq_true rfl), (Nat.le_of_ble_eq_true rfl)⟩ dX4_line_27 (fun r9 M9 hp => ?_)
  refine rg_top (v2 := .int (nI (mIn (nI k) (nI 0) (nI 5)).toNat)) (by first | (rw [hp.1]; done) | (rw [hp.1]; rfl)) ?_
  refine rg_mem (M2 := Ms1) hp.2 ?_
  refine rg_bif_ne F (pc := 30) (tgt := 39) dX4_line_30 (by decide) (fun c30 => ?_) (fun c30 => absurd c30 (by rw [mIn_n (show 0 ≤ k by omega) (show k ≤ 5 by omega) (by omega)]; decide))
  refine rg_aload_n F (pc := 39) dX4_line_39 rfl ?_
  refine rg_get F (pc := 40) (ci := 5) rfl inX4 hAs1.1 7 (by decide) q406 (fun _ h9 => h9) rfl dX4_line_40 ?_
  refine rg_bipush F (pc := 43) (v := nI 10) dX4_line_43 (by decide) ?_
  refine rg_ncmp_ne F (pc := 45) (tgt := 54) dX4_line_45 (by decide) (by omega) (by omega) (fun c45 => by exfalso; omega) (fun c45 => ?_)
  refine rg_aload_n F (pc := 48) dX4_line_48 rfl ?_
  refine rg_iconst F (pc := 49) (v := nI 2) dX4_line_49 (by decide) ?_
  refine rg_callVi F (pc := 50) (As := [.int (nI 2)]) (rest := []) (ci := 5) (r_no l D _ m P nW nL ad Fn (nI 0) lo (nI 2) ⟨hP, hAs1, hB⟩) q415 vq_X4_no rfl hAs1.1 rfl rfl (Nat.le_of_ble_eq_true rfl) (Nat.le_of_ble_eq_true rfl) (Nat.le_of_ble_eq_true rfl) ⟨(Nat.le_of_ble_eq_true rfl), (Nat.le_of_ble_eq_true rfl)⟩ dX4_line_50 (fun r9 Mn hp => ?_)
  refine rg_top (v2 := .int (nI 0)) (by rw [hp.1]) ?_
  exact rg_iret F (pc := 53) hrt9 (by decide) (by decide) dX4_line_53 ⟨hP, hp.2.2.1, hB⟩
set_option maxHeartbeats 4000000 in
set_option maxRecDepth 100000 in
theorem r_writeB (l : Launch) (D : va_G) (M : rMem) (m : Nat) (P : Poem) (nW nL : Nat) (ad : Nat → Nat) (Fn : Nat → Nat → Int32) (t lo : Int32) (i p w : Nat) (hV : mV D M m P nW nL ad Fn t lo) (hi : i < nL) (hp9 : p < zC P i) (hw : w < nW) : CMi l D yX4_write cX4_write 4 ((some .int)) 3 0 0 M [.ref (m), .int (nI i), .int (nI p), .int (nI w)] (fun r M' => r = nI (zC (zPut P i p w) i) ∧ ∃ F', mV D M' m (zPut P i p w) nW nL ad F' (nI 0) lo) := by
  obtain ⟨hP, hA, hB⟩ := id hV
  have hn30 := hP.1.1
  have hn10 := hP.2.1
  have hz8 := (hP.2.2 i hi).2.2.2.2.1
  have hPp : zOk (zPut P i p w) nW nL := ⟨hP.1, hP.2.1, fun k hk => zPut_ok (hP.2.2 i hi) (hP.2.2 k hk) hw (Nat.le_of_lt hp9) (by omega)⟩
  refine rM (lv0 := [some (.ref (m)), some (.int (nI i)), some (.int (nI p)), some (.int (nI w))]) (by decide) rfl rfl (Nat.le_of_ble_eq_true rfl) (fun P0 E0 S0 m0 as0 bl0 mt0 c0 A F hrt9 hnm => ?_)
  refine rg_aload_n F (pc := 0) dX4_write_0 rfl ?_
  refine rg_iconst F (pc := 1) (v := nI 0) dX4_write_1 (by decide) ?_
  refine rg_put F (pc := 2) (ci := 5) (ty := tyX4 0) rfl inX4 tyX4 tyX4_ok nmX4 hA.1 0 (by decide) q395 (fun _ h9 => h9) rfl (tyX4_ok 0 (by decide)) rfl rfl (Nat.le_of_ble_eq_true rfl) dX4_write_2 ?_
  refine rm_mem hA (t2 := nI 0) (nW2 := nW) (nL2 := nL) (lo2 := lo) rfl (fun Ms1 hAs1 => ?_)
  refine rg_aload_n F (pc := 5) dX4_write_5 rfl ?_
  refine rg_iload_n F (pc := 6) dX4_write_6 rfl ?_
  refine rg_callVi F (pc := 7) (As := [.int (nI i)]) (rest := []) (ci := 5) (r_isLine l D _ m P nW nL ad Fn (nI 0) lo (nI i) ⟨hP, hAs1, hB⟩) q482 vq_X4_isLine rfl hAs1.1 rfl rfl (Nat.le_of_ble_eq_true rfl) (Nat.le_of_ble_eq_true rfl) (Nat.le_of_ble_eq_true rfl) ⟨(Nat.le_of_ble_eq_true rfl), (Nat.le_of_ble_eq_true rfl)⟩ dX4_write_7 (fun r9 M9 hp => ?_)
  refine rg_top (v2 := .int (nI (rBel (nI i) nL).toNat)) (by first | (rw [hp.1]; done) | (rw [hp.1]; rfl)) ?_
  refine rg_mem (M2 := Ms1) hp.2 ?_
  refine rg_bif_eq F (pc := 10) (tgt := 35) dX4_write_10 (by decide) (fun c10 => absurd c10 (by rw [rBel_nI (by omega), decide_eq_true hi]; decide)) (fun c10 => ?_)
  refine rg_iload_n F (pc := 13) dX4_write_13 rfl ?_
  refine rg_iconst F (pc := 14) (v := nI 0) dX4_write_14 (by decide) ?_
  refine rg_aload_n F (pc := 15) dX4_write_15 rfl ?_
  refine rg_get F (pc := 16) (ci := 5) rfl inX4 hAs1.1 11 (by decide) q407 (fun _ h9 => h9) rfl dX4_write_16 ?_
  refine rg_iload_n F (pc := 19) dX4_write_19 rfl ?_
  refine rm_ld F hAs1 (pc := 20) (q := 8) (j := i) (x := nI (zC P i)) (by decide) (show i < 10 by omega) (hB.2.2.1 i (by omega)) dX4_write_20 ?_
  refine rg_callSi F (pc := 21) (As := [.int (nI p), .int (nI 0), .int (nI (zC P i))]) (rest := []) (r_isIn l D _ (nI p) (nI 0) (nI (zC P i))) q401 sq_X4_isIn rfl rfl (Nat.le_of_ble_eq_true rfl) (Nat.le_of_ble_eq_true rfl) (Nat.le_of_ble_eq_true rfl) ⟨(Nat.le_of_ble_eq_true rfl), (Nat.le_of_ble_eq_true rfl)⟩ dX4_write_21 (fun r9 M9 hp => ?_)
  refine rg_top (v2 := .int (nI (mIn (nI p) (nI 0) (nI (zC P i))).toNat)) (by first | (rw [hp.1]; done) | (rw [hp.1]; rfl)) ?_
  refine rg_mem (M2 := Ms1) hp.2 ?_
  refine rg_bif_eq F (pc := 24) (tgt := 35) dX4_write_24 (by decide) (fun c24 => absurd c24 (by rw [mIn_bel2 (by omega), rBel_nI (by omega), decide_eq_true (show p < zC P i + 1 by omega)]; decide)) (fun c24 => ?_)
  refine rg_aload_n F (pc := 27) dX4_write_27 rfl ?_
  refine rg_iload_n F (pc := 28) dX4_write_28 rfl ?_
  refine rg_callVi F (pc := 29) (As := [.int (nI w)]) (rest := []) (ci := 5) (r_isWord l D _ m P nW nL ad Fn (nI 0) lo (nI w) ⟨hP, hAs1, hB⟩) q396 vq_X4_isWord rfl hAs1.1 rfl rfl (Nat.le_of_ble_eq_true rfl) (Nat.le_of_ble_eq_true rfl) (Nat.le_of_ble_eq_true rfl) ⟨(Nat.le_of_ble_eq_true rfl), (Nat.le_of_ble_eq_true rfl)⟩ dX4_write_29 (fun r9 M9 hp => ?_)
  refine rg_top (v2 := .int (nI (rBel (nI w) nW).toNat)) (by first | (rw [hp.1]; done) | (rw [hp.1]; rfl)) ?_
  refine rg_mem (M2 := Ms1) hp.2 ?_
  refine rg_bif_ne F (pc := 32) (tgt := 41) dX4_write_32 (by decide) (fun c32 => ?_) (fun c32 => absurd c32 (by rw [rBel_nI (by omega), decide_eq_true hw]; decide))
  refine rg_iload_n F (pc := 41) dX4_write_41 rfl ?_
  refine rg_bipush F (pc := 42) (v := nI 8) dX4_write_42 (by decide) ?_
  refine rg_ncmp_ne F (pc := 44) (tgt := 53) dX4_write_44 (by decide) (by omega) (by omega) (fun c44 => ?_) (fun c44 => by exfalso; omega)
  refine rg_aload_n F (pc := 53) dX4_write_53 rfl ?_
  refine rg_get F (pc := 54) (ci := 5) rfl inX4 hAs1.1 12 (by decide) q408 (fun _ h9 => h9) rfl dX4_write_54 ?_
  refine rg_bipush F (pc := 57) (v := nI 8) dX4_write_57 (by decide) ?_
  refine rg_iload_n F (pc := 59) dX4_write_59 rfl ?_
  refine rg_imul F (pc := 60) (v := nI (8 * i)) dX4_write_60 (pk_mul _ _) ?_
  refine rg_iload_n F (pc := 61) dX4_write_61 rfl ?_
  refine rg_iadd F (pc := 62) (v := nI ((8 * i) + p)) dX4_write_62 (nI_add _ _) ?_
  refine rg_iload_n F (pc := 63) dX4_write_63 rfl ?_
  refine rm_st F hAs1 (pc := 64) (q := 9) (j := (8 * i) + p) (x := nI w) (by decide) (show (8 * i) + p < 80 by omega) dX4_write_64 (fun Ms2 hAs2 => ?_)
  have hB2 : mB (zPut P i p w) nW nL (sf Fn 9 (upd (Fn 9) ((8 * i) + p) (nI w))) := mB_put hP hB hi hp9
  refine rg_iload_n F (pc := 65) dX4_write_65 rfl ?_
  refine rg_aload_n F (pc := 66) dX4_write_66 rfl ?_
  refine rg_get F (pc := 67) (ci := 5) rfl inX4 hAs2.1 11 (by decide) q407 (fun _ h9 => h9) rfl dX4_write_67 ?_
  refine rg_iload_n F (pc := 70) dX4_write_70 rfl ?_
  refine rm_ld F hAs2 (pc := 71) (q := 8) (j := i) (x := nI (zC P i)) (by decide) (show i < 10 by omega) (hB.2.2.1 i (by omega)) dX4_write_71 ?_
  refine rg_ncmp_ne F (pc := 72) (tgt := 85) dX4_write_72 (by decide) (by omega) (by omega) (fun c72 => ?_) (fun c72 => by exfalso; omega)
  refine rg_aload_n F (pc := 85) dX4_write_85 rfl ?_
  refine rg_get F (pc := 86) (ci := 5) rfl inX4 hAs2.1 11 (by decide) q407 (fun _ h9 => h9) rfl dX4_write_86 ?_
  refine rg_iload_n F (pc := 89) dX4_write_89 rfl ?_
  refine rm_ld F hAs2 (pc := 90) (q := 8) (j := i) (x := nI (zC P i)) (by decide) (show i < 10 by omega) (hB.2.2.1 i (by omega)) dX4_write_90 ?_
  exact rg_iret F (pc := 91) hrt9 (by decide) (by decide) dX4_write_91 ⟨by rw [zPut_b hp9], _, hPp, hAs2, hB2⟩
set_option maxHeartbeats 4000000 in
set_option maxRecDepth 100000 in
theorem r_writeA (l : Launch) (D : va_G) (M : rMem) (m : Nat) (P : Poem) (nW nL : Nat) (ad : Nat → Nat) (Fn : Nat → Nat → Int32) (t lo : Int32) (i w : Nat) (hV : mV D M m P nW nL ad Fn t lo) (hi : i < nL) (hp9 : zC P i < 8) (hw : w < nW) : CMi l D yX4_write cX4_write 4 ((some .int)) 3 0 0 M [.ref (m), .int (nI i), .int (nI (zC P i)), .int (nI w)] (fun r M' => r = nI (zC (zPut P i (zC P i) w) i) ∧ ∃ F', mV D M' m (zPut P i (zC P i) w) nW nL ad F' (nI 0) lo) := by
  obtain ⟨hP, hA, hB⟩ := id hV
  have hn30 := hP.1.1
  have hn10 := hP.2.1
  have hz8 := (hP.2.2 i hi).2.2.2.2.1
  have hPp : zOk (zPut P i (zC P i) w) nW nL := ⟨hP.1, hP.2.1, fun k hk => zPut_ok (hP.2.2 i hi) (hP.2.2 k hk) hw (Nat.le_refl _) hp9⟩
  refine rM (lv0 := [some (.ref (m)), some (.int (nI i)), some (.int (nI (zC P i))), some (.int (nI w))]) (by decide) rfl rfl (Nat.le_of_ble_eq_true rfl) (fun P0 E0 S0 m0 as0 bl0 mt0 c0 A F hrt9 hnm => ?_)
  refine rg_aload_n F (pc := 0) dX4_write_0 rfl ?_
  refine rg_iconst F (pc := 1) (v := nI 0) dX4_write_1 (by decide) ?_
  refine rg_put F (pc := 2) (ci := 5) (ty := tyX4 0) rfl inX4 tyX4 tyX4_ok nmX4 hA.1 0 (by decide) q395 (fun _ h9 => h9) rfl (tyX4_ok 0 (by decide)) rfl rfl (Nat.le_of_ble_eq_true rfl) dX4_write_2 ?_
  refine rm_mem hA (t2 := nI 0) (nW2 := nW) (nL2 := nL) (lo2 := lo) rfl (fun Ms1 hAs1 => ?_)
  refine rg_aload_n F (pc := 5) dX4_write_5 rfl ?_
  refine rg_iload_n F (pc := 6) dX4_write_6 rfl ?_
  refine rg_callVi F (pc := 7) (As := [.int (nI i)]) (rest := []) (ci := 5) (r_isLine l D _ m P nW nL ad Fn (nI 0) lo (nI i) ⟨hP, hAs1, hB⟩) q482 vq_X4_isLine rfl hAs1.1 rfl rfl (Nat.le_of_ble_eq_true rfl) (Nat.le_of_ble_eq_true rfl) (Nat.le_of_ble_eq_true rfl) ⟨(Nat.le_of_ble_eq_true rfl), (Nat.le_of_ble_eq_true rfl)⟩ dX4_write_7 (fun r9 M9 hp => ?_)
  refine rg_top (v2 := .int (nI (rBel (nI i) nL).toNat)) (by first | (rw [hp.1]; done) | (rw [hp.1]; rfl)) ?_
  refine rg_mem (M2 := Ms1) hp.2 ?_
  refine rg_bif_eq F (pc := 10) (tgt := 35) dX4_write_10 (by decide) (fun c10 => absurd c10 (by rw [rBel_nI (by omega), decide_eq_true hi]; decide)) (fun c10 => ?_)
  refine rg_iload_n F (pc := 13) dX4_write_13 rfl ?_
  refine rg_iconst F (pc := 14) (v := nI 0) dX4_write_14 (by decide) ?_
  refine rg_aload_n F (pc := 15) dX4_write_15 rfl ?_
  refine rg_get F (pc := 16) (ci := 5) rfl inX4 hAs1.1 11 (by decide) q407 (fun _ h9 => h9) rfl dX4_write_16 ?_
  refine rg_iload_n F (pc := 19) dX4_write_19 rfl ?_
  refine rm_ld F hAs1 (pc := 20) (q := 8) (j := i) (x := nI (zC P i)) (by decide) (show i < 10 by omega) (hB.2.2.1 i (by omega)) dX4_write_20 ?_
  refine rg_callSi F (pc := 21) (As := [.int (nI (zC P i)), .int (nI 0), .int (nI (zC P i))]) (rest := []) (r_isIn l D _ (nI (zC P i)) (nI 0) (nI (zC P i))) q401 sq_X4_isIn rfl rfl (Nat.le_of_ble_eq_true rfl) (Nat.le_of_ble_eq_true rfl) (Nat.le_of_ble_eq_true rfl) ⟨(Nat.le_of_ble_eq_true rfl), (Nat.le_of_ble_eq_true rfl)⟩ dX4_write_21 (fun r9 M9 hp => ?_)
  refine rg_top (v2 := .int (nI (mIn (nI (zC P i)) (nI 0) (nI (zC P i))).toNat)) (by first | (rw [hp.1]; done) | (rw [hp.1]; rfl)) ?_
  refine rg_mem (M2 := Ms1) hp.2 ?_
  refine rg_bif_eq F (pc := 24) (tgt := 35) dX4_write_24 (by decide) (fun c24 => absurd c24 (by rw [mIn_bel2 (by omega), rBel_nI (by omega), decide_eq_true (show zC P i < zC P i + 1 by omega)]; decide)) (fun c24 => ?_)
  refine rg_aload_n F (pc := 27) dX4_write_27 rfl ?_
  refine rg_iload_n F (pc := 28) dX4_write_28 rfl ?_
  refine rg_callVi F (pc := 29) (As := [.int (nI w)]) (rest := []) (ci := 5) (r_isWord l D _ m P nW nL ad Fn (nI 0) lo (nI w) ⟨hP, hAs1, hB⟩) q396 vq_X4_isWord rfl hAs1.1 rfl rfl (Nat.le_of_ble_eq_true rfl) (Nat.le_of_ble_eq_true rfl) (Nat.le_of_ble_eq_true rfl) ⟨(Nat.le_of_ble_eq_true rfl), (Nat.le_of_ble_eq_true rfl)⟩ dX4_write_29 (fun r9 M9 hp => ?_)
  refine rg_top (v2 := .int (nI (rBel (nI w) nW).toNat)) (by first | (rw [hp.1]; done) | (rw [hp.1]; rfl)) ?_
  refine rg_mem (M2 := Ms1) hp.2 ?_
  refine rg_bif_ne F (pc := 32) (tgt := 41) dX4_write_32 (by decide) (fun c32 => ?_) (fun c32 => absurd c32 (by rw [rBel_nI (by omega), decide_eq_true hw]; decide))
  refine rg_iload_n F (pc := 41) dX4_write_41 rfl ?_
  refine rg_bipush F (pc := 42) (v := nI 8) dX4_write_42 (by decide) ?_
  refine rg_ncmp_ne F (pc := 44) (tgt := 53) dX4_write_44 (by decide) (by omega) (by omega) (fun c44 => ?_) (fun c44 => by exfalso; omega)
  refine rg_aload_n F (pc := 53) dX4_write_53 rfl ?_
  refine rg_get F (pc := 54) (ci := 5) rfl inX4 hAs1.1 12 (by decide) q408 (fun _ h9 => h9) rfl dX4_write_54 ?_
  refine rg_bipush F (pc := 57) (v := nI 8) dX4_write_57 (by decide) ?_
  refine rg_iload_n F (pc := 59) dX4_write_59 rfl ?_
  refine rg_imul F (pc := 60) (v := nI (8 * i)) dX4_write_60 (pk_mul _ _) ?_
  refine rg_iload_n F (pc := 61) dX4_write_61 rfl ?_
  refine rg_iadd F (pc := 62) (v := nI ((8 * i) + (zC P i))) dX4_write_62 (nI_add _ _) ?_
  refine rg_iload_n F (pc := 63) dX4_write_63 rfl ?_
  refine rm_st F hAs1 (pc := 64) (q := 9) (j := (8 * i) + (zC P i)) (x := nI w) (by decide) (show (8 * i) + (zC P i) < 80 by omega) dX4_write_64 (fun Ms2 hAs2 => ?_)
  refine rg_iload_n F (pc := 65) dX4_write_65 rfl ?_
  refine rg_aload_n F (pc := 66) dX4_write_66 rfl ?_
  refine rg_get F (pc := 67) (ci := 5) rfl inX4 hAs2.1 11 (by decide) q407 (fun _ h9 => h9) rfl dX4_write_67 ?_
  refine rg_iload_n F (pc := 70) dX4_write_70 rfl ?_
  refine rm_ld F hAs2 (pc := 71) (q := 8) (j := i) (x := nI (zC P i)) (by decide) (show i < 10 by omega) (hB.2.2.1 i (by omega)) dX4_write_71 ?_
  refine rg_ncmp_ne F (pc := 72) (tgt := 85) dX4_write_72 (by decide) (by omega) (by omega) (fun c72 => by exfalso; omega) (fun c72 => ?_)
  refine rg_aload_n F (pc := 75) dX4_write_75 rfl ?_
  refine rg_get F (pc := 76) (ci := 5) rfl inX4 hAs2.1 11 (by decide) q407 (fun _ h9 => h9) rfl dX4_write_76 ?_
  refine rg_iload_n F (pc := 79) dX4_write_79 rfl ?_
  refine rg_dup2 F (pc := 80) dX4_write_80 rfl rfl ?_
  refine rm_ld F hAs2 (pc := 81) (q := 8) (j := i) (x := nI (zC P i)) (by decide) (show i < 10 by omega) (hB.2.2.1 i (by omega)) dX4_write_81 ?_
  refine rg_iconst F (pc := 82) (v := nI 1) dX4_write_82 (by decide) ?_
  refine rg_iadd F (pc := 83) (v := nI ((zC P i) + 1)) dX4_write_83 (nI_add _ _) ?_
  refine rm_st F hAs2 (pc := 84) (q := 8) (j := i) (x := nI ((zC P i) + 1)) (by decide) (show i < 10 by omega) dX4_write_84 (fun Ms3 hAs3 => ?_)
  refine rg_aload_n F (pc := 85) dX4_write_85 rfl ?_
  refine rg_get F (pc := 86) (ci := 5) rfl inX4 hAs3.1 11 (by decide) q407 (fun _ h9 => h9) rfl dX4_write_86 ?_
  refine rg_iload_n F (pc := 89) dX4_write_89 rfl ?_
  refine rm_ld F hAs3 (pc := 90) (q := 8) (j := i) (x := nI (zC P i + 1)) (by decide) (show i < 10 by omega) (show upd _ i _ i = _ from upd_eq _ _ _) dX4_write_90 ?_
  exact rg_iret F (pc := 91) hrt9 (by decide) (by decide) dX4_write_91 ⟨by rw [zPut_a], _, hPp, hAs3, mB_app hP hB hi hp9⟩
set_option maxHeartbeats 4000000 in
set_option maxRecDepth 100000 in
theorem r_write1 (l : Launch) (D : va_G) (M : rMem) (m : Nat) (P : Poem) (nW nL : Nat) (ad : Nat → Nat) (Fn : Nat → Nat → Int32) (t lo : Int32) (j q z : Int32) (hV : mV D M m P nW nL ad Fn t lo) (hb : rBel j nL = false) : CMi l D yX4_write cX4_write 4 ((some .int)) 3 0 0 M [.ref (m), .int (j), .int (q), .int (z)] (fun r M' => mV D M' m P nW nL ad Fn (nI 1) lo) := by
  obtain ⟨hP, hA, hB⟩ := id hV
  have hn30 := hP.1.1
  have hn10 := hP.2.1
  refine rM (lv0 := [some (.ref (m)), some (.int (j)), some (.int (q)), some (.int (z))]) (by decide) rfl rfl (Nat.le_of_ble_eq_true rfl) (fun P0 E0 S0 m0 as0 bl0 mt0 c0 A F hrt9 hnm => ?_)
  refine rg_aload_n F (pc := 0) dX4_write_0 rfl ?_
  refine rg_iconst F (pc := 1) (v := nI 0) dX4_write_1 (by decide) ?_
  refine rg_put F (pc := 2) (ci := 5) (ty := tyX4 0) rfl inX4 tyX4 tyX4_ok nmX4 hA.1 0 (by decide) q395 (fun _ h9 => h9) rfl (tyX4_ok 0 (by decide)) rfl rfl (Nat.le_of_ble_eq_true rfl) dX4_write_2 ?_
  refine rm_mem hA (t2 := nI 0) (nW2 := nW) (nL2 := nL) (lo2 := lo) rfl (fun Ms1 hAs1 => ?_)
  refine rg_aload_n F (pc := 5) dX4_write_5 rfl ?_
  refine rg_iload_n F (pc := 6) dX4_write_6 rfl ?_
  refine rg_callVi F (pc := 7) (As := [.int (j)]) (rest := []) (ci := 5) (r_isLine l D _ m P nW nL ad Fn (nI 0) lo j ⟨hP, hAs1, hB⟩) q482 vq_X4_isLine rfl hAs1.1 rfl rfl (Nat.le_of_ble_eq_true rfl) (Nat.le_of_ble_eq_true rfl) (Nat.le_of_ble_eq_true rfl) ⟨(Nat.le_of_ble_eq_true rfl), (Nat.le_of_ble_eq_true rfl)⟩ dX4_write_7 (fun r9 M9 hp => ?_)
  refine rg_top (v2 := .int (nI (rBel j nL).toNat)) (by first | (rw [hp.1]; done) | (rw [hp.1]; rfl)) ?_
  refine rg_mem (M2 := Ms1) hp.2 ?_
  refine rg_bif_eq F (pc := 10) (tgt := 35) dX4_write_10 (by decide) (fun c10 => ?_) (fun c10 => absurd c10 (by rw [hb]; decide))
  refine rg_aload_n F (pc := 35) dX4_write_35 rfl ?_
  refine rg_iconst F (pc := 36) (v := nI 1) dX4_write_36 (by decide) ?_
  refine rg_callVi F (pc := 37) (As := [.int (nI 1)]) (rest := []) (ci := 5) (r_no l D _ m P nW nL ad Fn (nI 0) lo (nI 1) ⟨hP, hAs1, hB⟩) q415 vq_X4_no rfl hAs1.1 rfl rfl (Nat.le_of_ble_eq_true rfl) (Nat.le_of_ble_eq_true rfl) (Nat.le_of_ble_eq_true rfl) ⟨(Nat.le_of_ble_eq_true rfl), (Nat.le_of_ble_eq_true rfl)⟩ dX4_write_37 (fun r9 Mn hp => ?_)
  refine rg_top (v2 := .int (nI 0)) (by rw [hp.1]) ?_
  exact rg_iret F (pc := 40) hrt9 (by decide) (by decide) dX4_write_40 ⟨hP, hp.2.2.1, hB⟩
set_option maxHeartbeats 4000000 in
set_option maxRecDepth 100000 in
theorem r_write2 (l : Launch) (D : va_G) (M : rMem) (m : Nat) (P : Poem) (nW nL : Nat) (ad : Nat → Nat) (Fn : Nat → Nat → Int32) (t lo : Int32) (i : Nat) (j z : Int32) (hV : mV D M m P nW nL ad Fn t lo) (hi : i < nL) (hb : rBel j (zC P i + 1) = false) : CMi l D yX4_write cX4_write 4 ((some .int)) 3 0 0 M [.ref (m), .int (nI i), .int (j), .int (z)] (fun r M' => mV D M' m P nW nL ad Fn (nI 1) lo) := by
  obtain ⟨hP, hA, hB⟩ := id hV
  have hn30 := hP.1.1
  have hn10 := hP.2.1
  have hz8 := (hP.2.2 i hi).2.2.2.2.1
  refine rM (lv0 := [some (.ref (m)), some (.int (nI i)), some (.int (j)), some (.int (z))]) (by decide) rfl rfl (Nat.le_of_ble_eq_true rfl) (fun P0 E0 S0 m0 as0 bl0 mt0 c0 A F hrt9 hnm => ?_)
  refine rg_aload_n F (pc := 0) dX4_write_0 rfl ?_
  refine rg_iconst F (pc := 1) (v := nI 0) dX4_write_1 (by decide) ?_
  refine rg_put F (pc := 2) (ci := 5) (ty := tyX4 0) rfl inX4 tyX4 tyX4_ok nmX4 hA.1 0 (by decide) q395 (fun _ h9 => h9) rfl (tyX4_ok 0 (by decide)) rfl rfl (Nat.le_of_ble_eq_true rfl) dX4_write_2 ?_
  refine rm_mem hA (t2 := nI 0) (nW2 := nW) (nL2 := nL) (lo2 := lo) rfl (fun Ms1 hAs1 => ?_)
  refine rg_aload_n F (pc := 5) dX4_write_5 rfl ?_
  refine rg_iload_n F (pc := 6) dX4_write_6 rfl ?_
  refine rg_callVi F (pc := 7) (As := [.int (nI i)]) (rest := []) (ci := 5) (r_isLine l D _ m P nW nL ad Fn (nI 0) lo (nI i) ⟨hP, hAs1, hB⟩) q482 vq_X4_isLine rfl hAs1.1 rfl rfl (Nat.le_of_ble_eq_true rfl) (Nat.le_of_ble_eq_true rfl) (Nat.le_of_ble_eq_true rfl) ⟨(Nat.le_of_ble_eq_true rfl), (Nat.le_of_ble_eq_true rfl)⟩ dX4_write_7 (fun r9 M9 hp => ?_)
  refine rg_top (v2 := .int (nI (rBel (nI i) nL).toNat)) (by first | (rw [hp.1]; done) | (rw [hp.1]; rfl)) ?_
  refine rg_mem (M2 := Ms1) hp.2 ?_
  refine rg_bif_eq F (pc := 10) (tgt := 35) dX4_write_10 (by decide) (fun c10 => absurd c10 (by rw [rBel_nI (by omega), decide_eq_true hi]; decide)) (fun c10 => ?_)
  refine rg_iload_n F (pc := 13) dX4_write_13 rfl ?_
  refine rg_iconst F (pc := 14) (v := nI 0) dX4_write_14 (by decide) ?_
  refine rg_aload_n F (pc := 15) dX4_write_15 rfl ?_
  refine rg_get F (pc := 16) (ci := 5) rfl inX4 hAs1.1 11 (by decide) q407 (fun _ h9 => h9) rfl dX4_write_16 ?_
  refine rg_iload_n F (pc := 19) dX4_write_19 rfl ?_
  refine rm_ld F hAs1 (pc := 20) (q := 8) (j := i) (x := nI (zC P i)) (by decide) (show i < 10 by omega) (hB.2.2.1 i (by omega)) dX4_write_20 ?_
  refine rg_callSi F (pc := 21) (As := [.int (j), .int (nI 0), .int (nI (zC P i))]) (rest := []) (r_isIn l D _ j (nI 0) (nI (zC P i))) q401 sq_X4_isIn rfl rfl (Nat.le_of_ble_eq_true rfl) (Nat.le_of_ble_eq_true rfl) (Nat.le_of_ble_eq_true rfl) ⟨(Nat.le_of_ble_eq_true rfl), (Nat.le_of_ble_eq_true rfl)⟩ dX4_write_21 (fun r9 M9 hp => ?_)
  refine rg_top (v2 := .int (nI (mIn j (nI 0) (nI (zC P i))).toNat)) (by first | (rw [hp.1]; done) | (rw [hp.1]; rfl)) ?_
  refine rg_mem (M2 := Ms1) hp.2 ?_
  refine rg_bif_eq F (pc := 24) (tgt := 35) dX4_write_24 (by decide) (fun c24 => ?_) (fun c24 => absurd c24 (by rw [mIn_bel2 (by omega), hb]; decide))
  refine rg_aload_n F (pc := 35) dX4_write_35 rfl ?_
  refine rg_iconst F (pc := 36) (v := nI 1) dX4_write_36 (by decide) ?_
  refine rg_callVi F (pc := 37) (As := [.int (nI 1)]) (rest := []) (ci := 5) (r_no l D _ m P nW nL ad Fn (nI 0) lo (nI 1) ⟨hP, hAs1, hB⟩) q415 vq_X4_no rfl hAs1.1 rfl rfl (Nat.le_of_ble_eq_true rfl) (Nat.le_of_ble_eq_true rfl) (Nat.le_of_ble_eq_true rfl) ⟨(Nat.le_of_ble_eq_true rfl), (Nat.le_of_ble_eq_true rfl)⟩ dX4_write_37 (fun r9 Mn hp => ?_)
  refine rg_top (v2 := .int (nI 0)) (by rw [hp.1]) ?_
  exact rg_iret F (pc := 40) hrt9 (by decide) (by decide) dX4_write_40 ⟨hP, hp.2.2.1, hB⟩
set_option maxHeartbeats 4000000 in
set_option maxRecDepth 100000 in
theorem r_write3 (l : Launch) (D : va_G) (M : rMem) (m : Nat) (P : Poem) (nW nL : Nat) (ad : Nat → Nat) (Fn : Nat → Nat → Int32) (t lo : Int32) (i p : Nat) (j : Int32) (hV : mV D M m P nW nL ad Fn t lo) (hi : i < nL) (hp9 : p < zC P i + 1) (hb : rBel j nW = false) : CMi l D yX4_write cX4_write 4 ((some .int)) 3 0 0 M [.ref (m), .int (nI i), .int (nI p), .int (j)] (fun r M' => mV D M' m P nW nL ad Fn (nI 1) lo) := by
  obtain ⟨hP, hA, hB⟩ := id hV
  have hn30 := hP.1.1
  have hn10 := hP.2.1
  have hz8 := (hP.2.2 i hi).2.2.2.2.1
  refine rM (lv0 := [some (.ref (m)), some (.int (nI i)), some (.int (nI p)), some (.int (j))]) (by decide) rfl rfl (Nat.le_of_ble_eq_true rfl) (fun P0 E0 S0 m0 as0 bl0 mt0 c0 A F hrt9 hnm => ?_)
  refine rg_aload_n F (pc := 0) dX4_write_0 rfl ?_
  refine rg_iconst F (pc := 1) (v := nI 0) dX4_write_1 (by decide) ?_
  refine rg_put F (pc := 2) (ci := 5) (ty := tyX4 0) rfl inX4 tyX4 tyX4_ok nmX4 hA.1 0 (by decide) q395 (fun _ h9 => h9) rfl (tyX4_ok 0 (by decide)) rfl rfl (Nat.le_of_ble_eq_true rfl) dX4_write_2 ?_
  refine rm_mem hA (t2 := nI 0) (nW2 := nW) (nL2 := nL) (lo2 := lo) rfl (fun Ms1 hAs1 => ?_)
  refine rg_aload_n F (pc := 5) dX4_write_5 rfl ?_
  refine rg_iload_n F (pc := 6) dX4_write_6 rfl ?_
  refine rg_callVi F (pc := 7) (As := [.int (nI i)]) (rest := []) (ci := 5) (r_isLine l D _ m P nW nL ad Fn (nI 0) lo (nI i) ⟨hP, hAs1, hB⟩) q482 vq_X4_isLine rfl hAs1.1 rfl rfl (Nat.le_of_ble_eq_true rfl) (Nat.le_of_ble_eq_true rfl) (Nat.le_of_ble_eq_true rfl) ⟨(Nat.le_of_ble_eq_true rfl), (Nat.le_of_ble_eq_true rfl)⟩ dX4_write_7 (fun r9 M9 hp => ?_)
  refine rg_top (v2 := .int (nI (rBel (nI i) nL).toNat)) (by first | (rw [hp.1]; done) | (rw [hp.1]; rfl)) ?_
  refine rg_mem (M2 := Ms1) hp.2 ?_
  refine rg_bif_eq F (pc := 10) (tgt := 35) dX4_write_10 (by decide) (fun c10 => absurd c10 (by rw [rBel_nI (by omega), decide_eq_true hi]; decide)) (fun c10 => ?_)
  refine rg_iload_n F (pc := 13) dX4_write_13 rfl ?_
  refine rg_iconst F (pc := 14) (v := nI 0) dX4_write_14 (by decide) ?_
  refine rg_aload_n F (pc := 15) dX4_write_15 rfl ?_
  refine rg_get F (pc := 16) (ci := 5) rfl inX4 hAs1.1 11 (by decide) q407 (fun _ h9 => h9) rfl dX4_write_16 ?_
  refine rg_iload_n F (pc := 19) dX4_write_19 rfl ?_
  refine rm_ld F hAs1 (pc := 20) (q := 8) (j := i) (x := nI (zC P i)) (by decide) (show i < 10 by omega) (hB.2.2.1 i (by omega)) dX4_write_20 ?_
  refine rg_callSi F (pc := 21) (As := [.int (nI p), .int (nI 0), .int (nI (zC P i))]) (rest := []) (r_isIn l D _ (nI p) (nI 0) (nI (zC P i))) q401 sq_X4_isIn rfl rfl (Nat.le_of_ble_eq_true rfl) (Nat.le_of_ble_eq_true rfl) (Nat.le_of_ble_eq_true rfl) ⟨(Nat.le_of_ble_eq_true rfl), (Nat.le_of_ble_eq_true rfl)⟩ dX4_write_21 (fun r9 M9 hp => ?_)
  refine rg_top (v2 := .int (nI (mIn (nI p) (nI 0) (nI (zC P i))).toNat)) (by first | (rw [hp.1]; done) | (rw [hp.1]; rfl)) ?_
  refine rg_mem (M2 := Ms1) hp.2 ?_
  refine rg_bif_eq F (pc := 24) (tgt := 35) dX4_write_24 (by decide) (fun c24 => absurd c24 (by rw [mIn_bel2 (by omega), rBel_nI (by omega), decide_eq_true hp9]; decide)) (fun c24 => ?_)
  refine rg_aload_n F (pc := 27) dX4_write_27 rfl ?_
  refine rg_iload_n F (pc := 28) dX4_write_28 rfl ?_
  refine rg_callVi F (pc := 29) (As := [.int (j)]) (rest := []) (ci := 5) (r_isWord l D _ m P nW nL ad Fn (nI 0) lo j ⟨hP, hAs1, hB⟩) q396 vq_X4_isWord rfl hAs1.1 rfl rfl (Nat.le_of_ble_eq_true rfl) (Nat.le_of_ble_eq_true rfl) (Nat.le_of_ble_eq_true rfl) ⟨(Nat.le_of_ble_eq_true rfl), (Nat.le_of_ble_eq_true rfl)⟩ dX4_write_29 (fun r9 M9 hp => ?_)
  refine rg_top (v2 := .int (nI (rBel j nW).toNat)) (by first | (rw [hp.1]; done) | (rw [hp.1]; rfl)) ?_
  refine rg_mem (M2 := Ms1) hp.2 ?_
  refine rg_bif_ne F (pc := 32) (tgt := 41) dX4_write_32 (by decide) (fun c32 => absurd c32 (by rw [hb]; decide)) (fun c32 => ?_)
  refine rg_aload_n F (pc := 35) dX4_write_35 rfl ?_
  refine rg_iconst F (pc := 36) (v := nI 1) dX4_write_36 (by decide) ?_
  refine rg_callVi F (pc := 37) (As := [.int (nI 1)]) (rest := []) (ci := 5) (r_no l D _ m P nW nL ad Fn (nI 0) lo (nI 1) ⟨hP, hAs1, hB⟩) q415 vq_X4_no rfl hAs1.1 rfl rfl (Nat.le_of_ble_eq_true rfl) (Nat.le_of_ble_eq_true rfl) (Nat.le_of_ble_eq_true rfl) ⟨(Nat.le_of_ble_eq_true rfl), (Nat.le_of_ble_eq_true rfl)⟩ dX4_write_37 (fun r9 Mn hp => ?_)
  refine rg_top (v2 := .int (nI 0)) (by rw [hp.1]) ?_
  exact rg_iret F (pc := 40) hrt9 (by decide) (by decide) dX4_write_40 ⟨hP, hp.2.2.1, hB⟩
set_option maxHeartbeats 4000000 in
set_option maxRecDepth 100000 in
theorem r_write4 (l : Launch) (D : va_G) (M : rMem) (m : Nat) (P : Poem) (nW nL : Nat) (ad : Nat → Nat) (Fn : Nat → Nat → Int32) (t lo : Int32) (i w : Nat) (hV : mV D M m P nW nL ad Fn t lo) (hi : i < nL) (h8 : zC P i = 8) (hw : w < nW) : CMi l D yX4_write cX4_write 4 ((some .int)) 3 0 0 M [.ref (m), .int (nI i), .int (nI (zC P i)), .int (nI w)] (fun r M' => mV D M' m P nW nL ad Fn (nI 2) lo) := by
  obtain ⟨hP, hA, hB⟩ := id hV
  have hn30 := hP.1.1
  have hn10 := hP.2.1
  have hz8 := (hP.2.2 i hi).2.2.2.2.1
  refine rM (lv0 := [some (.ref (m)), some (.int (nI i)), some (.int (nI (zC P i))), some (.int (nI w))]) (by decide) rfl rfl (Nat.le_of_ble_eq_true rfl) (fun P0 E0 S0 m0 as0 bl0 mt0 c0 A F hrt9 hnm => ?_)
  refine rg_aload_n F (pc := 0) dX4_write_0 rfl ?_
  refine rg_iconst F (pc := 1) (v := nI 0) dX4_write_1 (by decide) ?_
  refine rg_put F (pc := 2) (ci := 5) (ty := tyX4 0) rfl inX4 tyX4 tyX4_ok nmX4 hA.1 0 (by decide) q395 (fun _ h9 => h9) rfl (tyX4_ok 0 (by decide)) rfl rfl (Nat.le_of_ble_eq_true rfl) dX4_write_2 ?_
  refine rm_mem hA (t2 := nI 0) (nW2 := nW) (nL2 := nL) (lo2 := lo) rfl (fun Ms1 hAs1 => ?_)
  refine rg_aload_n F (pc := 5) dX4_write_5 rfl ?_
  refine rg_iload_n F (pc := 6) dX4_write_6 rfl ?_
  refine rg_callVi F (pc := 7) (As := [.int (nI i)]) (rest := []) (ci := 5) (r_isLine l D _ m P nW nL ad Fn (nI 0) lo (nI i) ⟨hP, hAs1, hB⟩) q482 vq_X4_isLine rfl hAs1.1 rfl rfl (Nat.le_of_ble_eq_true rfl) (Nat.le_of_ble_eq_true rfl) (Nat.le_of_ble_eq_true rfl) ⟨(Nat.le_of_ble_eq_true rfl), (Nat.le_of_ble_eq_true rfl)⟩ dX4_write_7 (fun r9 M9 hp => ?_)
  refine rg_top (v2 := .int (nI (rBel (nI i) nL).toNat)) (by first | (rw [hp.1]; done) | (rw [hp.1]; rfl)) ?_
  refine rg_mem (M2 := Ms1) hp.2 ?_
  refine rg_bif_eq F (pc := 10) (tgt := 35) dX4_write_10 (by decide) (fun c10 => absurd c10 (by rw [rBel_nI (by omega), decide_eq_true hi]; decide)) (fun c10 => ?_)
  refine rg_iload_n F (pc := 13) dX4_write_13 rfl ?_
  refine rg_iconst F (pc := 14) (v := nI 0) dX4_write_14 (by decide) ?_
  refine rg_aload_n F (pc := 15) dX4_write_15 rfl ?_
  refine rg_get F (pc := 16) (ci := 5) rfl inX4 hAs1.1 11 (by decide) q407 (fun _ h9 => h9) rfl dX4_write_16 ?_
  refine rg_iload_n F (pc := 19) dX4_write_19 rfl ?_
  refine rm_ld F hAs1 (pc := 20) (q := 8) (j := i) (x := nI (zC P i)) (by decide) (show i < 10 by omega) (hB.2.2.1 i (by omega)) dX4_write_20 ?_
  refine rg_callSi F (pc := 21) (As := [.int (nI (zC P i)), .int (nI 0), .int (nI (zC P i))]) (rest := []) (r_isIn l D _ (nI (zC P i)) (nI 0) (nI (zC P i))) q401 sq_X4_isIn rfl rfl (Nat.le_of_ble_eq_true rfl) (Nat.le_of_ble_eq_true rfl) (Nat.le_of_ble_eq_true rfl) ⟨(Nat.le_of_ble_eq_true rfl), (Nat.le_of_ble_eq_true rfl)⟩ dX4_write_21 (fun r9 M9 hp => ?_)
  refine rg_top (v2 := .int (nI (mIn (nI (zC P i)) (nI 0) (nI (zC P i))).toNat)) (by first | (rw [hp.1]; done) | (rw [hp.1]; rfl)) ?_
  refine rg_mem (M2 := Ms1) hp.2 ?_
  refine rg_bif_eq F (pc := 24) (tgt := 35) dX4_write_24 (by decide) (fun c24 => absurd c24 (by rw [mIn_bel2 (by omega), rBel_nI (by omega), decide_eq_true (show zC P i < zC P i + 1 by omega)]; decide)) (fun c24 => ?_)
  refine rg_aload_n F (pc := 27) dX4_write_27 rfl ?_
  refine rg_iload_n F (pc := 28) dX4_write_28 rfl ?_
  refine rg_callVi F (pc := 29) (As := [.int (nI w)]) (rest := []) (ci := 5) (r_isWord l D _ m P nW nL ad Fn (nI 0) lo (nI w) ⟨hP, hAs1, hB⟩) q396 vq_X4_isWord rfl hAs1.1 rfl rfl (Nat.le_of_ble_eq_true rfl) (Nat.le_of_ble_eq_true rfl) (Nat.le_of_ble_eq_true rfl) ⟨(Nat.le_of_ble_eq_true rfl), (Nat.le_of_ble_eq_true rfl)⟩ dX4_write_29 (fun r9 M9 hp => ?_)
  refine rg_top (v2 := .int (nI (rBel (nI w) nW).toNat)) (by first | (rw [hp.1]; done) | (rw [hp.1]; rfl)) ?_
  refine rg_mem (M2 := Ms1) hp.2 ?_
  refine rg_bif_ne F (pc := 32) (tgt := 41) dX4_write_32 (by decide) (fun c32 => ?_) (fun c32 => absurd c32 (by rw [rBel_nI (by omega), decide_eq_true hw]; decide))
  refine rg_iload_n F (pc := 41) dX4_write_41 rfl ?_
  refine rg_bipush F (pc := 42) (v := nI 8) dX4_write_42 (by decide) ?_
  refine rg_ncmp_ne F (pc := 44) (tgt := 53) dX4_write_44 (by decide) (by omega) (by omega) (fun c44 => by exfalso; omega) (fun c44 => ?_)
  refine rg_aload_n F (pc := 47) dX4_write_47 rfl ?_
  refine rg_iconst F (pc := 48) (v := nI 2) dX4_write_48 (by decide) ?_
  refine rg_callVi F (pc := 49) (As := [.int (nI 2)]) (rest := []) (ci := 5) (r_no l D _ m P nW nL ad Fn (nI 0) lo (nI 2) ⟨hP, hAs1, hB⟩) q415 vq_X4_no rfl hAs1.1 rfl rfl (Nat.le_of_ble_eq_true rfl) (Nat.le_of_ble_eq_true rfl) (Nat.le_of_ble_eq_true rfl) ⟨(Nat.le_of_ble_eq_true rfl), (Nat.le_of_ble_eq_true rfl)⟩ dX4_write_49 (fun r9 Mn hp => ?_)
  refine rg_top (v2 := .int (nI 0)) (by rw [hp.1]) ?_
  exact rg_iret F (pc := 52) hrt9 (by decide) (by decide) dX4_write_52 ⟨hP, hp.2.2.1, hB⟩
