def mIn (v a b : Int32) : Bool := decide (a ≤ v ∧ v ≤ b)
theorem mIn_lo {v a b : Int32} (h : v < a) : mIn v a b = false := decide_eq_false (fun z => by have h1 := Int32.lt_iff_toInt_lt.mp h; have h2 := Int32.le_iff_toInt_le.mp z.1; omega)
theorem mIn_hi {v a b : Int32} (h : b < v) : mIn v a b = false := decide_eq_false (fun z => by have h1 := Int32.lt_iff_toInt_lt.mp h; have h2 := Int32.le_iff_toInt_le.mp z.2; omega)
theorem mIn_in {v a b : Int32} (h : ¬ v < a) (h2 : ¬ b < v) : mIn v a b = true := decide_eq_true ⟨Int32.le_iff_toInt_le.mpr (by have h3 : ¬ v.toInt < a.toInt := fun q => h (Int32.lt_iff_toInt_lt.mpr q); omega), Int32.le_iff_toInt_le.mpr (by have h3 : ¬ b.toInt < v.toInt := fun q => h2 (Int32.lt_iff_toInt_lt.mpr q); omega)⟩
theorem nz_b (b : Bool) : narrow .boolean (.int (nI b.toNat)) = .int (nI b.toNat) := by cases b <;> rfl
theorem mIn_bel {v : Int32} {n : Nat} (hn : n < 2 ^ 30) : mIn v (nI 0) (nI n - nI 1) = rBel v n := by
  have h0 : (nI 0).toInt = 0 := by decide
  have h1 : (nI n - nI 1).toInt = (n : Int) - 1 := pk_sub_toInt hn (by decide)
  unfold mIn rBel
  refine decide_eq_decide.mpr ⟨fun h => ?_, fun h => ?_⟩
  · have a := Int32.le_iff_toInt_le.mp h.1
    have b := Int32.le_iff_toInt_le.mp h.2
    omega
  · exact ⟨Int32.le_iff_toInt_le.mpr (by omega), Int32.le_iff_toInt_le.mpr (by omega)⟩
theorem nI_toI {n : Nat} (h : n < 2 ^ 31) : (nI n).toInt = (n : Int) := by
  have h1 := rBel_nI (b := n + 1) h
  unfold rBel at h1
  have h2 : decide (n < n + 1) = true := decide_eq_true (Nat.lt_succ_self n)
  rw [h2] at h1
  have h3 := rBel_nI (b := n) h
  unfold rBel at h3
  have h4 : decide (n < n) = false := decide_eq_false (Nat.lt_irrefl n)
  rw [h4] at h3
  have a := of_decide_eq_true h1
  have b := of_decide_eq_false h3
  omega
theorem nI_nz {n : Nat} (h0 : 0 < n) (h : n < 2 ^ 31) : ¬ nI n = 0 := by
  intro z
  have h1 := nI_toI h
  rw [z] at h1
  have h2 : (0 : Int32).toInt = 0 := by decide
  omega
theorem mIn_bel2 {v : Int32} {n : Nat} (hn : n < 2 ^ 30) : mIn v (nI 0) (nI n) = rBel v (n + 1) := by
  have h0 : (nI 0).toInt = 0 := by decide
  have h1 : (nI n).toInt = (n : Int) := nI_toI (by omega)
  unfold mIn rBel
  refine decide_eq_decide.mpr ⟨fun h => ?_, fun h => ?_⟩
  · have a := Int32.le_iff_toInt_le.mp h.1
    have b := Int32.le_iff_toInt_le.mp h.2
    omega
  · exact ⟨Int32.le_iff_toInt_le.mpr (by omega), Int32.le_iff_toInt_le.mpr (by omega)⟩
set_option maxHeartbeats 4000000 in
set_option maxRecDepth 100000 in
theorem r_isIn (l : Launch) (D : va_G) (M : rMem) (v a b : Int32) : CMi l D yX4_isIn cX4_isIn 3 ((some .boolean)) 1 0 0 M [.int (v), .int (a), .int (b)] (fun r M' => r = nI (mIn v a b).toNat ∧ M' = M) := by
  refine rM (lv0 := [some (.int (v)), some (.int (a)), some (.int (b))]) (by decide) rfl rfl (Nat.le_of_ble_eq_true rfl) (fun P0 E0 S0 m0 as0 bl0 mt0 c0 A F hrt9 hnm => ?_)
  refine rg_iload_n F (pc := 0) dX4_isIn_0 rfl ?_
  refine rg_iload_n F (pc := 1) dX4_isIn_1 rfl ?_
  refine rg_icmp_lt F (pc := 2) (tgt := 14) dX4_isIn_2 (by decide) (fun c2 => ?_) (fun c2 => ?_)
  · refine rg_iconst F (pc := 14) (v := nI 0) dX4_isIn_14 (by decide) ?_
    exact rg_zret F (pc := 15) rfl hrt9 (by decide) (by decide) dX4_isIn_15 ⟨by rw [mIn_lo c2]; rfl, rfl⟩
  · refine rg_iload_n F (pc := 5) dX4_isIn_5 rfl ?_
    refine rg_iload_n F (pc := 6) dX4_isIn_6 rfl ?_
    refine rg_icmp_gt F (pc := 7) (tgt := 14) dX4_isIn_7 (by decide) (fun c7 => ?_) (fun c7 => ?_)
    · refine rg_iconst F (pc := 14) (v := nI 0) dX4_isIn_14 (by decide) ?_
      exact rg_zret F (pc := 15) rfl hrt9 (by decide) (by decide) dX4_isIn_15 ⟨by rw [mIn_hi c7]; rfl, rfl⟩
    · refine rg_iconst F (pc := 10) (v := nI 1) dX4_isIn_10 (by decide) ?_
      refine rg_goto F (pc := 11) (tgt := 15) dX4_isIn_11 (by decide) ?_
      exact rg_zret F (pc := 15) rfl hrt9 (by decide) (by decide) dX4_isIn_15 ⟨by rw [mIn_in c2 c7]; rfl, rfl⟩
set_option maxHeartbeats 4000000 in
set_option maxRecDepth 100000 in
theorem r_isWord (l : Launch) (D : va_G) (M : rMem) (m : Nat) (P : Poem) (nW nL : Nat) (ad : Nat → Nat) (Fn : Nat → Nat → Int32) (t lo : Int32) (v : Int32) (hV : mV D M m P nW nL ad Fn t lo) : CMi l D yX4_isWord cX4_isWord 2 ((some .boolean)) 2 0 0 M [.ref (m), .int (v)] (fun r M' => r = nI (rBel v nW).toNat ∧ M' = M) := by
  obtain ⟨hP, hA, hB⟩ := id hV
  have hn30 := hP.1.1
  have hn10 := hP.2.1
  refine rM (lv0 := [some (.ref (m)), some (.int (v))]) (by decide) rfl rfl (Nat.le_of_ble_eq_true rfl) (fun P0 E0 S0 m0 as0 bl0 mt0 c0 A F hrt9 hnm => ?_)
  refine rg_iload_n F (pc := 0) dX4_isWord_0 rfl ?_
  refine rg_iconst F (pc := 1) (v := nI 0) dX4_isWord_1 (by decide) ?_
  refine rg_aload_n F (pc := 2) dX4_isWord_2 rfl ?_
  refine rg_get F (pc := 3) (ci := 5) rfl inX4 hA.1 1 (by decide) q400 (fun _ h9 => h9) rfl dX4_isWord_3 ?_
  refine rg_iconst F (pc := 6) (v := nI 1) dX4_isWord_6 (by decide) ?_
  refine rg_isub F (pc := 7) (v := nI nW - nI 1) dX4_isWord_7 rfl ?_
  refine rg_callSi F (pc := 8) (As := [.int (v), .int (nI 0), .int (nI nW - nI 1)]) (rest := []) (r_isIn l D _ v (nI 0) (nI nW - nI 1)) q401 sq_X4_isIn rfl rfl (Nat.le_of_ble_eq_true rfl) (Nat.le_of_ble_eq_true rfl) (Nat.le_of_ble_eq_true rfl) ⟨(Nat.le_of_ble_eq_true rfl), (Nat.le_of_ble_eq_true rfl)⟩ dX4_isWord_8 (fun r9 M9 hp => ?_)
  refine rg_top (v2 := .int (nI (mIn v (nI 0) (nI nW - nI 1)).toNat)) (by first | (rw [hp.1]; done) | (rw [hp.1]; rfl)) ?_
  refine rg_mem (M2 := M) hp.2 ?_
  exact rg_zret F (pc := 11) (nz_b _) hrt9 (by decide) (by decide) dX4_isWord_11 ⟨by rw [mIn_bel (by omega)], rfl⟩
set_option maxHeartbeats 4000000 in
set_option maxRecDepth 100000 in
theorem r_isLine (l : Launch) (D : va_G) (M : rMem) (m : Nat) (P : Poem) (nW nL : Nat) (ad : Nat → Nat) (Fn : Nat → Nat → Int32) (t lo : Int32) (v : Int32) (hV : mV D M m P nW nL ad Fn t lo) : CMi l D yX4_isLine cX4_isLine 2 ((some .boolean)) 2 0 0 M [.ref (m), .int (v)] (fun r M' => r = nI (rBel v nL).toNat ∧ M' = M) := by
  obtain ⟨hP, hA, hB⟩ := id hV
  have hn30 := hP.1.1
  have hn10 := hP.2.1
  refine rM (lv0 := [some (.ref (m)), some (.int (v))]) (by decide) rfl rfl (Nat.le_of_ble_eq_true rfl) (fun P0 E0 S0 m0 as0 bl0 mt0 c0 A F hrt9 hnm => ?_)
  refine rg_iload_n F (pc := 0) dX4_isLine_0 rfl ?_
  refine rg_iconst F (pc := 1) (v := nI 0) dX4_isLine_1 (by decide) ?_
  refine rg_aload_n F (pc := 2) dX4_isLine_2 rfl ?_
  refine rg_get F (pc := 3) (ci := 5) rfl inX4 hA.1 7 (by decide) q406 (fun _ h9 => h9) rfl dX4_isLine_3 ?_
  refine rg_iconst F (pc := 6) (v := nI 1) dX4_isLine_6 (by decide) ?_
  refine rg_isub F (pc := 7) (v := nI nL - nI 1) dX4_isLine_7 rfl ?_
  refine rg_callSi F (pc := 8) (As := [.int (v), .int (nI 0), .int (nI nL - nI 1)]) (rest := []) (r_isIn l D _ v (nI 0) (nI nL - nI 1)) q401 sq_X4_isIn rfl rfl (Nat.le_of_ble_eq_true rfl) (Nat.le_of_ble_eq_true rfl) (Nat.le_of_ble_eq_true rfl) ⟨(Nat.le_of_ble_eq_true rfl), (Nat.le_of_ble_eq_true rfl)⟩ dX4_isLine_8 (fun r9 M9 hp => ?_)
  refine rg_top (v2 := .int (nI (mIn v (nI 0) (nI nL - nI 1)).toNat)) (by first | (rw [hp.1]; done) | (rw [hp.1]; rfl)) ?_
  refine rg_mem (M2 := M) hp.2 ?_
  exact rg_zret F (pc := 11) (nz_b _) hrt9 (by decide) (by decide) dX4_isLine_11 ⟨by rw [mIn_bel (by omega)], rfl⟩
set_option maxHeartbeats 4000000 in
set_option maxRecDepth 100000 in
theorem r_no (l : Launch) (D : va_G) (M : rMem) (m : Nat) (P : Poem) (nW nL : Nat) (ad : Nat → Nat) (Fn : Nat → Nat → Int32) (t lo : Int32) (n : Int32) (hV : mV D M m P nW nL ad Fn t lo) : CMi l D yX4_no cX4_no 2 ((some .int)) 1 0 0 M [.ref (m), .int (n)] (fun r M' => r = nI 0 ∧ mV D M' m P nW nL ad Fn n lo) := by
  obtain ⟨hP, hA, hB⟩ := id hV
  have hn30 := hP.1.1
  have hn10 := hP.2.1
  refine rM (lv0 := [some (.ref (m)), some (.int (n))]) (by decide) rfl rfl (Nat.le_of_ble_eq_true rfl) (fun P0 E0 S0 m0 as0 bl0 mt0 c0 A F hrt9 hnm => ?_)
  refine rg_aload_n F (pc := 0) dX4_no_0 rfl ?_
  refine rg_iload_n F (pc := 1) dX4_no_1 rfl ?_
  refine rg_put F (pc := 2) (ci := 5) (ty := tyX4 0) rfl inX4 tyX4 tyX4_ok nmX4 hA.1 0 (by decide) q395 (fun _ h9 => h9) rfl (tyX4_ok 0 (by decide)) rfl rfl (Nat.le_of_ble_eq_true rfl) dX4_no_2 ?_
  refine rm_mem hA (t2 := n) (nW2 := nW) (nL2 := nL) (lo2 := lo) rfl (fun Ms1 hAs1 => ?_)
  refine rg_iconst F (pc := 5) (v := nI 0) dX4_no_5 (by decide) ?_
  exact rg_iret F (pc := 6) hrt9 (by decide) (by decide) dX4_no_6 ⟨rfl, hP, hAs1, hB⟩
set_option maxHeartbeats 4000000 in
set_option maxRecDepth 100000 in
theorem r_thrown (l : Launch) (D : va_G) (M : rMem) (m : Nat) (P : Poem) (nW nL : Nat) (ad : Nat → Nat) (Fn : Nat → Nat → Int32) (t lo : Int32) (hV : mV D M m P nW nL ad Fn t lo) : CMi l D yX4_thrown cX4_thrown 1 ((some .int)) 1 0 0 M [.ref (m)] (fun r M' => r = t ∧ M' = M) := by
  obtain ⟨hP, hA, hB⟩ := id hV
  have hn30 := hP.1.1
  have hn10 := hP.2.1
  refine rM (lv0 := [some (.ref (m))]) (by decide) rfl rfl (Nat.le_of_ble_eq_true rfl) (fun P0 E0 S0 m0 as0 bl0 mt0 c0 A F hrt9 hnm => ?_)
  refine rg_aload_n F (pc := 0) dX4_thrown_0 rfl ?_
  refine rg_get F (pc := 1) (ci := 5) rfl inX4 hA.1 0 (by decide) q395 (fun _ h9 => h9) rfl dX4_thrown_1 ?_
  exact rg_iret F (pc := 4) hrt9 (by decide) (by decide) dX4_thrown_4 ⟨rfl, rfl⟩
def mBeat (k j : Nat) : Nat := if j % rFoot k = rBeat k then 1 else 0
theorem rFoot_p (k : Nat) : rFoot k = 2 ∨ rFoot k = 3 := by unfold rFoot; split <;> simp
theorem rBeat_l (k : Nat) : rBeat k ≤ 2 := by unfold rBeat; split <;> (try split) <;> omega
set_option maxHeartbeats 4000000 in
set_option maxRecDepth 100000 in
theorem r_beat (l : Launch) (D : va_G) (M : rMem) (k j : Nat) (hk : k < 4) (hj : j < 2 ^ 31) : CMi l D yX4_beat cX4_beat 2 ((some .int)) 1 0 0 M [.int (nI k), .int (nI j)] (fun r M' => r = nI (mBeat k j) ∧ M' = M) := by
  have hf := rFoot_p k
  have hb9 := rBeat_l k
  have hmod : j % rFoot k < 3 := by rcases hf with h | h <;> rw [h] <;> omega
  refine rM (lv0 := [some (.int (nI k)), some (.int (nI j))]) (by decide) rfl rfl (Nat.le_of_ble_eq_true rfl) (fun P0 E0 S0 m0 as0 bl0 mt0 c0 A F hrt9 hnm => ?_)
  refine rg_iload_n F (pc := 0) dX4_beat_0 rfl ?_
  refine rg_getsT1 F (pc := 1) q455 dX4_beat_1 ?_
  refine rg_iload_n F (pc := 4) dX4_beat_4 rfl ?_
  refine rg_foot F (pc := 5) (by omega) dX4_beat_5 ?_
  refine rg_irem F (pc := 6) (v := nI (j % (rFoot k))) dX4_beat_6 (nI_nz (by omega) (by omega)) (pk_rem (by omega) (by omega) (by omega)) ?_
  refine rg_getsT2 F (pc := 7) q458 dX4_beat_7 ?_
  refine rg_iload_n F (pc := 10) dX4_beat_10 rfl ?_
  refine rg_beat F (pc := 11) (by omega) dX4_beat_11 ?_
  refine rg_ncmp_ne F (pc := 12) (tgt := 19) dX4_beat_12 (by decide) (by omega) (by omega) (fun c12 => ?_) (fun c12 => ?_)
  · refine rg_iconst F (pc := 19) (v := nI 0) dX4_beat_19 (by decide) ?_
    exact rg_iret F (pc := 20) hrt9 (by decide) (by decide) dX4_beat_20 ⟨by unfold mBeat; rw [if_neg c12], rfl⟩
  · refine rg_iconst F (pc := 15) (v := nI 1) dX4_beat_15 (by decide) ?_
    refine rg_goto F (pc := 16) (tgt := 20) dX4_beat_16 (by decide) ?_
    exact rg_iret F (pc := 20) hrt9 (by decide) (by decide) dX4_beat_20 ⟨by unfold mBeat; rw [if_pos c12], rfl⟩
set_option maxHeartbeats 4000000 in
set_option maxRecDepth 100000 in
theorem r_room (l : Launch) (D : va_G) (M : rMem) (m : Nat) (P : Poem) (nW nL : Nat) (ad : Nat → Nat) (Fn : Nat → Nat → Int32) (t lo : Int32) (i : Nat) (hV : mV D M m P nW nL ad Fn t lo) (hi : i < nL) : CMi l D yX4_room cX4_room 2 ((some .int)) 1 0 0 M [.ref (m), .int (nI i)] (fun r M' => r = nI (zRm P i) ∧ M' = M) := by
  obtain ⟨hP, hA, hB⟩ := id hV
  have hn30 := hP.1.1
  have hn10 := hP.2.1
  have hlk := hP.2.2 i hi
  have hm4 := hlk.1
  refine rM (lv0 := [some (.ref (m)), some (.int (nI i))]) (by decide) rfl rfl (Nat.le_of_ble_eq_true rfl) (fun P0 E0 S0 m0 as0 bl0 mt0 c0 A F hrt9 hnm => ?_)
  refine rg_aload_n F (pc := 0) dX4_room_0 rfl ?_
  refine rg_get F (pc := 1) (ci := 5) rfl inX4 hA.1 9 (by decide) q443 (fun _ h9 => h9) rfl dX4_room_1 ?_
  refine rg_iload_n F (pc := 4) dX4_room_4 rfl ?_
  refine rm_ld F hA (pc := 5) (q := 6) (j := i) (x := nI (zF P i)) (by decide) (show i < 10 by omega) (hB.2.1 i (by omega)).2.1 dX4_room_5 ?_
  refine rg_getsT1 F (pc := 6) q455 dX4_room_6 ?_
  refine rg_aload_n F (pc := 9) dX4_room_9 rfl ?_
  refine rg_get F (pc := 10) (ci := 5) rfl inX4 hA.1 8 (by decide) q440 (fun _ h9 => h9) rfl dX4_room_10 ?_
  refine rg_iload_n F (pc := 13) dX4_room_13 rfl ?_
  refine rm_ld F hA (pc := 14) (q := 5) (j := i) (x := nI (zM P i)) (by decide) (show i < 10 by omega) (hB.2.1 i (by omega)).1 dX4_room_14 ?_
  refine rg_foot F (pc := 15) (by omega) dX4_room_15 ?_
  refine rg_imul F (pc := 16) (v := nI ((zF P i) * (rFoot (zM P i)))) dX4_room_16 (pk_mul _ _) ?_
  exact rg_iret F (pc := 17) hrt9 (by decide) (by decide) dX4_room_17 ⟨by unfold zRm; rw [Nat.mul_comm], rfl⟩
set_option maxHeartbeats 4000000 in
set_option maxRecDepth 100000 in
theorem r_last (l : Launch) (D : va_G) (M : rMem) (m : Nat) (P : Poem) (nW nL : Nat) (ad : Nat → Nat) (Fn : Nat → Nat → Int32) (t lo : Int32) (i : Nat) (hV : mV D M m P nW nL ad Fn t lo) (hi : i < nL) (h0 : 0 < zC P i) : CMi l D yX4_last cX4_last 2 ((some .int)) 1 0 0 M [.ref (m), .int (nI i)] (fun r M' => r = nI (zR P i (zC P i - 1)) ∧ M' = M) := by
  obtain ⟨hP, hA, hB⟩ := id hV
  have hn30 := hP.1.1
  have hn10 := hP.2.1
  have hz8 := (hP.2.2 i hi).2.2.2.2.1
  refine rM (lv0 := [some (.ref (m)), some (.int (nI i))]) (by decide) rfl rfl (Nat.le_of_ble_eq_true rfl) (fun P0 E0 S0 m0 as0 bl0 mt0 c0 A F hrt9 hnm => ?_)
  refine rg_aload_n F (pc := 0) dX4_last_0 rfl ?_
  refine rg_get F (pc := 1) (ci := 5) rfl inX4 hA.1 12 (by decide) q408 (fun _ h9 => h9) rfl dX4_last_1 ?_
  refine rg_bipush F (pc := 4) (v := nI 8) dX4_last_4 (by decide) ?_
  refine rg_iload_n F (pc := 6) dX4_last_6 rfl ?_
  refine rg_imul F (pc := 7) (v := nI (8 * i)) dX4_last_7 (pk_mul _ _) ?_
  refine rg_aload_n F (pc := 8) dX4_last_8 rfl ?_
  refine rg_get F (pc := 9) (ci := 5) rfl inX4 hA.1 11 (by decide) q407 (fun _ h9 => h9) rfl dX4_last_9 ?_
  refine rg_iload_n F (pc := 12) dX4_last_12 rfl ?_
  refine rm_ld F hA (pc := 13) (q := 8) (j := i) (x := nI (zC P i)) (by decide) (show i < 10 by omega) (hB.2.2.1 i (by omega)) dX4_last_13 ?_
  refine rg_iadd F (pc := 14) (v := nI ((8 * i) + (zC P i))) dX4_last_14 (nI_add _ _) ?_
  refine rg_iconst F (pc := 15) (v := nI 1) dX4_last_15 (by decide) ?_
  refine rg_isub F (pc := 16) (v := nI ((8 * i) + (zC P i - 1))) dX4_last_16 ((pk_sub (by omega)).trans (by rw [show 8 * i + zC P i - 1 = 8 * i + (zC P i - 1) by omega])) ?_
  refine rm_ld F hA (pc := 17) (q := 9) (j := (8 * i) + (zC P i - 1)) (x := nI (zR P i ((zC P i - 1)))) (by decide) (show (8 * i) + (zC P i - 1) < 80 by omega) (hB.2.2.2.2 i (by omega) ((zC P i - 1)) (by omega)) dX4_last_17 ?_
  exact rg_iret F (pc := 18) hrt9 (by decide) (by decide) dX4_last_18 ⟨rfl, rfl⟩
set_option maxHeartbeats 4000000 in
set_option maxRecDepth 100000 in
theorem r_lastS (l : Launch) (D : va_G) (M : rMem) (s t : Nat) (h1 : 1 ≤ s) (h4 : s ≤ 4) (ht : t < 2 ^ s) : CMi l D yX4_lastStress cX4_lastStress 2 ((some .int)) 1 0 0 M [.int (nI s), .int (nI t)] (fun r M' => r = nI (rLst s t) ∧ M' = M) := by
  have h16 : (2 : Nat) ^ s ≤ 2 ^ 4 := Nat.pow_le_pow_right (by decide) h4
  refine rM (lv0 := [some (.int (nI s)), some (.int (nI t))]) (by decide) rfl rfl (Nat.le_of_ble_eq_true rfl) (fun P0 E0 S0 m0 as0 bl0 mt0 c0 A F hrt9 hnm => ?_)
  refine rg_iload_n F (pc := 0) dX4_lastStress_0 rfl ?_
  refine rg_iload_n F (pc := 1) dX4_lastStress_1 rfl ?_
  refine rg_iconst F (pc := 2) (v := nI 1) dX4_lastStress_2 (by decide) ?_
  refine rg_isub F (pc := 3) (v := nI (s - 1)) dX4_lastStress_3 (pk_sub (by omega)) ?_
  refine rg_ishr F (pc := 4) (v := nI (t / 2 ^ (s - 1))) dX4_lastStress_4 (rn_shr (by omega) (by omega)) ?_
  refine rg_iconst F (pc := 5) (v := nI 1) dX4_lastStress_5 (by decide) ?_
  refine rg_iand F (pc := 6) (v := nI ((t / 2 ^ (s - 1)) % 2)) dX4_lastStress_6 (rn_and1 (Nat.lt_of_le_of_lt (Nat.div_le_self _ _) (by omega))) ?_
  exact rg_iret F (pc := 7) hrt9 (by decide) (by decide) dX4_lastStress_7 ⟨rfl, rfl⟩
