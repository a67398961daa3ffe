set_option maxHeartbeats 4000000 in
set_option maxRecDepth 100000 in
theorem c_lowBits_n (l : Launch) (D : va_G) (M : rMem) (k : Nat) (hk : k < 2 ^ 31) : CMl l D yX3_lowBits cX3_lowBits 1 ((some .long)) 1 0 0 M [.int (nI k)] (fun r M' => r = lN (2 ^ min k 64 - 1) ∧ M' = M) := by
  refine rM (lv0 := [some (.int (nI k))]) (by decide) rfl rfl (Nat.le_of_ble_eq_true rfl) (fun P0 E0 S0 m0 as0 bl0 mt0 c0 A F hrt9 hnm => ?_)
  refine rg_iload_n F (pc := 0) dX3_lowBits_0 rfl ?_
  refine rg_nif_gt F (pc := 1) (tgt := 6) dX3_lowBits_1 (by decide) (by omega) (fun c1 => ?_) (fun c1 => ?_)
  · refine rg_iload_n F (pc := 6) dX3_lowBits_6 rfl ?_
    refine rg_bipush F (pc := 7) (v := nI 64) dX3_lowBits_7 (by decide) ?_
    refine rg_ncmp_lt F (pc := 9) (tgt := 18) dX3_lowBits_9 (by decide) (by omega) (by omega) (fun c9 => ?_) (fun c9 => ?_)
    · refine rg_lconst F (pc := 18) (v := lN 1) dX3_lowBits_18 (by decide) ?_
      refine rg_iload_n F (pc := 19) dX3_lowBits_19 rfl ?_
      refine rg_lshl F (pc := 20) (v := lN (1 * 2 ^ k)) dX3_lowBits_20 (wb_shl _ (by omega)) ?_
      refine rg_lconst F (pc := 21) (v := lN 1) dX3_lowBits_21 (by decide) ?_
      refine rg_lsub F (pc := 22) (v := lN ((1 * 2 ^ k) - 1)) dX3_lowBits_22 (lN_sub (by rw [Nat.one_mul]; exact Nat.two_pow_pos _)) ?_
      exact rg_lret F (pc := 23) hrt9 (by decide) (by decide) dX3_lowBits_23 ⟨by rw [Nat.min_eq_left (by omega), Nat.one_mul], rfl⟩
    · refine rg_ldc2 F (pc := 12) (v := (-1)) q176 dX3_lowBits_12 ?_
      refine rg_goto F (pc := 15) (tgt := 23) dX3_lowBits_15 (by decide) ?_
      exact rg_lret F (pc := 23) hrt9 (by decide) (by decide) dX3_lowBits_23 ⟨by rw [Nat.min_eq_right c9]; decide, rfl⟩
  · refine rg_lconst F (pc := 4) (v := lN 0) dX3_lowBits_4 (by decide) ?_
    exact rg_lret F (pc := 5) hrt9 (by decide) (by decide) dX3_lowBits_5 ⟨by rw [c1]; rfl, rfl⟩
set_option maxHeartbeats 4000000 in
set_option maxRecDepth 100000 in
theorem c_lowBits_m (l : Launch) (D : va_G) (M : rMem) (x : Int32) (hx : ¬ 0 < x) : CMl l D yX3_lowBits cX3_lowBits 1 ((some .long)) 1 0 0 M [.int (x)] (fun r M' => r = lN 0 ∧ M' = M) := by
  refine rM (lv0 := [some (.int (x))]) (by decide) rfl rfl (Nat.le_of_ble_eq_true rfl) (fun P0 E0 S0 m0 as0 bl0 mt0 c0 A F hrt9 hnm => ?_)
  refine rg_iload_n F (pc := 0) dX3_lowBits_0 rfl ?_
  refine rg_if_gt F (pc := 1) (tgt := 6) dX3_lowBits_1 (by decide) (fun c1 => absurd c1 hx) (fun c1 => ?_)
  refine rg_lconst F (pc := 4) (v := lN 0) dX3_lowBits_4 (by decide) ?_
  exact rg_lret F (pc := 5) hrt9 (by decide) (by decide) dX3_lowBits_5 ⟨rfl, rfl⟩
theorem c_lowBits (l : Launch) (D : va_G) (M : rMem) (c d : Nat) (hc : c < 2 ^ 30) (hd : d < 2 ^ 30) : CMl l D yX3_lowBits cX3_lowBits 1 (some .long) 1 0 0 M [.int (nI c - nI d)] (fun r M' => r = lN (2 ^ min (c - d) 64 - 1) ∧ M' = M) := by
  by_cases h : d ≤ c
  · rw [pk_sub h]
    exact c_lowBits_n l D M (c - d) (by omega)
  · have h1 : ¬ 0 < nI c - nI d := fun z => by
      have h2 := Int32.lt_iff_toInt_lt.mp z
      rw [pk_sub_toInt hc hd] at h2
      have e : (0 : Int32).toInt = 0 := by decide
      omega
    rw [show c - d = 0 by omega]
    exact c_lowBits_m l D M _ h1
set_option maxHeartbeats 4000000 in
set_option maxRecDepth 100000 in
theorem c_foot (l : Launch) (D : va_G) (M : rMem) (k : Nat) (hk : k < 2 ^ 31) : CMi l D yX3_footSize cX3_footSize 1 ((some .int)) 1 0 0 M [.int (nI k)] (fun r M' => r = nI (rFoot k) ∧ M' = M) := by
  refine rM (lv0 := [some (.int (nI k))]) (by decide) rfl rfl (Nat.le_of_ble_eq_true rfl) (fun P0 E0 S0 m0 as0 bl0 mt0 c0 A F hrt9 hnm => ?_)
  refine rg_iload_n F (pc := 0) dX3_footSize_0 rfl ?_
  refine rg_iconst F (pc := 1) (v := nI 2) dX3_footSize_1 (by decide) ?_
  refine rg_ncmp_ge F (pc := 2) (tgt := 9) dX3_footSize_2 (by decide) (by omega) (by omega) (fun c2 => ?_) (fun c2 => ?_)
  · refine rg_iconst F (pc := 9) (v := nI 3) dX3_footSize_9 (by decide) ?_
    exact rg_iret F (pc := 10) hrt9 (by decide) (by decide) dX3_footSize_10 ⟨by unfold rFoot; rw [if_neg (by omega)], rfl⟩
  · refine rg_iconst F (pc := 5) (v := nI 2) dX3_footSize_5 (by decide) ?_
    refine rg_goto F (pc := 6) (tgt := 10) dX3_footSize_6 (by decide) ?_
    exact rg_iret F (pc := 10) hrt9 (by decide) (by decide) dX3_footSize_10 ⟨by unfold rFoot; rw [if_pos (by omega)], rfl⟩
set_option maxHeartbeats 4000000 in
set_option maxRecDepth 100000 in
theorem c_asked (l : Launch) (D : va_G) (M : rMem) (k : Nat) (hk : k < 4) : CMl l D yX3_askedBy cX3_askedBy 1 ((some .long)) 1 0 0 M [.int (nI k)] (fun r M' => r = lN (zAsk k) ∧ M' = M) := by
  refine rM (lv0 := [some (.int (nI k))]) (by decide) rfl rfl (Nat.le_of_ble_eq_true rfl) (fun P0 E0 S0 m0 as0 bl0 mt0 c0 A F hrt9 hnm => ?_)
  refine rg_iload_n F (pc := 0) dX3_askedBy_0 rfl ?_
  rcases (show k = 0 ∨ k = 1 ∨ k = 2 ∨ k = 3 by omega) with rfl | rfl | rfl | rfl
  · refine rg_tab F (pc := 1) (off := 27) (tgt := 28) dX3_askedBy_1 (by decide) (by decide) (by decide) (by decide) ?_
    refine rg_ldc2 F (pc := 28) (v := 2730) q180 dX3_askedBy_28 ?_
    refine rg_top (v2 := .long (lN 2730)) rfl ?_
    exact rg_lret F (pc := 31) hrt9 (by decide) (by decide) dX3_askedBy_31 ⟨rfl, rfl⟩
  · refine rg_tab F (pc := 1) (off := 31) (tgt := 32) dX3_askedBy_1 (by decide) (by decide) (by decide) (by decide) ?_
    refine rg_ldc2 F (pc := 32) (v := 1365) q181 dX3_askedBy_32 ?_
    refine rg_top (v2 := .long (lN 1365)) rfl ?_
    exact rg_lret F (pc := 35) hrt9 (by decide) (by decide) dX3_askedBy_35 ⟨rfl, rfl⟩
  · refine rg_tab F (pc := 1) (off := 35) (tgt := 36) dX3_askedBy_1 (by decide) (by decide) (by decide) (by decide) ?_
    refine rg_ldc2 F (pc := 36) (v := 149796) q182 dX3_askedBy_36 ?_
    refine rg_top (v2 := .long (lN 149796)) rfl ?_
    exact rg_lret F (pc := 39) hrt9 (by decide) (by decide) dX3_askedBy_39 ⟨rfl, rfl⟩
  · refine rg_tabO F (pc := 1) (tgt := 40) dX3_askedBy_1 (by decide) (by decide) ?_
    refine rg_ldc2 F (pc := 40) (v := 37449) q183 dX3_askedBy_40 ?_
    refine rg_top (v2 := .long (lN 37449)) rfl ?_
    exact rg_lret F (pc := 43) hrt9 (by decide) (by decide) dX3_askedBy_43 ⟨rfl, rfl⟩
theorem zAsk_lt (k : Nat) : zAsk k < 2 ^ 18 := by unfold zAsk; split <;> (try split) <;> (try split) <;> decide
theorem zOff_lt (x k cnt : Nat) (hx : x < 2 ^ 18) : (x ^^^ zAsk k) % 2 ^ cnt < 262144 := Nat.lt_of_le_of_lt (Nat.mod_le _ _) (Nat.xor_lt_two_pow hx (zAsk_lt k))
theorem p64 (k : Nat) (h : k ≤ 64) : 2 ^ k - 1 < 2 ^ 64 := Nat.lt_of_lt_of_le (Nat.sub_lt (Nat.two_pow_pos _) (by decide)) (Nat.pow_le_pow_right (by decide) h)
theorem x64 (x k : Nat) (hx : x < 2 ^ 18) : (x ^^^ zAsk k) < 2 ^ 64 := Nat.lt_of_lt_of_le (Nat.xor_lt_two_pow hx (zAsk_lt k)) (by decide)
set_option maxHeartbeats 4000000 in
set_option maxRecDepth 100000 in
theorem c_offBy (l : Launch) (D : va_G) (M : rMem) (k x cnt : Nat) (hk : k < 4) (hx : x < 2 ^ 18) (hc : cnt ≤ 18) : CMi l D yX1_offBy cX1_offBy 4 ((some .int)) 2 0 0 M [.int (nI k), .long (lN x), .int (nI cnt)] (fun r M' => r = nI (zOffM k x cnt) ∧ M' = M) := by
  refine rM (lv0 := [some (.int (nI k)), some (.long (lN x)), none, some (.int (nI cnt))]) (by decide) rfl rfl (Nat.le_of_ble_eq_true rfl) (fun P0 E0 S0 m0 as0 bl0 mt0 c0 A F hrt9 hnm => ?_)
  refine rg_lload_n F (pc := 0) dX1_offBy_0 rfl ?_
  refine rg_iload_n F (pc := 1) dX1_offBy_1 rfl ?_
  refine rg_callNl F (pc := 2) (As := [.int (nI k)]) (rest := [.long (lN x)]) (c_asked l D _ k (by omega)) qn12 sq_X3_askedBy rfl rfl (Nat.le_of_ble_eq_true rfl) (Nat.le_of_ble_eq_true rfl) (Nat.le_of_ble_eq_true rfl) ⟨(Nat.le_of_ble_eq_true rfl), (Nat.le_of_ble_eq_true rfl)⟩ dX1_offBy_2 (fun r9 M9 hp => ?_)
  refine rg_top (v2 := .long (lN (zAsk k))) (by first | (rw [hp.1]; done) | (rw [hp.1]; rfl)) ?_
  refine rg_mem (M2 := M) hp.2 ?_
  refine rg_lxor F (pc := 5) (v := lN (x ^^^ (zAsk k))) dX1_offBy_5 (rn_lxor (by omega) (Nat.lt_of_lt_of_le (zAsk_lt k) (by decide))) ?_
  refine rg_iload_n F (pc := 6) dX1_offBy_6 rfl ?_
  refine rg_callNl F (pc := 7) (As := [.int (nI cnt)]) (rest := [.long (lN (x ^^^ (zAsk k)))]) (c_lowBits_n l D _ cnt (by omega)) qn13 sq_X3_lowBits rfl rfl (Nat.le_of_ble_eq_true rfl) (Nat.le_of_ble_eq_true rfl) (Nat.le_of_ble_eq_true rfl) ⟨(Nat.le_of_ble_eq_true rfl), (Nat.le_of_ble_eq_true rfl)⟩ dX1_offBy_7 (fun r9 M9 hp => ?_)
  refine rg_top (v2 := .long (lN (2 ^ min cnt 64 - 1))) (by first | (rw [hp.1]; done) | (rw [hp.1]; rfl)) ?_
  refine rg_mem (M2 := M) hp.2 ?_
  refine rg_land F (pc := 10) (v := lN ((x ^^^ zAsk k) % 2 ^ cnt)) dX1_offBy_10 ((wb_and (x64 x k hx) (p64 _ (Nat.min_le_right _ _))).trans (by rw [Nat.min_eq_left (by omega), Nat.and_two_pow_sub_one_eq_mod])) ?_
  refine rg_callSi F (pc := 11) (As := [.long (lN ((x ^^^ zAsk k) % 2 ^ cnt))]) (rest := []) (c_bitsL l D _ ((x ^^^ zAsk k) % 2 ^ cnt) (zOff_lt x k cnt hx)) q184 sq_J13_bitCount_95d88 rfl rfl (Nat.le_of_ble_eq_true rfl) (Nat.le_of_ble_eq_true rfl) (Nat.le_of_ble_eq_true rfl) ⟨(Nat.le_of_ble_eq_true rfl), (Nat.le_of_ble_eq_true rfl)⟩ dX1_offBy_11 (fun r9 M9 hp => ?_)
  refine rg_top (v2 := .int (nI (pop 18 ((x ^^^ zAsk k) % 2 ^ cnt)))) (by first | (rw [hp.1]; done) | (rw [hp.1]; rfl)) ?_
  refine rg_mem (M2 := M) hp.2 ?_
  exact rg_iret F (pc := 14) hrt9 (by decide) (by decide) dX1_offBy_14 ⟨rfl, rfl⟩
set_option maxHeartbeats 4000000 in
set_option maxRecDepth 100000 in
theorem c_cellAt (l : Launch) (D : va_G) (M : rMem) (fl fa en : Nat) (f : Nat → Int64) (G j : Nat) (hf : M fl = some (.inr (1, [.ref fa, .int (nI en)]))) (ha : M fa = some (.inl (D.1 7, (5, .inr (.inl f))))) (hq : ∀ q, q < 5 → f q = lN (fc G q)) (hF : G < 2 ^ 320) (hj : j < 2 ^ 20) : CMl l D yX0_cellAt cX0_cellAt 2 ((some .long)) 1 0 0 M [.ref (fl), .int (nI j)] (fun r M' => r = lN (fc G j) ∧ M' = M) := by
  refine rM (lv0 := [some (.ref (fl)), some (.int (nI j))]) (by decide) rfl rfl (Nat.le_of_ble_eq_true rfl) (fun P0 E0 S0 m0 as0 bl0 mt0 c0 A F hrt9 hnm => ?_)
  refine rg_iload_n F (pc := 0) dX0_cellAt_0 rfl ?_
  refine rg_if_lt F (pc := 1) (tgt := 22) dX0_cellAt_1 (by decide) (fun c9 => absurd c9 (nI_pos (by omega))) (fun _ => ?_)
  refine rg_iload_n F (pc := 4) dX0_cellAt_4 rfl ?_
  refine rg_aload_n F (pc := 5) dX0_cellAt_5 rfl ?_
  refine rg_get F (pc := 6) (ci := 1) rfl inX0 hf 0 (by decide) q167 (fun _ h9 => h9) rfl dX0_cellAt_6 ?_
  refine rg_alen F (pc := 9) (t := 1) ha rfl dX0_cellAt_9 ?_
  refine rg_ncmp_ge F (pc := 10) (tgt := 22) dX0_cellAt_10 (by decide) (by omega) (by omega) (fun c10 => ?_) (fun c10 => ?_)
  · refine rg_lconst F (pc := 22) (v := lN 0) dX0_cellAt_22 (by decide) ?_
    exact rg_lret F (pc := 23) hrt9 (by decide) (by decide) dX0_cellAt_23 ⟨by rw [fc_big hF (by omega)], rfl⟩
  · refine rg_aload_n F (pc := 13) dX0_cellAt_13 rfl ?_
    refine rg_get F (pc := 14) (ci := 1) rfl inX0 hf 0 (by decide) q167 (fun _ h9 => h9) rfl dX0_cellAt_14 ?_
    refine rg_iload_n F (pc := 17) dX0_cellAt_17 rfl ?_
    refine rg_lald F (pc := 18) (x := lN (fc G j)) ha (by omega) (by omega) (hq j (by omega)) dX0_cellAt_18 ?_
    refine rg_goto F (pc := 19) (tgt := 23) dX0_cellAt_19 (by decide) ?_
    exact rg_lret F (pc := 23) hrt9 (by decide) (by decide) dX0_cellAt_23 ⟨rfl, rfl⟩
set_option maxHeartbeats 4000000 in
set_option maxRecDepth 100000 in
theorem c_addTo (l : Launch) (D : va_G) (M : rMem) (fl fa en : Nat) (f : Nat → Int64) (v : Nat → Nat) (j b : Nat) (hf : M fl = some (.inr (1, [.ref fa, .int (nI en)]))) (ha : M fa = some (.inl (D.1 7, (5, .inr (.inl f))))) (hq : ∀ q, q < 5 → f q = lN (v q)) (hv : ∀ q, v q < 2 ^ 64) (hj : j < 2 ^ 20) : CMv l D yX0_addTo cX0_addTo 4 1 0 0 M [.ref (fl), .int (nI j), .long (lN b)] (fun M' => ∃ f2, M' = mset M fa (.inl (D.1 7, (5, .inr (.inl f2)))) ∧ ∀ q, q < 5 → f2 q = lN (if q = j then v q ||| b % 2 ^ 64 else v q)) := by
  refine rM (lv0 := [some (.ref (fl)), some (.int (nI j)), some (.long (lN b)), none]) (by decide) rfl rfl (Nat.le_of_ble_eq_true rfl) (fun P0 E0 S0 m0 as0 bl0 mt0 c0 A F hrt9 hnm => ?_)
  refine rg_iload_n F (pc := 0) dX0_addTo_0 rfl ?_
  refine rg_if_lt F (pc := 1) (tgt := 23) dX0_addTo_1 (by decide) (fun c9 => absurd c9 (nI_pos (by omega))) (fun _ => ?_)
  refine rg_iload_n F (pc := 4) dX0_addTo_4 rfl ?_
  refine rg_aload_n F (pc := 5) dX0_addTo_5 rfl ?_
  refine rg_get F (pc := 6) (ci := 1) rfl inX0 hf 0 (by decide) q167 (fun _ h9 => h9) rfl dX0_addTo_6 ?_
  refine rg_alen F (pc := 9) (t := 1) ha rfl dX0_addTo_9 ?_
  refine rg_ncmp_ge F (pc := 10) (tgt := 23) dX0_addTo_10 (by decide) (by omega) (by omega) (fun c10 => ?_) (fun c10 => ?_)
  · exact rg_vret F (pc := 23) hrt9 (by decide) (by decide) dX0_addTo_23 ⟨f, (mset_self ha).symm, fun q hq9 => by rw [if_neg (by omega)]; exact hq q hq9⟩
  · refine rg_aload_n F (pc := 13) dX0_addTo_13 rfl ?_
    refine rg_get F (pc := 14) (ci := 1) rfl inX0 hf 0 (by decide) q167 (fun _ h9 => h9) rfl dX0_addTo_14 ?_
    refine rg_iload_n F (pc := 17) dX0_addTo_17 rfl ?_
    refine rg_dup2 F (pc := 18) dX0_addTo_18 rfl rfl ?_
    refine rg_lald F (pc := 19) (x := lN (v j)) ha (by omega) (by omega) (hq j (by omega)) dX0_addTo_19 ?_
    refine rg_lload_n F (pc := 20) dX0_addTo_20 rfl ?_
    refine rg_lor F (pc := 21) (v := lN (v j ||| b % 2 ^ 64)) dX0_addTo_21 (by rw [wb_mod b]; exact wb_or (hv _) (Nat.mod_lt _ (by decide))) ?_
    refine rg_last F (pc := 22) ha (by omega) (by omega) dX0_addTo_22 ?_
    exact rg_vret F (pc := 23) hrt9 (by decide) (by decide) dX0_addTo_23 ⟨_, rfl, fun q hq9 => by unfold vp_updL; by_cases h : q = j <;> simp [h]; exact hq q hq9⟩
set_option maxHeartbeats 4000000 in
set_option maxRecDepth 100000 in
theorem c_read (l : Launch) (D : va_G) (M : rMem) (fl fa en : Nat) (f : Nat → Int64) (G st cnt : Nat) (hf : M fl = some (.inr (1, [.ref fa, .int (nI en)]))) (ha : M fa = some (.inl (D.1 7, (5, .inr (.inl f))))) (hq : ∀ q, q < 5 → f q = lN (fc G q)) (hF : G < 2 ^ 320) (hs : st ≤ 320) (hc : cnt ≤ 18) : CMl l D yX0_read cX0_read 7 ((some .long)) 2 0 0 M [.ref (fl), .int (nI st), .int (nI cnt)] (fun r M' => r = lN (G / 2 ^ st % 2 ^ cnt) ∧ M' = M) := by
  have hr9 := fc_read (F := G) (start := st) (c := st / 64) (s := st % 64) (cnt := cnt) (by omega) (by omega) (by omega)
  refine rM (lv0 := [some (.ref (fl)), some (.int (nI st)), some (.int (nI cnt)), none, none, none, none]) (by decide) rfl rfl (Nat.le_of_ble_eq_true rfl) (fun P0 E0 S0 m0 as0 bl0 mt0 c0 A F hrt9 hnm => ?_)
  refine rg_iload_n F (pc := 0) dX0_read_0 rfl ?_
  refine rg_bipush F (pc := 1) (v := nI 64) dX0_read_1 (by decide) ?_
  refine rg_idiv F (pc := 3) (v := nI (st / 64)) dX0_read_3 (by decide) (pk_div (by omega) (by omega) (by omega)) ?_
  refine rg_istore_n F (pc := 4) (lv' := [some (.ref (fl)), some (.int (nI st)), some (.int (nI cnt)), some (.int (nI (st / 64))), none, none, none]) dX0_read_4 (Nat.le_of_ble_eq_true rfl) rfl ?_
  refine rg_iload_n F (pc := 5) dX0_read_5 rfl ?_
  refine rg_bipush F (pc := 6) (v := nI 64) dX0_read_6 (by decide) ?_
  refine rg_irem F (pc := 8) (v := nI (st % 64)) dX0_read_8 (by decide) (pk_rem (by omega) (by omega) (by omega)) ?_
  refine rg_istore F (pc := 9) (lv' := [some (.ref (fl)), some (.int (nI st)), some (.int (nI cnt)), some (.int (nI (st / 64))), some (.int (nI (st % 64))), none, none]) dX0_read_9 (Nat.le_of_ble_eq_true rfl) rfl ?_
  refine rg_aload_n F (pc := 11) dX0_read_11 rfl ?_
  refine rg_iload_n F (pc := 12) dX0_read_12 rfl ?_
  refine rg_callVl F (pc := 13) (As := [.int (nI (st / 64))]) (rest := []) (ci := 1) (c_cellAt l D _ fl fa en f G (st / 64) hf ha hq hF (by omega)) q172 vq_X0_cellAt rfl hf rfl rfl (Nat.le_of_ble_eq_true rfl) (Nat.le_of_ble_eq_true rfl) (Nat.le_of_ble_eq_true rfl) ⟨(Nat.le_of_ble_eq_true rfl), (Nat.le_of_ble_eq_true rfl)⟩ dX0_read_13 (fun r9 M9 hp => ?_)
  refine rg_top (v2 := .long (lN (fc G (st / 64)))) (by first | (rw [hp.1]; done) | (rw [hp.1]; rfl)) ?_
  refine rg_mem (M2 := M) hp.2 ?_
  refine rg_iload F (pc := 16) dX0_read_16 rfl ?_
  refine rg_lushr F (pc := 18) (v := lN ((fc G (st / 64)) / 2 ^ (st % 64))) dX0_read_18 (wb_shr (fc_lt _ _) (by omega)) ?_
  refine rg_lstore F (pc := 19) (lv' := [some (.ref (fl)), some (.int (nI st)), some (.int (nI cnt)), some (.int (nI (st / 64))), some (.int (nI (st % 64))), some (.long (lN ((fc G (st / 64)) / 2 ^ (st % 64)))), none]) dX0_read_19 (Nat.le_of_ble_eq_true rfl) rfl ?_
  refine rg_iload F (pc := 21) dX0_read_21 rfl ?_
  refine rg_iload_n F (pc := 23) dX0_read_23 rfl ?_
  refine rg_iadd F (pc := 24) (v := nI ((st % 64) + cnt)) dX0_read_24 (nI_add _ _) ?_
  refine rg_bipush F (pc := 25) (v := nI 64) dX0_read_25 (by decide) ?_
  refine rg_ncmp_le F (pc := 27) (tgt := 48) dX0_read_27 (by decide) (by omega) (by omega) (fun c27 => ?_) (fun c27 => ?_)
  · refine rg_lload F (pc := 48) dX0_read_48 rfl ?_
    refine rg_iload_n F (pc := 50) dX0_read_50 rfl ?_
    refine rg_callNl F (pc := 51) (As := [.int (nI cnt)]) (rest := [.long (lN ((fc G (st / 64)) / 2 ^ (st % 64)))]) (c_lowBits_n l D _ cnt (by omega)) qn10 sq_X3_lowBits rfl rfl (Nat.le_of_ble_eq_true rfl) (Nat.le_of_ble_eq_true rfl) (Nat.le_of_ble_eq_true rfl) ⟨(Nat.le_of_ble_eq_true rfl), (Nat.le_of_ble_eq_true rfl)⟩ dX0_read_51 (fun r9 M9 hp => ?_)
    refine rg_top (v2 := .long (lN (2 ^ min cnt 64 - 1))) (by first | (rw [hp.1]; done) | (rw [hp.1]; rfl)) ?_
    refine rg_mem (M2 := M) hp.2 ?_
    refine rg_land F (pc := 54) (v := lN (((fc G (st / 64)) / 2 ^ (st % 64)) &&& (2 ^ cnt - 1))) dX0_read_54 ((wb_and (Nat.lt_of_le_of_lt (Nat.div_le_self _ _) (fc_lt _ _)) (p64 _ (Nat.min_le_right _ _))).trans (by rw [(Nat.min_eq_left (show cnt ≤ 64 by omega))])) ?_
    exact rg_lret F (pc := 55) hrt9 (by decide) (by decide) dX0_read_55 ⟨by rw [hr9, if_neg (by omega)], rfl⟩
  · refine rg_lload F (pc := 30) dX0_read_30 rfl ?_
    refine rg_aload_n F (pc := 32) dX0_read_32 rfl ?_
    refine rg_iload_n F (pc := 33) dX0_read_33 rfl ?_
    refine rg_iconst F (pc := 34) (v := nI 1) dX0_read_34 (by decide) ?_
    refine rg_iadd F (pc := 35) (v := nI ((st / 64) + 1)) dX0_read_35 (nI_add _ _) ?_
    refine rg_callVl F (pc := 36) (As := [.int (nI ((st / 64) + 1))]) (rest := [.long (lN ((fc G (st / 64)) / 2 ^ (st % 64)))]) (ci := 1) (c_cellAt l D _ fl fa en f G ((st / 64) + 1) hf ha hq hF (by omega)) q172 vq_X0_cellAt rfl hf rfl rfl (Nat.le_of_ble_eq_true rfl) (Nat.le_of_ble_eq_true rfl) (Nat.le_of_ble_eq_true rfl) ⟨(Nat.le_of_ble_eq_true rfl), (Nat.le_of_ble_eq_true rfl)⟩ dX0_read_36 (fun r9 M9 hp => ?_)
    refine rg_top (v2 := .long (lN (fc G ((st / 64) + 1)))) (by first | (rw [hp.1]; done) | (rw [hp.1]; rfl)) ?_
    refine rg_mem (M2 := M) hp.2 ?_
    refine rg_bipush F (pc := 39) (v := nI 64) dX0_read_39 (by decide) ?_
    refine rg_iload F (pc := 41) dX0_read_41 rfl ?_
    refine rg_isub F (pc := 43) (v := nI (64 - (st % 64))) dX0_read_43 (pk_sub (by omega)) ?_
    refine rg_lshl F (pc := 44) (v := lN (fc G (st / 64 + 1) * 2 ^ (64 - st % 64) % 2 ^ 64)) dX0_read_44 ((wb_shl _ (by omega)).trans (wb_mod _)) ?_
    refine rg_lor F (pc := 45) (v := lN (((fc G (st / 64)) / 2 ^ (st % 64)) ||| (fc G (st / 64 + 1) * 2 ^ (64 - st % 64) % 2 ^ 64))) dX0_read_45 (wb_or (Nat.lt_of_le_of_lt (Nat.div_le_self _ _) (fc_lt _ _)) (Nat.mod_lt _ (by decide))) ?_
    refine rg_lstore F (pc := 46) (lv' := [some (.ref (fl)), some (.int (nI st)), some (.int (nI cnt)), some (.int (nI (st / 64))), some (.int (nI (st % 64))), some (.long (lN (((fc G (st / 64)) / 2 ^ (st % 64)) ||| (fc G (st / 64 + 1) * 2 ^ (64 - st % 64) % 2 ^ 64)))), none]) dX0_read_46 (Nat.le_of_ble_eq_true rfl) rfl ?_
    refine rg_lload F (pc := 48) dX0_read_48 rfl ?_
    refine rg_iload_n F (pc := 50) dX0_read_50 rfl ?_
    refine rg_callNl F (pc := 51) (As := [.int (nI cnt)]) (rest := [.long (lN (((fc G (st / 64)) / 2 ^ (st % 64)) ||| (fc G (st / 64 + 1) * 2 ^ (64 - st % 64) % 2 ^ 64)))]) (c_lowBits_n l D _ cnt (by omega)) qn10 sq_X3_lowBits rfl rfl (Nat.le_of_ble_eq_true rfl) (Nat.le_of_ble_eq_true rfl) (Nat.le_of_ble_eq_true rfl) ⟨(Nat.le_of_ble_eq_true rfl), (Nat.le_of_ble_eq_true rfl)⟩ dX0_read_51 (fun r9 M9 hp => ?_)
    refine rg_top (v2 := .long (lN (2 ^ min cnt 64 - 1))) (by first | (rw [hp.1]; done) | (rw [hp.1]; rfl)) ?_
    refine rg_mem (M2 := M) hp.2 ?_
    refine rg_land F (pc := 54) (v := lN ((((fc G (st / 64)) / 2 ^ (st % 64)) ||| (fc G (st / 64 + 1) * 2 ^ (64 - st % 64) % 2 ^ 64)) &&& (2 ^ cnt - 1))) dX0_read_54 ((wb_and (Nat.or_lt_two_pow (Nat.lt_of_le_of_lt (Nat.div_le_self _ _) (fc_lt _ _)) (Nat.mod_lt _ (by decide))) (p64 _ (Nat.min_le_right _ _))).trans (by rw [(Nat.min_eq_left (show cnt ≤ 64 by omega))])) ?_
    exact rg_lret F (pc := 55) hrt9 (by decide) (by decide) dX0_read_55 ⟨by rw [hr9, if_pos (by omega)], rfl⟩
theorem fl_lt {G c y : Nat} (q : Nat) : (if q = c then fc G q ||| y % 2 ^ 64 else fc G q) < 2 ^ 64 := by
  split
  · exact Nat.or_lt_two_pow (fc_lt _ _) (Nat.mod_lt _ (by decide))
  · exact fc_lt _ _
theorem fl_step {fi : Nat → Int64} {v w : Nat → Nat} {i : Nat} (h : ∀ q, q < 5 → fi q = lN (if q < i then w q else v q)) : ∀ q, q < 5 → vp_updL fi i (lN (w i)) q = lN (if q < i + 1 then w q else v q) := by
  intro q hq
  unfold vp_updL
  by_cases h1 : q = i
  · subst h1
    rw [if_pos rfl, if_pos (Nat.lt_succ_self _)]
  · rw [if_neg h1, h q hq]
    by_cases h3 : q < i
    · rw [if_pos h3, if_pos (by omega)]
    · rw [if_neg h3, if_neg (by omega)]
theorem fl_two {q c s cnt x y z : Nat} (h : 64 < s + cnt) (hz : z < 2 ^ 64) : (if q = c + 1 then (if q = c then x ||| y else x) ||| z % 2 ^ 64 else if q = c then x ||| y else x) = (x ||| if q = c then y else if q = c + 1 ∧ 64 < s + cnt then z else 0) := by
  by_cases h1 : q = c + 1
  · have h2 : ¬ q = c := by omega
    rw [if_pos h1, if_neg h2, if_neg h2, if_pos ⟨h1, h⟩, Nat.mod_eq_of_lt hz]
  · rw [if_neg h1]
    by_cases h2 : q = c
    · rw [if_pos h2, if_pos h2]
    · rw [if_neg h2, if_neg h2, if_neg (fun z => h1 z.1), Nat.or_zero]
set_option maxHeartbeats 4000000 in
set_option maxRecDepth 100000 in
theorem c_fadd (l : Launch) (D : va_G) (M : rMem) (fl fa en : Nat) (f : Nat → Int64) (G b cnt : Nat) (hf : M fl = some (.inr (1, [.ref fa, .int (nI en)]))) (ha : M fa = some (.inl (D.1 7, (5, .inr (.inl f))))) (hq : ∀ q, q < 5 → f q = lN (fc G q)) (he : en + cnt ≤ 320) (hc : cnt ≤ 32) (hb : b < 2 ^ cnt) : CMv l D yX0_add cX0_add 6 2 0 0 M [.ref (fl), .long (lN b), .int (nI cnt)] (fun M' => ∃ f2, M' = mset (mset M fa (.inl (D.1 7, (5, .inr (.inl f2))))) fl (.inr (1, [.ref fa, .int (nI (en + cnt))])) ∧ ∀ q, q < 5 → f2 q = lN (fc (G ||| b * 2 ^ en) q)) := by
  have h32 : b < 2 ^ 64 := Nat.lt_of_lt_of_le hb (Nat.pow_le_pow_right (by decide) (by omega))
  have hfa9 := fun q => fc_add (b := b) (en := en) (c := en / 64) (s := en % 64) (cnt := cnt) (q := q) (by omega) (by omega) hb (by omega)
  refine rM (lv0 := [some (.ref (fl)), some (.long (lN b)), none, some (.int (nI cnt)), none, none]) (by decide) rfl rfl (Nat.le_of_ble_eq_true rfl) (fun P0 E0 S0 m0 as0 bl0 mt0 c0 A F hrt9 hnm => ?_)
  refine rg_aload_n F (pc := 0) dX0_add_0 rfl ?_
  refine rg_get F (pc := 1) (ci := 1) rfl inX0 hf 1 (by decide) q163 (fun _ h9 => h9) rfl dX0_add_1 ?_
  refine rg_bipush F (pc := 4) (v := nI 64) dX0_add_4 (by decide) ?_
  refine rg_idiv F (pc := 6) (v := nI (en / 64)) dX0_add_6 (by decide) (pk_div (by omega) (by omega) (by omega)) ?_
  refine rg_istore F (pc := 7) (lv' := [some (.ref (fl)), some (.long (lN b)), none, some (.int (nI cnt)), some (.int (nI (en / 64))), none]) dX0_add_7 (Nat.le_of_ble_eq_true rfl) rfl ?_
  refine rg_aload_n F (pc := 9) dX0_add_9 rfl ?_
  refine rg_get F (pc := 10) (ci := 1) rfl inX0 hf 1 (by decide) q163 (fun _ h9 => h9) rfl dX0_add_10 ?_
  refine rg_bipush F (pc := 13) (v := nI 64) dX0_add_13 (by decide) ?_
  refine rg_irem F (pc := 15) (v := nI (en % 64)) dX0_add_15 (by decide) (pk_rem (by omega) (by omega) (by omega)) ?_
  refine rg_istore F (pc := 16) (lv' := [some (.ref (fl)), some (.long (lN b)), none, some (.int (nI cnt)), some (.int (nI (en / 64))), some (.int (nI (en % 64)))]) dX0_add_16 (Nat.le_of_ble_eq_true rfl) rfl ?_
  refine rg_aload_n F (pc := 18) dX0_add_18 rfl ?_
  refine rg_iload F (pc := 19) dX0_add_19 rfl ?_
  refine rg_lload_n F (pc := 21) dX0_add_21 rfl ?_
  refine rg_iload F (pc := 22) dX0_add_22 rfl ?_
  refine rg_lshl F (pc := 24) (v := lN (b * 2 ^ (en % 64))) dX0_add_24 (wb_shl _ (by omega)) ?_
  refine rg_callVv F (pc := 25) (As := [.int (nI (en / 64)), .long (lN (b * 2 ^ (en % 64)))]) (rest := []) (ci := 1) (c_addTo l D _ fl fa en f (fc G) (en / 64) (b * 2 ^ (en % 64)) hf ha hq (fc_lt G) (by omega)) q164 vq_X0_addTo rfl hf rfl rfl (Nat.le_of_ble_eq_true rfl) (Nat.le_of_ble_eq_true rfl) (Nat.le_of_ble_eq_true rfl) ⟨(Nat.le_of_ble_eq_true rfl), (Nat.le_of_ble_eq_true rfl)⟩ dX0_add_25 (fun M9 hp => ?_)
  obtain ⟨f2, hM9, hf2⟩ := hp
  refine rg_mem (M2 := (mset M fa (.inl (D.1 7, (5, .inr (.inl f2)))))) hM9 ?_
  refine rg_iload F (pc := 28) dX0_add_28 rfl ?_
  refine rg_iload_n F (pc := 30) dX0_add_30 rfl ?_
  refine rg_iadd F (pc := 31) (v := nI ((en % 64) + cnt)) dX0_add_31 (nI_add _ _) ?_
  refine rg_bipush F (pc := 32) (v := nI 64) dX0_add_32 (by decide) ?_
  refine rg_ncmp_le F (pc := 34) (tgt := 52) dX0_add_34 (by decide) (by omega) (by omega) (fun c34 => ?_) (fun c34 => ?_)
  · refine rg_aload_n F (pc := 52) dX0_add_52 rfl ?_
    refine rg_dup F (pc := 53) dX0_add_53 rfl ?_
    refine rg_get F (pc := 54) (ci := 1) rfl inX0 (mset_keep hf (mne_oa hf ha)) 1 (by decide) q163 (fun _ h9 => h9) rfl dX0_add_54 ?_
    refine rg_iload_n F (pc := 57) dX0_add_57 rfl ?_
    refine rg_iadd F (pc := 58) (v := nI (en + cnt)) dX0_add_58 (nI_add _ _) ?_
    refine rg_put F (pc := 59) (ci := 1) (ty := tyX0 1) rfl inX0 tyX0 tyX0_ok nmX0 (mset_keep hf (mne_oa hf ha)) 1 (by decide) q163 (fun _ h9 => h9) rfl (tyX0_ok 1 (by decide)) rfl rfl (Nat.le_of_ble_eq_true rfl) dX0_add_59 ?_
    refine rg_mem (M2 := (mset (mset M fa (.inl (D.1 7, (5, .inr (.inl f2))))) fl (.inr (1, [.ref (fa), .int (nI (en + cnt))])))) rfl ?_
    exact rg_vret F (pc := 62) hrt9 (by decide) (by decide) dX0_add_62 ⟨f2, rfl, fun q hq9 => by rw [hf2 q hq9, fc_or, hfa9]; by_cases h1 : q = en / 64 <;> simp [h1, show ¬ 64 < en % 64 + cnt by omega]⟩
  · refine rg_aload_n F (pc := 37) dX0_add_37 rfl ?_
    refine rg_iload F (pc := 38) dX0_add_38 rfl ?_
    refine rg_iconst F (pc := 40) (v := nI 1) dX0_add_40 (by decide) ?_
    refine rg_iadd F (pc := 41) (v := nI ((en / 64) + 1)) dX0_add_41 (nI_add _ _) ?_
    refine rg_lload_n F (pc := 42) dX0_add_42 rfl ?_
    refine rg_bipush F (pc := 43) (v := nI 64) dX0_add_43 (by decide) ?_
    refine rg_iload F (pc := 45) dX0_add_45 rfl ?_
    refine rg_isub F (pc := 47) (v := nI (64 - (en % 64))) dX0_add_47 (pk_sub (by omega)) ?_
    refine rg_lushr F (pc := 48) (v := lN (b / 2 ^ (64 - (en % 64)))) dX0_add_48 (wb_shr h32 (by omega)) ?_
    refine rg_callVv F (pc := 49) (As := [.int (nI ((en / 64) + 1)), .long (lN (b / 2 ^ (64 - (en % 64))))]) (rest := []) (ci := 1) (c_addTo l D _ fl fa en f2 (fun q => if q = en / 64 then fc G q ||| b * 2 ^ (en % 64) % 2 ^ 64 else fc G q) ((en / 64) + 1) (b / 2 ^ (64 - (en % 64))) (mset_keep hf (mne_oa hf ha)) mset_eq hf2 (fun q => fl_lt q) (by omega)) q164 vq_X0_addTo rfl (mset_keep hf (mne_oa hf ha)) rfl rfl (Nat.le_of_ble_eq_true rfl) (Nat.le_of_ble_eq_true rfl) (Nat.le_of_ble_eq_true rfl) ⟨(Nat.le_of_ble_eq_true rfl), (Nat.le_of_ble_eq_true rfl)⟩ dX0_add_49 (fun M9 hp => ?_)
    obtain ⟨f3, hM9, hf3⟩ := hp
    refine rg_mem (M2 := (mset M fa (.inl (D.1 7, (5, .inr (.inl f3)))))) (hM9.trans mset_mset) ?_
    refine rg_aload_n F (pc := 52) dX0_add_52 rfl ?_
    refine rg_dup F (pc := 53) dX0_add_53 rfl ?_
    refine rg_get F (pc := 54) (ci := 1) rfl inX0 (mset_keep hf (mne_oa hf ha)) 1 (by decide) q163 (fun _ h9 => h9) rfl dX0_add_54 ?_
    refine rg_iload_n F (pc := 57) dX0_add_57 rfl ?_
    refine rg_iadd F (pc := 58) (v := nI (en + cnt)) dX0_add_58 (nI_add _ _) ?_
    refine rg_put F (pc := 59) (ci := 1) (ty := tyX0 1) rfl inX0 tyX0 tyX0_ok nmX0 (mset_keep hf (mne_oa hf ha)) 1 (by decide) q163 (fun _ h9 => h9) rfl (tyX0_ok 1 (by decide)) rfl rfl (Nat.le_of_ble_eq_true rfl) dX0_add_59 ?_
    refine rg_mem (M2 := (mset (mset M fa (.inl (D.1 7, (5, .inr (.inl f3))))) fl (.inr (1, [.ref (fa), .int (nI (en + cnt))])))) rfl ?_
    exact rg_vret F (pc := 62) hrt9 (by decide) (by decide) dX0_add_62 ⟨f3, rfl, fun q hq9 => by rw [hf3 q hq9, fc_or, hfa9]; exact congrArg lN (fl_two (by omega) (Nat.lt_of_le_of_lt (Nat.div_le_self _ _) h32))⟩
set_option maxHeartbeats 4000000 in
set_option maxRecDepth 100000 in
theorem c_cut (l : Launch) (D : va_G) (M : rMem) (fl fa en : Nat) (f : Nat → Int64) (G cnt : Nat) (hf : M fl = some (.inr (1, [.ref fa, .int (nI en)]))) (ha : M fa = some (.inl (D.1 7, (5, .inr (.inl f))))) (hq : ∀ q, q < 5 → f q = lN (fc G q)) (hc : cnt ≤ 320) : CMv l D yX0_cutBehind cX0_cutBehind 3 2 0 0 M [.ref (fl), .int (nI cnt)] (fun M' => ∃ f2, M' = mset (mset M fa (.inl (D.1 7, (5, .inr (.inl f2))))) fl (.inr (1, [.ref fa, .int (nI cnt)])) ∧ ∀ q, q < 5 → f2 q = lN (fc (G % 2 ^ cnt) q)) := by
  refine rM (lv0 := [some (.ref (fl)), some (.int (nI cnt)), none]) (by decide) rfl rfl (Nat.le_of_ble_eq_true rfl) (fun P0 E0 S0 m0 as0 bl0 mt0 c0 A F hrt9 hnm => ?_)
  refine rg_iconst F (pc := 0) (v := nI 0) dX0_cutBehind_0 (by decide) ?_
  refine rg_istore_n F (pc := 1) (lv' := [some (.ref (fl)), some (.int (nI cnt)), some (.int (nI 0))]) dX0_cutBehind_1 (Nat.le_of_ble_eq_true rfl) rfl ?_
  refine rg_mem (M2 := (mset M fa (.inl (D.1 7, (5, .inr (.inl f)))))) (mset_self ha).symm ?_
  suffices L0 : ∀ (d9 : Nat) (i : Nat) (fi : Nat → Int64), 5 - i < d9 → (i ≤ 5) → (∀ q, q < 5 → fi q = lN (if q < i then fc (G % 2 ^ cnt) q else fc G q)) → rG P0 l E0 (rR 2 0 0) S0 m0 as0 bl0 mt0 c0 D A 3 (MQ bl0 (va_Qv (fun M' => ∃ f2, M' = mset (mset M fa (.inl (D.1 7, (5, .inr (.inl f2))))) fl (.inr (1, [.ref fa, .int (nI cnt)])) ∧ ∀ q, q < 5 → f2 q = lN (fc (G % 2 ^ cnt) q)) (cB D A) A) as0 S0 0 0 A) (mset M fa (.inl (D.1 7, (5, .inr (.inl fi))))) 0 0 [some (.ref (fl)), some (.int (nI cnt)), some (.int (nI i))] 2 [] from L0 _ 0 f (Nat.lt_succ_self _) (by omega) (fun q hq9 => by rw [if_neg (Nat.not_lt_zero _)]; exact hq q hq9)
  intro d9
  induction d9 with
  | zero => intro i fi hd9; exact absurd hd9 (Nat.not_lt_zero _)
  | succ d9 ih =>
    intro i fi hd9 hi hfi
    refine rg_iload_n F (pc := 2) dX0_cutBehind_2 rfl ?_
    refine rg_aload_n F (pc := 3) dX0_cutBehind_3 rfl ?_
    refine rg_get F (pc := 4) (ci := 1) rfl inX0 (mset_keep hf (mne_oa hf ha)) 0 (by decide) q167 (fun _ h9 => h9) rfl dX0_cutBehind_4 ?_
    refine rg_alen F (pc := 7) (t := 1) mset_eq rfl dX0_cutBehind_7 ?_
    refine rg_ncmp_ge F (pc := 8) (tgt := 35) dX0_cutBehind_8 (by decide) (by omega) (by omega) (fun c8 => ?_) (fun c8 => ?_)
    · refine rg_aload_n F (pc := 35) dX0_cutBehind_35 rfl ?_
      refine rg_iload_n F (pc := 36) dX0_cutBehind_36 rfl ?_
      refine rg_put F (pc := 37) (ci := 1) (ty := tyX0 1) rfl inX0 tyX0 tyX0_ok nmX0 (mset_keep hf (mne_oa hf ha)) 1 (by decide) q163 (fun _ h9 => h9) rfl (tyX0_ok 1 (by decide)) rfl rfl (Nat.le_of_ble_eq_true rfl) dX0_cutBehind_37 ?_
      refine rg_mem (M2 := (mset (mset M fa (.inl (D.1 7, (5, .inr (.inl fi))))) fl (.inr (1, [.ref (fa), .int (nI cnt)])))) rfl ?_
      exact rg_vret F (pc := 40) hrt9 (by decide) (by decide) dX0_cutBehind_40 ⟨fi, rfl, fun q hq9 => by rw [hfi q hq9, if_pos (by omega)]⟩
    · refine rg_aload_n F (pc := 11) dX0_cutBehind_11 rfl ?_
      refine rg_get F (pc := 12) (ci := 1) rfl inX0 (mset_keep hf (mne_oa hf ha)) 0 (by decide) q167 (fun _ h9 => h9) rfl dX0_cutBehind_12 ?_
      refine rg_iload_n F (pc := 15) dX0_cutBehind_15 rfl ?_
      refine rg_dup2 F (pc := 16) dX0_cutBehind_16 rfl rfl ?_
      refine rg_lald F (pc := 17) (x := lN (fc G i)) mset_eq (by omega) (by omega) ((hfi i (by omega)).trans (by rw [if_neg (Nat.lt_irrefl _)])) dX0_cutBehind_17 ?_
      refine rg_iload_n F (pc := 18) dX0_cutBehind_18 rfl ?_
      refine rg_iload_n F (pc := 19) dX0_cutBehind_19 rfl ?_
      refine rg_bipush F (pc := 20) (v := nI 64) dX0_cutBehind_20 (by decide) ?_
      refine rg_imul F (pc := 22) (v := nI (i * 64)) dX0_cutBehind_22 (pk_mul _ _) ?_
      refine rg_isub F (pc := 23) (v := (nI cnt) - (nI (i * 64))) dX0_cutBehind_23 rfl ?_
      refine rg_callNl F (pc := 24) (As := [.int ((nI cnt) - (nI (i * 64)))]) (rest := [.long (lN (fc G i)), .int (nI i), .ref (fa)]) (c_lowBits l D _ cnt (i * 64) (by omega) (by omega)) qn10 sq_X3_lowBits rfl rfl (Nat.le_of_ble_eq_true rfl) (Nat.le_of_ble_eq_true rfl) (Nat.le_of_ble_eq_true rfl) ⟨(Nat.le_of_ble_eq_true rfl), (Nat.le_of_ble_eq_true rfl)⟩ dX0_cutBehind_24 (fun r9 M9 hp => ?_)
      refine rg_top (v2 := .long (lN (2 ^ min (cnt - (i * 64)) 64 - 1))) (by first | (rw [hp.1]; done) | (rw [hp.1]; rfl)) ?_
      refine rg_mem (M2 := (mset M fa (.inl (D.1 7, (5, .inr (.inl fi)))))) hp.2 ?_
      refine rg_land F (pc := 27) (v := lN (fc (G % 2 ^ cnt) i)) dX0_cutBehind_27 ((wb_and (fc_lt _ _) (p64 _ (Nat.min_le_right _ _))).trans (by rw [fc_cut, Nat.mul_comm i 64])) ?_
      refine rg_last F (pc := 28) mset_eq (by omega) (by omega) dX0_cutBehind_28 ?_
      refine rg_mem (M2 := (mset M fa (.inl (D.1 7, (5, .inr (.inl (vp_updL fi i (lN (fc (G % 2 ^ cnt) i))))))))) mset_mset ?_
      refine rg_iinc F (pc := 29) (v := nI (i + 1)) (lv' := [some (.ref (fl)), some (.int (nI cnt)), some (.int (nI (i + 1)))]) dX0_cutBehind_29 rfl (nI_add _ 1) (Nat.le_of_ble_eq_true rfl) rfl ?_
      refine rg_goto F (pc := 32) (tgt := 2) dX0_cutBehind_32 (by decide) ?_
      exact ih (i + 1) _ (by omega) (by omega) (fl_step hfi)
