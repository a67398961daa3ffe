theorem pb1_lt {m n : Nat} : pb1 m n ≤ n := Nat.sub_le _ _
theorem pb2_lt {m n : Nat} : pb2 m n ≤ 2 * n := by
  have h1 : (n &&& m) ≤ n := Nat.and_le_left
  have h2 : (n / 2 ^ 2 &&& m) ≤ n / 2 ^ 2 := Nat.and_le_left
  have h3 := Nat.div_le_self n (2 ^ 2)
  unfold pb2
  omega
theorem pb_sub {m n : Nat} : (n / 2 ^ 1 &&& m) ≤ n := Nat.le_trans Nat.and_le_left (Nat.div_le_self _ _)
theorem pb3_l {m n : Nat} : (n + n / 2 ^ 4 &&& m) = pb3 m n := rfl
set_option maxHeartbeats 4000000 in
set_option maxRecDepth 100000 in
theorem c_bitsL (l : Launch) (D : va_G) (M : rMem) (n : Nat) (hn : n < 262144) : CMi l D yJ13_bitCount_95d88 cJ13_bitCount_95d88 2 ((some .int)) 1 0 0 M [.long (lN n)] (fun r M' => r = nI (pop 18 n) ∧ M' = M) := by
  have hb1 : pb1 6148914691236517205 n ≤ n := pb1_lt
  have hb2 : pb2 3689348814741910323 (pb1 6148914691236517205 n) ≤ 2 * pb1 6148914691236517205 n := pb2_lt
  obtain ⟨x3, y3, z3, hx3, hy3, hz3, lx3, ly3, lz3, hr3⟩ := pn_L n hn
  refine rM (lv0 := [some (.long (lN n)), none]) (by decide) rfl rfl (Nat.le_of_ble_eq_true rfl) (fun P0 E0 S0 m0 as0 bl0 mt0 c0 A F hrt9 hnm => ?_)
  refine rg_lload_n F (pc := 0) dJ13_bitCount_95d88_0 rfl ?_
  refine rg_lload_n F (pc := 1) dJ13_bitCount_95d88_1 rfl ?_
  refine rg_iconst F (pc := 2) (v := nI 1) dJ13_bitCount_95d88_2 (by decide) ?_
  refine rg_lushr F (pc := 3) (v := lN (n / 2 ^ 1)) dJ13_bitCount_95d88_3 (wb_shr (by omega) (by omega)) ?_
  refine rg_ldc2 F (pc := 4) (v := 6148914691236517205) q187 dJ13_bitCount_95d88_4 ?_
  refine rg_top (v2 := .long (lN 6148914691236517205)) rfl ?_
  refine rg_land F (pc := 7) (v := lN ((n / 2 ^ 1) &&& 6148914691236517205)) dJ13_bitCount_95d88_7 (wb_and (Nat.lt_of_le_of_lt (Nat.div_le_self _ _) (by omega)) (by decide)) ?_
  refine rg_lsub F (pc := 8) (v := lN (pb1 6148914691236517205 n)) dJ13_bitCount_95d88_8 (lN_sub pb_sub) ?_
  refine rg_lstore_n F (pc := 9) (lv' := [some (.long (lN (pb1 6148914691236517205 n))), none]) dJ13_bitCount_95d88_9 (Nat.le_of_ble_eq_true rfl) rfl ?_
  refine rg_lload_n F (pc := 10) dJ13_bitCount_95d88_10 rfl ?_
  refine rg_ldc2 F (pc := 11) (v := 3689348814741910323) q188 dJ13_bitCount_95d88_11 ?_
  refine rg_top (v2 := .long (lN 3689348814741910323)) rfl ?_
  refine rg_land F (pc := 14) (v := lN ((pb1 6148914691236517205 n) &&& 3689348814741910323)) dJ13_bitCount_95d88_14 (wb_and (by omega) (by decide)) ?_
  refine rg_lload_n F (pc := 15) dJ13_bitCount_95d88_15 rfl ?_
  refine rg_iconst F (pc := 16) (v := nI 2) dJ13_bitCount_95d88_16 (by decide) ?_
  refine rg_lushr F (pc := 17) (v := lN ((pb1 6148914691236517205 n) / 2 ^ 2)) dJ13_bitCount_95d88_17 (wb_shr (by omega) (by omega)) ?_
  refine rg_ldc2 F (pc := 18) (v := 3689348814741910323) q188 dJ13_bitCount_95d88_18 ?_
  refine rg_top (v2 := .long (lN 3689348814741910323)) rfl ?_
  refine rg_land F (pc := 21) (v := lN (((pb1 6148914691236517205 n) / 2 ^ 2) &&& 3689348814741910323)) dJ13_bitCount_95d88_21 (wb_and (Nat.lt_of_le_of_lt (Nat.div_le_self _ _) (by omega)) (by decide)) ?_
  refine rg_ladd F (pc := 22) (v := lN (pb2 3689348814741910323 (pb1 6148914691236517205 n))) dJ13_bitCount_95d88_22 (lN_add _ _) ?_
  refine rg_lstore_n F (pc := 23) (lv' := [some (.long (lN (pb2 3689348814741910323 (pb1 6148914691236517205 n)))), none]) dJ13_bitCount_95d88_23 (Nat.le_of_ble_eq_true rfl) rfl ?_
  refine rg_lload_n F (pc := 24) dJ13_bitCount_95d88_24 rfl ?_
  refine rg_lload_n F (pc := 25) dJ13_bitCount_95d88_25 rfl ?_
  refine rg_iconst F (pc := 26) (v := nI 4) dJ13_bitCount_95d88_26 (by decide) ?_
  refine rg_lushr F (pc := 27) (v := lN ((pb2 3689348814741910323 (pb1 6148914691236517205 n)) / 2 ^ 4)) dJ13_bitCount_95d88_27 (wb_shr (by omega) (by omega)) ?_
  refine rg_ladd F (pc := 28) (v := lN ((pb2 3689348814741910323 (pb1 6148914691236517205 n)) + ((pb2 3689348814741910323 (pb1 6148914691236517205 n)) / 2 ^ 4))) dJ13_bitCount_95d88_28 (lN_add _ _) ?_
  refine rg_ldc2 F (pc := 29) (v := 1085102592571150095) q189 dJ13_bitCount_95d88_29 ?_
  refine rg_top (v2 := .long (lN 1085102592571150095)) rfl ?_
  refine rg_land F (pc := 32) (v := lN x3) dJ13_bitCount_95d88_32 ((wb_and (by omega) (by decide)).trans (by rw [hx3]; rfl)) ?_
  refine rg_lstore_n F (pc := 33) (lv' := [some (.long (lN x3)), none]) dJ13_bitCount_95d88_33 (Nat.le_of_ble_eq_true rfl) rfl ?_
  refine rg_lload_n F (pc := 34) dJ13_bitCount_95d88_34 rfl ?_
  refine rg_lload_n F (pc := 35) dJ13_bitCount_95d88_35 rfl ?_
  refine rg_bipush F (pc := 36) (v := nI 8) dJ13_bitCount_95d88_36 (by decide) ?_
  refine rg_lushr F (pc := 38) (v := lN (x3 / 2 ^ 8)) dJ13_bitCount_95d88_38 (wb_shr (by omega) (by omega)) ?_
  refine rg_ladd F (pc := 39) (v := lN y3) dJ13_bitCount_95d88_39 ((lN_add _ _).trans (by rw [hy3])) ?_
  refine rg_lstore_n F (pc := 40) (lv' := [some (.long (lN y3)), none]) dJ13_bitCount_95d88_40 (Nat.le_of_ble_eq_true rfl) rfl ?_
  refine rg_lload_n F (pc := 41) dJ13_bitCount_95d88_41 rfl ?_
  refine rg_lload_n F (pc := 42) dJ13_bitCount_95d88_42 rfl ?_
  refine rg_bipush F (pc := 43) (v := nI 16) dJ13_bitCount_95d88_43 (by decide) ?_
  refine rg_lushr F (pc := 45) (v := lN (y3 / 2 ^ 16)) dJ13_bitCount_95d88_45 (wb_shr (by omega) (by omega)) ?_
  refine rg_ladd F (pc := 46) (v := lN z3) dJ13_bitCount_95d88_46 ((lN_add _ _).trans (by rw [hz3])) ?_
  refine rg_lstore_n F (pc := 47) (lv' := [some (.long (lN z3)), none]) dJ13_bitCount_95d88_47 (Nat.le_of_ble_eq_true rfl) rfl ?_
  refine rg_lload_n F (pc := 48) dJ13_bitCount_95d88_48 rfl ?_
  refine rg_lload_n F (pc := 49) dJ13_bitCount_95d88_49 rfl ?_
  refine rg_bipush F (pc := 50) (v := nI 32) dJ13_bitCount_95d88_50 (by decide) ?_
  refine rg_lushr F (pc := 52) (v := lN (z3 / 2 ^ 32)) dJ13_bitCount_95d88_52 (wb_shr (by omega) (by omega)) ?_
  refine rg_ladd F (pc := 53) (v := lN (z3 + (z3 / 2 ^ 32))) dJ13_bitCount_95d88_53 (lN_add _ _) ?_
  refine rg_lstore_n F (pc := 54) (lv' := [some (.long (lN (z3 + (z3 / 2 ^ 32)))), none]) dJ13_bitCount_95d88_54 (Nat.le_of_ble_eq_true rfl) rfl ?_
  refine rg_lload_n F (pc := 55) dJ13_bitCount_95d88_55 rfl ?_
  refine rg_l2i F (pc := 56) (v := nI (z3 + (z3 / 2 ^ 32))) dJ13_bitCount_95d88_56 (lN_i _) ?_
  refine rg_bipush F (pc := 57) (v := nI 127) dJ13_bitCount_95d88_57 (by decide) ?_
  refine rg_iand F (pc := 59) (v := nI (pop 18 n)) dJ13_bitCount_95d88_59 ((nx_and _ _).trans (by rw [hr3])) ?_
  exact rg_iret F (pc := 60) hrt9 (by decide) (by decide) dJ13_bitCount_95d88_60 ⟨rfl, rfl⟩
