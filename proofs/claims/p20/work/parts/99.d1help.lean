/-! the law's helpers -/
theorem nI_nz {n : Nat} (h : 0 < n) (h2 : n < 2 ^ 31) : ¬ nI n = 0 := fun e => by
  have h3 := congrArg Int32.toInt e
  rw [nI_toInt h2] at h3
  have e0 : (0 : Int32).toInt = 0 := by decide
  omega
theorem lc_self (x : Int64) : lg_cmp x x = nI 0 := by
  unfold lg_cmp
  rw [if_neg (fun h => absurd (Int64.lt_iff_toInt_lt.mp h) (Int.lt_irrefl _)), if_pos rfl]
  rfl
theorem and_31 (v : Int32) : ∃ a, a < 2 ^ 31 ∧ v &&& nI 2147483647 = nI a := by
  obtain ⟨a, -, rfl⟩ := wb_of32 v
  exact ⟨a &&& 2147483647, Nat.and_lt_two_pow (n := 31) a (by decide), nx_and a _⟩
section LROW
variable {p : Program} {l : Launch} {e : Env} {R : Room} {s : State} {m : MethodId} {args : Array Value} {below : List Frame} {meth : Method} {c : Code} {cc : ByteArray} {nLo : Nat} {own : String} {D : va_G} {A : Nat → Prop} {Q : State → Prop} {M : rMem} {k n pc : Nat} {lv : List (Option Value)} {st : List Value}
theorem rg_sld (F : rF p l e R s m args below meth c cc nLo own D A) {j : Nat} (hj : j < rSn D) (hd : decode cc pc = .ok (.iaload, 1)) (kk : rG p l e R s m args below meth c D A nLo Q M k n lv (pc + 1) (.int (rSx D j) :: st)) : rG p l e R s m args below meth c D A nLo Q M k n lv pc (.int (nI j) :: .ref (rSb D) :: st) := by
  intro H locs ls hS hl
  have h := kk H locs ls hS hl
  have hz := F.2.2.2.2.2.2.2.1.2.2.2.2.1
  have h260 := hz.2.2
  rw [← show (nI j).toNatClampNeg = j from nI_clamp (by omega)] at h
  exact va_sld F.1 F.2.1 hz.1 (va_X_lt hz.1) hz.2.1 hS.2.2 (vp_in_nI hj (by omega)) hd h
theorem rg_slen (F : rF p l e R s m args below meth c cc nLo own D A) (hd : decode cc pc = .ok (.arraylength, 1)) (kk : rG p l e R s m args below meth c D A nLo Q M k n lv (pc + 1) (.int (nI (rSn D)) :: st)) : rG p l e R s m args below meth c D A nLo Q M k n lv pc (.ref (rSb D) :: st) := fun H locs ls hS hl =>
  va_slen F.1 F.2.1 F.2.2.2.2.2.2.2.1.2.2.2.2.1.1 (va_X_lt F.2.2.2.2.2.2.2.1.2.2.2.2.1.1) F.2.2.2.2.2.2.2.1.2.2.2.2.1.2.1 hS.2.2 hd (kk H locs ls hS hl)
theorem rg_dcm9 (F : rF p l e R s m args below meth c cc nLo own D A) {x y : UInt64} {op : CmpOp} (hd : decode cc pc = .ok (.dcmp op, 1)) (kk : rG p l e R s m args below meth c D A nLo Q M k n lv (pc + 1) (.int (Op.cmpValue (FP.dcmp x y) op) :: st)) : rG p l e R s m args below meth c D A nLo Q M k n lv pc (.double y :: .double x :: st) := fun H locs ls hS hl =>
  lv_dcmp F.1 F.2.1 hd (kk H locs ls hS hl)
end LROW
set_option maxHeartbeats 4000000 in
set_option maxRecDepth 100000 in
theorem c_below (l : Launch) (D : va_G) (M : rMem) (v : Int32) (n : Nat) (h0 : 0 < n) (hn : n < 2 ^ 31) : CMi l D yL_below cL_below 2 ((some .int)) 1 0 0 M [.int (v), .int (nI n)] (fun r M' => ∃ q, q < n ∧ r = nI q ∧ M' = M) := by
  refine rM (lv0 := [some (.int (v)), some (.int (nI n))]) (by decide) rfl rfl (Nat.le_of_ble_eq_true rfl) (fun P0 E0 S0 m0 as0 bl0 mt0 c0 A F hrt9 hnm => ?_)
  refine rg_iload_n F (pc := 0) dL_below_0 rfl ?_
  refine rg_ldc F (pc := 1) (v := 2147483647) q398 dL_below_1 ?_
  refine rg_top (v2 := .int (nI 2147483647)) rfl ?_
  obtain ⟨a, ha, ea⟩ := and_31 v
  refine rg_iand F (pc := 3) (v := nI a) dL_below_3 ea ?_
  refine rg_iload_n F (pc := 4) dL_below_4 rfl ?_
  refine rg_irem F (pc := 5) (v := nI (a % n)) dL_below_5 (nI_nz h0 hn) (pk_rem (by omega) (by omega) (by omega)) ?_
  exact rg_iret F (pc := 6) hrt9 (by decide) (by decide) dL_below_6 ⟨a % n, Nat.mod_lt _ h0, rfl, rfl⟩
set_option maxHeartbeats 4000000 in
set_option maxRecDepth 100000 in
theorem c_cell (l : Launch) (D : va_G) (M : rMem) (k : Nat) (hk : k < 1000) : CMi l D yL_cell cL_cell 2 ((some .int)) 1 0 0 M [.ref (rSb D), .int (nI k)] (fun r M' => M' = M) := by
  refine rM (lv0 := [some (.ref (rSb D)), some (.int (nI k))]) (by decide) rfl rfl (Nat.le_of_ble_eq_true rfl) (fun P0 E0 S0 m0 as0 bl0 mt0 c0 A F hrt9 hnm => ?_)
  have hLn : rSn D ≤ 260 := F.2.2.2.2.2.2.2.1.2.2.2.2.1.2.2
  refine rg_iload_n F (pc := 0) dL_cell_0 rfl ?_
  refine rg_aload_n F (pc := 1) dL_cell_1 rfl ?_
  refine rg_slen F (pc := 2) dL_cell_2 ?_
  refine rg_ncmp_ge F (pc := 3) (tgt := 12) dL_cell_3 (by decide) (by omega) (by omega) (fun c3 => ?_) (fun c3 => ?_)
  · refine rg_ldc F (pc := 12) (v := 790386105) q395 dL_cell_12 ?_
    refine rg_top (v2 := .int (nI 790386105)) rfl ?_
    refine rg_iload_n F (pc := 14) dL_cell_14 rfl ?_
    refine rg_iconst F (pc := 15) (v := nI 3) dL_cell_15 (by decide) ?_
    refine rg_iadd F (pc := 16) (v := nI (k + 3)) dL_cell_16 (nI_add _ _) ?_
    refine rg_imul F (pc := 17) (v := nI (790386105 * (k + 3))) dL_cell_17 (pk_mul _ _) ?_
    exact rg_iret F (pc := 18) hrt9 (by decide) (by decide) dL_cell_18 rfl
  · refine rg_aload_n F (pc := 6) dL_cell_6 rfl ?_
    refine rg_iload_n F (pc := 7) dL_cell_7 rfl ?_
    refine rg_sld F (pc := 8) (j := k) (by omega) dL_cell_8 ?_
    refine rg_goto F (pc := 9) (tgt := 18) dL_cell_9 (by decide) ?_
    exact rg_iret F (pc := 18) hrt9 (by decide) (by decide) dL_cell_18 rfl
set_option maxHeartbeats 4000000 in
set_option maxRecDepth 100000 in
theorem c_sum (l : Launch) (D : va_G) (M : rMem) (x : Nat) (P : Poem) (nW nL : Nat) (u : Nat → Nat → Nat) (hV : cV D M x P nW nL u) : CMi l D yL_sum cL_sum 3 ((some .int)) 7 0 0 M [.ref (x)] (fun r M' => r = nI (zAll P nL) ∧ M' = M) := by
  refine rM (lv0 := [some (.ref (x)), none, none]) (by decide) rfl rfl (Nat.le_of_ble_eq_true rfl) (fun P0 E0 S0 m0 as0 bl0 mt0 c0 A F hrt9 hnm => ?_)
  have hO1 := cV_see hV
  have hn10 := hO1.1.2.1
  refine rg_iconst F (pc := 0) (v := nI 0) dL_sum_0 (by decide) ?_
  refine rg_istore_n F (pc := 1) (lv' := [some (.ref (x)), some (.int (nI 0)), none]) dL_sum_1 (Nat.le_of_ble_eq_true rfl) rfl ?_
  refine rg_iconst F (pc := 2) (v := nI 0) dL_sum_2 (by decide) ?_
  refine rg_istore_n F (pc := 3) (lv' := [some (.ref (x)), some (.int (nI 0)), some (.int (nI 0))]) dL_sum_3 (Nat.le_of_ble_eq_true rfl) rfl ?_
  refine rg_eq (lv2 := [some (.ref (x)), some (.int (nI (zAll P 0))), some (.int (nI 0))]) (st2 := []) (pc2 := 4) rfl rfl rfl ?_
  suffices L0 : ∀ (d9 : Nat) (i : Nat), nL - i < d9 → (i ≤ nL) → rG P0 l E0 (rR 7 0 0) S0 m0 as0 bl0 mt0 c0 D A 3 (MQ bl0 (va_Qi (fun r M' => r = nI (zAll P nL) ∧ M' = M) (cB D A) A) as0 S0 0 0 A) M 0 0 [some (.ref (x)), some (.int (nI (zAll P i))), some (.int (nI i))] 4 [] from L0 _ 0 (Nat.lt_succ_self _) (Nat.zero_le _)
  intro d9
  induction d9 with
  | zero => intro i hd9; exact absurd hd9 (Nat.not_lt_zero _)
  | succ d9 ih =>
    intro i hd9 hi1
    refine rg_iload_n F (pc := 4) dL_sum_4 rfl ?_
    refine rg_aload_n F (pc := 5) dL_sum_5 rfl ?_
    refine rg_iconst F (pc := 6) (v := nI 1) dL_sum_6 (by decide) ?_
    refine rg_callVi F (pc := 7) (As := [.int (nI 1)]) (rest := [.int (nI i)]) (ci := 4) (c_count l D _ x P nW nL u 1 hV (by decide)) q409 vq_X3_count rfl hO1.2.1 rfl rfl (Nat.le_of_ble_eq_true rfl) (Nat.le_of_ble_eq_true rfl) (Nat.le_of_ble_eq_true rfl) ⟨(Nat.le_of_ble_eq_true rfl), (Nat.le_of_ble_eq_true rfl)⟩ dL_sum_7 (fun r9 M9 hp => ?_)
    refine rg_top (v2 := .int (nI nL)) (by first | (rw [hp.1]; done) | (rw [hp.1]; rfl)) ?_
    refine rg_mem (M2 := M) hp.2 ?_
    refine rg_ncmp_ge F (pc := 10) (tgt := 29) dL_sum_10 (by decide) (by omega) (by omega) (fun c10 => ?_) (fun c10 => ?_)
    · refine rg_iload_n F (pc := 29) dL_sum_29 rfl ?_
      have e9 : i = nL := by omega
      exact rg_iret F (pc := 30) hrt9 (by decide) (by decide) dL_sum_30 ⟨by rw [e9], rfl⟩
    · refine rg_iload_n F (pc := 13) dL_sum_13 rfl ?_
      refine rg_aload_n F (pc := 14) dL_sum_14 rfl ?_
      refine rg_iload_n F (pc := 15) dL_sum_15 rfl ?_
      refine rg_bipush F (pc := 16) (v := nI 11) dL_sum_16 (by decide) ?_
      refine rg_callVi F (pc := 18) (As := [.int (nI i), .int (nI 11)]) (rest := [.int (nI (zAll P i))]) (ci := 4) (c_told l D _ x P nW nL u i 11 hV (by omega) (by decide)) q412 vq_X3_told rfl hO1.2.1 rfl rfl (Nat.le_of_ble_eq_true rfl) (Nat.le_of_ble_eq_true rfl) (Nat.le_of_ble_eq_true rfl) ⟨(Nat.le_of_ble_eq_true rfl), (Nat.le_of_ble_eq_true rfl)⟩ dL_sum_18 (fun r9 M9 hp => ?_)
      refine rg_top (v2 := .int (nI (zTax P i))) (by first | (rw [hp.1]; done) | (rw [hp.1]; rfl)) ?_
      refine rg_mem (M2 := M) hp.2 ?_
      refine rg_iadd F (pc := 21) (v := nI (zAll P (i + 1))) dL_sum_21 (nI_add _ _) ?_
      refine rg_istore_n F (pc := 22) (lv' := [some (.ref (x)), some (.int (nI (zAll P (i + 1)))), some (.int (nI i))]) dL_sum_22 (Nat.le_of_ble_eq_true rfl) rfl ?_
      refine rg_iinc F (pc := 23) (v := nI (i + 1)) (lv' := [some (.ref (x)), some (.int (nI (zAll P (i + 1)))), some (.int (nI (i + 1)))]) dL_sum_23 rfl (nI_add _ 1) (Nat.le_of_ble_eq_true rfl) rfl ?_
      refine rg_goto F (pc := 26) (tgt := 4) dL_sum_26 (by decide) ?_
      exact ih (i + 1) (by omega) (by omega)
theorem c_wrA (l : Launch) (D : va_G) (M : rMem) (x : Nat) (P : Poem) (nW nL : Nat) (u : Nat → Nat → Nat) (i p w : Nat) (hV : cV D M x P nW nL u) (hi : i < nL) (hw : w < nW) (hp9 : p = zC P i) (h8 : p < 8) : CMi l D yX3_write cX3_write 7 (some .int) 10 1 100 M [.ref x, .int (nI i), .int (nI p), .int (nI w)] (fun r M' => r = nI (p + 1) ∧ cV D M' x (zPut P i p w) nW nL u) := by
  subst hp9
  have h := c_writeA l D M x P nW nL u i w hV hi hw h8
  rw [zPut_a] at h
  exact h
set_option maxHeartbeats 4000000 in
set_option maxRecDepth 100000 in
theorem c_poem (l : Launch) (D : va_G) (M : rMem)  : CMq l D yL_poem cL_poem 8 ((some (.object "RhymeTax"))) 11 300 20000 M [.ref (rSb D)] (fun r M' => ∃ (x : Nat) (P : Poem) (nW nL : Nat) (u : Nat → Nat → Nat), r = some x ∧ cV D M' x P nW nL u ∧ 1 ≤ nW ∧ 1 ≤ nL) := by
  refine rM (lv0 := [some (.ref (rSb D)), none, none, none, none, none, none, none]) (by decide) rfl rfl (Nat.le_of_ble_eq_true rfl) (fun P0 E0 S0 m0 as0 bl0 mt0 c0 A F hrt9 hnm => ?_)
  refine rg_new F (pc := 0) (ci := 4) (fs := [.null, .null, .null]) rfl inX3 tyX3 tyX3_ok (fun j hj => by rcases (show j = 0 ∨ j = 1 ∨ j = 2 by omega) with rfl | rfl | rfl <;> rfl) q388 q389 q132 (Nat.le_of_ble_eq_true rfl) (Nat.le_of_ble_eq_true rfl) dL_poem_0 (fun x hx => ?_)
  refine rg_widen (k2 := 1) (n2 := 3) (by decide) (by decide) ?_
  refine rg_mem (M2 := (mset M x (.inr (4, [.null, .null, .null])))) rfl ?_
  refine rg_dup F (pc := 3) dL_poem_3 rfl ?_
  refine rg_callIv F (pc := 4) (As := []) (rest := [.ref x]) (c_xInit2 l D _ x none none none mset_eq) q390 iq_X3_init rfl rfl (Nat.le_of_ble_eq_true rfl) (Nat.le_of_ble_eq_true rfl) (Nat.le_of_ble_eq_true rfl) ⟨(Nat.le_of_ble_eq_true rfl), (Nat.le_of_ble_eq_true rfl)⟩ dL_poem_4 (fun M1 hp => ?_)
  obtain ⟨w1, w2, w3, q6, h1, h2, h3, h6, n12, n13, n23, n16, n26, n36, hM1⟩ := hp
  obtain ⟨u0, hc0⟩ := cV_0 (mset_eq) h1 h2 h3 h6 n12 n13 n23 n16 n26 n36 hM1
  clear hM1 h1 h2 h3 h6
  refine rg_widen (k2 := 5) (n2 := 16) (by decide) (by decide) ?_
  have hO2 := cV_see hc0
  refine rg_astore_n F (pc := 7) (lv' := [some (.ref (rSb D)), some (.ref (x)), none, none, none, none, none, none]) dL_poem_7 (Nat.le_of_ble_eq_true rfl) rfl ?_
  refine rg_iconst F (pc := 8) (v := nI 1) dL_poem_8 (by decide) ?_
  refine rg_aload_n F (pc := 9) dL_poem_9 rfl ?_
  refine rg_iconst F (pc := 10) (v := nI 0) dL_poem_10 (by decide) ?_
  refine rg_callSi F (pc := 11) (As := [.ref (rSb D), .int (nI 0)]) (rest := [.int (nI 1)]) (c_cell l D _ 0 (by omega)) q392 sq_L_cell rfl rfl (Nat.le_of_ble_eq_true rfl) (Nat.le_of_ble_eq_true rfl) (Nat.le_of_ble_eq_true rfl) ⟨(Nat.le_of_ble_eq_true rfl), (Nat.le_of_ble_eq_true rfl)⟩ dL_poem_11 (fun y11 M9 hp => ?_)
  refine rg_mem (M2 := M1) hp ?_
  refine rg_bipush F (pc := 14) (v := nI 20) dL_poem_14 (by decide) ?_
  refine rg_callSi F (pc := 16) (As := [.int (y11), .int (nI 20)]) (rest := [.int (nI 1)]) (c_below l D _ y11 20 (by omega) (by omega)) q396 sq_L_below rfl rfl (Nat.le_of_ble_eq_true rfl) (Nat.le_of_ble_eq_true rfl) (Nat.le_of_ble_eq_true rfl) ⟨(Nat.le_of_ble_eq_true rfl), (Nat.le_of_ble_eq_true rfl)⟩ dL_poem_16 (fun r9 M9 hp => ?_)
  obtain ⟨q16, hq16, hr9, hp⟩ := hp
  refine rg_top (v2 := .int (nI q16)) (by rw [hr9]) ?_
  refine rg_mem (M2 := M1) hp ?_
  refine rg_iadd F (pc := 19) (v := nI (1 + q16)) dL_poem_19 (nI_add _ _) ?_
  refine rg_istore_n F (pc := 20) (lv' := [some (.ref (rSb D)), some (.ref (x)), some (.int (nI (1 + q16))), none, none, none, none, none]) dL_poem_20 (Nat.le_of_ble_eq_true rfl) rfl ?_
  refine rg_iconst F (pc := 21) (v := nI 0) dL_poem_21 (by decide) ?_
  refine rg_istore_n F (pc := 22) (lv' := [some (.ref (rSb D)), some (.ref (x)), some (.int (nI (1 + q16))), some (.int (nI 0)), none, none, none, none]) dL_poem_22 (Nat.le_of_ble_eq_true rfl) rfl ?_
  refine rg_widen (k2 := 5 + 2 * 0) (n2 := 16 + 106 * 0) (by decide) (by decide) ?_
  suffices L0 : ∀ (d9 : Nat) (j : Nat) (Ma : rMem) (Pa : Poem) (ua : Nat → Nat → Nat), 1 + q16 - j < d9 → (j ≤ 1 + q16) → (cV D Ma x Pa j 0 ua) → rG P0 l E0 (rR 11 300 20000) S0 m0 as0 bl0 mt0 c0 D A 8 (MQ bl0 (va_Qq (fun r M' => ∃ (x : Nat) (P : Poem) (nW nL : Nat) (u : Nat → Nat → Nat), r = some x ∧ cV D M' x P nW nL u ∧ 1 ≤ nW ∧ 1 ≤ nL) (cB D A) A) as0 S0 300 20000 A) Ma ((5 + 2 * j)) ((16 + 106 * j)) [some (.ref (rSb D)), some (.ref (x)), some (.int (nI (1 + q16))), some (.int (nI j)), none, none, none, none] 23 [] from L0 _ 0 M1 zP0 u0 (Nat.lt_succ_self _) (Nat.zero_le _) hc0
  intro d9
  induction d9 with
  | zero => intro j Ma Pa ua hd9; exact absurd hd9 (Nat.not_lt_zero _)
  | succ d9 ih =>
    intro j Ma Pa ua hd9 hj hca
    have hO3 := cV_see hca
    refine rg_iload_n F (pc := 23) dL_poem_23 rfl ?_
    refine rg_iload_n F (pc := 24) dL_poem_24 rfl ?_
    refine rg_ncmp_ge F (pc := 25) (tgt := 128) dL_poem_25 (by decide) (by omega) (by omega) (fun c25 => ?_) (fun c25 => ?_)
    · have e9 : j = 1 + q16 := by omega
      subst e9
      refine rg_sub (lv' := [some (.ref (rSb D)), some (.ref (x)), some (.int (nI (1 + q16))), none, none, none, none, none]) (by repeat' constructor) ?_
      refine rg_widen (k2 := 45) (n2 := 3000) (by omega) (by omega) ?_
      refine rg_iconst F (pc := 128) (v := nI 1) dL_poem_128 (by decide) ?_
      refine rg_aload_n F (pc := 129) dL_poem_129 rfl ?_
      refine rg_bipush F (pc := 130) (v := nI 6) dL_poem_130 (by decide) ?_
      refine rg_callSi F (pc := 132) (As := [.ref (rSb D), .int (nI 6)]) (rest := [.int (nI 1)]) (c_cell l D _ 6 (by omega)) q392 sq_L_cell rfl rfl (Nat.le_of_ble_eq_true rfl) (Nat.le_of_ble_eq_true rfl) (Nat.le_of_ble_eq_true rfl) ⟨(Nat.le_of_ble_eq_true rfl), (Nat.le_of_ble_eq_true rfl)⟩ dL_poem_132 (fun y132 M9 hp => ?_)
      refine rg_mem (M2 := Ma) hp ?_
      refine rg_bipush F (pc := 135) (v := nI 10) dL_poem_135 (by decide) ?_
      refine rg_callSi F (pc := 137) (As := [.int (y132), .int (nI 10)]) (rest := [.int (nI 1)]) (c_below l D _ y132 10 (by omega) (by omega)) q396 sq_L_below rfl rfl (Nat.le_of_ble_eq_true rfl) (Nat.le_of_ble_eq_true rfl) (Nat.le_of_ble_eq_true rfl) ⟨(Nat.le_of_ble_eq_true rfl), (Nat.le_of_ble_eq_true rfl)⟩ dL_poem_137 (fun r9 M9 hp => ?_)
      obtain ⟨q137, hq137, hr9, hp⟩ := hp
      refine rg_top (v2 := .int (nI q137)) (by rw [hr9]) ?_
      refine rg_mem (M2 := Ma) hp ?_
      refine rg_iadd F (pc := 140) (v := nI (1 + q137)) dL_poem_140 (nI_add _ _) ?_
      refine rg_istore_n F (pc := 141) (lv' := [some (.ref (rSb D)), some (.ref (x)), some (.int (nI (1 + q16))), some (.int (nI (1 + q137))), none, none, none, none]) dL_poem_141 (Nat.le_of_ble_eq_true rfl) rfl ?_
      refine rg_iconst F (pc := 142) (v := nI 0) dL_poem_142 (by decide) ?_
      refine rg_istore F (pc := 143) (lv' := [some (.ref (rSb D)), some (.ref (x)), some (.int (nI (1 + q16))), some (.int (nI (1 + q137))), some (.int (nI 0)), none, none, none]) dL_poem_143 (Nat.le_of_ble_eq_true rfl) rfl ?_
      refine rg_widen (k2 := 45 + 20 * 0) (n2 := 3000 + 1000 * 0) (by decide) (by decide) ?_
      suffices L1 : ∀ (d9 : Nat) (i : Nat) (Mc : rMem) (Pc : Poem) (uc : Nat → Nat → Nat), 1 + q137 - i < d9 → (i ≤ 1 + q137) → (cV D Mc x Pc (1 + q16) i uc) → rG P0 l E0 (rR 11 300 20000) S0 m0 as0 bl0 mt0 c0 D A 8 (MQ bl0 (va_Qq (fun r M' => ∃ (x : Nat) (P : Poem) (nW nL : Nat) (u : Nat → Nat → Nat), r = some x ∧ cV D M' x P nW nL u ∧ 1 ≤ nW ∧ 1 ≤ nL) (cB D A) A) as0 S0 300 20000 A) Mc ((45 + 20 * i)) ((3000 + 1000 * i)) [some (.ref (rSb D)), some (.ref (x)), some (.int (nI (1 + q16))), some (.int (nI (1 + q137))), some (.int (nI i)), none, none, none] 145 [] from L1 _ 0 Ma Pa ua (Nat.lt_succ_self _) (Nat.zero_le _) hca
      intro d9
      induction d9 with
      | zero => intro i Mc Pc uc hd9; exact absurd hd9 (Nat.not_lt_zero _)
      | succ d9 ihi =>
        intro i Mc Pc uc hd9 hi hcc
        have hO4 := cV_see hcc
        refine rg_iload F (pc := 145) dL_poem_145 rfl ?_
        refine rg_iload_n F (pc := 147) dL_poem_147 rfl ?_
        refine rg_ncmp_ge F (pc := 148) (tgt := 277) dL_poem_148 (by decide) (by omega) (by omega) (fun c148 => ?_) (fun c148 => ?_)
        · refine rg_aload_n F (pc := 277) dL_poem_277 rfl ?_
          have e9 : i = 1 + q137 := by omega
          subst e9
          exact rg_aret F (pc := 278) (some (x)) rfl hrt9 (Or.inl ⟨_, rfl⟩) (by omega) (by omega) dL_poem_278 ⟨x, _, _, _, _, rfl, hcc, (by omega), (by omega)⟩
        · refine rg_aload_n F (pc := 151) dL_poem_151 rfl ?_
          refine rg_bipush F (pc := 152) (v := nI 7) dL_poem_152 (by decide) ?_
          refine rg_iload F (pc := 154) dL_poem_154 rfl ?_
          refine rg_iconst F (pc := 156) (v := nI 3) dL_poem_156 (by decide) ?_
          refine rg_irem F (pc := 157) (v := nI (i % 3)) dL_poem_157 (by decide) (pk_rem (by omega) (by omega) (by omega)) ?_
          refine rg_iadd F (pc := 158) (v := nI (7 + (i % 3))) dL_poem_158 (nI_add _ _) ?_
          refine rg_callSi F (pc := 159) (As := [.ref (rSb D), .int (nI (7 + (i % 3)))]) (rest := []) (c_cell l D _ (7 + (i % 3)) (by omega)) q392 sq_L_cell rfl rfl (Nat.le_of_ble_eq_true rfl) (Nat.le_of_ble_eq_true rfl) (Nat.le_of_ble_eq_true rfl) ⟨by show _ ≤ 300; omega, by show _ ≤ 20000; omega⟩ dL_poem_159 (fun y159 M9 hp => ?_)
          refine rg_widen (k2 := (45 + 20 * i)) (n2 := (3000 + 1000 * i)) (by omega) (by omega) ?_
          refine rg_mem (M2 := Mc) hp ?_
          refine rg_iload F (pc := 162) dL_poem_162 rfl ?_
          refine rg_iconst F (pc := 164) (v := nI 3) dL_poem_164 (by decide) ?_
          refine rg_idiv F (pc := 165) (v := nI (i / 3)) dL_poem_165 (by decide) (pk_div (by omega) (by omega) (by omega)) ?_
          refine rg_iconst F (pc := 166) (v := nI 5) dL_poem_166 (by decide) ?_
          refine rg_imul F (pc := 167) (v := nI ((i / 3) * 5)) dL_poem_167 (pk_mul _ _) ?_
          refine rg_ishr F (pc := 168) (v := y159 >>> ((nI ((i / 3) * 5)) &&& 31)) dL_poem_168 rfl ?_
          refine rg_istore F (pc := 169) (lv' := [some (.ref (rSb D)), some (.ref (x)), some (.int (nI (1 + q16))), some (.int (nI (1 + q137))), some (.int (nI i)), some (.int (y159 >>> ((nI ((i / 3) * 5)) &&& 31))), none, none]) dL_poem_169 (Nat.le_of_ble_eq_true rfl) rfl ?_
          refine rg_aload_n F (pc := 171) dL_poem_171 rfl ?_
          refine rg_iload F (pc := 172) dL_poem_172 rfl ?_
          refine rg_iconst F (pc := 174) (v := nI 4) dL_poem_174 (by decide) ?_
          refine rg_callSi F (pc := 175) (As := [.int (y159 >>> ((nI ((i / 3) * 5)) &&& 31)), .int (nI 4)]) (rest := [.ref (x)]) (c_below l D _ (y159 >>> ((nI ((i / 3) * 5)) &&& 31)) 4 (by omega) (by omega)) q396 sq_L_below rfl rfl (Nat.le_of_ble_eq_true rfl) (Nat.le_of_ble_eq_true rfl) (Nat.le_of_ble_eq_true rfl) ⟨by show _ ≤ 300; omega, by show _ ≤ 20000; omega⟩ dL_poem_175 (fun r9 M9 hp => ?_)
          refine rg_widen (k2 := (45 + 20 * i)) (n2 := (3000 + 1000 * i)) (by omega) (by omega) ?_
          obtain ⟨q175, hq175, hr9, hp⟩ := hp
          refine rg_top (v2 := .int (nI q175)) (by rw [hr9]) ?_
          refine rg_mem (M2 := Mc) hp ?_
          refine rg_iconst F (pc := 178) (v := nI 1) dL_poem_178 (by decide) ?_
          refine rg_iload F (pc := 179) dL_poem_179 rfl ?_
          refine rg_iconst F (pc := 181) (v := nI 2) dL_poem_181 (by decide) ?_
          refine rg_ishr F (pc := 182) (v := (y159 >>> ((nI ((i / 3) * 5)) &&& 31)) >>> ((nI 2) &&& 31)) dL_poem_182 rfl ?_
          refine rg_bipush F (pc := 183) (v := nI 6) dL_poem_183 (by decide) ?_
          refine rg_callSi F (pc := 185) (As := [.int ((y159 >>> ((nI ((i / 3) * 5)) &&& 31)) >>> ((nI 2) &&& 31)), .int (nI 6)]) (rest := [.int (nI 1), .int (nI q175), .ref (x)]) (c_below l D _ ((y159 >>> ((nI ((i / 3) * 5)) &&& 31)) >>> ((nI 2) &&& 31)) 6 (by omega) (by omega)) q396 sq_L_below rfl rfl (Nat.le_of_ble_eq_true rfl) (Nat.le_of_ble_eq_true rfl) (Nat.le_of_ble_eq_true rfl) ⟨by show _ ≤ 300; omega, by show _ ≤ 20000; omega⟩ dL_poem_185 (fun r9 M9 hp => ?_)
          refine rg_widen (k2 := (45 + 20 * i)) (n2 := (3000 + 1000 * i)) (by omega) (by omega) ?_
          obtain ⟨q185, hq185, hr9, hp⟩ := hp
          refine rg_top (v2 := .int (nI q185)) (by rw [hr9]) ?_
          refine rg_mem (M2 := Mc) hp ?_
          refine rg_iadd F (pc := 188) (v := nI (1 + q185)) dL_poem_188 (nI_add _ _) ?_
          refine rg_iload F (pc := 189) dL_poem_189 rfl ?_
          refine rg_iconst F (pc := 191) (v := nI 4) dL_poem_191 (by decide) ?_
          refine rg_ishr F (pc := 192) (v := (y159 >>> ((nI ((i / 3) * 5)) &&& 31)) >>> ((nI 4) &&& 31)) dL_poem_192 rfl ?_
          refine rg_iconst F (pc := 193) (v := nI 3) dL_poem_193 (by decide) ?_
          refine rg_callSi F (pc := 194) (As := [.int ((y159 >>> ((nI ((i / 3) * 5)) &&& 31)) >>> ((nI 4) &&& 31)), .int (nI 3)]) (rest := [.int (nI (1 + q185)), .int (nI q175), .ref (x)]) (c_below l D _ ((y159 >>> ((nI ((i / 3) * 5)) &&& 31)) >>> ((nI 4) &&& 31)) 3 (by omega) (by omega)) q396 sq_L_below rfl rfl (Nat.le_of_ble_eq_true rfl) (Nat.le_of_ble_eq_true rfl) (Nat.le_of_ble_eq_true rfl) ⟨by show _ ≤ 300; omega, by show _ ≤ 20000; omega⟩ dL_poem_194 (fun r9 M9 hp => ?_)
          refine rg_widen (k2 := (45 + 20 * i)) (n2 := (3000 + 1000 * i)) (by omega) (by omega) ?_
          obtain ⟨q194, hq194, hr9, hp⟩ := hp
          refine rg_top (v2 := .int (nI q194)) (by rw [hr9]) ?_
          refine rg_mem (M2 := Mc) hp ?_
          refine rg_callVi F (pc := 197) (As := [.int (nI q175), .int (nI (1 + q185)), .int (nI q194)]) (rest := []) (ci := 4) (c_line l D _ x Pc (1 + q16) i uc q175 (1 + q185) q194 hcc (by omega) (by omega) (by omega) (by omega) (by omega)) q402 vq_X3_line rfl hO4.2.1 rfl rfl (Nat.le_of_ble_eq_true rfl) (Nat.le_of_ble_eq_true rfl) (Nat.le_of_ble_eq_true rfl) ⟨by show _ ≤ 300; omega, by show _ ≤ 20000; omega⟩ dL_poem_197 (fun r9 Md hp => ?_)
          obtain ⟨hr9, ud, hcd⟩ := hp
          refine rg_top (v2 := .int (nI i)) (by rw [hr9]) ?_
          have hO5 := cV_see hcd
          have hz0 : zC (zNewL Pc i q175 (1 + q185) q194) i = 0 := (zNewL_n _ _ _ _ _).2.2.2
          refine rg_pop F (pc := 200) dL_poem_200 rfl ?_
          refine rg_iload F (pc := 201) dL_poem_201 rfl ?_
          refine rg_iconst F (pc := 203) (v := nI 3) dL_poem_203 (by decide) ?_
          refine rg_ishr F (pc := 204) (v := (y159 >>> ((nI ((i / 3) * 5)) &&& 31)) >>> ((nI 3) &&& 31)) dL_poem_204 rfl ?_
          refine rg_iload F (pc := 205) dL_poem_205 rfl ?_
          refine rg_iconst F (pc := 207) (v := nI 2) dL_poem_207 (by decide) ?_
          refine rg_callSi F (pc := 208) (As := [.int (y159 >>> ((nI ((i / 3) * 5)) &&& 31)), .int (nI 2)]) (rest := [.int ((y159 >>> ((nI ((i / 3) * 5)) &&& 31)) >>> ((nI 3) &&& 31))]) (c_below l D _ (y159 >>> ((nI ((i / 3) * 5)) &&& 31)) 2 (by omega) (by omega)) q396 sq_L_below rfl rfl (Nat.le_of_ble_eq_true rfl) (Nat.le_of_ble_eq_true rfl) (Nat.le_of_ble_eq_true rfl) ⟨by show _ ≤ 300; omega, by show _ ≤ 20000; omega⟩ dL_poem_208 (fun r9 M9 hp => ?_)
          refine rg_widen (k2 := ((45 + 20 * i) + 3)) (n2 := ((3000 + 1000 * i) + 120)) (by omega) (by omega) ?_
          obtain ⟨q208, hq208, hr9, hp⟩ := hp
          refine rg_top (v2 := .int (nI q208)) (by rw [hr9]) ?_
          refine rg_mem (M2 := Md) hp ?_
          refine rg_nif_ne F (pc := 211) (tgt := 219) dL_poem_211 (by decide) (by omega) (fun c211 => ?_) (fun c211 => ?_)
          · refine rg_iconst F (pc := 219) (v := nI 4) dL_poem_219 (by decide) ?_
            refine rg_callSi F (pc := 220) (As := [.int ((y159 >>> ((nI ((i / 3) * 5)) &&& 31)) >>> ((nI 3) &&& 31)), .int (nI 4)]) (rest := []) (c_below l D _ ((y159 >>> ((nI ((i / 3) * 5)) &&& 31)) >>> ((nI 3) &&& 31)) 4 (by omega) (by omega)) q396 sq_L_below rfl rfl (Nat.le_of_ble_eq_true rfl) (Nat.le_of_ble_eq_true rfl) (Nat.le_of_ble_eq_true rfl) ⟨by show _ ≤ 300; omega, by show _ ≤ 20000; omega⟩ dL_poem_220 (fun r9 M9 hp => ?_)
            refine rg_widen (k2 := ((45 + 20 * i) + 3)) (n2 := ((3000 + 1000 * i) + 120)) (by omega) (by omega) ?_
            obtain ⟨q220, hq220, hr9, hp⟩ := hp
            refine rg_top (v2 := .int (nI q220)) (by rw [hr9]) ?_
            refine rg_mem (M2 := Md) hp ?_
            refine rg_istore F (pc := 223) (lv' := [some (.ref (rSb D)), some (.ref (x)), some (.int (nI (1 + q16))), some (.int (nI (1 + q137))), some (.int (nI i)), some (.int (y159 >>> ((nI ((i / 3) * 5)) &&& 31))), some (.int (nI q220)), none]) dL_poem_223 (Nat.le_of_ble_eq_true rfl) rfl ?_
            refine rg_iconst F (pc := 225) (v := nI 0) dL_poem_225 (by decide) ?_
            refine rg_istore F (pc := 226) (lv' := [some (.ref (rSb D)), some (.ref (x)), some (.int (nI (1 + q16))), some (.int (nI (1 + q137))), some (.int (nI i)), some (.int (y159 >>> ((nI ((i / 3) * 5)) &&& 31))), some (.int (nI q220)), some (.int (nI 0))]) dL_poem_226 (Nat.le_of_ble_eq_true rfl) rfl ?_
            refine rg_sub (lv' := [some (.ref (rSb D)), some (.ref (x)), some (.int (nI (1 + q16))), some (.int (nI (1 + q137))), some (.int (nI i)), none, some (.int (nI q220)), some (.int (nI 0))]) (by repeat' constructor) ?_
            refine rg_widen (k2 := 48 + 20 * i + 0) (n2 := 3120 + 1000 * i + 100 * 0) (by omega) (by omega) ?_
            suffices L2 : ∀ (d9 : Nat) (q : Nat) (Me : rMem) (Pe : Poem) (ue : Nat → Nat → Nat), q220 - q < d9 → (q ≤ q220) → (cV D Me x Pe (1 + q16) (i + 1) ue) → (zC Pe i = q) → rG P0 l E0 (rR 11 300 20000) S0 m0 as0 bl0 mt0 c0 D A 8 (MQ bl0 (va_Qq (fun r M' => ∃ (x : Nat) (P : Poem) (nW nL : Nat) (u : Nat → Nat → Nat), r = some x ∧ cV D M' x P nW nL u ∧ 1 ≤ nW ∧ 1 ≤ nL) (cB D A) A) as0 S0 300 20000 A) Me ((48 + 20 * i + q)) ((3120 + 1000 * i + 100 * q)) [some (.ref (rSb D)), some (.ref (x)), some (.int (nI (1 + q16))), some (.int (nI (1 + q137))), some (.int (nI i)), none, some (.int (nI q220)), some (.int (nI q))] 228 [] from L2 _ 0 Md _ _ (Nat.lt_succ_self _) (Nat.zero_le _) hcd hz0
            intro d9
            induction d9 with
            | zero => intro q Me Pe ue hd9; exact absurd hd9 (Nat.not_lt_zero _)
            | succ d9 ihq =>
              intro q Me Pe ue hd9 hq hce hce2
              have hO6 := cV_see hce
              refine rg_iload F (pc := 228) dL_poem_228 rfl ?_
              refine rg_iload F (pc := 230) dL_poem_230 rfl ?_
              refine rg_ncmp_ge F (pc := 232) (tgt := 271) dL_poem_232 (by decide) (by omega) (by omega) (fun c232 => ?_) (fun c232 => ?_)
              · refine rg_widen (k2 := 45 + 20 * (i + 1)) (n2 := 3000 + 1000 * (i + 1)) (by omega) (by omega) ?_
                refine rg_sub (lv' := [some (.ref (rSb D)), some (.ref (x)), some (.int (nI (1 + q16))), some (.int (nI (1 + q137))), some (.int (nI i)), none, none, none]) (by repeat' constructor) ?_
                refine rg_iinc F (pc := 271) (v := nI (i + 1)) (lv' := [some (.ref (rSb D)), some (.ref (x)), some (.int (nI (1 + q16))), some (.int (nI (1 + q137))), some (.int (nI (i + 1))), none, none, none]) dL_poem_271 rfl (nI_add _ 1) (Nat.le_of_ble_eq_true rfl) rfl ?_
                refine rg_goto F (pc := 274) (tgt := 145) dL_poem_274 (by decide) ?_
                exact ihi (i + 1) Me _ _ (by omega) (by omega) hce
              · refine rg_aload_n F (pc := 235) dL_poem_235 rfl ?_
                refine rg_iload F (pc := 236) dL_poem_236 rfl ?_
                refine rg_iload F (pc := 238) dL_poem_238 rfl ?_
                refine rg_aload_n F (pc := 240) dL_poem_240 rfl ?_
                refine rg_bipush F (pc := 241) (v := nI 10) dL_poem_241 (by decide) ?_
                refine rg_iload F (pc := 243) dL_poem_243 rfl ?_
                refine rg_bipush F (pc := 245) (v := nI 6) dL_poem_245 (by decide) ?_
                refine rg_irem F (pc := 247) (v := nI (i % 6)) dL_poem_247 (by decide) (pk_rem (by omega) (by omega) (by omega)) ?_
                refine rg_iadd F (pc := 248) (v := nI (10 + (i % 6))) dL_poem_248 (nI_add _ _) ?_
                refine rg_callSi F (pc := 249) (As := [.ref (rSb D), .int (nI (10 + (i % 6)))]) (rest := [.int (nI q), .int (nI i), .ref (x)]) (c_cell l D _ (10 + (i % 6)) (by omega)) q392 sq_L_cell rfl rfl (Nat.le_of_ble_eq_true rfl) (Nat.le_of_ble_eq_true rfl) (Nat.le_of_ble_eq_true rfl) ⟨by show _ ≤ 300; omega, by show _ ≤ 20000; omega⟩ dL_poem_249 (fun y249 M9 hp => ?_)
                refine rg_widen (k2 := (48 + 20 * i + q)) (n2 := (3120 + 1000 * i + 100 * q)) (by omega) (by omega) ?_
                refine rg_mem (M2 := Me) hp ?_
                refine rg_iconst F (pc := 252) (v := nI 3) dL_poem_252 (by decide) ?_
                refine rg_iload F (pc := 253) dL_poem_253 rfl ?_
                refine rg_imul F (pc := 255) (v := nI (3 * q)) dL_poem_255 (pk_mul _ _) ?_
                refine rg_ishr F (pc := 256) (v := y249 >>> ((nI (3 * q)) &&& 31)) dL_poem_256 rfl ?_
                refine rg_iload_n F (pc := 257) dL_poem_257 rfl ?_
                refine rg_callSi F (pc := 258) (As := [.int (y249 >>> ((nI (3 * q)) &&& 31)), .int (nI (1 + q16))]) (rest := [.int (nI q), .int (nI i), .ref (x)]) (c_below l D _ (y249 >>> ((nI (3 * q)) &&& 31)) (1 + q16) (by omega) (by omega)) q396 sq_L_below rfl rfl (Nat.le_of_ble_eq_true rfl) (Nat.le_of_ble_eq_true rfl) (Nat.le_of_ble_eq_true rfl) ⟨by show _ ≤ 300; omega, by show _ ≤ 20000; omega⟩ dL_poem_258 (fun r9 M9 hp => ?_)
                refine rg_widen (k2 := (48 + 20 * i + q)) (n2 := (3120 + 1000 * i + 100 * q)) (by omega) (by omega) ?_
                obtain ⟨q258, hq258, hr9, hp⟩ := hp
                refine rg_top (v2 := .int (nI q258)) (by rw [hr9]) ?_
                refine rg_mem (M2 := Me) hp ?_
                refine rg_callVi F (pc := 261) (As := [.int (nI i), .int (nI q), .int (nI q258)]) (rest := []) (ci := 4) (c_wrA l D _ x Pe (1 + q16) (i + 1) ue i q q258 hce (by omega) (by omega) hce2.symm (by omega)) q405 vq_X3_write rfl hO6.2.1 rfl rfl (Nat.le_of_ble_eq_true rfl) (Nat.le_of_ble_eq_true rfl) (Nat.le_of_ble_eq_true rfl) ⟨by show _ ≤ 300; omega, by show _ ≤ 20000; omega⟩ dL_poem_261 (fun r9 Mf hp => ?_)
                obtain ⟨hr9, hcf⟩ := hp
                refine rg_top (v2 := .int (nI (q + 1))) (by rw [hr9]) ?_
                have hO7 := cV_see hcf
                refine rg_widen (k2 := 48 + 20 * i + (q + 1)) (n2 := 3120 + 1000 * i + 100 * (q + 1)) (by omega) (by omega) ?_
                refine rg_pop F (pc := 264) dL_poem_264 rfl ?_
                refine rg_iinc F (pc := 265) (v := nI (q + 1)) (lv' := [some (.ref (rSb D)), some (.ref (x)), some (.int (nI (1 + q16))), some (.int (nI (1 + q137))), some (.int (nI i)), none, some (.int (nI q220)), some (.int (nI (q + 1)))]) dL_poem_265 rfl (nI_add _ 1) (Nat.le_of_ble_eq_true rfl) rfl ?_
                refine rg_goto F (pc := 268) (tgt := 228) dL_poem_268 (by decide) ?_
                exact ihq (q + 1) Mf _ _ (by omega) (by omega) hcf (by rw [← hce2]; exact zPut_a _ _ _)
          · refine rg_bipush F (pc := 214) (v := nI 9) dL_poem_214 (by decide) ?_
            refine rg_goto F (pc := 216) (tgt := 220) dL_poem_216 (by decide) ?_
            refine rg_callSi F (pc := 220) (As := [.int ((y159 >>> ((nI ((i / 3) * 5)) &&& 31)) >>> ((nI 3) &&& 31)), .int (nI 9)]) (rest := []) (c_below l D _ ((y159 >>> ((nI ((i / 3) * 5)) &&& 31)) >>> ((nI 3) &&& 31)) 9 (by omega) (by omega)) q396 sq_L_below rfl rfl (Nat.le_of_ble_eq_true rfl) (Nat.le_of_ble_eq_true rfl) (Nat.le_of_ble_eq_true rfl) ⟨by show _ ≤ 300; omega, by show _ ≤ 20000; omega⟩ dL_poem_220 (fun r9 M9 hp => ?_)
            refine rg_widen (k2 := ((45 + 20 * i) + 3)) (n2 := ((3000 + 1000 * i) + 120)) (by omega) (by omega) ?_
            obtain ⟨q220, hq220, hr9, hp⟩ := hp
            refine rg_top (v2 := .int (nI q220)) (by rw [hr9]) ?_
            refine rg_mem (M2 := Md) hp ?_
            refine rg_istore F (pc := 223) (lv' := [some (.ref (rSb D)), some (.ref (x)), some (.int (nI (1 + q16))), some (.int (nI (1 + q137))), some (.int (nI i)), some (.int (y159 >>> ((nI ((i / 3) * 5)) &&& 31))), some (.int (nI q220)), none]) dL_poem_223 (Nat.le_of_ble_eq_true rfl) rfl ?_
            refine rg_iconst F (pc := 225) (v := nI 0) dL_poem_225 (by decide) ?_
            refine rg_istore F (pc := 226) (lv' := [some (.ref (rSb D)), some (.ref (x)), some (.int (nI (1 + q16))), some (.int (nI (1 + q137))), some (.int (nI i)), some (.int (y159 >>> ((nI ((i / 3) * 5)) &&& 31))), some (.int (nI q220)), some (.int (nI 0))]) dL_poem_226 (Nat.le_of_ble_eq_true rfl) rfl ?_
            refine rg_sub (lv' := [some (.ref (rSb D)), some (.ref (x)), some (.int (nI (1 + q16))), some (.int (nI (1 + q137))), some (.int (nI i)), none, some (.int (nI q220)), some (.int (nI 0))]) (by repeat' constructor) ?_
            refine rg_widen (k2 := 48 + 20 * i + 0) (n2 := 3120 + 1000 * i + 100 * 0) (by omega) (by omega) ?_
            suffices L2 : ∀ (d9 : Nat) (q : Nat) (Me : rMem) (Pe : Poem) (ue : Nat → Nat → Nat), q220 - q < d9 → (q ≤ q220) → (cV D Me x Pe (1 + q16) (i + 1) ue) → (zC Pe i = q) → rG P0 l E0 (rR 11 300 20000) S0 m0 as0 bl0 mt0 c0 D A 8 (MQ bl0 (va_Qq (fun r M' => ∃ (x : Nat) (P : Poem) (nW nL : Nat) (u : Nat → Nat → Nat), r = some x ∧ cV D M' x P nW nL u ∧ 1 ≤ nW ∧ 1 ≤ nL) (cB D A) A) as0 S0 300 20000 A) Me ((48 + 20 * i + q)) ((3120 + 1000 * i + 100 * q)) [some (.ref (rSb D)), some (.ref (x)), some (.int (nI (1 + q16))), some (.int (nI (1 + q137))), some (.int (nI i)), none, some (.int (nI q220)), some (.int (nI q))] 228 [] from L2 _ 0 Md _ _ (Nat.lt_succ_self _) (Nat.zero_le _) hcd hz0
            intro d9
            induction d9 with
            | zero => intro q Me Pe ue hd9; exact absurd hd9 (Nat.not_lt_zero _)
            | succ d9 ihq =>
              intro q Me Pe ue hd9 hq hce hce2
              have hO8 := cV_see hce
              refine rg_iload F (pc := 228) dL_poem_228 rfl ?_
              refine rg_iload F (pc := 230) dL_poem_230 rfl ?_
              refine rg_ncmp_ge F (pc := 232) (tgt := 271) dL_poem_232 (by decide) (by omega) (by omega) (fun c232 => ?_) (fun c232 => ?_)
              · refine rg_widen (k2 := 45 + 20 * (i + 1)) (n2 := 3000 + 1000 * (i + 1)) (by omega) (by omega) ?_
                refine rg_sub (lv' := [some (.ref (rSb D)), some (.ref (x)), some (.int (nI (1 + q16))), some (.int (nI (1 + q137))), some (.int (nI i)), none, none, none]) (by repeat' constructor) ?_
                refine rg_iinc F (pc := 271) (v := nI (i + 1)) (lv' := [some (.ref (rSb D)), some (.ref (x)), some (.int (nI (1 + q16))), some (.int (nI (1 + q137))), some (.int (nI (i + 1))), none, none, none]) dL_poem_271 rfl (nI_add _ 1) (Nat.le_of_ble_eq_true rfl) rfl ?_
                refine rg_goto F (pc := 274) (tgt := 145) dL_poem_274 (by decide) ?_
                exact ihi (i + 1) Me _ _ (by omega) (by omega) hce
              · refine rg_aload_n F (pc := 235) dL_poem_235 rfl ?_
                refine rg_iload F (pc := 236) dL_poem_236 rfl ?_
                refine rg_iload F (pc := 238) dL_poem_238 rfl ?_
                refine rg_aload_n F (pc := 240) dL_poem_240 rfl ?_
                refine rg_bipush F (pc := 241) (v := nI 10) dL_poem_241 (by decide) ?_
                refine rg_iload F (pc := 243) dL_poem_243 rfl ?_
                refine rg_bipush F (pc := 245) (v := nI 6) dL_poem_245 (by decide) ?_
                refine rg_irem F (pc := 247) (v := nI (i % 6)) dL_poem_247 (by decide) (pk_rem (by omega) (by omega) (by omega)) ?_
                refine rg_iadd F (pc := 248) (v := nI (10 + (i % 6))) dL_poem_248 (nI_add _ _) ?_
                refine rg_callSi F (pc := 249) (As := [.ref (rSb D), .int (nI (10 + (i % 6)))]) (rest := [.int (nI q), .int (nI i), .ref (x)]) (c_cell l D _ (10 + (i % 6)) (by omega)) q392 sq_L_cell rfl rfl (Nat.le_of_ble_eq_true rfl) (Nat.le_of_ble_eq_true rfl) (Nat.le_of_ble_eq_true rfl) ⟨by show _ ≤ 300; omega, by show _ ≤ 20000; omega⟩ dL_poem_249 (fun y249 M9 hp => ?_)
                refine rg_widen (k2 := (48 + 20 * i + q)) (n2 := (3120 + 1000 * i + 100 * q)) (by omega) (by omega) ?_
                refine rg_mem (M2 := Me) hp ?_
                refine rg_iconst F (pc := 252) (v := nI 3) dL_poem_252 (by decide) ?_
                refine rg_iload F (pc := 253) dL_poem_253 rfl ?_
                refine rg_imul F (pc := 255) (v := nI (3 * q)) dL_poem_255 (pk_mul _ _) ?_
                refine rg_ishr F (pc := 256) (v := y249 >>> ((nI (3 * q)) &&& 31)) dL_poem_256 rfl ?_
                refine rg_iload_n F (pc := 257) dL_poem_257 rfl ?_
                refine rg_callSi F (pc := 258) (As := [.int (y249 >>> ((nI (3 * q)) &&& 31)), .int (nI (1 + q16))]) (rest := [.int (nI q), .int (nI i), .ref (x)]) (c_below l D _ (y249 >>> ((nI (3 * q)) &&& 31)) (1 + q16) (by omega) (by omega)) q396 sq_L_below rfl rfl (Nat.le_of_ble_eq_true rfl) (Nat.le_of_ble_eq_true rfl) (Nat.le_of_ble_eq_true rfl) ⟨by show _ ≤ 300; omega, by show _ ≤ 20000; omega⟩ dL_poem_258 (fun r9 M9 hp => ?_)
                refine rg_widen (k2 := (48 + 20 * i + q)) (n2 := (3120 + 1000 * i + 100 * q)) (by omega) (by omega) ?_
                obtain ⟨q258, hq258, hr9, hp⟩ := hp
                refine rg_top (v2 := .int (nI q258)) (by rw [hr9]) ?_
                refine rg_mem (M2 := Me) hp ?_
                refine rg_callVi F (pc := 261) (As := [.int (nI i), .int (nI q), .int (nI q258)]) (rest := []) (ci := 4) (c_wrA l D _ x Pe (1 + q16) (i + 1) ue i q q258 hce (by omega) (by omega) hce2.symm (by omega)) q405 vq_X3_write rfl hO8.2.1 rfl rfl (Nat.le_of_ble_eq_true rfl) (Nat.le_of_ble_eq_true rfl) (Nat.le_of_ble_eq_true rfl) ⟨by show _ ≤ 300; omega, by show _ ≤ 20000; omega⟩ dL_poem_261 (fun r9 Mf hp => ?_)
                obtain ⟨hr9, hcf⟩ := hp
                refine rg_top (v2 := .int (nI (q + 1))) (by rw [hr9]) ?_
                have hO9 := cV_see hcf
                refine rg_widen (k2 := 48 + 20 * i + (q + 1)) (n2 := 3120 + 1000 * i + 100 * (q + 1)) (by omega) (by omega) ?_
                refine rg_pop F (pc := 264) dL_poem_264 rfl ?_
                refine rg_iinc F (pc := 265) (v := nI (q + 1)) (lv' := [some (.ref (rSb D)), some (.ref (x)), some (.int (nI (1 + q16))), some (.int (nI (1 + q137))), some (.int (nI i)), none, some (.int (nI q220)), some (.int (nI (q + 1)))]) dL_poem_265 rfl (nI_add _ 1) (Nat.le_of_ble_eq_true rfl) rfl ?_
                refine rg_goto F (pc := 268) (tgt := 228) dL_poem_268 (by decide) ?_
                exact ihq (q + 1) Mf _ _ (by omega) (by omega) hcf (by rw [← hce2]; exact zPut_a _ _ _)
    · refine rg_aload_n F (pc := 28) dL_poem_28 rfl ?_
      refine rg_iconst F (pc := 29) (v := nI 1) dL_poem_29 (by decide) ?_
      refine rg_iload_n F (pc := 30) dL_poem_30 rfl ?_
      refine rg_iconst F (pc := 31) (v := nI 5) dL_poem_31 (by decide) ?_
      refine rg_irem F (pc := 32) (v := nI (j % 5)) dL_poem_32 (by decide) (pk_rem (by omega) (by omega) (by omega)) ?_
      refine rg_iadd F (pc := 33) (v := nI (1 + (j % 5))) dL_poem_33 (nI_add _ _) ?_
      refine rg_callSi F (pc := 34) (As := [.ref (rSb D), .int (nI (1 + (j % 5)))]) (rest := []) (c_cell l D _ (1 + (j % 5)) (by omega)) q392 sq_L_cell rfl rfl (Nat.le_of_ble_eq_true rfl) (Nat.le_of_ble_eq_true rfl) (Nat.le_of_ble_eq_true rfl) ⟨by show _ ≤ 300; omega, by show _ ≤ 20000; omega⟩ dL_poem_34 (fun y34 M9 hp => ?_)
      refine rg_widen (k2 := (5 + 2 * j)) (n2 := (16 + 106 * j)) (by omega) (by omega) ?_
      refine rg_mem (M2 := Ma) hp ?_
      refine rg_iload_n F (pc := 37) dL_poem_37 rfl ?_
      refine rg_iconst F (pc := 38) (v := nI 5) dL_poem_38 (by decide) ?_
      refine rg_idiv F (pc := 39) (v := nI (j / 5)) dL_poem_39 (by decide) (pk_div (by omega) (by omega) (by omega)) ?_
      refine rg_bipush F (pc := 40) (v := nI 6) dL_poem_40 (by decide) ?_
      refine rg_imul F (pc := 42) (v := nI ((j / 5) * 6)) dL_poem_42 (pk_mul _ _) ?_
      refine rg_ishr F (pc := 43) (v := y34 >>> ((nI ((j / 5) * 6)) &&& 31)) dL_poem_43 rfl ?_
      refine rg_istore F (pc := 44) (lv' := [some (.ref (rSb D)), some (.ref (x)), some (.int (nI (1 + q16))), some (.int (nI j)), some (.int (y34 >>> ((nI ((j / 5) * 6)) &&& 31))), none, none, none]) dL_poem_44 (Nat.le_of_ble_eq_true rfl) rfl ?_
      refine rg_iconst F (pc := 46) (v := nI 1) dL_poem_46 (by decide) ?_
      refine rg_iload F (pc := 47) dL_poem_47 rfl ?_
      refine rg_iconst F (pc := 49) (v := nI 4) dL_poem_49 (by decide) ?_
      refine rg_callSi F (pc := 50) (As := [.int (y34 >>> ((nI ((j / 5) * 6)) &&& 31)), .int (nI 4)]) (rest := [.int (nI 1)]) (c_below l D _ (y34 >>> ((nI ((j / 5) * 6)) &&& 31)) 4 (by omega) (by omega)) q396 sq_L_below rfl rfl (Nat.le_of_ble_eq_true rfl) (Nat.le_of_ble_eq_true rfl) (Nat.le_of_ble_eq_true rfl) ⟨by show _ ≤ 300; omega, by show _ ≤ 20000; omega⟩ dL_poem_50 (fun r9 M9 hp => ?_)
      refine rg_widen (k2 := (5 + 2 * j)) (n2 := (16 + 106 * j)) (by omega) (by omega) ?_
      obtain ⟨q50, hq50, hr9, hp⟩ := hp
      refine rg_top (v2 := .int (nI q50)) (by rw [hr9]) ?_
      refine rg_mem (M2 := Ma) hp ?_
      refine rg_iadd F (pc := 53) (v := nI (1 + q50)) dL_poem_53 (nI_add _ _) ?_
      refine rg_istore F (pc := 54) (lv' := [some (.ref (rSb D)), some (.ref (x)), some (.int (nI (1 + q16))), some (.int (nI j)), some (.int (y34 >>> ((nI ((j / 5) * 6)) &&& 31))), some (.int (nI (1 + q50))), none, none]) dL_poem_54 (Nat.le_of_ble_eq_true rfl) rfl ?_
      refine rg_aload_n F (pc := 56) dL_poem_56 rfl ?_
      refine rg_iload F (pc := 57) dL_poem_57 rfl ?_
      refine rg_iload F (pc := 59) dL_poem_59 rfl ?_
      refine rg_iconst F (pc := 61) (v := nI 2) dL_poem_61 (by decide) ?_
      refine rg_ishr F (pc := 62) (v := (y34 >>> ((nI ((j / 5) * 6)) &&& 31)) >>> ((nI 2) &&& 31)) dL_poem_62 rfl ?_
      refine rg_iconst F (pc := 63) (v := nI 1) dL_poem_63 (by decide) ?_
      refine rg_iload F (pc := 64) dL_poem_64 rfl ?_
      refine rg_ishl F (pc := 66) (v := nI (1 * 2 ^ (1 + q50))) dL_poem_66 (rn_shl (by omega)) ?_
      refine rg_top (v2 := .int (nI (2 ^ (1 + q50)))) ((by rw [Nat.one_mul])) ?_
      refine rg_callSi F (pc := 67) (As := [.int ((y34 >>> ((nI ((j / 5) * 6)) &&& 31)) >>> ((nI 2) &&& 31)), .int (nI (2 ^ (1 + q50)))]) (rest := [.int (nI (1 + q50)), .ref (x)]) (c_below l D _ ((y34 >>> ((nI ((j / 5) * 6)) &&& 31)) >>> ((nI 2) &&& 31)) (2 ^ (1 + q50)) (Nat.two_pow_pos _) (Nat.lt_of_le_of_lt (Nat.pow_le_pow_right (by decide) (show 1 + q50 ≤ 4 by omega)) (by decide))) q396 sq_L_below rfl rfl (Nat.le_of_ble_eq_true rfl) (Nat.le_of_ble_eq_true rfl) (Nat.le_of_ble_eq_true rfl) ⟨by show _ ≤ 300; omega, by show _ ≤ 20000; omega⟩ dL_poem_67 (fun r9 M9 hp => ?_)
      refine rg_widen (k2 := (5 + 2 * j)) (n2 := (16 + 106 * j)) (by omega) (by omega) ?_
      obtain ⟨q67, hq67, hr9, hp⟩ := hp
      refine rg_top (v2 := .int (nI q67)) (by rw [hr9]) ?_
      refine rg_mem (M2 := Ma) hp ?_
      refine rg_iload F (pc := 70) dL_poem_70 rfl ?_
      refine rg_iconst F (pc := 72) (v := nI 4) dL_poem_72 (by decide) ?_
      refine rg_ishr F (pc := 73) (v := (y34 >>> ((nI ((j / 5) * 6)) &&& 31)) >>> ((nI 4) &&& 31)) dL_poem_73 rfl ?_
      refine rg_iconst F (pc := 74) (v := nI 3) dL_poem_74 (by decide) ?_
      refine rg_callSi F (pc := 75) (As := [.int ((y34 >>> ((nI ((j / 5) * 6)) &&& 31)) >>> ((nI 4) &&& 31)), .int (nI 3)]) (rest := [.int (nI q67), .int (nI (1 + q50)), .ref (x)]) (c_below l D _ ((y34 >>> ((nI ((j / 5) * 6)) &&& 31)) >>> ((nI 4) &&& 31)) 3 (by omega) (by omega)) q396 sq_L_below rfl rfl (Nat.le_of_ble_eq_true rfl) (Nat.le_of_ble_eq_true rfl) (Nat.le_of_ble_eq_true rfl) ⟨by show _ ≤ 300; omega, by show _ ≤ 20000; omega⟩ dL_poem_75 (fun r9 M9 hp => ?_)
      refine rg_widen (k2 := (5 + 2 * j)) (n2 := (16 + 106 * j)) (by omega) (by omega) ?_
      obtain ⟨q75, hq75, hr9, hp⟩ := hp
      refine rg_top (v2 := .int (nI q75)) (by rw [hr9]) ?_
      refine rg_mem (M2 := Ma) hp ?_
      refine rg_iload F (pc := 78) dL_poem_78 rfl ?_
      refine rg_bipush F (pc := 80) (v := nI 6) dL_poem_80 (by decide) ?_
      refine rg_ishr F (pc := 82) (v := (y34 >>> ((nI ((j / 5) * 6)) &&& 31)) >>> ((nI 6) &&& 31)) dL_poem_82 rfl ?_
      refine rg_iload F (pc := 83) dL_poem_83 rfl ?_
      refine rg_iconst F (pc := 85) (v := nI 3) dL_poem_85 (by decide) ?_
      refine rg_ishr F (pc := 86) (v := (y34 >>> ((nI ((j / 5) * 6)) &&& 31)) >>> ((nI 3) &&& 31)) dL_poem_86 rfl ?_
      refine rg_iconst F (pc := 87) (v := nI 2) dL_poem_87 (by decide) ?_
      refine rg_callSi F (pc := 88) (As := [.int ((y34 >>> ((nI ((j / 5) * 6)) &&& 31)) >>> ((nI 3) &&& 31)), .int (nI 2)]) (rest := [.int ((y34 >>> ((nI ((j / 5) * 6)) &&& 31)) >>> ((nI 6) &&& 31)), .int (nI q75), .int (nI q67), .int (nI (1 + q50)), .ref (x)]) (c_below l D _ ((y34 >>> ((nI ((j / 5) * 6)) &&& 31)) >>> ((nI 3) &&& 31)) 2 (by omega) (by omega)) q396 sq_L_below rfl rfl (Nat.le_of_ble_eq_true rfl) (Nat.le_of_ble_eq_true rfl) (Nat.le_of_ble_eq_true rfl) ⟨by show _ ≤ 300; omega, by show _ ≤ 20000; omega⟩ dL_poem_88 (fun r9 M9 hp => ?_)
      refine rg_widen (k2 := (5 + 2 * j)) (n2 := (16 + 106 * j)) (by omega) (by omega) ?_
      obtain ⟨q88, hq88, hr9, hp⟩ := hp
      refine rg_top (v2 := .int (nI q88)) (by rw [hr9]) ?_
      refine rg_mem (M2 := Ma) hp ?_
      refine rg_nif_ne F (pc := 91) (tgt := 98) dL_poem_91 (by decide) (by omega) (fun c91 => ?_) (fun c91 => ?_)
      · refine rg_iconst F (pc := 98) (v := nI 4) dL_poem_98 (by decide) ?_
        refine rg_callSi F (pc := 99) (As := [.int ((y34 >>> ((nI ((j / 5) * 6)) &&& 31)) >>> ((nI 6) &&& 31)), .int (nI 4)]) (rest := [.int (nI q75), .int (nI q67), .int (nI (1 + q50)), .ref (x)]) (c_below l D _ ((y34 >>> ((nI ((j / 5) * 6)) &&& 31)) >>> ((nI 6) &&& 31)) 4 (by omega) (by omega)) q396 sq_L_below rfl rfl (Nat.le_of_ble_eq_true rfl) (Nat.le_of_ble_eq_true rfl) (Nat.le_of_ble_eq_true rfl) ⟨by show _ ≤ 300; omega, by show _ ≤ 20000; omega⟩ dL_poem_99 (fun r9 M9 hp => ?_)
        refine rg_widen (k2 := (5 + 2 * j)) (n2 := (16 + 106 * j)) (by omega) (by omega) ?_
        obtain ⟨q99, hq99, hr9, hp⟩ := hp
        refine rg_top (v2 := .int (nI q99)) (by rw [hr9]) ?_
        refine rg_mem (M2 := Ma) hp ?_
        refine rg_iload F (pc := 102) dL_poem_102 rfl ?_
        refine rg_iconst F (pc := 104) (v := nI 5) dL_poem_104 (by decide) ?_
        refine rg_ishr F (pc := 105) (v := (y34 >>> ((nI ((j / 5) * 6)) &&& 31)) >>> ((nI 5) &&& 31)) dL_poem_105 rfl ?_
        refine rg_iconst F (pc := 106) (v := nI 2) dL_poem_106 (by decide) ?_
        refine rg_callSi F (pc := 107) (As := [.int ((y34 >>> ((nI ((j / 5) * 6)) &&& 31)) >>> ((nI 5) &&& 31)), .int (nI 2)]) (rest := [.int (nI q99), .int (nI q75), .int (nI q67), .int (nI (1 + q50)), .ref (x)]) (c_below l D _ ((y34 >>> ((nI ((j / 5) * 6)) &&& 31)) >>> ((nI 5) &&& 31)) 2 (by omega) (by omega)) q396 sq_L_below rfl rfl (Nat.le_of_ble_eq_true rfl) (Nat.le_of_ble_eq_true rfl) (Nat.le_of_ble_eq_true rfl) ⟨by show _ ≤ 300; omega, by show _ ≤ 20000; omega⟩ dL_poem_107 (fun r9 M9 hp => ?_)
        refine rg_widen (k2 := (5 + 2 * j)) (n2 := (16 + 106 * j)) (by omega) (by omega) ?_
        obtain ⟨q107, hq107, hr9, hp⟩ := hp
        refine rg_top (v2 := .int (nI q107)) (by rw [hr9]) ?_
        refine rg_mem (M2 := Ma) hp ?_
        refine rg_nif_ne F (pc := 110) (tgt := 117) dL_poem_110 (by decide) (by omega) (fun c110 => ?_) (fun c110 => ?_)
        · refine rg_iconst F (pc := 117) (v := nI 0) dL_poem_117 (by decide) ?_
          refine rg_callVi F (pc := 118) (As := [.int (nI (1 + q50)), .int (nI q67), .int (nI q75), .int (nI q99), .int (nI 0)]) (rest := []) (ci := 4) (c_word l D _ x Pa j 0 ua (1 + q50) q67 q75 q99 0 hca (by omega) (by omega) (by omega) hq67 (by omega) (by omega) (by omega)) q399 vq_X3_word rfl hO3.2.1 rfl rfl (Nat.le_of_ble_eq_true rfl) (Nat.le_of_ble_eq_true rfl) (Nat.le_of_ble_eq_true rfl) ⟨by show _ ≤ 300; omega, by show _ ≤ 20000; omega⟩ dL_poem_118 (fun r9 Mb hp => ?_)
          obtain ⟨hr9, ub, hcb⟩ := hp
          refine rg_top (v2 := .int (nI j)) (by rw [hr9]) ?_
          have hO10 := cV_see hcb
          refine rg_widen (k2 := 5 + 2 * (j + 1)) (n2 := 16 + 106 * (j + 1)) (by omega) (by omega) ?_
          refine rg_pop F (pc := 121) dL_poem_121 rfl ?_
          refine rg_sub (lv' := [some (.ref (rSb D)), some (.ref (x)), some (.int (nI (1 + q16))), some (.int (nI j)), none, none, none, none]) (by repeat' constructor) ?_
          refine rg_iinc F (pc := 122) (v := nI (j + 1)) (lv' := [some (.ref (rSb D)), some (.ref (x)), some (.int (nI (1 + q16))), some (.int (nI (j + 1))), none, none, none, none]) dL_poem_122 rfl (nI_add _ 1) (Nat.le_of_ble_eq_true rfl) rfl ?_
          refine rg_goto F (pc := 125) (tgt := 23) dL_poem_125 (by decide) ?_
          exact ih (j + 1) Mb _ _ (by omega) (by omega) hcb
        · refine rg_iconst F (pc := 113) (v := nI 1) dL_poem_113 (by decide) ?_
          refine rg_goto F (pc := 114) (tgt := 118) dL_poem_114 (by decide) ?_
          refine rg_callVi F (pc := 118) (As := [.int (nI (1 + q50)), .int (nI q67), .int (nI q75), .int (nI q99), .int (nI 1)]) (rest := []) (ci := 4) (c_word l D _ x Pa j 0 ua (1 + q50) q67 q75 q99 1 hca (by omega) (by omega) (by omega) hq67 (by omega) (by omega) (by omega)) q399 vq_X3_word rfl hO3.2.1 rfl rfl (Nat.le_of_ble_eq_true rfl) (Nat.le_of_ble_eq_true rfl) (Nat.le_of_ble_eq_true rfl) ⟨by show _ ≤ 300; omega, by show _ ≤ 20000; omega⟩ dL_poem_118 (fun r9 Mb hp => ?_)
          obtain ⟨hr9, ub, hcb⟩ := hp
          refine rg_top (v2 := .int (nI j)) (by rw [hr9]) ?_
          have hO11 := cV_see hcb
          refine rg_widen (k2 := 5 + 2 * (j + 1)) (n2 := 16 + 106 * (j + 1)) (by omega) (by omega) ?_
          refine rg_pop F (pc := 121) dL_poem_121 rfl ?_
          refine rg_sub (lv' := [some (.ref (rSb D)), some (.ref (x)), some (.int (nI (1 + q16))), some (.int (nI j)), none, none, none, none]) (by repeat' constructor) ?_
          refine rg_iinc F (pc := 122) (v := nI (j + 1)) (lv' := [some (.ref (rSb D)), some (.ref (x)), some (.int (nI (1 + q16))), some (.int (nI (j + 1))), none, none, none, none]) dL_poem_122 rfl (nI_add _ 1) (Nat.le_of_ble_eq_true rfl) rfl ?_
          refine rg_goto F (pc := 125) (tgt := 23) dL_poem_125 (by decide) ?_
          exact ih (j + 1) Mb _ _ (by omega) (by omega) hcb
      · refine rg_iconst F (pc := 94) (v := nI 1) dL_poem_94 (by decide) ?_
        refine rg_goto F (pc := 95) (tgt := 99) dL_poem_95 (by decide) ?_
        refine rg_callSi F (pc := 99) (As := [.int ((y34 >>> ((nI ((j / 5) * 6)) &&& 31)) >>> ((nI 6) &&& 31)), .int (nI 1)]) (rest := [.int (nI q75), .int (nI q67), .int (nI (1 + q50)), .ref (x)]) (c_below l D _ ((y34 >>> ((nI ((j / 5) * 6)) &&& 31)) >>> ((nI 6) &&& 31)) 1 (by omega) (by omega)) q396 sq_L_below rfl rfl (Nat.le_of_ble_eq_true rfl) (Nat.le_of_ble_eq_true rfl) (Nat.le_of_ble_eq_true rfl) ⟨by show _ ≤ 300; omega, by show _ ≤ 20000; omega⟩ dL_poem_99 (fun r9 M9 hp => ?_)
        refine rg_widen (k2 := (5 + 2 * j)) (n2 := (16 + 106 * j)) (by omega) (by omega) ?_
        obtain ⟨q99, hq99, hr9, hp⟩ := hp
        refine rg_top (v2 := .int (nI q99)) (by rw [hr9]) ?_
        refine rg_mem (M2 := Ma) hp ?_
        refine rg_iload F (pc := 102) dL_poem_102 rfl ?_
        refine rg_iconst F (pc := 104) (v := nI 5) dL_poem_104 (by decide) ?_
        refine rg_ishr F (pc := 105) (v := (y34 >>> ((nI ((j / 5) * 6)) &&& 31)) >>> ((nI 5) &&& 31)) dL_poem_105 rfl ?_
        refine rg_iconst F (pc := 106) (v := nI 2) dL_poem_106 (by decide) ?_
        refine rg_callSi F (pc := 107) (As := [.int ((y34 >>> ((nI ((j / 5) * 6)) &&& 31)) >>> ((nI 5) &&& 31)), .int (nI 2)]) (rest := [.int (nI q99), .int (nI q75), .int (nI q67), .int (nI (1 + q50)), .ref (x)]) (c_below l D _ ((y34 >>> ((nI ((j / 5) * 6)) &&& 31)) >>> ((nI 5) &&& 31)) 2 (by omega) (by omega)) q396 sq_L_below rfl rfl (Nat.le_of_ble_eq_true rfl) (Nat.le_of_ble_eq_true rfl) (Nat.le_of_ble_eq_true rfl) ⟨by show _ ≤ 300; omega, by show _ ≤ 20000; omega⟩ dL_poem_107 (fun r9 M9 hp => ?_)
        refine rg_widen (k2 := (5 + 2 * j)) (n2 := (16 + 106 * j)) (by omega) (by omega) ?_
        obtain ⟨q107, hq107, hr9, hp⟩ := hp
        refine rg_top (v2 := .int (nI q107)) (by rw [hr9]) ?_
        refine rg_mem (M2 := Ma) hp ?_
        refine rg_nif_ne F (pc := 110) (tgt := 117) dL_poem_110 (by decide) (by omega) (fun c110 => ?_) (fun c110 => ?_)
        · refine rg_iconst F (pc := 117) (v := nI 0) dL_poem_117 (by decide) ?_
          refine rg_callVi F (pc := 118) (As := [.int (nI (1 + q50)), .int (nI q67), .int (nI q75), .int (nI q99), .int (nI 0)]) (rest := []) (ci := 4) (c_word l D _ x Pa j 0 ua (1 + q50) q67 q75 q99 0 hca (by omega) (by omega) (by omega) hq67 (by omega) (by omega) (by omega)) q399 vq_X3_word rfl hO3.2.1 rfl rfl (Nat.le_of_ble_eq_true rfl) (Nat.le_of_ble_eq_true rfl) (Nat.le_of_ble_eq_true rfl) ⟨by show _ ≤ 300; omega, by show _ ≤ 20000; omega⟩ dL_poem_118 (fun r9 Mb hp => ?_)
          obtain ⟨hr9, ub, hcb⟩ := hp
          refine rg_top (v2 := .int (nI j)) (by rw [hr9]) ?_
          have hO12 := cV_see hcb
          refine rg_widen (k2 := 5 + 2 * (j + 1)) (n2 := 16 + 106 * (j + 1)) (by omega) (by omega) ?_
          refine rg_pop F (pc := 121) dL_poem_121 rfl ?_
          refine rg_sub (lv' := [some (.ref (rSb D)), some (.ref (x)), some (.int (nI (1 + q16))), some (.int (nI j)), none, none, none, none]) (by repeat' constructor) ?_
          refine rg_iinc F (pc := 122) (v := nI (j + 1)) (lv' := [some (.ref (rSb D)), some (.ref (x)), some (.int (nI (1 + q16))), some (.int (nI (j + 1))), none, none, none, none]) dL_poem_122 rfl (nI_add _ 1) (Nat.le_of_ble_eq_true rfl) rfl ?_
          refine rg_goto F (pc := 125) (tgt := 23) dL_poem_125 (by decide) ?_
          exact ih (j + 1) Mb _ _ (by omega) (by omega) hcb
        · refine rg_iconst F (pc := 113) (v := nI 1) dL_poem_113 (by decide) ?_
          refine rg_goto F (pc := 114) (tgt := 118) dL_poem_114 (by decide) ?_
          refine rg_callVi F (pc := 118) (As := [.int (nI (1 + q50)), .int (nI q67), .int (nI q75), .int (nI q99), .int (nI 1)]) (rest := []) (ci := 4) (c_word l D _ x Pa j 0 ua (1 + q50) q67 q75 q99 1 hca (by omega) (by omega) (by omega) hq67 (by omega) (by omega) (by omega)) q399 vq_X3_word rfl hO3.2.1 rfl rfl (Nat.le_of_ble_eq_true rfl) (Nat.le_of_ble_eq_true rfl) (Nat.le_of_ble_eq_true rfl) ⟨by show _ ≤ 300; omega, by show _ ≤ 20000; omega⟩ dL_poem_118 (fun r9 Mb hp => ?_)
          obtain ⟨hr9, ub, hcb⟩ := hp
          refine rg_top (v2 := .int (nI j)) (by rw [hr9]) ?_
          have hO13 := cV_see hcb
          refine rg_widen (k2 := 5 + 2 * (j + 1)) (n2 := 16 + 106 * (j + 1)) (by omega) (by omega) ?_
          refine rg_pop F (pc := 121) dL_poem_121 rfl ?_
          refine rg_sub (lv' := [some (.ref (rSb D)), some (.ref (x)), some (.int (nI (1 + q16))), some (.int (nI j)), none, none, none, none]) (by repeat' constructor) ?_
          refine rg_iinc F (pc := 122) (v := nI (j + 1)) (lv' := [some (.ref (rSb D)), some (.ref (x)), some (.int (nI (1 + q16))), some (.int (nI (j + 1))), none, none, none, none]) dL_poem_122 rfl (nI_add _ 1) (Nat.le_of_ble_eq_true rfl) rfl ?_
          refine rg_goto F (pc := 125) (tgt := 23) dL_poem_125 (by decide) ?_
          exact ih (j + 1) Mb _ _ (by omega) (by omega) hcb
