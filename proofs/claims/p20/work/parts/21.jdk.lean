set_option maxHeartbeats 4000000 in
set_option maxRecDepth 100000 in
theorem c_pcheck (l : Launch) (D : va_G) (M : rMem) (j n : Nat) (hj : j < n) (hn : n < 2 ^ 31) : CMi l D yJ3_checkIndex_8e157 cJ3_checkIndex_8e157 3 ((some .int)) 1 0 0 M [.int (nI j), .int (nI n), .null] (fun r M' => r = nI j ∧ M' = M) := by
  refine rM (lv0 := [some (.int (nI j)), some (.int (nI n)), some (.null)]) (by decide) rfl rfl (Nat.le_of_ble_eq_true rfl) (fun P0 E0 S0 m0 as0 bl0 mt0 c0 A F hrt9 hnm => ?_)
  refine rg_iload_n F (pc := 0) dJ3_checkIndex_8e157_0 rfl ?_
  refine rg_if_lt F (pc := 1) (tgt := 9) dJ3_checkIndex_8e157_1 (by decide) (fun c9 => absurd c9 (nI_pos (by omega))) (fun _ => ?_)
  refine rg_iload_n F (pc := 4) dJ3_checkIndex_8e157_4 rfl ?_
  refine rg_iload_n F (pc := 5) dJ3_checkIndex_8e157_5 rfl ?_
  refine rg_ncmp_lt F (pc := 6) (tgt := 16) dJ3_checkIndex_8e157_6 (by decide) (by omega) (by omega) (fun c6 => ?_) (fun c6 => by exfalso; omega)
  refine rg_iload_n F (pc := 16) dJ3_checkIndex_8e157_16 rfl ?_
  exact rg_iret F (pc := 17) hrt9 (by decide) (by decide) dJ3_checkIndex_8e157_17 ⟨rfl, rfl⟩
set_option maxHeartbeats 4000000 in
set_option maxRecDepth 100000 in
theorem c_ocheck (l : Launch) (D : va_G) (M : rMem) (j n : Nat) (hj : j < n) (hn : n < 2 ^ 31) : CMi l D yJ15_checkIndex_7cf53 cJ15_checkIndex_7cf53 2 ((some .int)) 2 0 0 M [.int (nI j), .int (nI n)] (fun r M' => r = nI j ∧ M' = M) := by
  refine rM (lv0 := [some (.int (nI j)), some (.int (nI n))]) (by decide) rfl rfl (Nat.le_of_ble_eq_true rfl) (fun P0 E0 S0 m0 as0 bl0 mt0 c0 A F hrt9 hnm => ?_)
  refine rg_iload_n F (pc := 0) dJ15_checkIndex_7cf53_0 rfl ?_
  refine rg_iload_n F (pc := 1) dJ15_checkIndex_7cf53_1 rfl ?_
  refine rg_null F (pc := 2) dJ15_checkIndex_7cf53_2 ?_
  refine rg_callSi F (pc := 3) (As := [.int (nI j), .int (nI n), .null]) (rest := []) (c_pcheck l D _ j n hj hn) q50 sq_J3_checkIndex_8e157 rfl rfl (Nat.le_of_ble_eq_true rfl) (Nat.le_of_ble_eq_true rfl) (Nat.le_of_ble_eq_true rfl) ⟨(Nat.le_of_ble_eq_true rfl), (Nat.le_of_ble_eq_true rfl)⟩ dJ15_checkIndex_7cf53_3 (fun r9 M9 hp => ?_)
  refine rg_top (v2 := .int (nI j)) (by first | (rw [hp.1]; done) | (rw [hp.1]; rfl)) ?_
  refine rg_mem (M2 := M) hp.2 ?_
  exact rg_iret F (pc := 6) hrt9 (by decide) (by decide) dJ15_checkIndex_7cf53_6 ⟨rfl, rfl⟩
set_option maxHeartbeats 4000000 in
set_option maxRecDepth 100000 in
theorem c_size (l : Launch) (D : va_G) (M : rMem) (a : Nat) (md : Int32) (bk n : Nat) (hm : M a = some (.inr (0, [.int md, .ref bk, .int (nI n)]))) : CMi l D yJx4a65c_size_8abf5 cJx4a65c_size_8abf5 1 ((some .int)) 1 0 0 M [.ref (a)] (fun r M' => r = nI n ∧ M' = M) := by
  refine rM (lv0 := [some (.ref (a))]) (by decide) rfl rfl (Nat.le_of_ble_eq_true rfl) (fun P0 E0 S0 m0 as0 bl0 mt0 c0 A F hrt9 hnm => ?_)
  refine rg_aload_n F (pc := 0) dJx4a65c_size_8abf5_0 rfl ?_
  refine rg_get F (pc := 1) (ci := 0) rfl inJx4a65c hm 2 (by decide) q43 (fun _ h9 => h9) rfl dJx4a65c_size_8abf5_1 ?_
  exact rg_iret F (pc := 4) hrt9 (by decide) (by decide) dJx4a65c_size_8abf5_4 ⟨rfl, rfl⟩
set_option maxHeartbeats 4000000 in
set_option maxRecDepth 100000 in
theorem c_isEmpty (l : Launch) (D : va_G) (M : rMem) (a : Nat) (md : Int32) (bk n : Nat) (hm : M a = some (.inr (0, [.int md, .ref bk, .int (nI n)]))) (hn : n < 2 ^ 31) : CMi l D yJx4a65c_isEmpty_aae02 cJx4a65c_isEmpty_aae02 1 ((some .boolean)) 1 0 0 M [.ref (a)] (fun r M' => r = nI (decide (n = 0)).toNat ∧ M' = M) := by
  refine rM (lv0 := [some (.ref (a))]) (by decide) rfl rfl (Nat.le_of_ble_eq_true rfl) (fun P0 E0 S0 m0 as0 bl0 mt0 c0 A F hrt9 hnm => ?_)
  refine rg_aload_n F (pc := 0) dJx4a65c_isEmpty_aae02_0 rfl ?_
  refine rg_get F (pc := 1) (ci := 0) rfl inJx4a65c hm 2 (by decide) q43 (fun _ h9 => h9) rfl dJx4a65c_isEmpty_aae02_1 ?_
  refine rg_nif_ne F (pc := 4) (tgt := 11) dJx4a65c_isEmpty_aae02_4 (by decide) (by omega) (fun c4 => ?_) (fun c4 => ?_)
  · refine rg_iconst F (pc := 11) (v := nI 0) dJx4a65c_isEmpty_aae02_11 (by decide) ?_
    exact rg_zret F (pc := 12) rfl hrt9 (by decide) (by decide) dJx4a65c_isEmpty_aae02_12 ⟨by rw [(show decide (n = 0) = false from decide_eq_false (by omega))]; rfl, rfl⟩
  · refine rg_iconst F (pc := 7) (v := nI 1) dJx4a65c_isEmpty_aae02_7 (by decide) ?_
    refine rg_goto F (pc := 8) (tgt := 12) dJx4a65c_isEmpty_aae02_8 (by decide) ?_
    exact rg_zret F (pc := 12) rfl hrt9 (by decide) (by decide) dJx4a65c_isEmpty_aae02_12 ⟨by rw [(show decide (n = 0) = true from decide_eq_true (by omega))]; rfl, rfl⟩
set_option maxHeartbeats 4000000 in
set_option maxRecDepth 100000 in
theorem c_elem (l : Launch) (D : va_G) (M : rMem) (a : Nat) (md : Int32) (bk n cap j : Nat) (f : Nat → Option Nat) (hm : M a = some (.inr (0, [.int md, .ref bk, .int (nI n)]))) (hb : M bk = some (.inl (D.1 8, (cap, .inr (.inr (.inr (.inr f))))))) (hj : j < cap) (hc : cap < 2 ^ 31) : CMq l D yJx4a65c_elementData_915e3 cJx4a65c_elementData_915e3 2 ((some (.object "java/lang/Object"))) 1 0 0 M [.ref (a), .int (nI j)] (fun r M' => r = f j ∧ M' = M) := by
  refine rM (lv0 := [some (.ref (a)), some (.int (nI j))]) (by decide) rfl rfl (Nat.le_of_ble_eq_true rfl) (fun P0 E0 S0 m0 as0 bl0 mt0 c0 A F hrt9 hnm => ?_)
  refine rg_aload_n F (pc := 0) dJx4a65c_elementData_915e3_0 rfl ?_
  refine rg_get F (pc := 1) (ci := 0) rfl inJx4a65c hm 1 (by decide) q24 (fun _ h9 => h9) rfl dJx4a65c_elementData_915e3_1 ?_
  refine rg_iload_n F (pc := 4) dJx4a65c_elementData_915e3_4 rfl ?_
  refine rg_aald F (pc := 5) (x := va_rf (f j)) hb (by omega) (by omega) rfl dJx4a65c_elementData_915e3_5 ?_
  exact rg_aret F (pc := 6) (f j) rfl hrt9 (Or.inl ⟨_, rfl⟩) (by decide) (by decide) dJx4a65c_elementData_915e3_6 ⟨rfl, rfl⟩
set_option maxHeartbeats 4000000 in
set_option maxRecDepth 100000 in
theorem c_get (l : Launch) (D : va_G) (M : rMem) (a : Nat) (md : Int32) (bk n cap j : Nat) (f : Nat → Option Nat) (hm : M a = some (.inr (0, [.int md, .ref bk, .int (nI n)]))) (hb : M bk = some (.inl (D.1 8, (cap, .inr (.inr (.inr (.inr f))))))) (hj : j < n) (hn : n ≤ cap) (hc : cap ≤ 100) : CMq l D yJx4a65c_get_915e3 cJx4a65c_get_915e3 2 ((some (.object "java/lang/Object"))) 3 0 0 M [.ref (a), .int (nI j)] (fun r M' => r = f j ∧ M' = M) := by
  refine rM (lv0 := [some (.ref (a)), some (.int (nI j))]) (by decide) rfl rfl (Nat.le_of_ble_eq_true rfl) (fun P0 E0 S0 m0 as0 bl0 mt0 c0 A F hrt9 hnm => ?_)
  refine rg_iload_n F (pc := 0) dJx4a65c_get_915e3_0 rfl ?_
  refine rg_aload_n F (pc := 1) dJx4a65c_get_915e3_1 rfl ?_
  refine rg_get F (pc := 2) (ci := 0) rfl inJx4a65c hm 2 (by decide) q43 (fun _ h9 => h9) rfl dJx4a65c_get_915e3_2 ?_
  refine rg_callSi F (pc := 5) (As := [.int (nI j), .int (nI n)]) (rest := []) (c_ocheck l D _ j n hj (by omega)) q47 sq_J15_checkIndex_7cf53 rfl rfl (Nat.le_of_ble_eq_true rfl) (Nat.le_of_ble_eq_true rfl) (Nat.le_of_ble_eq_true rfl) ⟨(Nat.le_of_ble_eq_true rfl), (Nat.le_of_ble_eq_true rfl)⟩ dJx4a65c_get_915e3_5 (fun r9 M9 hp => ?_)
  refine rg_top (v2 := .int (nI j)) (by first | (rw [hp.1]; done) | (rw [hp.1]; rfl)) ?_
  refine rg_mem (M2 := M) hp.2 ?_
  refine rg_pop F (pc := 8) dJx4a65c_get_915e3_8 rfl ?_
  refine rg_aload_n F (pc := 9) dJx4a65c_get_915e3_9 rfl ?_
  refine rg_iload_n F (pc := 10) dJx4a65c_get_915e3_10 rfl ?_
  refine rg_callVq F (pc := 11) (As := [.int (nI j)]) (rest := []) (ci := 0) (c_elem l D _ a md bk n cap j f hm hb (by omega) (by omega)) q53 vq_Jx4a65c_elementData_915e3 rfl hm rfl rfl (Nat.le_of_ble_eq_true rfl) (Nat.le_of_ble_eq_true rfl) (Nat.le_of_ble_eq_true rfl) ⟨(Nat.le_of_ble_eq_true rfl), (Nat.le_of_ble_eq_true rfl)⟩ dJx4a65c_get_915e3_11 (fun r9 M9 hp => ?_)
  refine rg_top (v2 := va_rf (f j)) (by first | (rw [hp.1]; done) | (rw [hp.1]; rfl)) ?_
  refine rg_mem (M2 := M) hp.2 ?_
  exact rg_aret F (pc := 14) (f j) rfl hrt9 (Or.inl ⟨_, rfl⟩) (by decide) (by decide) dJx4a65c_get_915e3_14 ⟨rfl, rfl⟩
set_option maxHeartbeats 4000000 in
set_option maxRecDepth 100000 in
theorem c_set (l : Launch) (D : va_G) (M : rMem) (a : Nat) (md : Int32) (bk n cap j : Nat) (f : Nat → Option Nat) (x : Nat) (v ci : Nat) (vs : List Value) (C : String) (T : u_T) (N : Nat) (hm : M a = some (.inr (0, [.int md, .ref bk, .int (nI n)]))) (hb : M bk = some (.inl (D.1 8, (cap, .inr (.inr (.inr (.inr f))))))) (hj : j < n) (hn : n ≤ cap) (hc : cap ≤ 100) (hx : f j = some x) (hv : M v = some (.inr (ci, vs))) (hcl : vwCl[ci]? = some (C, T, N)) (hca : Cond.castable C "java/lang/Object" ∈ tables_1) : CMq l D yJx4a65c_set_bcc79 cJx4a65c_set_bcc79 4 ((some (.object "java/lang/Object"))) 3 0 0 M [.ref (a), .int (nI j), .ref (v)] (fun r M' => r = some x ∧ M' = mset M bk (.inl (D.1 8, (cap, .inr (.inr (.inr (.inr (va_up f j (some v))))))))) := by
  refine rM (lv0 := [some (.ref (a)), some (.int (nI j)), some (.ref (v)), none]) (by decide) rfl rfl (Nat.le_of_ble_eq_true rfl) (fun P0 E0 S0 m0 as0 bl0 mt0 c0 A F hrt9 hnm => ?_)
  refine rg_iload_n F (pc := 0) dJx4a65c_set_bcc79_0 rfl ?_
  refine rg_aload_n F (pc := 1) dJx4a65c_set_bcc79_1 rfl ?_
  refine rg_get F (pc := 2) (ci := 0) rfl inJx4a65c hm 2 (by decide) q43 (fun _ h9 => h9) rfl dJx4a65c_set_bcc79_2 ?_
  refine rg_callSi F (pc := 5) (As := [.int (nI j), .int (nI n)]) (rest := []) (c_ocheck l D _ j n hj (by omega)) q47 sq_J15_checkIndex_7cf53 rfl rfl (Nat.le_of_ble_eq_true rfl) (Nat.le_of_ble_eq_true rfl) (Nat.le_of_ble_eq_true rfl) ⟨(Nat.le_of_ble_eq_true rfl), (Nat.le_of_ble_eq_true rfl)⟩ dJx4a65c_set_bcc79_5 (fun r9 M9 hp => ?_)
  refine rg_top (v2 := .int (nI j)) (by first | (rw [hp.1]; done) | (rw [hp.1]; rfl)) ?_
  refine rg_mem (M2 := M) hp.2 ?_
  refine rg_pop F (pc := 8) dJx4a65c_set_bcc79_8 rfl ?_
  refine rg_aload_n F (pc := 9) dJx4a65c_set_bcc79_9 rfl ?_
  refine rg_iload_n F (pc := 10) dJx4a65c_set_bcc79_10 rfl ?_
  refine rg_callVq F (pc := 11) (As := [.int (nI j)]) (rest := []) (ci := 0) (c_elem l D _ a md bk n cap j f hm hb (by omega) (by omega)) q53 vq_Jx4a65c_elementData_915e3 rfl hm rfl rfl (Nat.le_of_ble_eq_true rfl) (Nat.le_of_ble_eq_true rfl) (Nat.le_of_ble_eq_true rfl) ⟨(Nat.le_of_ble_eq_true rfl), (Nat.le_of_ble_eq_true rfl)⟩ dJx4a65c_set_bcc79_11 (fun r9 M9 hp => ?_)
  refine rg_top (v2 := .ref x) (by rw [hp.1, hx]; rfl) ?_
  refine rg_mem (M2 := M) hp.2 ?_
  refine rg_astore_n F (pc := 14) (lv' := [some (.ref (a)), some (.int (nI j)), some (.ref (v)), some (.ref (x))]) dJx4a65c_set_bcc79_14 (Nat.le_of_ble_eq_true rfl) rfl ?_
  refine rg_aload_n F (pc := 15) dJx4a65c_set_bcc79_15 rfl ?_
  refine rg_get F (pc := 16) (ci := 0) rfl inJx4a65c hm 1 (by decide) q24 (fun _ h9 => h9) rfl dJx4a65c_set_bcc79_16 ?_
  refine rg_iload_n F (pc := 19) dJx4a65c_set_bcc79_19 rfl ?_
  refine rg_aload_n F (pc := 20) dJx4a65c_set_bcc79_20 rfl ?_
  refine rg_aast F (pc := 21) hb hv hcl hca (by omega) (by omega) dJx4a65c_set_bcc79_21 ?_
  refine rg_aload_n F (pc := 22) dJx4a65c_set_bcc79_22 rfl ?_
  exact rg_aret F (pc := 23) (some (x)) rfl hrt9 (Or.inl ⟨_, rfl⟩) (by decide) (by decide) dJx4a65c_set_bcc79_23 ⟨rfl, rfl⟩
set_option maxHeartbeats 4000000 in
set_option maxRecDepth 100000 in
theorem c_newLength (l : Launch) (D : va_G) (M : rMem) (o g h : Nat) (hs : 0 < o + max g h) (hb : o + max g h < 2 ^ 30) (hg : g < 2 ^ 30) (hh : h < 2 ^ 30) : CMi l D yJ8_newLength_cabcc cJ8_newLength_cabcc 4 ((some .int)) 1 0 0 M [.int (nI o), .int (nI g), .int (nI h)] (fun r M' => r = nI (o + max g h) ∧ M' = M) := by
  refine rM (lv0 := [some (.int (nI o)), some (.int (nI g)), some (.int (nI h)), none]) (by decide) rfl rfl (Nat.le_of_ble_eq_true rfl) (fun P0 E0 S0 m0 as0 bl0 mt0 c0 A F hrt9 hnm => ?_)
  refine rg_iload_n F (pc := 0) dJ8_newLength_cabcc_0 rfl ?_
  refine rg_iload_n F (pc := 1) dJ8_newLength_cabcc_1 rfl ?_
  refine rg_iload_n F (pc := 2) dJ8_newLength_cabcc_2 rfl ?_
  refine rg_max F (pc := 3) (v := nI (max g h)) q71 q64 q65 q66 (Nat.le_of_ble_eq_true rfl) (Nat.le_of_ble_eq_true rfl) ⟨(Nat.le_of_ble_eq_true rfl), (Nat.le_of_ble_eq_true rfl)⟩ (rn_max _ _ (by omega) (by omega)) dJ8_newLength_cabcc_3 ?_
  refine rg_iadd F (pc := 6) (v := nI (o + (max g h))) dJ8_newLength_cabcc_6 (nI_add _ _) ?_
  refine rg_istore_n F (pc := 7) (lv' := [some (.int (nI o)), some (.int (nI g)), some (.int (nI h)), some (.int (nI (o + (max g h))))]) dJ8_newLength_cabcc_7 (Nat.le_of_ble_eq_true rfl) rfl ?_
  refine rg_iconst F (pc := 8) (v := nI 0) dJ8_newLength_cabcc_8 (by decide) ?_
  refine rg_iload_n F (pc := 9) dJ8_newLength_cabcc_9 rfl ?_
  refine rg_ncmp_ge F (pc := 10) (tgt := 21) dJ8_newLength_cabcc_10 (by decide) (by omega) (by omega) (fun c10 => by exfalso; omega) (fun c10 => ?_)
  refine rg_iload_n F (pc := 13) dJ8_newLength_cabcc_13 rfl ?_
  refine rg_ldc F (pc := 14) (v := 2147483639) q72 dJ8_newLength_cabcc_14 ?_
  refine rg_top (v2 := .int (nI 2147483639)) rfl ?_
  refine rg_icmp_gt F (pc := 16) (tgt := 21) dJ8_newLength_cabcc_16 (by decide) (fun c16 => absurd c16 (Int32.not_lt.mpr (nI_le (a := o + max g h) (b := 2147483639) (by omega) (by decide)))) (fun c16 => ?_)
  refine rg_iload_n F (pc := 19) dJ8_newLength_cabcc_19 rfl ?_
  exact rg_iret F (pc := 20) hrt9 (by decide) (by decide) dJ8_newLength_cabcc_20 ⟨rfl, rfl⟩
set_option maxHeartbeats 4000000 in
set_option maxRecDepth 100000 in
theorem c_copyOf3 (l : Launch) (D : va_G) (M : rMem) (bk cap nl : Nat) (f : Nat → Option Nat) (hb : M bk = some (.inl (D.1 8, (cap, .inr (.inr (.inr (.inr f))))))) (hcn : cap ≤ nl) (hnl : nl ≤ 100) (hel : ∀ i, i < cap → ∃ (y ci : Nat) (C : String) (T : u_T) (N : Nat) (fs : List Value), f i = some y ∧ M y = some (.inr (ci, fs)) ∧ vwCl[ci]? = some (C, T, N) ∧ Cond.castable C "java/lang/Object" ∈ tables_1) : CMq l D yJ7_copyOf_6403c cJ7_copyOf_6403c 4 ((some (.array (.object "java/lang/Object")))) 2 1 100 M [.ref (bk), .int (nI nl), .ref (rT3 D)] (fun r M' => ∃ q, M q = none ∧ q ≠ rT0 D ∧ r = some q ∧ M' = mset M q (.inl (D.1 8, (nl, .inr (.inr (.inr (.inr (va_cpy f (fun _ => none) 0 0 cap)))))))) := by
  refine rM (lv0 := [some (.ref (bk)), some (.int (nI nl)), some (.ref (rT3 D)), none]) (by decide) rfl rfl (Nat.le_of_ble_eq_true rfl) (fun P0 E0 S0 m0 as0 bl0 mt0 c0 A F hrt9 hnm => ?_)
  refine rg_aload_n F (pc := 0) dJ7_copyOf_6403c_0 rfl ?_
  refine rg_ldcM F (pc := 1) F.2.2.2.2.2.2.2.1.2.2.2.2.2.2.2.2.2.2 q84 dJ7_copyOf_6403c_1 ?_
  refine rg_acmp_ne F (pc := 3) (tgt := 13) dJ7_copyOf_6403c_3 (by decide) (fun c3 => absurd rfl c3) (fun c3 => ?_)
  refine rg_iload_n F (pc := 6) dJ7_copyOf_6403c_6 rfl ?_
  refine rg_newA F (pc := 7) (by omega) (Nat.le_of_ble_eq_true rfl) (by show 0 + nl ≤ 100; omega) q85 qn8 dJ7_copyOf_6403c_7 (fun q7 hq7 hTq7 => ?_)
  refine rg_widen (k2 := 1) (n2 := 100) (by omega) (by omega) ?_
  refine rg_goto F (pc := 10) (tgt := 24) dJ7_copyOf_6403c_10 (by decide) ?_
  refine rg_astore_n F (pc := 24) (lv' := [some (.ref (bk)), some (.int (nI nl)), some (.ref (rT3 D)), some (.ref (q7))]) dJ7_copyOf_6403c_24 (Nat.le_of_ble_eq_true rfl) rfl ?_
  refine rg_aload_n F (pc := 25) dJ7_copyOf_6403c_25 rfl ?_
  refine rg_iconst F (pc := 26) (v := nI 0) dJ7_copyOf_6403c_26 (by decide) ?_
  refine rg_aload_n F (pc := 27) dJ7_copyOf_6403c_27 rfl ?_
  refine rg_iconst F (pc := 28) (v := nI 0) dJ7_copyOf_6403c_28 (by decide) ?_
  refine rg_aload_n F (pc := 29) dJ7_copyOf_6403c_29 rfl ?_
  refine rg_alen F (pc := 30) (t := 2) (mset_keep hb (mne_none hb hq7)) rfl dJ7_copyOf_6403c_30 ?_
  refine rg_iload_n F (pc := 31) dJ7_copyOf_6403c_31 rfl ?_
  refine rg_min F (pc := 32) (v := nI (min cap nl)) q86 q87 q65 q88 (Nat.le_of_ble_eq_true rfl) (Nat.le_of_ble_eq_true rfl) ⟨(Nat.le_of_ble_eq_true rfl), (Nat.le_of_ble_eq_true rfl)⟩ (rn_min _ _ (by omega) (by omega)) dJ7_copyOf_6403c_32 ?_
  refine rg_top (v2 := .int (nI cap)) (by rw [Nat.min_eq_left hcn]) ?_
  refine rg_copyQ F (pc := 35) (mset_keep hb (mne_none hb hq7)) mset_eq q89 q90 q91 q92 (by omega) (by omega) (by omega) (by omega) (fun i hi y hy => by obtain ⟨y9, ci, C, T, N, fs, h1, h2, h3, h4⟩ := hel i hi; rw [Nat.zero_add, h1] at hy; cases hy; exact ⟨ci, C, T, N, fs, mset_keep h2 (mne_none h2 hq7), h3, h4⟩) (Nat.le_of_ble_eq_true rfl) (Nat.le_of_ble_eq_true rfl) dJ7_copyOf_6403c_35 ?_
  refine rg_mem (M2 := (mset M q7 (.inl (D.1 8, (nl, .inr (.inr (.inr (.inr (va_cpy f (fun _ => none) 0 0 cap))))))))) mset_mset ?_
  refine rg_aload_n F (pc := 38) dJ7_copyOf_6403c_38 rfl ?_
  exact rg_aret F (pc := 39) (some (q7)) rfl hrt9 (Or.inr ⟨_, rfl⟩) (by omega) (by omega) dJ7_copyOf_6403c_39 ⟨q7, hq7, hTq7, rfl, rfl⟩
set_option maxHeartbeats 4000000 in
set_option maxRecDepth 100000 in
theorem c_copyOf2 (l : Launch) (D : va_G) (M : rMem) (bk cap nl : Nat) (f : Nat → Option Nat) (hb : M bk = some (.inl (D.1 8, (cap, .inr (.inr (.inr (.inr f))))))) (hcn : cap ≤ nl) (hnl : nl ≤ 100) (hel : ∀ i, i < cap → ∃ (y ci : Nat) (C : String) (T : u_T) (N : Nat) (fs : List Value), f i = some y ∧ M y = some (.inr (ci, fs)) ∧ vwCl[ci]? = some (C, T, N) ∧ Cond.castable C "java/lang/Object" ∈ tables_1) : CMq l D yJ7_copyOf_1904c cJ7_copyOf_1904c 2 ((some (.array (.object "java/lang/Object")))) 3 1 100 M [.ref (bk), .int (nI nl)] (fun r M' => ∃ q, M q = none ∧ q ≠ rT0 D ∧ r = some q ∧ M' = mset M q (.inl (D.1 8, (nl, .inr (.inr (.inr (.inr (va_cpy f (fun _ => none) 0 0 cap)))))))) := by
  refine rM (lv0 := [some (.ref (bk)), some (.int (nI nl))]) (by decide) rfl rfl (Nat.le_of_ble_eq_true rfl) (fun P0 E0 S0 m0 as0 bl0 mt0 c0 A F hrt9 hnm => ?_)
  refine rg_aload_n F (pc := 0) dJ7_copyOf_1904c_0 rfl ?_
  refine rg_iload_n F (pc := 1) dJ7_copyOf_1904c_1 rfl ?_
  refine rg_aload_n F (pc := 2) dJ7_copyOf_1904c_2 rfl ?_
  refine rg_getC F (pc := 3) F.2.2.2.2.2.2.2.1.2.2.2.2.2.2.2.2.2.2 hb q78 qn26 q79 q80 q81 (Nat.le_of_ble_eq_true rfl) (Nat.le_of_ble_eq_true rfl) dJ7_copyOf_1904c_3 ?_
  refine rg_callSq F (pc := 6) (As := [.ref (bk), .int (nI nl), .ref (rT3 D)]) (rest := []) (c_copyOf3 l D _ bk cap nl f hb hcn hnl hel) q82 sq_J7_copyOf_6403c rfl rfl (Nat.le_of_ble_eq_true rfl) (Nat.le_of_ble_eq_true rfl) (Nat.le_of_ble_eq_true rfl) ⟨(Nat.le_of_ble_eq_true rfl), (Nat.le_of_ble_eq_true rfl)⟩ dJ7_copyOf_1904c_6 (fun r9 M9 hp => ?_)
  refine rg_widen (k2 := 1) (n2 := 100) (by decide) (by decide) ?_
  obtain ⟨q7, hq7, hTq7, hr9, hM9⟩ := hp
  refine rg_top (v2 := .ref q7) (by rw [hr9]; rfl) ?_
  refine rg_mem (M2 := (mset M q7 (.inl (D.1 8, (nl, .inr (.inr (.inr (.inr (va_cpy f (fun _ => none) 0 0 cap))))))))) hM9 ?_
  exact rg_aret F (pc := 9) (some (q7)) rfl hrt9 (Or.inr ⟨_, rfl⟩) (by decide) (by decide) dJ7_copyOf_1904c_9 ⟨q7, hq7, hTq7, rfl, rfl⟩
set_option maxHeartbeats 4000000 in
set_option maxRecDepth 100000 in
theorem c_grow1_first (l : Launch) (D : va_G) (M : rMem) (a : Nat) (md : Int32) (n : Nat) (hm : M a = some (.inr (0, [.int md, .ref (rT0 D), .int (nI n)]))) : CMq l D yJx4a65c_grow_92f84 cJx4a65c_grow_92f84 4 ((some (.array (.object "java/lang/Object")))) 4 1 100 M [.ref (a), .int (nI 1)] (fun r M' => ∃ q, M q = none ∧ q ≠ rT0 D ∧ r = some q ∧ M' = mset (mset M q (.inl (D.1 8, (10, .inr (.inr (.inr (.inr (fun _ => none)))))))) a (.inr (0, [.int md, .ref q, .int (nI n)]))) := by
  refine rM (lv0 := [some (.ref (a)), some (.int (nI 1)), none, none]) (by decide) rfl rfl (Nat.le_of_ble_eq_true rfl) (fun P0 E0 S0 m0 as0 bl0 mt0 c0 A F hrt9 hnm => ?_)
  refine rg_aload_n F (pc := 0) dJx4a65c_grow_92f84_0 rfl ?_
  refine rg_get F (pc := 1) (ci := 0) rfl inJx4a65c hm 1 (by decide) q24 (fun _ h9 => h9) rfl dJx4a65c_grow_92f84_1 ?_
  refine rg_alenT0 F (pc := 4) dJx4a65c_grow_92f84_4 ?_
  refine rg_istore_n F (pc := 5) (lv' := [some (.ref (a)), some (.int (nI 1)), some (.int (nI 0)), none]) dJx4a65c_grow_92f84_5 (Nat.le_of_ble_eq_true rfl) rfl ?_
  refine rg_iload_n F (pc := 6) dJx4a65c_grow_92f84_6 rfl ?_
  refine rg_nif_gt F (pc := 7) (tgt := 20) dJx4a65c_grow_92f84_7 (by decide) (by omega) (fun c7 => by exfalso; omega) (fun c7 => ?_)
  refine rg_aload_n F (pc := 10) dJx4a65c_grow_92f84_10 rfl ?_
  refine rg_get F (pc := 11) (ci := 0) rfl inJx4a65c hm 1 (by decide) q24 (fun _ h9 => h9) rfl dJx4a65c_grow_92f84_11 ?_
  refine rg_getsT0 F (pc := 14) q23 dJx4a65c_grow_92f84_14 ?_
  refine rg_acmp_eq F (pc := 17) (tgt := 45) dJx4a65c_grow_92f84_17 (by decide) (fun c17 => ?_) (fun c17 => absurd rfl c17)
  refine rg_aload_n F (pc := 45) dJx4a65c_grow_92f84_45 rfl ?_
  refine rg_bipush F (pc := 46) (v := nI 10) dJx4a65c_grow_92f84_46 (by decide) ?_
  refine rg_iload_n F (pc := 48) dJx4a65c_grow_92f84_48 rfl ?_
  refine rg_max F (pc := 49) (v := nI (max 10 1)) q63 q64 q65 q66 (Nat.le_of_ble_eq_true rfl) (Nat.le_of_ble_eq_true rfl) ⟨(Nat.le_of_ble_eq_true rfl), (Nat.le_of_ble_eq_true rfl)⟩ (rn_max _ _ (by omega) (by omega)) dJx4a65c_grow_92f84_49 ?_
  refine rg_top (v2 := .int (nI 10)) (rfl) ?_
  refine rg_newA F (pc := 52) (by omega) (Nat.le_of_ble_eq_true rfl) (Nat.le_of_ble_eq_true rfl) q67 qn8 dJx4a65c_grow_92f84_52 (fun q7 hq7 hTq7 => ?_)
  refine rg_widen (k2 := 1) (n2 := 100) (by omega) (by omega) ?_
  refine rg_dup_x1 F (pc := 55) dJx4a65c_grow_92f84_55 rfl rfl ?_
  refine rg_put F (pc := 56) (ci := 0) (ty := tyJx4a65c 1) rfl inJx4a65c tyJx4a65c tyJx4a65c_ok nmJx4a65c (mset_keep hm (mne_none hm hq7)) 1 (by decide) q24 (fun _ h9 => h9) rfl (tyJx4a65c_ok 1 (by decide)) rfl rfl (Nat.le_of_ble_eq_true rfl) dJx4a65c_grow_92f84_56 ?_
  refine rg_mem (M2 := (mset (mset M q7 (.inl (D.1 8, (10, .inr (.inr (.inr (.inr (fun _ => none)))))))) a (.inr (0, [.int (md), .ref (q7), .int (nI n)])))) rfl ?_
  exact rg_aret F (pc := 59) (some (q7)) rfl hrt9 (Or.inr ⟨_, rfl⟩) (by decide) (by decide) dJx4a65c_grow_92f84_59 ⟨q7, hq7, hTq7, rfl, rfl⟩
set_option maxHeartbeats 4000000 in
set_option maxRecDepth 100000 in
theorem c_grow1 (l : Launch) (D : va_G) (M : rMem) (a : Nat) (md : Int32) (bk n cap : Nat) (f : Nat → Option Nat) (hm : M a = some (.inr (0, [.int md, .ref bk, .int (nI n)]))) (hb : M bk = some (.inl (D.1 8, (cap, .inr (.inr (.inr (.inr f))))))) (hc1 : 1 ≤ cap) (hc : cap ≤ 60) (hel : ∀ i, i < cap → ∃ (y ci : Nat) (C : String) (T : u_T) (N : Nat) (fs : List Value), f i = some y ∧ M y = some (.inr (ci, fs)) ∧ vwCl[ci]? = some (C, T, N) ∧ Cond.castable C "java/lang/Object" ∈ tables_1) : CMq l D yJx4a65c_grow_92f84 cJx4a65c_grow_92f84 4 ((some (.array (.object "java/lang/Object")))) 4 1 100 M [.ref (a), .int (nI (cap + 1))] (fun r M' => ∃ q, M q = none ∧ q ≠ rT0 D ∧ r = some q ∧ M' = mset (mset M q (.inl (D.1 8, (cap + max 1 (cap / 2), .inr (.inr (.inr (.inr (va_cpy f (fun _ => none) 0 0 cap)))))))) a (.inr (0, [.int md, .ref q, .int (nI n)]))) := by
  refine rM (lv0 := [some (.ref (a)), some (.int (nI (cap + 1))), none, none]) (by decide) rfl rfl (Nat.le_of_ble_eq_true rfl) (fun P0 E0 S0 m0 as0 bl0 mt0 c0 A F hrt9 hnm => ?_)
  refine rg_aload_n F (pc := 0) dJx4a65c_grow_92f84_0 rfl ?_
  refine rg_get F (pc := 1) (ci := 0) rfl inJx4a65c hm 1 (by decide) q24 (fun _ h9 => h9) rfl dJx4a65c_grow_92f84_1 ?_
  refine rg_alen F (pc := 4) (t := 2) hb rfl dJx4a65c_grow_92f84_4 ?_
  refine rg_istore_n F (pc := 5) (lv' := [some (.ref (a)), some (.int (nI (cap + 1))), some (.int (nI cap)), none]) dJx4a65c_grow_92f84_5 (Nat.le_of_ble_eq_true rfl) rfl ?_
  refine rg_iload_n F (pc := 6) dJx4a65c_grow_92f84_6 rfl ?_
  refine rg_nif_gt F (pc := 7) (tgt := 20) dJx4a65c_grow_92f84_7 (by decide) (by omega) (fun c7 => ?_) (fun c7 => by exfalso; omega)
  refine rg_iload_n F (pc := 20) dJx4a65c_grow_92f84_20 rfl ?_
  refine rg_iload_n F (pc := 21) dJx4a65c_grow_92f84_21 rfl ?_
  refine rg_iload_n F (pc := 22) dJx4a65c_grow_92f84_22 rfl ?_
  refine rg_isub F (pc := 23) (v := nI 1) dJx4a65c_grow_92f84_23 ((pk_sub (by omega)).trans (by rw [Nat.add_sub_cancel_left])) ?_
  refine rg_iload_n F (pc := 24) dJx4a65c_grow_92f84_24 rfl ?_
  refine rg_iconst F (pc := 25) (v := nI 1) dJx4a65c_grow_92f84_25 (by decide) ?_
  refine rg_ishr F (pc := 26) (v := nI (cap / 2 ^ 1)) dJx4a65c_grow_92f84_26 (rn_shr (by omega) (by omega)) ?_
  refine rg_top (v2 := .int (nI (cap / 2))) (by rw [Nat.pow_one]) ?_
  refine rg_callSi F (pc := 27) (As := [.int (nI cap), .int (nI 1), .int (nI (cap / 2))]) (rest := []) (c_newLength l D _ cap 1 (cap / 2) (by omega) (by omega) (by omega) (by omega)) q68 sq_J8_newLength_cabcc rfl rfl (Nat.le_of_ble_eq_true rfl) (Nat.le_of_ble_eq_true rfl) (Nat.le_of_ble_eq_true rfl) ⟨(Nat.le_of_ble_eq_true rfl), (Nat.le_of_ble_eq_true rfl)⟩ dJx4a65c_grow_92f84_27 (fun r9 M9 hp => ?_)
  refine rg_top (v2 := .int (nI (cap + max 1 (cap / 2)))) (by first | (rw [hp.1]; done) | (rw [hp.1]; rfl)) ?_
  refine rg_mem (M2 := M) hp.2 ?_
  refine rg_istore_n F (pc := 30) (lv' := [some (.ref (a)), some (.int (nI (cap + 1))), some (.int (nI cap)), some (.int (nI (cap + max 1 (cap / 2))))]) dJx4a65c_grow_92f84_30 (Nat.le_of_ble_eq_true rfl) rfl ?_
  refine rg_aload_n F (pc := 31) dJx4a65c_grow_92f84_31 rfl ?_
  refine rg_aload_n F (pc := 32) dJx4a65c_grow_92f84_32 rfl ?_
  refine rg_get F (pc := 33) (ci := 0) rfl inJx4a65c hm 1 (by decide) q24 (fun _ h9 => h9) rfl dJx4a65c_grow_92f84_33 ?_
  refine rg_iload_n F (pc := 36) dJx4a65c_grow_92f84_36 rfl ?_
  refine rg_callSq F (pc := 37) (As := [.ref (bk), .int (nI (cap + max 1 (cap / 2)))]) (rest := [.ref (a)]) (c_copyOf2 l D _ bk cap (cap + max 1 (cap / 2)) f hb (by omega) (by omega) hel) q75 sq_J7_copyOf_1904c rfl rfl (Nat.le_of_ble_eq_true rfl) (Nat.le_of_ble_eq_true rfl) (Nat.le_of_ble_eq_true rfl) ⟨(Nat.le_of_ble_eq_true rfl), (Nat.le_of_ble_eq_true rfl)⟩ dJx4a65c_grow_92f84_37 (fun r9 M9 hp => ?_)
  refine rg_widen (k2 := 1) (n2 := 100) (by decide) (by decide) ?_
  obtain ⟨q7, hq7, hTq7, hr9, hM9⟩ := hp
  refine rg_top (v2 := .ref q7) (by rw [hr9]; rfl) ?_
  refine rg_mem (M2 := (mset M q7 (.inl (D.1 8, (cap + max 1 (cap / 2), .inr (.inr (.inr (.inr (va_cpy f (fun _ => none) 0 0 cap))))))))) hM9 ?_
  refine rg_dup_x1 F (pc := 40) dJx4a65c_grow_92f84_40 rfl rfl ?_
  refine rg_put F (pc := 41) (ci := 0) (ty := tyJx4a65c 1) rfl inJx4a65c tyJx4a65c tyJx4a65c_ok nmJx4a65c (mset_keep hm (mne_none hm hq7)) 1 (by decide) q24 (fun _ h9 => h9) rfl (tyJx4a65c_ok 1 (by decide)) rfl rfl (Nat.le_of_ble_eq_true rfl) dJx4a65c_grow_92f84_41 ?_
  refine rg_mem (M2 := (mset (mset M q7 (.inl (D.1 8, (cap + max 1 (cap / 2), .inr (.inr (.inr (.inr (va_cpy f (fun _ => none) 0 0 cap)))))))) a (.inr (0, [.int (md), .ref (q7), .int (nI n)])))) rfl ?_
  exact rg_aret F (pc := 44) (some (q7)) rfl hrt9 (Or.inr ⟨_, rfl⟩) (by decide) (by decide) dJx4a65c_grow_92f84_44 ⟨q7, hq7, hTq7, rfl, rfl⟩
set_option maxHeartbeats 4000000 in
set_option maxRecDepth 100000 in
theorem c_grow0_first (l : Launch) (D : va_G) (M : rMem) (a : Nat) (md : Int32) (hm : M a = some (.inr (0, [.int md, .ref (rT0 D), .int (nI 0)]))) : CMq l D yJx4a65c_grow_d5877 cJx4a65c_grow_d5877 1 ((some (.array (.object "java/lang/Object")))) 5 1 100 M [.ref (a)] (fun r M' => ∃ q, M q = none ∧ q ≠ rT0 D ∧ r = some q ∧ M' = mset (mset M q (.inl (D.1 8, (10, .inr (.inr (.inr (.inr (fun _ => none)))))))) a (.inr (0, [.int md, .ref q, .int (nI 0)]))) := by
  refine rM (lv0 := [some (.ref (a))]) (by decide) rfl rfl (Nat.le_of_ble_eq_true rfl) (fun P0 E0 S0 m0 as0 bl0 mt0 c0 A F hrt9 hnm => ?_)
  refine rg_aload_n F (pc := 0) dJx4a65c_grow_d5877_0 rfl ?_
  refine rg_aload_n F (pc := 1) dJx4a65c_grow_d5877_1 rfl ?_
  refine rg_get F (pc := 2) (ci := 0) rfl inJx4a65c hm 2 (by decide) q43 (fun _ h9 => h9) rfl dJx4a65c_grow_d5877_2 ?_
  refine rg_iconst F (pc := 5) (v := nI 1) dJx4a65c_grow_d5877_5 (by decide) ?_
  refine rg_iadd F (pc := 6) (v := nI (0 + 1)) dJx4a65c_grow_d5877_6 (nI_add _ _) ?_
  refine rg_top (v2 := .int (nI 1)) (rfl) ?_
  refine rg_callVq F (pc := 7) (As := [.int (nI 1)]) (rest := []) (ci := 0) (c_grow1_first l D _ a md 0 hm) q94 vq_Jx4a65c_grow_92f84 rfl hm rfl rfl (Nat.le_of_ble_eq_true rfl) (Nat.le_of_ble_eq_true rfl) (Nat.le_of_ble_eq_true rfl) ⟨(Nat.le_of_ble_eq_true rfl), (Nat.le_of_ble_eq_true rfl)⟩ dJx4a65c_grow_d5877_7 (fun r9 M9 hp => ?_)
  refine rg_widen (k2 := 1) (n2 := 100) (by decide) (by decide) ?_
  obtain ⟨q7, hq7, hTq7, hr9, hM9⟩ := hp
  refine rg_top (v2 := .ref q7) (by rw [hr9]; rfl) ?_
  refine rg_mem (M2 := (mset (mset M q7 (.inl (D.1 8, (10, .inr (.inr (.inr (.inr (fun _ => none)))))))) a (.inr (0, [.int (md), .ref (q7), .int (nI 0)])))) hM9 ?_
  exact rg_aret F (pc := 10) (some (q7)) rfl hrt9 (Or.inr ⟨_, rfl⟩) (by decide) (by decide) dJx4a65c_grow_d5877_10 ⟨q7, hq7, hTq7, rfl, rfl⟩
set_option maxHeartbeats 4000000 in
set_option maxRecDepth 100000 in
theorem c_grow0 (l : Launch) (D : va_G) (M : rMem) (a : Nat) (md : Int32) (bk cap : Nat) (f : Nat → Option Nat) (hm : M a = some (.inr (0, [.int md, .ref bk, .int (nI cap)]))) (hb : M bk = some (.inl (D.1 8, (cap, .inr (.inr (.inr (.inr f))))))) (hc1 : 1 ≤ cap) (hc : cap ≤ 60) (hel : ∀ i, i < cap → ∃ (y ci : Nat) (C : String) (T : u_T) (N : Nat) (fs : List Value), f i = some y ∧ M y = some (.inr (ci, fs)) ∧ vwCl[ci]? = some (C, T, N) ∧ Cond.castable C "java/lang/Object" ∈ tables_1) : CMq l D yJx4a65c_grow_d5877 cJx4a65c_grow_d5877 1 ((some (.array (.object "java/lang/Object")))) 5 1 100 M [.ref (a)] (fun r M' => ∃ q, M q = none ∧ q ≠ rT0 D ∧ r = some q ∧ M' = mset (mset M q (.inl (D.1 8, (cap + max 1 (cap / 2), .inr (.inr (.inr (.inr (va_cpy f (fun _ => none) 0 0 cap)))))))) a (.inr (0, [.int md, .ref q, .int (nI cap)]))) := by
  refine rM (lv0 := [some (.ref (a))]) (by decide) rfl rfl (Nat.le_of_ble_eq_true rfl) (fun P0 E0 S0 m0 as0 bl0 mt0 c0 A F hrt9 hnm => ?_)
  refine rg_aload_n F (pc := 0) dJx4a65c_grow_d5877_0 rfl ?_
  refine rg_aload_n F (pc := 1) dJx4a65c_grow_d5877_1 rfl ?_
  refine rg_get F (pc := 2) (ci := 0) rfl inJx4a65c hm 2 (by decide) q43 (fun _ h9 => h9) rfl dJx4a65c_grow_d5877_2 ?_
  refine rg_iconst F (pc := 5) (v := nI 1) dJx4a65c_grow_d5877_5 (by decide) ?_
  refine rg_iadd F (pc := 6) (v := nI (cap + 1)) dJx4a65c_grow_d5877_6 (nI_add _ _) ?_
  refine rg_callVq F (pc := 7) (As := [.int (nI (cap + 1))]) (rest := []) (ci := 0) (c_grow1 l D _ a md bk cap cap f hm hb hc1 hc hel) q94 vq_Jx4a65c_grow_92f84 rfl hm rfl rfl (Nat.le_of_ble_eq_true rfl) (Nat.le_of_ble_eq_true rfl) (Nat.le_of_ble_eq_true rfl) ⟨(Nat.le_of_ble_eq_true rfl), (Nat.le_of_ble_eq_true rfl)⟩ dJx4a65c_grow_d5877_7 (fun r9 M9 hp => ?_)
  refine rg_widen (k2 := 1) (n2 := 100) (by decide) (by decide) ?_
  obtain ⟨q7, hq7, hTq7, hr9, hM9⟩ := hp
  refine rg_top (v2 := .ref q7) (by rw [hr9]; rfl) ?_
  refine rg_mem (M2 := (mset (mset M q7 (.inl (D.1 8, (cap + max 1 (cap / 2), .inr (.inr (.inr (.inr (va_cpy f (fun _ => none) 0 0 cap)))))))) a (.inr (0, [.int (md), .ref (q7), .int (nI cap)])))) hM9 ?_
  exact rg_aret F (pc := 10) (some (q7)) rfl hrt9 (Or.inr ⟨_, rfl⟩) (by decide) (by decide) dJx4a65c_grow_d5877_10 ⟨q7, hq7, hTq7, rfl, rfl⟩
/-- a list: its cell, its row (the shared empty one, or its own), the addresses of its elements -/
def isL (D : va_G) (M : rMem) (a : Nat) (md : Int32) (bk n : Nat) (g : Nat → Nat) : Prop :=
  M a = some (.inr (0, [.int md, .ref bk, .int (nI n)])) ∧ ((n = 0 ∧ bk = rT0 D) ∨ ∃ (cap : Nat) (f : Nat → Option Nat), M bk = some (.inl (D.1 8, (cap, .inr (.inr (.inr (.inr f)))))) ∧ bk ≠ rT0 D ∧ n ≤ cap ∧ 1 ≤ cap ∧ cap ≤ 60 ∧ ∀ i, i < n → f i = some (g i))
/-- an object that may go into a list -/
def isE (M : rMem) (y : Nat) : Prop := ∃ (ci : Nat) (C : String) (T : u_T) (N : Nat) (fs : List Value), M y = some (.inr (ci, fs)) ∧ ci ≠ 0 ∧ vwCl[ci]? = some (C, T, N) ∧ Cond.castable C "java/lang/Object" ∈ tables_1
def addP (D : va_G) (M : rMem) (a : Nat) (md : Int32) (bk n : Nat) (g : Nat → Nat) (v : Nat) (M' : rMem) : Prop := ∃ (bk2 cap2 : Nat) (f2 : Nat → Option Nat), M' = mset (mset M a (.inr (0, [.int md, .ref bk2, .int (nI (n + 1))]))) bk2 (.inl (D.1 8, (cap2, .inr (.inr (.inr (.inr f2)))))) ∧ (bk2 = bk ∧ (∃ x, M bk = some (.inl x)) ∨ M bk2 = none) ∧ bk2 ≠ rT0 D ∧ n + 1 ≤ cap2 ∧ cap2 ≤ 60 ∧ ∀ i, i < n + 1 → f2 i = some (va_up g n v i)
set_option maxHeartbeats 4000000 in
set_option maxRecDepth 100000 in
theorem c_add3_room (l : Launch) (D : va_G) (M : rMem) (a : Nat) (md : Int32) (bk n cap : Nat) (f : Nat → Option Nat) (g : Nat → Nat) (v ci : Nat) (vs : List Value) (C : String) (T : u_T) (N : Nat) (hm : M a = some (.inr (0, [.int md, .ref bk, .int (nI n)]))) (hb : M bk = some (.inl (D.1 8, (cap, .inr (.inr (.inr (.inr f))))))) (hbT : bk ≠ rT0 D) (hn : n < cap) (hc : cap ≤ 60) (hf : ∀ i, i < n → f i = some (g i)) (hv : M v = some (.inr (ci, vs))) (hci : ci ≠ 0) (hcl : vwCl[ci]? = some (C, T, N)) (hca : Cond.castable C "java/lang/Object" ∈ tables_1) : CMv l D yJx4a65c_add_72be8 cJx4a65c_add_72be8 4 6 1 100 M [.ref (a), .ref (v), .ref (bk), .int (nI n)] (fun M' => addP D M a md bk n g v M') := by
  refine rM (lv0 := [some (.ref (a)), some (.ref (v)), some (.ref (bk)), some (.int (nI n))]) (by decide) rfl rfl (Nat.le_of_ble_eq_true rfl) (fun P0 E0 S0 m0 as0 bl0 mt0 c0 A F hrt9 hnm => ?_)
  refine rg_iload_n F (pc := 0) dJx4a65c_add_72be8_0 rfl ?_
  refine rg_aload_n F (pc := 1) dJx4a65c_add_72be8_1 rfl ?_
  refine rg_alen F (pc := 2) (t := 2) hb rfl dJx4a65c_add_72be8_2 ?_
  refine rg_ncmp_ne F (pc := 3) (tgt := 11) dJx4a65c_add_72be8_3 (by decide) (by omega) (by omega) (fun c3 => ?_) (fun c3 => by exfalso; omega)
  refine rg_aload_n F (pc := 11) dJx4a65c_add_72be8_11 rfl ?_
  refine rg_iload_n F (pc := 12) dJx4a65c_add_72be8_12 rfl ?_
  refine rg_aload_n F (pc := 13) dJx4a65c_add_72be8_13 rfl ?_
  refine rg_aast F (pc := 14) hb hv hcl hca (by omega) (by omega) dJx4a65c_add_72be8_14 ?_
  refine rg_aload_n F (pc := 15) dJx4a65c_add_72be8_15 rfl ?_
  refine rg_iload_n F (pc := 16) dJx4a65c_add_72be8_16 rfl ?_
  refine rg_iconst F (pc := 17) (v := nI 1) dJx4a65c_add_72be8_17 (by decide) ?_
  refine rg_iadd F (pc := 18) (v := nI (n + 1)) dJx4a65c_add_72be8_18 (nI_add _ _) ?_
  refine rg_put F (pc := 19) (ci := 0) (ty := tyJx4a65c 2) rfl inJx4a65c tyJx4a65c tyJx4a65c_ok nmJx4a65c (mset_keep hm (mne_oa hm hb)) 2 (by decide) q43 (fun _ h9 => h9) rfl (tyJx4a65c_ok 2 (by decide)) rfl rfl (Nat.le_of_ble_eq_true rfl) dJx4a65c_add_72be8_19 ?_
  refine rg_mem (M2 := (mset (mset M bk (.inl (D.1 8, (cap, .inr (.inr (.inr (.inr (va_up f n (some v))))))))) a (.inr (0, [.int (md), .ref (bk), .int (nI (n + 1))])))) rfl ?_
  exact rg_vret F (pc := 22) hrt9 (by decide) (by decide) dJx4a65c_add_72be8_22 ⟨bk, cap, va_up f n (some v), mset_comm (mne_ao hb hm), Or.inl ⟨rfl, _, hb⟩, hbT, hn, hc, fun i hi => by unfold va_up; by_cases h : i = n <;> simp [h]; exact hf i (by omega)⟩
set_option maxHeartbeats 4000000 in
set_option maxRecDepth 100000 in
theorem c_add3_full (l : Launch) (D : va_G) (M : rMem) (a : Nat) (md : Int32) (bk cap : Nat) (f : Nat → Option Nat) (g : Nat → Nat) (v ci : Nat) (vs : List Value) (C : String) (T : u_T) (N : Nat) (hm : M a = some (.inr (0, [.int md, .ref bk, .int (nI cap)]))) (hb : M bk = some (.inl (D.1 8, (cap, .inr (.inr (.inr (.inr f))))))) (hc1 : 1 ≤ cap) (hc : cap < 40) (hf : ∀ i, i < cap → f i = some (g i)) (hel : ∀ i, i < cap → isE M (g i)) (hv : M v = some (.inr (ci, vs))) (hci : ci ≠ 0) (hcl : vwCl[ci]? = some (C, T, N)) (hca : Cond.castable C "java/lang/Object" ∈ tables_1) : CMv l D yJx4a65c_add_72be8 cJx4a65c_add_72be8 4 6 1 100 M [.ref (a), .ref (v), .ref (bk), .int (nI cap)] (fun M' => addP D M a md bk cap g v M') := by
  have hel9 : ∀ i, i < cap → ∃ (y ci : Nat) (C : String) (T : u_T) (N : Nat) (fs : List Value), f i = some y ∧ M y = some (.inr (ci, fs)) ∧ vwCl[ci]? = some (C, T, N) ∧ Cond.castable C "java/lang/Object" ∈ tables_1 := fun i hi => by obtain ⟨ci, C, T, N, fs, h1, h2, h3, h4⟩ := hel i hi; exact ⟨g i, ci, C, T, N, fs, hf i hi, h1, h3, h4⟩
  refine rM (lv0 := [some (.ref (a)), some (.ref (v)), some (.ref (bk)), some (.int (nI cap))]) (by decide) rfl rfl (Nat.le_of_ble_eq_true rfl) (fun P0 E0 S0 m0 as0 bl0 mt0 c0 A F hrt9 hnm => ?_)
  refine rg_iload_n F (pc := 0) dJx4a65c_add_72be8_0 rfl ?_
  refine rg_aload_n F (pc := 1) dJx4a65c_add_72be8_1 rfl ?_
  refine rg_alen F (pc := 2) (t := 2) hb rfl dJx4a65c_add_72be8_2 ?_
  refine rg_ncmp_ne F (pc := 3) (tgt := 11) dJx4a65c_add_72be8_3 (by decide) (by omega) (by omega) (fun c3 => absurd rfl c3) (fun c3 => ?_)
  refine rg_aload_n F (pc := 6) dJx4a65c_add_72be8_6 rfl ?_
  refine rg_callVq F (pc := 7) (As := []) (rest := []) (ci := 0) (c_grow0 l D _ a md bk cap f hm hb hc1 (by omega) hel9) q98 vq_Jx4a65c_grow_d5877 rfl hm rfl rfl (Nat.le_of_ble_eq_true rfl) (Nat.le_of_ble_eq_true rfl) (Nat.le_of_ble_eq_true rfl) ⟨(Nat.le_of_ble_eq_true rfl), (Nat.le_of_ble_eq_true rfl)⟩ dJx4a65c_add_72be8_7 (fun r9 M9 hp => ?_)
  refine rg_widen (k2 := 1) (n2 := 100) (by decide) (by decide) ?_
  obtain ⟨q7, hq7, hTq7, hr9, hM9⟩ := hp
  refine rg_top (v2 := .ref q7) (by rw [hr9]; rfl) ?_
  refine rg_mem (M2 := (mset (mset M q7 (.inl (D.1 8, (cap + max 1 (cap / 2), .inr (.inr (.inr (.inr (va_cpy f (fun _ => none) 0 0 cap)))))))) a (.inr (0, [.int (md), .ref (q7), .int (nI cap)])))) hM9 ?_
  refine rg_astore_n F (pc := 10) (lv' := [some (.ref (a)), some (.ref (v)), some (.ref (q7)), some (.int (nI cap))]) dJx4a65c_add_72be8_10 (Nat.le_of_ble_eq_true rfl) rfl ?_
  refine rg_aload_n F (pc := 11) dJx4a65c_add_72be8_11 rfl ?_
  refine rg_iload_n F (pc := 12) dJx4a65c_add_72be8_12 rfl ?_
  refine rg_aload_n F (pc := 13) dJx4a65c_add_72be8_13 rfl ?_
  refine rg_aast F (pc := 14) (mset_keep mset_eq (Ne.symm (mne_none hm hq7))) (mset_keep (mset_keep hv (mne_none hv hq7)) (mne_ci hv hm hci)) hcl hca (by omega) (by omega) dJx4a65c_add_72be8_14 ?_
  refine rg_mem (M2 := (mset (mset M q7 (.inl (D.1 8, (cap + max 1 (cap / 2), .inr (.inr (.inr (.inr (va_up (va_cpy f (fun _ => none) 0 0 cap) cap (some v))))))))) a (.inr (0, [.int (md), .ref (q7), .int (nI cap)])))) (mset_swap (Ne.symm (mne_none hm hq7))) ?_
  refine rg_aload_n F (pc := 15) dJx4a65c_add_72be8_15 rfl ?_
  refine rg_iload_n F (pc := 16) dJx4a65c_add_72be8_16 rfl ?_
  refine rg_iconst F (pc := 17) (v := nI 1) dJx4a65c_add_72be8_17 (by decide) ?_
  refine rg_iadd F (pc := 18) (v := nI (cap + 1)) dJx4a65c_add_72be8_18 (nI_add _ _) ?_
  refine rg_put F (pc := 19) (ci := 0) (ty := tyJx4a65c 2) rfl inJx4a65c tyJx4a65c tyJx4a65c_ok nmJx4a65c mset_eq 2 (by decide) q43 (fun _ h9 => h9) rfl (tyJx4a65c_ok 2 (by decide)) rfl rfl (Nat.le_of_ble_eq_true rfl) dJx4a65c_add_72be8_19 ?_
  refine rg_mem (M2 := (mset (mset (mset M q7 (.inl (D.1 8, (cap + max 1 (cap / 2), .inr (.inr (.inr (.inr (va_up (va_cpy f (fun _ => none) 0 0 cap) cap (some v))))))))) a (.inr (0, [.int (md), .ref (q7), .int (nI cap)]))) a (.inr (0, [.int (md), .ref (q7), .int (nI (cap + 1))])))) rfl ?_
  refine rg_mem (M2 := (mset (mset M q7 (.inl (D.1 8, (cap + max 1 (cap / 2), .inr (.inr (.inr (.inr (va_up (va_cpy f (fun _ => none) 0 0 cap) cap (some v))))))))) a (.inr (0, [.int (md), .ref (q7), .int (nI (cap + 1))])))) mset_mset ?_
  exact rg_vret F (pc := 22) hrt9 (by decide) (by decide) dJx4a65c_add_72be8_22 ⟨q7, cap + max 1 (cap / 2), va_up (va_cpy f (fun _ => none) 0 0 cap) cap (some v), mset_comm (mne_none hm hq7).symm, Or.inr hq7, hTq7, by omega, by omega, fun i hi => by unfold va_up; by_cases h : i = cap <;> simp [h]; rw [pk_cpy_in (Nat.zero_le _) (by omega), Nat.zero_add, Nat.sub_zero]; exact hf i (by omega)⟩
set_option maxHeartbeats 4000000 in
set_option maxRecDepth 100000 in
theorem c_add3_first (l : Launch) (D : va_G) (M : rMem) (a : Nat) (md : Int32) (g : Nat → Nat) (v ci : Nat) (vs : List Value) (C : String) (T : u_T) (N : Nat) (hm : M a = some (.inr (0, [.int md, .ref (rT0 D), .int (nI 0)]))) (hv : M v = some (.inr (ci, vs))) (hci : ci ≠ 0) (hcl : vwCl[ci]? = some (C, T, N)) (hca : Cond.castable C "java/lang/Object" ∈ tables_1) : CMv l D yJx4a65c_add_72be8 cJx4a65c_add_72be8 4 6 1 100 M [.ref (a), .ref (v), .ref (rT0 D), .int (nI 0)] (fun M' => addP D M a md (rT0 D) 0 g v M') := by
  refine rM (lv0 := [some (.ref (a)), some (.ref (v)), some (.ref (rT0 D)), some (.int (nI 0))]) (by decide) rfl rfl (Nat.le_of_ble_eq_true rfl) (fun P0 E0 S0 m0 as0 bl0 mt0 c0 A F hrt9 hnm => ?_)
  refine rg_iload_n F (pc := 0) dJx4a65c_add_72be8_0 rfl ?_
  refine rg_aload_n F (pc := 1) dJx4a65c_add_72be8_1 rfl ?_
  refine rg_alenT0 F (pc := 2) dJx4a65c_add_72be8_2 ?_
  refine rg_ncmp_ne F (pc := 3) (tgt := 11) dJx4a65c_add_72be8_3 (by decide) (by omega) (by omega) (fun c3 => absurd rfl c3) (fun c3 => ?_)
  refine rg_aload_n F (pc := 6) dJx4a65c_add_72be8_6 rfl ?_
  refine rg_callVq F (pc := 7) (As := []) (rest := []) (ci := 0) (c_grow0_first l D _ a md hm) q98 vq_Jx4a65c_grow_d5877 rfl hm rfl rfl (Nat.le_of_ble_eq_true rfl) (Nat.le_of_ble_eq_true rfl) (Nat.le_of_ble_eq_true rfl) ⟨(Nat.le_of_ble_eq_true rfl), (Nat.le_of_ble_eq_true rfl)⟩ dJx4a65c_add_72be8_7 (fun r9 M9 hp => ?_)
  refine rg_widen (k2 := 1) (n2 := 100) (by decide) (by decide) ?_
  obtain ⟨q7, hq7, hTq7, hr9, hM9⟩ := hp
  refine rg_top (v2 := .ref q7) (by rw [hr9]; rfl) ?_
  refine rg_mem (M2 := (mset (mset M q7 (.inl (D.1 8, (10, .inr (.inr (.inr (.inr (fun _ => none)))))))) a (.inr (0, [.int (md), .ref (q7), .int (nI 0)])))) hM9 ?_
  refine rg_astore_n F (pc := 10) (lv' := [some (.ref (a)), some (.ref (v)), some (.ref (q7)), some (.int (nI 0))]) dJx4a65c_add_72be8_10 (Nat.le_of_ble_eq_true rfl) rfl ?_
  refine rg_aload_n F (pc := 11) dJx4a65c_add_72be8_11 rfl ?_
  refine rg_iload_n F (pc := 12) dJx4a65c_add_72be8_12 rfl ?_
  refine rg_aload_n F (pc := 13) dJx4a65c_add_72be8_13 rfl ?_
  refine rg_aast F (pc := 14) (mset_keep mset_eq (Ne.symm (mne_none hm hq7))) (mset_keep (mset_keep hv (mne_none hv hq7)) (mne_ci hv hm hci)) hcl hca (by omega) (by omega) dJx4a65c_add_72be8_14 ?_
  refine rg_mem (M2 := (mset (mset M q7 (.inl (D.1 8, (10, .inr (.inr (.inr (.inr (va_up (fun _ => none) 0 (some v))))))))) a (.inr (0, [.int (md), .ref (q7), .int (nI 0)])))) (mset_swap (Ne.symm (mne_none hm hq7))) ?_
  refine rg_aload_n F (pc := 15) dJx4a65c_add_72be8_15 rfl ?_
  refine rg_iload_n F (pc := 16) dJx4a65c_add_72be8_16 rfl ?_
  refine rg_iconst F (pc := 17) (v := nI 1) dJx4a65c_add_72be8_17 (by decide) ?_
  refine rg_iadd F (pc := 18) (v := nI (0 + 1)) dJx4a65c_add_72be8_18 (nI_add _ _) ?_
  refine rg_put F (pc := 19) (ci := 0) (ty := tyJx4a65c 2) rfl inJx4a65c tyJx4a65c tyJx4a65c_ok nmJx4a65c mset_eq 2 (by decide) q43 (fun _ h9 => h9) rfl (tyJx4a65c_ok 2 (by decide)) rfl rfl (Nat.le_of_ble_eq_true rfl) dJx4a65c_add_72be8_19 ?_
  refine rg_mem (M2 := (mset (mset (mset M q7 (.inl (D.1 8, (10, .inr (.inr (.inr (.inr (va_up (fun _ => none) 0 (some v))))))))) a (.inr (0, [.int (md), .ref (q7), .int (nI 0)]))) a (.inr (0, [.int (md), .ref (q7), .int (nI (0 + 1))])))) rfl ?_
  refine rg_mem (M2 := (mset (mset M q7 (.inl (D.1 8, (10, .inr (.inr (.inr (.inr (va_up (fun _ => none) 0 (some v))))))))) a (.inr (0, [.int (md), .ref (q7), .int (nI (0 + 1))])))) mset_mset ?_
  exact rg_vret F (pc := 22) hrt9 (by decide) (by decide) dJx4a65c_add_72be8_22 ⟨q7, 10, va_up (fun _ => none) 0 (some v), mset_comm (mne_none hm hq7).symm, Or.inr hq7, hTq7, by omega, by omega, fun i hi => by (have h : i = 0 := (by omega)); subst h; simp [va_up]⟩
theorem c_add3 (l : Launch) (D : va_G) (M : rMem) (a : Nat) (md : Int32) (bk n : Nat) (g : Nat → Nat) (v : Nat) (hL : isL D M a md bk n g) (hn : n < 40) (hel : ∀ i, i < n → isE M (g i)) (hv : isE M v) : CMv l D yJx4a65c_add_72be8 cJx4a65c_add_72be8 4 6 1 100 M [.ref (a), .ref (v), .ref (bk), .int (nI n)] (fun M' => addP D M a md bk n g v M') := by
  obtain ⟨ci, C, T, N, vs, hv, hci, hcl, hca⟩ := hv
  rcases hL with ⟨hm, (⟨rfl, rfl⟩ | ⟨cap, f, hb, hbT, h1, h2, h3, hf⟩)⟩
  · exact c_add3_first l D M a md g v ci vs C T N hm hv hci hcl hca
  · by_cases h : n < cap
    · exact c_add3_room l D M a md bk n cap f g v ci vs C T N hm hb hbT h h3 hf hv hci hcl hca
    · have e : n = cap := by omega
      subst e
      exact c_add3_full l D M a md bk n f g v ci vs C T N hm hb h2 hn hf hel hv hci hcl hca
theorem isL_mod {D : va_G} {M : rMem} {a : Nat} {md md2 : Int32} {bk n : Nat} {g : Nat → Nat} (h : isL D M a md bk n g) : isL D (mset M a (.inr (0, [.int md2, .ref bk, .int (nI n)]))) a md2 bk n g := by
  refine ⟨mset_eq, ?_⟩
  rcases h with ⟨hm, (h | ⟨cap, f, hb, h1⟩)⟩
  · exact Or.inl h
  · exact Or.inr ⟨cap, f, mset_keep hb (mne_ao hb hm), h1⟩
theorem isE_mod {M : rMem} {y a : Nat} {x e : List Value} (h : isE M y) (hm : M a = some (.inr (0, x))) : isE (mset M a (.inr (0, e))) y := by
  obtain ⟨ci, C, T, N, fs, h1, h2, h3, h4⟩ := h
  exact ⟨ci, C, T, N, fs, mset_keep h1 (mne_ci h1 hm h2), h2, h3, h4⟩
theorem addP_mod {D : va_G} {M M' : rMem} {a : Nat} {md : Int32} {bk n v : Nat} {g : Nat → Nat} {x e : List Value} (hm : M a = some (.inr (0, x))) (h : addP D (mset M a (.inr (0, e))) a md bk n g v M') : addP D M a md bk n g v M' := by
  obtain ⟨bk2, cap2, f2, h1, h2, h3⟩ := h
  refine ⟨bk2, cap2, f2, by rw [h1, mset_mset], ?_, h3⟩
  rcases h2 with ⟨h, y, hy⟩ | h
  · refine Or.inl ⟨h, y, ?_⟩
    by_cases he : bk = a
    · rw [he, mset_eq] at hy; cases hy
    · rw [mset_ne he] at hy; exact hy
  · refine Or.inr ?_
    by_cases he : bk2 = a
    · rw [he, mset_eq] at h; cases h
    · rw [mset_ne he] at h; exact h
set_option maxHeartbeats 4000000 in
set_option maxRecDepth 100000 in
theorem c_add (l : Launch) (D : va_G) (M : rMem) (a : Nat) (md : Int32) (bk n : Nat) (g : Nat → Nat) (v : Nat) (hL : isL D M a md bk n g) (hn : n < 40) (hel : ∀ i, i < n → isE M (g i)) (hv : isE M v) : CMi l D yJx4a65c_add_9ea2d cJx4a65c_add_9ea2d 2 ((some .boolean)) 7 1 100 M [.ref (a), .ref (v)] (fun r M' => r = nI 1 ∧ ∃ md2, addP D M a md2 bk n g v M') := by
  refine rM (lv0 := [some (.ref (a)), some (.ref (v))]) (by decide) rfl rfl (Nat.le_of_ble_eq_true rfl) (fun P0 E0 S0 m0 as0 bl0 mt0 c0 A F hrt9 hnm => ?_)
  refine rg_aload_n F (pc := 0) dJx4a65c_add_9ea2d_0 rfl ?_
  refine rg_dup F (pc := 1) dJx4a65c_add_9ea2d_1 rfl ?_
  refine rg_get F (pc := 2) (ci := 0) rfl inJx4a65c hL.1 0 (by decide) q102 (u_same (F.2.2.2.2.1 _ q103)) rfl dJx4a65c_add_9ea2d_2 ?_
  refine rg_iconst F (pc := 5) (v := nI 1) dJx4a65c_add_9ea2d_5 (by decide) ?_
  refine rg_iadd F (pc := 6) (v := md + (nI 1)) dJx4a65c_add_9ea2d_6 rfl ?_
  refine rg_put F (pc := 7) (ci := 0) (ty := tyJx4a65c 0) rfl inJx4a65c tyJx4a65c tyJx4a65c_ok nmJx4a65c hL.1 0 (by decide) q102 (u_same (F.2.2.2.2.1 _ q103)) rfl (tyJx4a65c_ok 0 (by decide)) rfl rfl (Nat.le_of_ble_eq_true rfl) dJx4a65c_add_9ea2d_7 ?_
  refine rg_mem (M2 := (mset M a (.inr (0, [.int (md + (nI 1)), .ref (bk), .int (nI n)])))) rfl ?_
  refine rg_aload_n F (pc := 10) dJx4a65c_add_9ea2d_10 rfl ?_
  refine rg_aload_n F (pc := 11) dJx4a65c_add_9ea2d_11 rfl ?_
  refine rg_aload_n F (pc := 12) dJx4a65c_add_9ea2d_12 rfl ?_
  refine rg_get F (pc := 13) (ci := 0) rfl inJx4a65c mset_eq 1 (by decide) q24 (fun _ h9 => h9) rfl dJx4a65c_add_9ea2d_13 ?_
  refine rg_aload_n F (pc := 16) dJx4a65c_add_9ea2d_16 rfl ?_
  refine rg_get F (pc := 17) (ci := 0) rfl inJx4a65c mset_eq 2 (by decide) q43 (fun _ h9 => h9) rfl dJx4a65c_add_9ea2d_17 ?_
  refine rg_callVv F (pc := 20) (As := [.ref (v), .ref (bk), .int (nI n)]) (rest := []) (ci := 0) (c_add3 l D _ a (md + nI 1) bk n g v (isL_mod hL) hn (fun i hi => isE_mod (hel i hi) hL.1) (isE_mod hv hL.1)) q104 vq_Jx4a65c_add_72be8 rfl mset_eq rfl rfl (Nat.le_of_ble_eq_true rfl) (Nat.le_of_ble_eq_true rfl) (Nat.le_of_ble_eq_true rfl) ⟨(Nat.le_of_ble_eq_true rfl), (Nat.le_of_ble_eq_true rfl)⟩ dJx4a65c_add_9ea2d_20 (fun M1 hp => ?_)
  refine rg_widen (k2 := 1) (n2 := 100) (by decide) (by decide) ?_
  obtain ⟨bk2, cap2, f2, hM9, h91, h9T, h92, h93, h94⟩ := hp
  refine rg_iconst F (pc := 23) (v := nI 1) dJx4a65c_add_9ea2d_23 (by decide) ?_
  exact rg_zret F (pc := 24) rfl hrt9 (by decide) (by decide) dJx4a65c_add_9ea2d_24 ⟨rfl, md + nI 1, addP_mod hL.1 ⟨bk2, cap2, f2, hM9, h91, h9T, h92, h93, h94⟩⟩
set_option maxHeartbeats 4000000 in
set_option maxRecDepth 100000 in
theorem c_fastRemove (l : Launch) (D : va_G) (M : rMem) (a : Nat) (md : Int32) (bk k cap : Nat) (f : Nat → Option Nat) (hm : M a = some (.inr (0, [.int md, .ref bk, .int (nI (k + 1))]))) (hb : M bk = some (.inl (D.1 8, (cap, .inr (.inr (.inr (.inr f))))))) (hn : k < cap) (hc : cap ≤ 100) : CMv l D yJx4a65c_fastRemove_b59b0 cJx4a65c_fastRemove_b59b0 4 1 0 0 M [.ref (a), .ref (bk), .int (nI k)] (fun M' => M' = mset (mset M a (.inr (0, [.int (md + nI 1), .ref bk, .int (nI k)]))) bk (.inl (D.1 8, (cap, .inr (.inr (.inr (.inr (va_up f k none)))))))) := by
  refine rM (lv0 := [some (.ref (a)), some (.ref (bk)), some (.int (nI k)), none]) (by decide) rfl rfl (Nat.le_of_ble_eq_true rfl) (fun P0 E0 S0 m0 as0 bl0 mt0 c0 A F hrt9 hnm => ?_)
  refine rg_aload_n F (pc := 0) dJx4a65c_fastRemove_b59b0_0 rfl ?_
  refine rg_dup F (pc := 1) dJx4a65c_fastRemove_b59b0_1 rfl ?_
  refine rg_get F (pc := 2) (ci := 0) rfl inJx4a65c hm 0 (by decide) q102 (u_same (F.2.2.2.2.1 _ q103)) rfl dJx4a65c_fastRemove_b59b0_2 ?_
  refine rg_iconst F (pc := 5) (v := nI 1) dJx4a65c_fastRemove_b59b0_5 (by decide) ?_
  refine rg_iadd F (pc := 6) (v := md + (nI 1)) dJx4a65c_fastRemove_b59b0_6 rfl ?_
  refine rg_put F (pc := 7) (ci := 0) (ty := tyJx4a65c 0) rfl inJx4a65c tyJx4a65c tyJx4a65c_ok nmJx4a65c hm 0 (by decide) q102 (u_same (F.2.2.2.2.1 _ q103)) rfl (tyJx4a65c_ok 0 (by decide)) rfl rfl (Nat.le_of_ble_eq_true rfl) dJx4a65c_fastRemove_b59b0_7 ?_
  refine rg_mem (M2 := (mset M a (.inr (0, [.int (md + (nI 1)), .ref (bk), .int (nI (k + 1))])))) rfl ?_
  refine rg_aload_n F (pc := 10) dJx4a65c_fastRemove_b59b0_10 rfl ?_
  refine rg_get F (pc := 11) (ci := 0) rfl inJx4a65c mset_eq 2 (by decide) q43 (fun _ h9 => h9) rfl dJx4a65c_fastRemove_b59b0_11 ?_
  refine rg_iconst F (pc := 14) (v := nI 1) dJx4a65c_fastRemove_b59b0_14 (by decide) ?_
  refine rg_isub F (pc := 15) (v := nI k) dJx4a65c_fastRemove_b59b0_15 ((pk_sub (by omega)).trans (by rw [Nat.add_sub_cancel])) ?_
  refine rg_dup F (pc := 16) dJx4a65c_fastRemove_b59b0_16 rfl ?_
  refine rg_istore_n F (pc := 17) (lv' := [some (.ref (a)), some (.ref (bk)), some (.int (nI k)), some (.int (nI k))]) dJx4a65c_fastRemove_b59b0_17 (Nat.le_of_ble_eq_true rfl) rfl ?_
  refine rg_iload_n F (pc := 18) dJx4a65c_fastRemove_b59b0_18 rfl ?_
  refine rg_ncmp_le F (pc := 19) (tgt := 34) dJx4a65c_fastRemove_b59b0_19 (by decide) (by omega) (by omega) (fun c19 => ?_) (fun c19 => by exfalso; omega)
  refine rg_aload_n F (pc := 34) dJx4a65c_fastRemove_b59b0_34 rfl ?_
  refine rg_aload_n F (pc := 35) dJx4a65c_fastRemove_b59b0_35 rfl ?_
  refine rg_iload_n F (pc := 36) dJx4a65c_fastRemove_b59b0_36 rfl ?_
  refine rg_dup_x1 F (pc := 37) dJx4a65c_fastRemove_b59b0_37 rfl rfl ?_
  refine rg_put F (pc := 38) (ci := 0) (ty := tyJx4a65c 2) rfl inJx4a65c tyJx4a65c tyJx4a65c_ok nmJx4a65c mset_eq 2 (by decide) q43 (fun _ h9 => h9) rfl (tyJx4a65c_ok 2 (by decide)) rfl rfl (Nat.le_of_ble_eq_true rfl) dJx4a65c_fastRemove_b59b0_38 ?_
  refine rg_mem (M2 := (mset (mset M a (.inr (0, [.int (md + (nI 1)), .ref (bk), .int (nI (k + 1))]))) a (.inr (0, [.int (md + (nI 1)), .ref (bk), .int (nI k)])))) rfl ?_
  refine rg_mem (M2 := (mset M a (.inr (0, [.int (md + (nI 1)), .ref (bk), .int (nI k)])))) mset_mset ?_
  refine rg_null F (pc := 41) dJx4a65c_fastRemove_b59b0_41 ?_
  refine rg_aastN F (pc := 42) (mset_keep hb (mne_ao hb hm)) (by omega) (by omega) dJx4a65c_fastRemove_b59b0_42 ?_
  exact rg_vret F (pc := 43) hrt9 (by decide) (by decide) dJx4a65c_fastRemove_b59b0_43 rfl
set_option maxHeartbeats 4000000 in
set_option maxRecDepth 100000 in
theorem c_remove (l : Launch) (D : va_G) (M : rMem) (a : Nat) (md : Int32) (bk k cap : Nat) (f : Nat → Option Nat) (x : Nat) (hm : M a = some (.inr (0, [.int md, .ref bk, .int (nI (k + 1))]))) (hb : M bk = some (.inl (D.1 8, (cap, .inr (.inr (.inr (.inr f))))))) (hn : k < cap) (hc : cap ≤ 100) (hx : f k = some x) : CMq l D yJx4a65c_remove_915e3 cJx4a65c_remove_915e3 4 ((some (.object "java/lang/Object"))) 3 0 0 M [.ref (a), .int (nI k)] (fun r M' => r = some x ∧ M' = mset (mset M a (.inr (0, [.int (md + nI 1), .ref bk, .int (nI k)]))) bk (.inl (D.1 8, (cap, .inr (.inr (.inr (.inr (va_up f k none)))))))) := by
  refine rM (lv0 := [some (.ref (a)), some (.int (nI k)), none, none]) (by decide) rfl rfl (Nat.le_of_ble_eq_true rfl) (fun P0 E0 S0 m0 as0 bl0 mt0 c0 A F hrt9 hnm => ?_)
  refine rg_iload_n F (pc := 0) dJx4a65c_remove_915e3_0 rfl ?_
  refine rg_aload_n F (pc := 1) dJx4a65c_remove_915e3_1 rfl ?_
  refine rg_get F (pc := 2) (ci := 0) rfl inJx4a65c hm 2 (by decide) q43 (fun _ h9 => h9) rfl dJx4a65c_remove_915e3_2 ?_
  refine rg_callSi F (pc := 5) (As := [.int (nI k), .int (nI (k + 1))]) (rest := []) (c_ocheck l D _ k (k + 1) (by omega) (by omega)) q47 sq_J15_checkIndex_7cf53 rfl rfl (Nat.le_of_ble_eq_true rfl) (Nat.le_of_ble_eq_true rfl) (Nat.le_of_ble_eq_true rfl) ⟨(Nat.le_of_ble_eq_true rfl), (Nat.le_of_ble_eq_true rfl)⟩ dJx4a65c_remove_915e3_5 (fun r9 M9 hp => ?_)
  refine rg_top (v2 := .int (nI k)) (by first | (rw [hp.1]; done) | (rw [hp.1]; rfl)) ?_
  refine rg_mem (M2 := M) hp.2 ?_
  refine rg_pop F (pc := 8) dJx4a65c_remove_915e3_8 rfl ?_
  refine rg_aload_n F (pc := 9) dJx4a65c_remove_915e3_9 rfl ?_
  refine rg_get F (pc := 10) (ci := 0) rfl inJx4a65c hm 1 (by decide) q24 (fun _ h9 => h9) rfl dJx4a65c_remove_915e3_10 ?_
  refine rg_astore_n F (pc := 13) (lv' := [some (.ref (a)), some (.int (nI k)), some (.ref (bk)), none]) dJx4a65c_remove_915e3_13 (Nat.le_of_ble_eq_true rfl) rfl ?_
  refine rg_aload_n F (pc := 14) dJx4a65c_remove_915e3_14 rfl ?_
  refine rg_iload_n F (pc := 15) dJx4a65c_remove_915e3_15 rfl ?_
  refine rg_aald F (pc := 16) (x := .ref (x)) hb (by omega) (by omega) (by rw [hx]; rfl) dJx4a65c_remove_915e3_16 ?_
  refine rg_astore_n F (pc := 17) (lv' := [some (.ref (a)), some (.int (nI k)), some (.ref (bk)), some (.ref (x))]) dJx4a65c_remove_915e3_17 (Nat.le_of_ble_eq_true rfl) rfl ?_
  refine rg_aload_n F (pc := 18) dJx4a65c_remove_915e3_18 rfl ?_
  refine rg_aload_n F (pc := 19) dJx4a65c_remove_915e3_19 rfl ?_
  refine rg_iload_n F (pc := 20) dJx4a65c_remove_915e3_20 rfl ?_
  refine rg_callVv F (pc := 21) (As := [.ref (bk), .int (nI k)]) (rest := []) (ci := 0) (c_fastRemove l D _ a md bk k cap f hm hb hn hc) q142 vq_Jx4a65c_fastRemove_b59b0 rfl hm rfl rfl (Nat.le_of_ble_eq_true rfl) (Nat.le_of_ble_eq_true rfl) (Nat.le_of_ble_eq_true rfl) ⟨(Nat.le_of_ble_eq_true rfl), (Nat.le_of_ble_eq_true rfl)⟩ dJx4a65c_remove_915e3_21 (fun M9 hp => ?_)
  refine rg_mem (M2 := (mset (mset M a (.inr (0, [.int (md + nI 1), .ref (bk), .int (nI k)]))) bk (.inl (D.1 8, (cap, .inr (.inr (.inr (.inr (va_up f k none))))))))) hp ?_
  refine rg_aload_n F (pc := 24) dJx4a65c_remove_915e3_24 rfl ?_
  exact rg_aret F (pc := 25) (some (x)) rfl hrt9 (Or.inl ⟨_, rfl⟩) (by decide) (by decide) dJx4a65c_remove_915e3_25 ⟨rfl, rfl⟩
set_option maxHeartbeats 4000000 in
set_option maxRecDepth 100000 in
theorem c_acInit (l : Launch) (D : va_G) (M : rMem) (a : Nat) : CMv l D yJxa1e45_init_da8c8 cJxa1e45_init_da8c8 1 1 0 0 M [.ref (a)] (fun M' => M' = M) := by
  refine rM (lv0 := [some (.ref (a))]) (by decide) rfl rfl (Nat.le_of_ble_eq_true rfl) (fun P0 E0 S0 m0 as0 bl0 mt0 c0 A F hrt9 hnm => ?_)
  refine rg_aload_n F (pc := 0) dJxa1e45_init_da8c8_0 rfl ?_
  refine rg_objInit F (pc := 1) q32 q11 q12 dJxa1e45_init_da8c8_1 (Nat.le_of_ble_eq_true rfl) (Nat.le_of_ble_eq_true rfl) ?_
  exact rg_vret F (pc := 4) hrt9 (by decide) (by decide) dJxa1e45_init_da8c8_4 rfl
set_option maxHeartbeats 4000000 in
set_option maxRecDepth 100000 in
theorem c_alInit (l : Launch) (D : va_G) (M : rMem) (a : Nat) (md : Int32) (e0 : Option Nat) (z : Int32) (hm : M a = some (.inr (0, [.int md, va_rf e0, .int z]))) : CMv l D yJxc12de_init_da8c8 cJxc12de_init_da8c8 1 2 0 0 M [.ref (a)] (fun M' => M' = mset M a (.inr (0, [.int (nI 0), va_rf e0, .int z]))) := by
  refine rM (lv0 := [some (.ref (a))]) (by decide) rfl rfl (Nat.le_of_ble_eq_true rfl) (fun P0 E0 S0 m0 as0 bl0 mt0 c0 A F hrt9 hnm => ?_)
  refine rg_aload_n F (pc := 0) dJxc12de_init_da8c8_0 rfl ?_
  refine rg_callIv F (pc := 1) (As := []) (rest := []) (c_acInit l D _ a) q29 iq_Jxa1e45_init_da8c8 rfl rfl (Nat.le_of_ble_eq_true rfl) (Nat.le_of_ble_eq_true rfl) (Nat.le_of_ble_eq_true rfl) ⟨(Nat.le_of_ble_eq_true rfl), (Nat.le_of_ble_eq_true rfl)⟩ dJxc12de_init_da8c8_1 (fun M9 hp => ?_)
  refine rg_mem (M2 := M) hp ?_
  refine rg_aload_n F (pc := 4) dJxc12de_init_da8c8_4 rfl ?_
  refine rg_iconst F (pc := 5) (v := nI 0) dJxc12de_init_da8c8_5 (by decide) ?_
  refine rg_put F (pc := 6) (ci := 0) (ty := tyJx4a65c 0) rfl inJx4a65c tyJx4a65c tyJx4a65c_ok nmJx4a65c hm 0 (by decide) q28 (fun _ h9 => h9) rfl (tyJx4a65c_ok 0 (by decide)) rfl rfl (Nat.le_of_ble_eq_true rfl) dJxc12de_init_da8c8_6 ?_
  refine rg_mem (M2 := (mset M a (.inr (0, [.int (nI 0), va_rf (e0), .int (z)])))) rfl ?_
  exact rg_vret F (pc := 9) hrt9 (by decide) (by decide) dJxc12de_init_da8c8_9 rfl
set_option maxHeartbeats 4000000 in
set_option maxRecDepth 100000 in
theorem c_listInit (l : Launch) (D : va_G) (M : rMem) (a : Nat) (md : Int32) (e0 : Option Nat) (z : Int32) (hm : M a = some (.inr (0, [.int md, va_rf e0, .int z]))) : CMv l D yJx4a65c_init_da8c8 cJx4a65c_init_da8c8 1 3 0 0 M [.ref (a)] (fun M' => M' = mset M a (.inr (0, [.int (nI 0), .ref (rT0 D), .int z]))) := by
  refine rM (lv0 := [some (.ref (a))]) (by decide) rfl rfl (Nat.le_of_ble_eq_true rfl) (fun P0 E0 S0 m0 as0 bl0 mt0 c0 A F hrt9 hnm => ?_)
  refine rg_aload_n F (pc := 0) dJx4a65c_init_da8c8_0 rfl ?_
  refine rg_callIv F (pc := 1) (As := []) (rest := []) (c_alInit l D _ a md e0 z hm) q25 iq_Jxc12de_init_da8c8 rfl rfl (Nat.le_of_ble_eq_true rfl) (Nat.le_of_ble_eq_true rfl) (Nat.le_of_ble_eq_true rfl) ⟨(Nat.le_of_ble_eq_true rfl), (Nat.le_of_ble_eq_true rfl)⟩ dJx4a65c_init_da8c8_1 (fun M9 hp => ?_)
  refine rg_mem (M2 := (mset M a (.inr (0, [.int (nI 0), va_rf (e0), .int (z)])))) hp ?_
  refine rg_aload_n F (pc := 4) dJx4a65c_init_da8c8_4 rfl ?_
  refine rg_getsT0 F (pc := 5) q23 dJx4a65c_init_da8c8_5 ?_
  refine rg_put F (pc := 8) (ci := 0) (ty := tyJx4a65c 1) rfl inJx4a65c tyJx4a65c tyJx4a65c_ok nmJx4a65c mset_eq 1 (by decide) q24 (fun _ h9 => h9) rfl (tyJx4a65c_ok 1 (by decide)) rfl rfl (Nat.le_of_ble_eq_true rfl) dJx4a65c_init_da8c8_8 ?_
  refine rg_mem (M2 := (mset (mset M a (.inr (0, [.int (nI 0), va_rf (e0), .int (z)]))) a (.inr (0, [.int (nI 0), .ref (rT0 D), .int (z)])))) rfl ?_
  refine rg_mem (M2 := (mset M a (.inr (0, [.int (nI 0), .ref (rT0 D), .int (z)])))) mset_mset ?_
  exact rg_vret F (pc := 11) hrt9 (by decide) (by decide) dJx4a65c_init_da8c8_11 rfl
