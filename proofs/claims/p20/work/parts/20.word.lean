def rBel (x : Int32) (b : Nat) : Bool := decide (0 ≤ x.toInt ∧ x.toInt < b)
theorem rBel_neg {x : Int32} {b : Nat} (h : x < 0) : rBel x b = false := by
  have := Int32.lt_iff_toInt_lt.mp h
  have e : (0 : Int32).toInt = 0 := by decide
  unfold rBel
  apply decide_eq_false
  omega
theorem rBel_ge {x : Int32} {b : Nat} (h : nI b ≤ x) (hb : b < 2 ^ 31) : rBel x b = false := by
  have := Int32.le_iff_toInt_le.mp h
  rw [nI_toInt hb] at this
  unfold rBel
  apply decide_eq_false
  omega
theorem rBel_lt {x : Int32} {b : Nat} (hb : b < 2 ^ 31) (h : ¬ x < 0) (h2 : ¬ nI b ≤ x) : rBel x b = true := by
  have h1 : ¬ x.toInt < 0 := fun q => h (Int32.lt_iff_toInt_lt.mpr q)
  have h3 : ¬ (b : Int) ≤ x.toInt := fun q => h2 (Int32.le_iff_toInt_le.mpr (by rw [nI_toInt hb]; exact q))
  unfold rBel
  apply decide_eq_true
  omega
theorem rBel_nI {j b : Nat} (hj : j < 2 ^ 31) : rBel (nI j) b = decide (j < b) := by
  unfold rBel
  rw [nI_toInt hj]
  apply decide_eq_decide.mpr
  omega
theorem rBel_of {x : Int32} {b : Nat} (hb : b < 2 ^ 31) (h : rBel x b = true) : ∃ j : Nat, j < b ∧ x = nI j := by
  have := of_decide_eq_true h
  refine ⟨x.toInt.toNat, by omega, ?_⟩
  apply Int32.toInt_inj.mp
  rw [nI_toInt (by omega)]
  omega
set_option maxHeartbeats 4000000 in
set_option maxRecDepth 100000 in
theorem c_isBelow (l : Launch) (D : va_G) (M : rMem) (x : Int32) (b : Nat) (hb : b < 2 ^ 31) : CMi l D yX3_isBelow cX3_isBelow 2 ((some .boolean)) 1 0 0 M [.int (x), .int (nI b)] (fun r M' => r = nI (rBel x b).toNat ∧ M' = M) := by
  refine rM (lv0 := [some (.int (x)), some (.int (nI b))]) (by decide) rfl rfl (Nat.le_of_ble_eq_true rfl) (fun P0 E0 S0 m0 as0 bl0 mt0 c0 A F hrt9 hnm => ?_)
  refine rg_iload_n F (pc := 0) dX3_isBelow_0 rfl ?_
  refine rg_if_lt F (pc := 1) (tgt := 13) dX3_isBelow_1 (by decide) (fun c1 => ?_) (fun c1 => ?_)
  · refine rg_iconst F (pc := 13) (v := nI 0) dX3_isBelow_13 (by decide) ?_
    exact rg_zret F (pc := 14) rfl hrt9 (by decide) (by decide) dX3_isBelow_14 ⟨by rw [rBel_neg c1]; rfl, rfl⟩
  · refine rg_iload_n F (pc := 4) dX3_isBelow_4 rfl ?_
    refine rg_iload_n F (pc := 5) dX3_isBelow_5 rfl ?_
    refine rg_icmp_ge F (pc := 6) (tgt := 13) dX3_isBelow_6 (by decide) (fun c6 => ?_) (fun c6 => ?_)
    · refine rg_iconst F (pc := 13) (v := nI 0) dX3_isBelow_13 (by decide) ?_
      exact rg_zret F (pc := 14) rfl hrt9 (by decide) (by decide) dX3_isBelow_14 ⟨by rw [rBel_ge c6 hb]; rfl, rfl⟩
    · refine rg_iconst F (pc := 9) (v := nI 1) dX3_isBelow_9 (by decide) ?_
      refine rg_goto F (pc := 10) (tgt := 14) dX3_isBelow_10 (by decide) ?_
      exact rg_zret F (pc := 14) rfl hrt9 (by decide) (by decide) dX3_isBelow_14 ⟨by rw [rBel_lt hb c1 c6]; rfl, rfl⟩
def rLst (s t : Nat) : Nat := t / 2 ^ (s - 1) % 2
set_option maxHeartbeats 4000000 in
set_option maxRecDepth 100000 in
theorem c_lastStress (l : Launch) (D : va_G) (M : rMem) (a num s t v e o : Nat) (hm : M a = some (.inr (3, [.int (nI num), .int (nI s), .int (nI t), .int (nI v), .int (nI e), .int (nI o)]))) (hs : 1 ≤ s) (hs4 : s ≤ 4) (ht : t < 16) : CMi l D yX2_lastStress cX2_lastStress 1 ((some .int)) 1 0 0 M [.ref (a)] (fun r M' => r = nI (rLst s t) ∧ M' = M) := by
  refine rM (lv0 := [some (.ref (a))]) (by decide) rfl rfl (Nat.le_of_ble_eq_true rfl) (fun P0 E0 S0 m0 as0 bl0 mt0 c0 A F hrt9 hnm => ?_)
  refine rg_aload_n F (pc := 0) dX2_lastStress_0 rfl ?_
  refine rg_get F (pc := 1) (ci := 3) rfl inX2 hm 2 (by decide) q227 (fun _ h9 => h9) rfl dX2_lastStress_1 ?_
  refine rg_aload_n F (pc := 4) dX2_lastStress_4 rfl ?_
  refine rg_get F (pc := 5) (ci := 3) rfl inX2 hm 1 (by decide) q226 (fun _ h9 => h9) rfl dX2_lastStress_5 ?_
  refine rg_iconst F (pc := 8) (v := nI 1) dX2_lastStress_8 (by decide) ?_
  refine rg_isub F (pc := 9) (v := nI (s - 1)) dX2_lastStress_9 (pk_sub (by omega)) ?_
  refine rg_ishr F (pc := 10) (v := nI (t / 2 ^ (s - 1))) dX2_lastStress_10 (rn_shr (by omega) (by omega)) ?_
  refine rg_iconst F (pc := 11) (v := nI 1) dX2_lastStress_11 (by decide) ?_
  refine rg_iand F (pc := 12) (v := nI ((t / 2 ^ (s - 1)) % 2)) dX2_lastStress_12 (rn_and1 (Nat.lt_of_le_of_lt (Nat.div_le_self _ _) (by omega))) ?_
  exact rg_iret F (pc := 13) hrt9 (by decide) (by decide) dX2_lastStress_13 ⟨rfl, rfl⟩
set_option maxHeartbeats 4000000 in
set_option maxRecDepth 100000 in
theorem c_meltsInto (l : Launch) (D : va_G) (M : rMem) (a num s t v e o b num2 s2 t2 v2 e2 o2 : Nat) (hm : M a = some (.inr (3, [.int (nI num), .int (nI s), .int (nI t), .int (nI v), .int (nI e), .int (nI o)]))) (hm2 : M b = some (.inr (3, [.int (nI num2), .int (nI s2), .int (nI t2), .int (nI v2), .int (nI e2), .int (nI o2)]))) (he : e < 10) (ho : o2 < 2) : CMi l D yX2_meltsInto cX2_meltsInto 2 ((some .boolean)) 1 0 0 M [.ref (a), .ref (b)] (fun r M' => r = nI (decide (e = 0 ∧ o2 = 1)).toNat ∧ M' = M) := by
  refine rM (lv0 := [some (.ref (a)), some (.ref (b))]) (by decide) rfl rfl (Nat.le_of_ble_eq_true rfl) (fun P0 E0 S0 m0 as0 bl0 mt0 c0 A F hrt9 hnm => ?_)
  refine rg_aload_n F (pc := 0) dX2_meltsInto_0 rfl ?_
  refine rg_get F (pc := 1) (ci := 3) rfl inX2 hm 4 (by decide) q118 (fun _ h9 => h9) rfl dX2_meltsInto_1 ?_
  refine rg_nif_ne F (pc := 4) (tgt := 18) dX2_meltsInto_4 (by decide) (by omega) (fun c4 => ?_) (fun c4 => ?_)
  · refine rg_iconst F (pc := 18) (v := nI 0) dX2_meltsInto_18 (by decide) ?_
    exact rg_zret F (pc := 19) rfl hrt9 (by decide) (by decide) dX2_meltsInto_19 ⟨by rw [(show decide (e = 0 ∧ o2 = 1) = false from decide_eq_false (by omega))]; rfl, rfl⟩
  · refine rg_aload_n F (pc := 7) dX2_meltsInto_7 rfl ?_
    refine rg_get F (pc := 8) (ci := 3) rfl inX2 hm2 5 (by decide) q119 (fun _ h9 => h9) rfl dX2_meltsInto_8 ?_
    refine rg_nif_eq F (pc := 11) (tgt := 18) dX2_meltsInto_11 (by decide) (by omega) (fun c11 => ?_) (fun c11 => ?_)
    · refine rg_iconst F (pc := 18) (v := nI 0) dX2_meltsInto_18 (by decide) ?_
      exact rg_zret F (pc := 19) rfl hrt9 (by decide) (by decide) dX2_meltsInto_19 ⟨by rw [(show decide (e = 0 ∧ o2 = 1) = false from decide_eq_false (by omega))]; rfl, rfl⟩
    · refine rg_iconst F (pc := 14) (v := nI 1) dX2_meltsInto_14 (by decide) ?_
      refine rg_goto F (pc := 15) (tgt := 19) dX2_meltsInto_15 (by decide) ?_
      exact rg_zret F (pc := 19) rfl hrt9 (by decide) (by decide) dX2_meltsInto_19 ⟨by rw [(show decide (e = 0 ∧ o2 = 1) = true from decide_eq_true (by omega))]; rfl, rfl⟩
theorem rLst_lt (s t : Nat) : rLst s t < 2 := Nat.mod_lt _ (by decide)
def rRhy (n v e ls n2 v2 e2 ls2 : Nat) : Nat := if n = n2 ∨ v ≠ v2 then 0 else 1 + (if e = e2 then 1 else 0) + (if ls = ls2 then 1 else 0)
set_option maxHeartbeats 4000000 in
set_option maxRecDepth 100000 in
theorem c_rhymeWith (l : Launch) (D : va_G) (M : rMem) (a num s t v e o b num2 s2 t2 v2 e2 o2 : Nat) (hm : M a = some (.inr (3, [.int (nI num), .int (nI s), .int (nI t), .int (nI v), .int (nI e), .int (nI o)]))) (hm2 : M b = some (.inr (3, [.int (nI num2), .int (nI s2), .int (nI t2), .int (nI v2), .int (nI e2), .int (nI o2)]))) (hn : num < 100) (hv : v < 10) (he : e < 10) (hn2 : num2 < 100) (hv2 : v2 < 10) (he2 : e2 < 10) (hs : 1 ≤ s) (hs4 : s ≤ 4) (ht : t < 16) (hs2 : 1 ≤ s2) (hs42 : s2 ≤ 4) (ht2 : t2 < 16) : CMi l D yX2_rhymeWith cX2_rhymeWith 4 ((some .int)) 3 0 0 M [.ref (a), .ref (b)] (fun r M' => r = nI (rRhy num v e (rLst s t) num2 v2 e2 (rLst s2 t2)) ∧ M' = M) := by
  refine rM (lv0 := [some (.ref (a)), some (.ref (b)), none, none]) (by decide) rfl rfl (Nat.le_of_ble_eq_true rfl) (fun P0 E0 S0 m0 as0 bl0 mt0 c0 A F hrt9 hnm => ?_)
  refine rg_aload_n F (pc := 0) dX2_rhymeWith_0 rfl ?_
  refine rg_get F (pc := 1) (ci := 3) rfl inX2 hm 0 (by decide) q225 (fun _ h9 => h9) rfl dX2_rhymeWith_1 ?_
  refine rg_aload_n F (pc := 4) dX2_rhymeWith_4 rfl ?_
  refine rg_get F (pc := 5) (ci := 3) rfl inX2 hm2 0 (by decide) q225 (fun _ h9 => h9) rfl dX2_rhymeWith_5 ?_
  refine rg_ncmp_eq F (pc := 8) (tgt := 22) dX2_rhymeWith_8 (by decide) (by omega) (by omega) (fun c8 => ?_) (fun c8 => ?_)
  · refine rg_iconst F (pc := 22) (v := nI 0) dX2_rhymeWith_22 (by decide) ?_
    exact rg_iret F (pc := 23) hrt9 (by decide) (by decide) dX2_rhymeWith_23 ⟨by simp [rRhy, *] <;> rfl, rfl⟩
  · refine rg_aload_n F (pc := 11) dX2_rhymeWith_11 rfl ?_
    refine rg_get F (pc := 12) (ci := 3) rfl inX2 hm 3 (by decide) q228 (fun _ h9 => h9) rfl dX2_rhymeWith_12 ?_
    refine rg_aload_n F (pc := 15) dX2_rhymeWith_15 rfl ?_
    refine rg_get F (pc := 16) (ci := 3) rfl inX2 hm2 3 (by decide) q228 (fun _ h9 => h9) rfl dX2_rhymeWith_16 ?_
    refine rg_ncmp_eq F (pc := 19) (tgt := 24) dX2_rhymeWith_19 (by decide) (by omega) (by omega) (fun c19 => ?_) (fun c19 => ?_)
    · refine rg_aload_n F (pc := 24) dX2_rhymeWith_24 rfl ?_
      refine rg_get F (pc := 25) (ci := 3) rfl inX2 hm 4 (by decide) q118 (fun _ h9 => h9) rfl dX2_rhymeWith_25 ?_
      refine rg_aload_n F (pc := 28) dX2_rhymeWith_28 rfl ?_
      refine rg_get F (pc := 29) (ci := 3) rfl inX2 hm2 4 (by decide) q118 (fun _ h9 => h9) rfl dX2_rhymeWith_29 ?_
      refine rg_ncmp_ne F (pc := 32) (tgt := 39) dX2_rhymeWith_32 (by decide) (by omega) (by omega) (fun c32 => ?_) (fun c32 => ?_)
      · refine rg_iconst F (pc := 39) (v := nI 0) dX2_rhymeWith_39 (by decide) ?_
        refine rg_istore_n F (pc := 40) (lv' := [some (.ref (a)), some (.ref (b)), some (.int (nI 0)), none]) dX2_rhymeWith_40 (Nat.le_of_ble_eq_true rfl) rfl ?_
        refine rg_aload_n F (pc := 41) dX2_rhymeWith_41 rfl ?_
        refine rg_callVi F (pc := 42) (As := []) (rest := []) (ci := 3) (c_lastStress l D _ a num s t v e o hm hs hs4 ht) q268 vq_X2_lastStress rfl hm rfl rfl (Nat.le_of_ble_eq_true rfl) (Nat.le_of_ble_eq_true rfl) (Nat.le_of_ble_eq_true rfl) ⟨(Nat.le_of_ble_eq_true rfl), (Nat.le_of_ble_eq_true rfl)⟩ dX2_rhymeWith_42 (fun r9 M9 hp => ?_)
        refine rg_top (v2 := .int (nI (rLst s t))) (by first | (rw [hp.1]; done) | (rw [hp.1]; rfl)) ?_
        refine rg_mem (M2 := M) hp.2 ?_
        refine rg_aload_n F (pc := 45) dX2_rhymeWith_45 rfl ?_
        refine rg_callVi F (pc := 46) (As := []) (rest := [.int (nI (rLst s t))]) (ci := 3) (c_lastStress l D _ b num2 s2 t2 v2 e2 o2 hm2 hs2 hs42 ht2) q268 vq_X2_lastStress rfl hm2 rfl rfl (Nat.le_of_ble_eq_true rfl) (Nat.le_of_ble_eq_true rfl) (Nat.le_of_ble_eq_true rfl) ⟨(Nat.le_of_ble_eq_true rfl), (Nat.le_of_ble_eq_true rfl)⟩ dX2_rhymeWith_46 (fun r9 M9 hp => ?_)
        refine rg_top (v2 := .int (nI (rLst s2 t2))) (by first | (rw [hp.1]; done) | (rw [hp.1]; rfl)) ?_
        refine rg_mem (M2 := M) hp.2 ?_
        refine rg_ncmp_ne F (pc := 49) (tgt := 56) dX2_rhymeWith_49 (by decide) (Nat.lt_trans (rLst_lt _ _) (by decide)) (Nat.lt_trans (rLst_lt _ _) (by decide)) (fun c49 => ?_) (fun c49 => ?_)
        · refine rg_iconst F (pc := 56) (v := nI 0) dX2_rhymeWith_56 (by decide) ?_
          refine rg_istore_n F (pc := 57) (lv' := [some (.ref (a)), some (.ref (b)), some (.int (nI 0)), some (.int (nI 0))]) dX2_rhymeWith_57 (Nat.le_of_ble_eq_true rfl) rfl ?_
          refine rg_iconst F (pc := 58) (v := nI 1) dX2_rhymeWith_58 (by decide) ?_
          refine rg_iload_n F (pc := 59) dX2_rhymeWith_59 rfl ?_
          refine rg_iadd F (pc := 60) (v := nI (1 + 0)) dX2_rhymeWith_60 (nI_add _ _) ?_
          refine rg_iload_n F (pc := 61) dX2_rhymeWith_61 rfl ?_
          refine rg_iadd F (pc := 62) (v := nI ((1 + 0) + 0)) dX2_rhymeWith_62 (nI_add _ _) ?_
          exact rg_iret F (pc := 63) hrt9 (by decide) (by decide) dX2_rhymeWith_63 ⟨by simp [rRhy, *] <;> rfl, rfl⟩
        · refine rg_iconst F (pc := 52) (v := nI 1) dX2_rhymeWith_52 (by decide) ?_
          refine rg_goto F (pc := 53) (tgt := 57) dX2_rhymeWith_53 (by decide) ?_
          refine rg_istore_n F (pc := 57) (lv' := [some (.ref (a)), some (.ref (b)), some (.int (nI 0)), some (.int (nI 1))]) dX2_rhymeWith_57 (Nat.le_of_ble_eq_true rfl) rfl ?_
          refine rg_iconst F (pc := 58) (v := nI 1) dX2_rhymeWith_58 (by decide) ?_
          refine rg_iload_n F (pc := 59) dX2_rhymeWith_59 rfl ?_
          refine rg_iadd F (pc := 60) (v := nI (1 + 0)) dX2_rhymeWith_60 (nI_add _ _) ?_
          refine rg_iload_n F (pc := 61) dX2_rhymeWith_61 rfl ?_
          refine rg_iadd F (pc := 62) (v := nI ((1 + 0) + 1)) dX2_rhymeWith_62 (nI_add _ _) ?_
          exact rg_iret F (pc := 63) hrt9 (by decide) (by decide) dX2_rhymeWith_63 ⟨by simp [rRhy, *] <;> rfl, rfl⟩
      · refine rg_iconst F (pc := 35) (v := nI 1) dX2_rhymeWith_35 (by decide) ?_
        refine rg_goto F (pc := 36) (tgt := 40) dX2_rhymeWith_36 (by decide) ?_
        refine rg_istore_n F (pc := 40) (lv' := [some (.ref (a)), some (.ref (b)), some (.int (nI 1)), none]) dX2_rhymeWith_40 (Nat.le_of_ble_eq_true rfl) rfl ?_
        refine rg_aload_n F (pc := 41) dX2_rhymeWith_41 rfl ?_
        refine rg_callVi F (pc := 42) (As := []) (rest := []) (ci := 3) (c_lastStress l D _ a num s t v e o hm hs hs4 ht) q268 vq_X2_lastStress rfl hm rfl rfl (Nat.le_of_ble_eq_true rfl) (Nat.le_of_ble_eq_true rfl) (Nat.le_of_ble_eq_true rfl) ⟨(Nat.le_of_ble_eq_true rfl), (Nat.le_of_ble_eq_true rfl)⟩ dX2_rhymeWith_42 (fun r9 M9 hp => ?_)
        refine rg_top (v2 := .int (nI (rLst s t))) (by first | (rw [hp.1]; done) | (rw [hp.1]; rfl)) ?_
        refine rg_mem (M2 := M) hp.2 ?_
        refine rg_aload_n F (pc := 45) dX2_rhymeWith_45 rfl ?_
        refine rg_callVi F (pc := 46) (As := []) (rest := [.int (nI (rLst s t))]) (ci := 3) (c_lastStress l D _ b num2 s2 t2 v2 e2 o2 hm2 hs2 hs42 ht2) q268 vq_X2_lastStress rfl hm2 rfl rfl (Nat.le_of_ble_eq_true rfl) (Nat.le_of_ble_eq_true rfl) (Nat.le_of_ble_eq_true rfl) ⟨(Nat.le_of_ble_eq_true rfl), (Nat.le_of_ble_eq_true rfl)⟩ dX2_rhymeWith_46 (fun r9 M9 hp => ?_)
        refine rg_top (v2 := .int (nI (rLst s2 t2))) (by first | (rw [hp.1]; done) | (rw [hp.1]; rfl)) ?_
        refine rg_mem (M2 := M) hp.2 ?_
        refine rg_ncmp_ne F (pc := 49) (tgt := 56) dX2_rhymeWith_49 (by decide) (Nat.lt_trans (rLst_lt _ _) (by decide)) (Nat.lt_trans (rLst_lt _ _) (by decide)) (fun c49 => ?_) (fun c49 => ?_)
        · refine rg_iconst F (pc := 56) (v := nI 0) dX2_rhymeWith_56 (by decide) ?_
          refine rg_istore_n F (pc := 57) (lv' := [some (.ref (a)), some (.ref (b)), some (.int (nI 1)), some (.int (nI 0))]) dX2_rhymeWith_57 (Nat.le_of_ble_eq_true rfl) rfl ?_
          refine rg_iconst F (pc := 58) (v := nI 1) dX2_rhymeWith_58 (by decide) ?_
          refine rg_iload_n F (pc := 59) dX2_rhymeWith_59 rfl ?_
          refine rg_iadd F (pc := 60) (v := nI (1 + 1)) dX2_rhymeWith_60 (nI_add _ _) ?_
          refine rg_iload_n F (pc := 61) dX2_rhymeWith_61 rfl ?_
          refine rg_iadd F (pc := 62) (v := nI ((1 + 1) + 0)) dX2_rhymeWith_62 (nI_add _ _) ?_
          exact rg_iret F (pc := 63) hrt9 (by decide) (by decide) dX2_rhymeWith_63 ⟨by simp [rRhy, *] <;> rfl, rfl⟩
        · refine rg_iconst F (pc := 52) (v := nI 1) dX2_rhymeWith_52 (by decide) ?_
          refine rg_goto F (pc := 53) (tgt := 57) dX2_rhymeWith_53 (by decide) ?_
          refine rg_istore_n F (pc := 57) (lv' := [some (.ref (a)), some (.ref (b)), some (.int (nI 1)), some (.int (nI 1))]) dX2_rhymeWith_57 (Nat.le_of_ble_eq_true rfl) rfl ?_
          refine rg_iconst F (pc := 58) (v := nI 1) dX2_rhymeWith_58 (by decide) ?_
          refine rg_iload_n F (pc := 59) dX2_rhymeWith_59 rfl ?_
          refine rg_iadd F (pc := 60) (v := nI (1 + 1)) dX2_rhymeWith_60 (nI_add _ _) ?_
          refine rg_iload_n F (pc := 61) dX2_rhymeWith_61 rfl ?_
          refine rg_iadd F (pc := 62) (v := nI ((1 + 1) + 1)) dX2_rhymeWith_62 (nI_add _ _) ?_
          exact rg_iret F (pc := 63) hrt9 (by decide) (by decide) dX2_rhymeWith_63 ⟨by simp [rRhy, *] <;> rfl, rfl⟩
    · refine rg_iconst F (pc := 22) (v := nI 0) dX2_rhymeWith_22 (by decide) ?_
      exact rg_iret F (pc := 23) hrt9 (by decide) (by decide) dX2_rhymeWith_23 ⟨by simp [rRhy, *] <;> rfl, rfl⟩
