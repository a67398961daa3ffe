set_option maxHeartbeats 4000000 in
set_option maxRecDepth 100000 in
theorem c_scanIn (l : Launch) (D : va_G) (M : rMem) (la : Nat) (x0 x1 x2 : Int32) (pt : Option Nat) (ro : Nat) (x5 : Int64) (x6 x7 x8 x9 x10 x11 : Int32) (x12 : Int64) (x13 x14 x15 x16 : Int32) (fl fa : Nat) (f : Nat → Int64) (P : Poem) (nW i : Nat) (hm : M la = some (.inr (2, [.int (nI (zM P i)), .int (nI (zF P i)), .int (x2), va_rf (pt), .ref (ro), .long (lN (zb P i)), .int (nI (zo P i)), .int (x7), .int (x8), .int (x9), .int (x10), .int (x11), .long (x12), .int (x13), .int (x14), .int (x15), .int (x16)]))) (hf : M fl = some (.inr (1, [.ref fa, .int (nI (zBg P i))]))) (ha : M fa = some (.inl (D.1 7, (5, .inr (.inl f))))) (hq : ∀ q, q < 5 → f q = lN (fc (zFl P i) q)) (hW : zWok P nW) (hi : zLok P nW i) (hB : zBg P (i + 1) ≤ 320) (hF2 : zFl P (i + 1) < 2 ^ zBg P (i + 1)) : CMv l D yX1_scanIn cX1_scanIn 4 3 0 0 M [.ref (la), .ref (fl), .int (nI (zSt P i))] (fun M' => ∃ f2, M' = mset (mset (mset M la (.inr (2, [.int (nI (zM P i)), .int (nI (zF P i)), .int (x2), va_rf (pt), .ref (ro), .long (lN (zb P i)), .int (nI (zo P i)), .int (x7), .int (nI (zSt P i)), .int (nI (zCa P i)), .int (nI (zStay P i)), .int (nI (zOv P i)), .long (lN (zBits P i)), .int (nI (zOff P i)), .int (nI (zLack P i)), .int (x15), .int (x16)]))) fa (.inl (D.1 7, (5, .inr (.inl f2))))) fl (.inr (1, [.ref fa, .int (nI (zBg P (i + 1)))])) ∧ ∀ q, q < 5 → f2 q = lN (fc (zFl P (i + 1)) q)) := by
  have k1 := zSt_le P i
  have k2 := zRm_le hi
  have k3 := zo_le hW hi
  have k4 : zBg P (i + 1) = zBg P i + zo P i := rfl
  have k5 := zBg_eq P i
  have k6 := zBits_lt hi
  have k7 : zStay P i ≤ 18 := zStay_le hi
  have k8 := hi.1
  have k9 : zFl P (i + 1) < 2 ^ 320 := Nat.lt_of_lt_of_le hF2 (Nat.pow_le_pow_right (by decide) hB)
  have k10 : zStay P i ≤ zCa P i + zo P i := Nat.min_le_left _ _
  have k11 : zStay P i ≤ zRm P i := Nat.min_le_right _ _
  refine rM (lv0 := [some (.ref (la)), some (.ref (fl)), some (.int (nI (zSt P i))), none]) (by decide) rfl rfl (Nat.le_of_ble_eq_true rfl) (fun P0 E0 S0 m0 as0 bl0 mt0 c0 A F hrt9 hnm => ?_)
  refine rg_aload_n F (pc := 0) dX1_scanIn_0 rfl ?_
  refine rg_iload_n F (pc := 1) dX1_scanIn_1 rfl ?_
  refine rg_put F (pc := 2) (ci := 2) (ty := tyX1 8) rfl inX1 tyX1 tyX1_ok nmX1 hm 8 (by decide) q151 (fun _ h9 => h9) rfl (tyX1_ok 8 (by decide)) rfl rfl (Nat.le_of_ble_eq_true rfl) dX1_scanIn_2 ?_
  refine rg_mem (M2 := (mset M la (.inr (2, [.int (nI (zM P i)), .int (nI (zF P i)), .int (x2), va_rf (pt), .ref (ro), .long (lN (zb P i)), .int (nI (zo P i)), .int (x7), .int (nI (zSt P i)), .int (x9), .int (x10), .int (x11), .long (x12), .int (x13), .int (x14), .int (x15), .int (x16)])))) rfl ?_
  refine rg_aload_n F (pc := 5) dX1_scanIn_5 rfl ?_
  refine rg_aload_n F (pc := 6) dX1_scanIn_6 rfl ?_
  refine rg_getN F (pc := 7) (ci := 1) rfl inX0 (mset_keep hf (mne_ci hf hm (by decide))) 1 (by decide) qn15 (fun _ h9 => h9) rfl dX1_scanIn_7 ?_
  refine rg_iload_n F (pc := 10) dX1_scanIn_10 rfl ?_
  refine rg_isub F (pc := 11) (v := nI (zCa P i)) dX1_scanIn_11 (pk_sub k1) ?_
  refine rg_put F (pc := 12) (ci := 2) (ty := tyX1 9) rfl inX1 tyX1 tyX1_ok nmX1 mset_eq 9 (by decide) q152 (fun _ h9 => h9) rfl (tyX1_ok 9 (by decide)) rfl rfl (Nat.le_of_ble_eq_true rfl) dX1_scanIn_12 ?_
  refine rg_mem (M2 := (mset (mset M la (.inr (2, [.int (nI (zM P i)), .int (nI (zF P i)), .int (x2), va_rf (pt), .ref (ro), .long (lN (zb P i)), .int (nI (zo P i)), .int (x7), .int (nI (zSt P i)), .int (x9), .int (x10), .int (x11), .long (x12), .int (x13), .int (x14), .int (x15), .int (x16)]))) la (.inr (2, [.int (nI (zM P i)), .int (nI (zF P i)), .int (x2), va_rf (pt), .ref (ro), .long (lN (zb P i)), .int (nI (zo P i)), .int (x7), .int (nI (zSt P i)), .int (nI (zCa P i)), .int (x10), .int (x11), .long (x12), .int (x13), .int (x14), .int (x15), .int (x16)])))) rfl ?_
  refine rg_mem (M2 := (mset M la (.inr (2, [.int (nI (zM P i)), .int (nI (zF P i)), .int (x2), va_rf (pt), .ref (ro), .long (lN (zb P i)), .int (nI (zo P i)), .int (x7), .int (nI (zSt P i)), .int (nI (zCa P i)), .int (x10), .int (x11), .long (x12), .int (x13), .int (x14), .int (x15), .int (x16)])))) mset_mset ?_
  refine rg_aload_n F (pc := 15) dX1_scanIn_15 rfl ?_
  refine rg_aload_n F (pc := 16) dX1_scanIn_16 rfl ?_
  refine rg_get F (pc := 17) (ci := 2) rfl inX1 mset_eq 5 (by decide) q109 (fun _ h9 => h9) rfl dX1_scanIn_17 ?_
  refine rg_aload_n F (pc := 20) dX1_scanIn_20 rfl ?_
  refine rg_get F (pc := 21) (ci := 2) rfl inX1 mset_eq 6 (by decide) q110 (fun _ h9 => h9) rfl dX1_scanIn_21 ?_
  refine rg_callVv F (pc := 24) (As := [.long (lN (zb P i)), .int (nI (zo P i))]) (rest := []) (ci := 1) (c_fadd l D _ fl fa (zBg P i) f (zFl P i) (zb P i) (zo P i) (mset_keep hf (mne_ci hf hm (by decide))) (mset_keep ha (mne_ao ha hm)) hq hB (zo_le hW hi) (zb_lt hW hi)) q159 vq_X0_add rfl (mset_keep hf (mne_ci hf hm (by decide))) rfl rfl (Nat.le_of_ble_eq_true rfl) (Nat.le_of_ble_eq_true rfl) (Nat.le_of_ble_eq_true rfl) ⟨(Nat.le_of_ble_eq_true rfl), (Nat.le_of_ble_eq_true rfl)⟩ dX1_scanIn_24 (fun M9 hp => ?_)
  obtain ⟨f2, hM9, hf2⟩ := hp
  refine rg_mem (M2 := (mset (mset (mset M la (.inr (2, [.int (nI (zM P i)), .int (nI (zF P i)), .int (x2), va_rf (pt), .ref (ro), .long (lN (zb P i)), .int (nI (zo P i)), .int (x7), .int (nI (zSt P i)), .int (nI (zCa P i)), .int (x10), .int (x11), .long (x12), .int (x13), .int (x14), .int (x15), .int (x16)]))) fa (.inl (D.1 7, (5, .inr (.inl f2))))) fl (.inr (1, [.ref (fa), .int (nI (zBg P (i + 1)))])))) hM9 ?_
  refine rg_aload_n F (pc := 27) dX1_scanIn_27 rfl ?_
  refine rg_get F (pc := 28) (ci := 2) rfl inX1 (mset_keep (mset_keep mset_eq (mne_oa hm ha)) (mne_ci hm hf (by decide))) 0 (by decide) q13 (fun _ h9 => h9) rfl dX1_scanIn_28 ?_
  refine rg_callNi F (pc := 31) (As := [.int (nI (zM P i))]) (rest := []) (c_foot l D _ (zM P i) (by omega)) qn11 sq_X3_footSize rfl rfl (Nat.le_of_ble_eq_true rfl) (Nat.le_of_ble_eq_true rfl) (Nat.le_of_ble_eq_true rfl) ⟨(Nat.le_of_ble_eq_true rfl), (Nat.le_of_ble_eq_true rfl)⟩ dX1_scanIn_31 (fun r9 M9 hp => ?_)
  refine rg_top (v2 := .int (nI (rFoot (zM P i)))) (by first | (rw [hp.1]; done) | (rw [hp.1]; rfl)) ?_
  refine rg_mem (M2 := (mset (mset (mset M la (.inr (2, [.int (nI (zM P i)), .int (nI (zF P i)), .int (x2), va_rf (pt), .ref (ro), .long (lN (zb P i)), .int (nI (zo P i)), .int (x7), .int (nI (zSt P i)), .int (nI (zCa P i)), .int (x10), .int (x11), .long (x12), .int (x13), .int (x14), .int (x15), .int (x16)]))) fa (.inl (D.1 7, (5, .inr (.inl f2))))) fl (.inr (1, [.ref (fa), .int (nI (zBg P (i + 1)))])))) hp.2 ?_
  refine rg_aload_n F (pc := 34) dX1_scanIn_34 rfl ?_
  refine rg_get F (pc := 35) (ci := 2) rfl inX1 (mset_keep (mset_keep mset_eq (mne_oa hm ha)) (mne_ci hm hf (by decide))) 1 (by decide) q14 (fun _ h9 => h9) rfl dX1_scanIn_35 ?_
  refine rg_imul F (pc := 38) (v := nI (zRm P i)) dX1_scanIn_38 (pk_mul _ _) ?_
  refine rg_istore_n F (pc := 39) (lv' := [some (.ref (la)), some (.ref (fl)), some (.int (nI (zSt P i))), some (.int (nI (zRm P i)))]) dX1_scanIn_39 (Nat.le_of_ble_eq_true rfl) rfl ?_
  refine rg_aload_n F (pc := 40) dX1_scanIn_40 rfl ?_
  refine rg_aload_n F (pc := 41) dX1_scanIn_41 rfl ?_
  refine rg_get F (pc := 42) (ci := 2) rfl inX1 (mset_keep (mset_keep mset_eq (mne_oa hm ha)) (mne_ci hm hf (by decide))) 9 (by decide) q152 (fun _ h9 => h9) rfl dX1_scanIn_42 ?_
  refine rg_aload_n F (pc := 45) dX1_scanIn_45 rfl ?_
  refine rg_get F (pc := 46) (ci := 2) rfl inX1 (mset_keep (mset_keep mset_eq (mne_oa hm ha)) (mne_ci hm hf (by decide))) 6 (by decide) q110 (fun _ h9 => h9) rfl dX1_scanIn_46 ?_
  refine rg_iadd F (pc := 49) (v := nI ((zCa P i) + (zo P i))) dX1_scanIn_49 (nI_add _ _) ?_
  refine rg_iload_n F (pc := 50) dX1_scanIn_50 rfl ?_
  refine rg_min F (pc := 51) (v := nI (zStay P i)) q153 q87 q65 q88 (Nat.le_of_ble_eq_true rfl) (Nat.le_of_ble_eq_true rfl) ⟨(Nat.le_of_ble_eq_true rfl), (Nat.le_of_ble_eq_true rfl)⟩ (rn_min _ _ (by omega) (by omega)) dX1_scanIn_51 ?_
  refine rg_put F (pc := 54) (ci := 2) (ty := tyX1 10) rfl inX1 tyX1 tyX1_ok nmX1 (mset_keep (mset_keep mset_eq (mne_oa hm ha)) (mne_ci hm hf (by decide))) 10 (by decide) q154 (fun _ h9 => h9) rfl (tyX1_ok 10 (by decide)) rfl rfl (Nat.le_of_ble_eq_true rfl) dX1_scanIn_54 ?_
  refine rg_mem (M2 := (mset (mset (mset (mset M la (.inr (2, [.int (nI (zM P i)), .int (nI (zF P i)), .int (x2), va_rf (pt), .ref (ro), .long (lN (zb P i)), .int (nI (zo P i)), .int (x7), .int (nI (zSt P i)), .int (nI (zCa P i)), .int (x10), .int (x11), .long (x12), .int (x13), .int (x14), .int (x15), .int (x16)]))) fa (.inl (D.1 7, (5, .inr (.inl f2))))) fl (.inr (1, [.ref (fa), .int (nI (zBg P (i + 1)))]))) la (.inr (2, [.int (nI (zM P i)), .int (nI (zF P i)), .int (x2), va_rf (pt), .ref (ro), .long (lN (zb P i)), .int (nI (zo P i)), .int (x7), .int (nI (zSt P i)), .int (nI (zCa P i)), .int (nI (zStay P i)), .int (x11), .long (x12), .int (x13), .int (x14), .int (x15), .int (x16)])))) rfl ?_
  refine rg_mem (M2 := (mset (mset (mset M la (.inr (2, [.int (nI (zM P i)), .int (nI (zF P i)), .int (x2), va_rf (pt), .ref (ro), .long (lN (zb P i)), .int (nI (zo P i)), .int (x7), .int (nI (zSt P i)), .int (nI (zCa P i)), .int (nI (zStay P i)), .int (x11), .long (x12), .int (x13), .int (x14), .int (x15), .int (x16)]))) fa (.inl (D.1 7, (5, .inr (.inl f2))))) fl (.inr (1, [.ref (fa), .int (nI (zBg P (i + 1)))])))) (mset_swap2 (mne_oa hm ha) (mne_ci hm hf (by decide))) ?_
  refine rg_aload_n F (pc := 57) dX1_scanIn_57 rfl ?_
  refine rg_aload_n F (pc := 58) dX1_scanIn_58 rfl ?_
  refine rg_get F (pc := 59) (ci := 2) rfl inX1 (mset_keep (mset_keep mset_eq (mne_oa hm ha)) (mne_ci hm hf (by decide))) 9 (by decide) q152 (fun _ h9 => h9) rfl dX1_scanIn_59 ?_
  refine rg_aload_n F (pc := 62) dX1_scanIn_62 rfl ?_
  refine rg_get F (pc := 63) (ci := 2) rfl inX1 (mset_keep (mset_keep mset_eq (mne_oa hm ha)) (mne_ci hm hf (by decide))) 6 (by decide) q110 (fun _ h9 => h9) rfl dX1_scanIn_63 ?_
  refine rg_iadd F (pc := 66) (v := nI ((zCa P i) + (zo P i))) dX1_scanIn_66 (nI_add _ _) ?_
  refine rg_aload_n F (pc := 67) dX1_scanIn_67 rfl ?_
  refine rg_get F (pc := 68) (ci := 2) rfl inX1 (mset_keep (mset_keep mset_eq (mne_oa hm ha)) (mne_ci hm hf (by decide))) 10 (by decide) q154 (fun _ h9 => h9) rfl dX1_scanIn_68 ?_
  refine rg_isub F (pc := 71) (v := nI (zOv P i)) dX1_scanIn_71 (pk_sub k10) ?_
  refine rg_put F (pc := 72) (ci := 2) (ty := tyX1 11) rfl inX1 tyX1 tyX1_ok nmX1 (mset_keep (mset_keep mset_eq (mne_oa hm ha)) (mne_ci hm hf (by decide))) 11 (by decide) q155 (fun _ h9 => h9) rfl (tyX1_ok 11 (by decide)) rfl rfl (Nat.le_of_ble_eq_true rfl) dX1_scanIn_72 ?_
  refine rg_mem (M2 := (mset (mset (mset (mset M la (.inr (2, [.int (nI (zM P i)), .int (nI (zF P i)), .int (x2), va_rf (pt), .ref (ro), .long (lN (zb P i)), .int (nI (zo P i)), .int (x7), .int (nI (zSt P i)), .int (nI (zCa P i)), .int (nI (zStay P i)), .int (x11), .long (x12), .int (x13), .int (x14), .int (x15), .int (x16)]))) fa (.inl (D.1 7, (5, .inr (.inl f2))))) fl (.inr (1, [.ref (fa), .int (nI (zBg P (i + 1)))]))) la (.inr (2, [.int (nI (zM P i)), .int (nI (zF P i)), .int (x2), va_rf (pt), .ref (ro), .long (lN (zb P i)), .int (nI (zo P i)), .int (x7), .int (nI (zSt P i)), .int (nI (zCa P i)), .int (nI (zStay P i)), .int (nI (zOv P i)), .long (x12), .int (x13), .int (x14), .int (x15), .int (x16)])))) rfl ?_
  refine rg_mem (M2 := (mset (mset (mset M la (.inr (2, [.int (nI (zM P i)), .int (nI (zF P i)), .int (x2), va_rf (pt), .ref (ro), .long (lN (zb P i)), .int (nI (zo P i)), .int (x7), .int (nI (zSt P i)), .int (nI (zCa P i)), .int (nI (zStay P i)), .int (nI (zOv P i)), .long (x12), .int (x13), .int (x14), .int (x15), .int (x16)]))) fa (.inl (D.1 7, (5, .inr (.inl f2))))) fl (.inr (1, [.ref (fa), .int (nI (zBg P (i + 1)))])))) (mset_swap2 (mne_oa hm ha) (mne_ci hm hf (by decide))) ?_
  refine rg_aload_n F (pc := 75) dX1_scanIn_75 rfl ?_
  refine rg_aload_n F (pc := 76) dX1_scanIn_76 rfl ?_
  refine rg_iload_n F (pc := 77) dX1_scanIn_77 rfl ?_
  refine rg_aload_n F (pc := 78) dX1_scanIn_78 rfl ?_
  refine rg_get F (pc := 79) (ci := 2) rfl inX1 (mset_keep (mset_keep mset_eq (mne_oa hm ha)) (mne_ci hm hf (by decide))) 10 (by decide) q154 (fun _ h9 => h9) rfl dX1_scanIn_79 ?_
  refine rg_callVl F (pc := 82) (As := [.int (nI (zSt P i)), .int (nI (zStay P i))]) (rest := [.ref (la)]) (ci := 1) (c_read l D _ fl fa (zBg P (i + 1)) f2 (zFl P (i + 1)) (zSt P i) (zStay P i) mset_eq (mset_keep mset_eq (mne_ao ha hf)) hf2 k9 (by omega) k7) q169 vq_X0_read rfl mset_eq rfl rfl (Nat.le_of_ble_eq_true rfl) (Nat.le_of_ble_eq_true rfl) (Nat.le_of_ble_eq_true rfl) ⟨(Nat.le_of_ble_eq_true rfl), (Nat.le_of_ble_eq_true rfl)⟩ dX1_scanIn_82 (fun r9 M9 hp => ?_)
  refine rg_top (v2 := .long (lN (zBits P i))) (by first | (rw [hp.1]; done) | (rw [hp.1]; rfl)) ?_
  refine rg_mem (M2 := (mset (mset (mset M la (.inr (2, [.int (nI (zM P i)), .int (nI (zF P i)), .int (x2), va_rf (pt), .ref (ro), .long (lN (zb P i)), .int (nI (zo P i)), .int (x7), .int (nI (zSt P i)), .int (nI (zCa P i)), .int (nI (zStay P i)), .int (nI (zOv P i)), .long (x12), .int (x13), .int (x14), .int (x15), .int (x16)]))) fa (.inl (D.1 7, (5, .inr (.inl f2))))) fl (.inr (1, [.ref (fa), .int (nI (zBg P (i + 1)))])))) hp.2 ?_
  refine rg_put F (pc := 85) (ci := 2) (ty := tyX1 12) rfl inX1 tyX1 tyX1_ok nmX1 (mset_keep (mset_keep mset_eq (mne_oa hm ha)) (mne_ci hm hf (by decide))) 12 (by decide) q156 (fun _ h9 => h9) rfl (tyX1_ok 12 (by decide)) rfl rfl (Nat.le_of_ble_eq_true rfl) dX1_scanIn_85 ?_
  refine rg_mem (M2 := (mset (mset (mset (mset M la (.inr (2, [.int (nI (zM P i)), .int (nI (zF P i)), .int (x2), va_rf (pt), .ref (ro), .long (lN (zb P i)), .int (nI (zo P i)), .int (x7), .int (nI (zSt P i)), .int (nI (zCa P i)), .int (nI (zStay P i)), .int (nI (zOv P i)), .long (x12), .int (x13), .int (x14), .int (x15), .int (x16)]))) fa (.inl (D.1 7, (5, .inr (.inl f2))))) fl (.inr (1, [.ref (fa), .int (nI (zBg P (i + 1)))]))) la (.inr (2, [.int (nI (zM P i)), .int (nI (zF P i)), .int (x2), va_rf (pt), .ref (ro), .long (lN (zb P i)), .int (nI (zo P i)), .int (x7), .int (nI (zSt P i)), .int (nI (zCa P i)), .int (nI (zStay P i)), .int (nI (zOv P i)), .long (lN (zBits P i)), .int (x13), .int (x14), .int (x15), .int (x16)])))) rfl ?_
  refine rg_mem (M2 := (mset (mset (mset M la (.inr (2, [.int (nI (zM P i)), .int (nI (zF P i)), .int (x2), va_rf (pt), .ref (ro), .long (lN (zb P i)), .int (nI (zo P i)), .int (x7), .int (nI (zSt P i)), .int (nI (zCa P i)), .int (nI (zStay P i)), .int (nI (zOv P i)), .long (lN (zBits P i)), .int (x13), .int (x14), .int (x15), .int (x16)]))) fa (.inl (D.1 7, (5, .inr (.inl f2))))) fl (.inr (1, [.ref (fa), .int (nI (zBg P (i + 1)))])))) (mset_swap2 (mne_oa hm ha) (mne_ci hm hf (by decide))) ?_
  refine rg_aload_n F (pc := 88) dX1_scanIn_88 rfl ?_
  refine rg_aload_n F (pc := 89) dX1_scanIn_89 rfl ?_
  refine rg_get F (pc := 90) (ci := 2) rfl inX1 (mset_keep (mset_keep mset_eq (mne_oa hm ha)) (mne_ci hm hf (by decide))) 0 (by decide) q13 (fun _ h9 => h9) rfl dX1_scanIn_90 ?_
  refine rg_aload_n F (pc := 93) dX1_scanIn_93 rfl ?_
  refine rg_get F (pc := 94) (ci := 2) rfl inX1 (mset_keep (mset_keep mset_eq (mne_oa hm ha)) (mne_ci hm hf (by decide))) 12 (by decide) q156 (fun _ h9 => h9) rfl dX1_scanIn_94 ?_
  refine rg_aload_n F (pc := 97) dX1_scanIn_97 rfl ?_
  refine rg_get F (pc := 98) (ci := 2) rfl inX1 (mset_keep (mset_keep mset_eq (mne_oa hm ha)) (mne_ci hm hf (by decide))) 10 (by decide) q154 (fun _ h9 => h9) rfl dX1_scanIn_98 ?_
  refine rg_callSi F (pc := 101) (As := [.int (nI (zM P i)), .long (lN (zBits P i)), .int (nI (zStay P i))]) (rest := [.ref (la)]) (c_offBy l D _ (zM P i) (zBits P i) (zStay P i) k8 k6 k7) q177 sq_X1_offBy rfl rfl (Nat.le_of_ble_eq_true rfl) (Nat.le_of_ble_eq_true rfl) (Nat.le_of_ble_eq_true rfl) ⟨(Nat.le_of_ble_eq_true rfl), (Nat.le_of_ble_eq_true rfl)⟩ dX1_scanIn_101 (fun r9 M9 hp => ?_)
  refine rg_top (v2 := .int (nI (zOff P i))) (by first | (rw [hp.1]; done) | (rw [hp.1]; rfl)) ?_
  refine rg_mem (M2 := (mset (mset (mset M la (.inr (2, [.int (nI (zM P i)), .int (nI (zF P i)), .int (x2), va_rf (pt), .ref (ro), .long (lN (zb P i)), .int (nI (zo P i)), .int (x7), .int (nI (zSt P i)), .int (nI (zCa P i)), .int (nI (zStay P i)), .int (nI (zOv P i)), .long (lN (zBits P i)), .int (x13), .int (x14), .int (x15), .int (x16)]))) fa (.inl (D.1 7, (5, .inr (.inl f2))))) fl (.inr (1, [.ref (fa), .int (nI (zBg P (i + 1)))])))) hp.2 ?_
  refine rg_put F (pc := 104) (ci := 2) (ty := tyX1 13) rfl inX1 tyX1 tyX1_ok nmX1 (mset_keep (mset_keep mset_eq (mne_oa hm ha)) (mne_ci hm hf (by decide))) 13 (by decide) q157 (fun _ h9 => h9) rfl (tyX1_ok 13 (by decide)) rfl rfl (Nat.le_of_ble_eq_true rfl) dX1_scanIn_104 ?_
  refine rg_mem (M2 := (mset (mset (mset (mset M la (.inr (2, [.int (nI (zM P i)), .int (nI (zF P i)), .int (x2), va_rf (pt), .ref (ro), .long (lN (zb P i)), .int (nI (zo P i)), .int (x7), .int (nI (zSt P i)), .int (nI (zCa P i)), .int (nI (zStay P i)), .int (nI (zOv P i)), .long (lN (zBits P i)), .int (x13), .int (x14), .int (x15), .int (x16)]))) fa (.inl (D.1 7, (5, .inr (.inl f2))))) fl (.inr (1, [.ref (fa), .int (nI (zBg P (i + 1)))]))) la (.inr (2, [.int (nI (zM P i)), .int (nI (zF P i)), .int (x2), va_rf (pt), .ref (ro), .long (lN (zb P i)), .int (nI (zo P i)), .int (x7), .int (nI (zSt P i)), .int (nI (zCa P i)), .int (nI (zStay P i)), .int (nI (zOv P i)), .long (lN (zBits P i)), .int (nI (zOff P i)), .int (x14), .int (x15), .int (x16)])))) rfl ?_
  refine rg_mem (M2 := (mset (mset (mset M la (.inr (2, [.int (nI (zM P i)), .int (nI (zF P i)), .int (x2), va_rf (pt), .ref (ro), .long (lN (zb P i)), .int (nI (zo P i)), .int (x7), .int (nI (zSt P i)), .int (nI (zCa P i)), .int (nI (zStay P i)), .int (nI (zOv P i)), .long (lN (zBits P i)), .int (nI (zOff P i)), .int (x14), .int (x15), .int (x16)]))) fa (.inl (D.1 7, (5, .inr (.inl f2))))) fl (.inr (1, [.ref (fa), .int (nI (zBg P (i + 1)))])))) (mset_swap2 (mne_oa hm ha) (mne_ci hm hf (by decide))) ?_
  refine rg_aload_n F (pc := 107) dX1_scanIn_107 rfl ?_
  refine rg_iload_n F (pc := 108) dX1_scanIn_108 rfl ?_
  refine rg_aload_n F (pc := 109) dX1_scanIn_109 rfl ?_
  refine rg_get F (pc := 110) (ci := 2) rfl inX1 (mset_keep (mset_keep mset_eq (mne_oa hm ha)) (mne_ci hm hf (by decide))) 10 (by decide) q154 (fun _ h9 => h9) rfl dX1_scanIn_110 ?_
  refine rg_isub F (pc := 113) (v := nI (zLack P i)) dX1_scanIn_113 (pk_sub k11) ?_
  refine rg_put F (pc := 114) (ci := 2) (ty := tyX1 14) rfl inX1 tyX1 tyX1_ok nmX1 (mset_keep (mset_keep mset_eq (mne_oa hm ha)) (mne_ci hm hf (by decide))) 14 (by decide) q158 (fun _ h9 => h9) rfl (tyX1_ok 14 (by decide)) rfl rfl (Nat.le_of_ble_eq_true rfl) dX1_scanIn_114 ?_
  refine rg_mem (M2 := (mset (mset (mset (mset M la (.inr (2, [.int (nI (zM P i)), .int (nI (zF P i)), .int (x2), va_rf (pt), .ref (ro), .long (lN (zb P i)), .int (nI (zo P i)), .int (x7), .int (nI (zSt P i)), .int (nI (zCa P i)), .int (nI (zStay P i)), .int (nI (zOv P i)), .long (lN (zBits P i)), .int (nI (zOff P i)), .int (x14), .int (x15), .int (x16)]))) fa (.inl (D.1 7, (5, .inr (.inl f2))))) fl (.inr (1, [.ref (fa), .int (nI (zBg P (i + 1)))]))) la (.inr (2, [.int (nI (zM P i)), .int (nI (zF P i)), .int (x2), va_rf (pt), .ref (ro), .long (lN (zb P i)), .int (nI (zo P i)), .int (x7), .int (nI (zSt P i)), .int (nI (zCa P i)), .int (nI (zStay P i)), .int (nI (zOv P i)), .long (lN (zBits P i)), .int (nI (zOff P i)), .int (nI (zLack P i)), .int (x15), .int (x16)])))) rfl ?_
  refine rg_mem (M2 := (mset (mset (mset M la (.inr (2, [.int (nI (zM P i)), .int (nI (zF P i)), .int (x2), va_rf (pt), .ref (ro), .long (lN (zb P i)), .int (nI (zo P i)), .int (x7), .int (nI (zSt P i)), .int (nI (zCa P i)), .int (nI (zStay P i)), .int (nI (zOv P i)), .long (lN (zBits P i)), .int (nI (zOff P i)), .int (nI (zLack P i)), .int (x15), .int (x16)]))) fa (.inl (D.1 7, (5, .inr (.inl f2))))) fl (.inr (1, [.ref (fa), .int (nI (zBg P (i + 1)))])))) (mset_swap2 (mne_oa hm ha) (mne_ci hm hf (by decide))) ?_
  exact rg_vret F (pc := 117) hrt9 (by decide) (by decide) dX1_scanIn_117 ⟨f2, rfl, hf2⟩
set_option maxHeartbeats 4000000 in
set_option maxRecDepth 100000 in
theorem c_faults (l : Launch) (D : va_G) (M : rMem) (la : Nat) (x0 x1 x2 : Int32) (pt : Option Nat) (ro : Nat) (x5 : Int64) (x6 x7 x8 x9 x10 x11 : Int32) (x12 : Int64) (x13 x14 x15 x16 : Int32) (fl fa : Nat) (f : Nat → Int64) (P : Poem) (nW i k en G : Nat) (hm : M la = some (.inr (2, [.int (x0), .int (nI (zF P i)), .int (x2), va_rf (pt), .ref (ro), .long (x5), .int (nI (zo P i)), .int (x7), .int (nI (zSt P i)), .int (nI (zCa P i)), .int (x10), .int (x11), .long (x12), .int (x13), .int (x14), .int (x15), .int (x16)]))) (hf : M fl = some (.inr (1, [.ref fa, .int (nI (en))]))) (ha : M fa = some (.inl (D.1 7, (5, .inr (.inl f))))) (hq : ∀ q, q < 5 → f q = lN (fc G q)) (hW : zWok P nW) (hi : zLok P nW i) (hB : zBg P (i + 1) ≤ 320) (hG : G < 2 ^ 320) (hk : k < 4) : CMi l D yX1_faultsBy cX1_faultsBy 5 ((some .int)) 3 0 0 M [.ref (la), .int (nI k), .ref (fl)] (fun r M' => r = nI (zOffM k (G / 2 ^ zSt P i % 2 ^ min (zCa P i + zo P i) (rFoot k * zF P i)) (min (zCa P i + zo P i) (rFoot k * zF P i)) + rFoot k * zF P i - min (zCa P i + zo P i) (rFoot k * zF P i)) ∧ M' = M) := by
  have k1 := zSt_le P i
  have k3 := zo_le hW hi
  have k4 : zBg P (i + 1) = zBg P i + zo P i := rfl
  have k5 := zBg_eq P i
  have k2 : rFoot k * zF P i ≤ 18 := by (have h1 := hi.2.1); (have h2 := hi.2.2.1); unfold rFoot; split <;> omega
  have k6 : min (zCa P i + zo P i) (rFoot k * zF P i) ≤ 18 := Nat.le_trans (Nat.min_le_right _ _) k2
  have k7 : G / 2 ^ zSt P i % 2 ^ (min (zCa P i + zo P i) (rFoot k * zF P i)) < 2 ^ 18 := Nat.lt_of_lt_of_le (Nat.mod_lt _ (Nat.two_pow_pos _)) (Nat.pow_le_pow_right (by decide) k6)
  have k8 : min (zCa P i + zo P i) (rFoot k * zF P i) ≤ rFoot k * zF P i := Nat.min_le_right _ _
  refine rM (lv0 := [some (.ref (la)), some (.int (nI k)), some (.ref (fl)), none, none]) (by decide) rfl rfl (Nat.le_of_ble_eq_true rfl) (fun P0 E0 S0 m0 as0 bl0 mt0 c0 A F hrt9 hnm => ?_)
  refine rg_iload_n F (pc := 0) dX1_faultsBy_0 rfl ?_
  refine rg_callNi F (pc := 1) (As := [.int (nI k)]) (rest := []) (c_foot l D _ k (by omega)) qn11 sq_X3_footSize rfl rfl (Nat.le_of_ble_eq_true rfl) (Nat.le_of_ble_eq_true rfl) (Nat.le_of_ble_eq_true rfl) ⟨(Nat.le_of_ble_eq_true rfl), (Nat.le_of_ble_eq_true rfl)⟩ dX1_faultsBy_1 (fun r9 M9 hp => ?_)
  refine rg_top (v2 := .int (nI (rFoot k))) (by first | (rw [hp.1]; done) | (rw [hp.1]; rfl)) ?_
  refine rg_mem (M2 := M) hp.2 ?_
  refine rg_aload_n F (pc := 4) dX1_faultsBy_4 rfl ?_
  refine rg_get F (pc := 5) (ci := 2) rfl inX1 hm 1 (by decide) q14 (fun _ h9 => h9) rfl dX1_faultsBy_5 ?_
  refine rg_imul F (pc := 8) (v := nI ((rFoot k) * (zF P i))) dX1_faultsBy_8 (pk_mul _ _) ?_
  refine rg_istore_n F (pc := 9) (lv' := [some (.ref (la)), some (.int (nI k)), some (.ref (fl)), some (.int (nI ((rFoot k) * (zF P i)))), none]) dX1_faultsBy_9 (Nat.le_of_ble_eq_true rfl) rfl ?_
  refine rg_aload_n F (pc := 10) dX1_faultsBy_10 rfl ?_
  refine rg_get F (pc := 11) (ci := 2) rfl inX1 hm 9 (by decide) q152 (fun _ h9 => h9) rfl dX1_faultsBy_11 ?_
  refine rg_aload_n F (pc := 14) dX1_faultsBy_14 rfl ?_
  refine rg_get F (pc := 15) (ci := 2) rfl inX1 hm 6 (by decide) q110 (fun _ h9 => h9) rfl dX1_faultsBy_15 ?_
  refine rg_iadd F (pc := 18) (v := nI ((zCa P i) + (zo P i))) dX1_faultsBy_18 (nI_add _ _) ?_
  refine rg_iload_n F (pc := 19) dX1_faultsBy_19 rfl ?_
  refine rg_min F (pc := 20) (v := nI (min ((zCa P i) + (zo P i)) ((rFoot k) * (zF P i)))) q153 q87 q65 q88 (Nat.le_of_ble_eq_true rfl) (Nat.le_of_ble_eq_true rfl) ⟨(Nat.le_of_ble_eq_true rfl), (Nat.le_of_ble_eq_true rfl)⟩ (rn_min _ _ (by omega) (by omega)) dX1_faultsBy_20 ?_
  refine rg_istore F (pc := 23) (lv' := [some (.ref (la)), some (.int (nI k)), some (.ref (fl)), some (.int (nI ((rFoot k) * (zF P i)))), some (.int (nI (min ((zCa P i) + (zo P i)) ((rFoot k) * (zF P i)))))]) dX1_faultsBy_23 (Nat.le_of_ble_eq_true rfl) rfl ?_
  refine rg_iload_n F (pc := 25) dX1_faultsBy_25 rfl ?_
  refine rg_aload_n F (pc := 26) dX1_faultsBy_26 rfl ?_
  refine rg_aload_n F (pc := 27) dX1_faultsBy_27 rfl ?_
  refine rg_get F (pc := 28) (ci := 2) rfl inX1 hm 8 (by decide) q151 (fun _ h9 => h9) rfl dX1_faultsBy_28 ?_
  refine rg_iload F (pc := 31) dX1_faultsBy_31 rfl ?_
  refine rg_callVl F (pc := 33) (As := [.int (nI (zSt P i)), .int (nI (min ((zCa P i) + (zo P i)) ((rFoot k) * (zF P i))))]) (rest := [.int (nI k)]) (ci := 1) (c_read l D _ fl fa en f G (zSt P i) (min ((zCa P i) + (zo P i)) ((rFoot k) * (zF P i))) hf ha hq hG (by omega) k6) q169 vq_X0_read rfl hf rfl rfl (Nat.le_of_ble_eq_true rfl) (Nat.le_of_ble_eq_true rfl) (Nat.le_of_ble_eq_true rfl) ⟨(Nat.le_of_ble_eq_true rfl), (Nat.le_of_ble_eq_true rfl)⟩ dX1_faultsBy_33 (fun r9 M9 hp => ?_)
  refine rg_top (v2 := .long (lN (G / 2 ^ (zSt P i) % 2 ^ (min ((zCa P i) + (zo P i)) ((rFoot k) * (zF P i)))))) (by first | (rw [hp.1]; done) | (rw [hp.1]; rfl)) ?_
  refine rg_mem (M2 := M) hp.2 ?_
  refine rg_iload F (pc := 36) dX1_faultsBy_36 rfl ?_
  refine rg_callSi F (pc := 38) (As := [.int (nI k), .long (lN (G / 2 ^ (zSt P i) % 2 ^ (min ((zCa P i) + (zo P i)) ((rFoot k) * (zF P i))))), .int (nI (min ((zCa P i) + (zo P i)) ((rFoot k) * (zF P i))))]) (rest := []) (c_offBy l D _ k (G / 2 ^ (zSt P i) % 2 ^ (min ((zCa P i) + (zo P i)) ((rFoot k) * (zF P i)))) (min ((zCa P i) + (zo P i)) ((rFoot k) * (zF P i))) hk k7 k6) q177 sq_X1_offBy rfl rfl (Nat.le_of_ble_eq_true rfl) (Nat.le_of_ble_eq_true rfl) (Nat.le_of_ble_eq_true rfl) ⟨(Nat.le_of_ble_eq_true rfl), (Nat.le_of_ble_eq_true rfl)⟩ dX1_faultsBy_38 (fun r9 M9 hp => ?_)
  refine rg_top (v2 := .int (nI (zOffM k (G / 2 ^ (zSt P i) % 2 ^ (min ((zCa P i) + (zo P i)) ((rFoot k) * (zF P i)))) (min ((zCa P i) + (zo P i)) ((rFoot k) * (zF P i)))))) (by first | (rw [hp.1]; done) | (rw [hp.1]; rfl)) ?_
  refine rg_mem (M2 := M) hp.2 ?_
  refine rg_iload_n F (pc := 41) dX1_faultsBy_41 rfl ?_
  refine rg_iadd F (pc := 42) (v := nI ((zOffM k (G / 2 ^ (zSt P i) % 2 ^ (min ((zCa P i) + (zo P i)) ((rFoot k) * (zF P i)))) (min ((zCa P i) + (zo P i)) ((rFoot k) * (zF P i)))) + ((rFoot k) * (zF P i)))) dX1_faultsBy_42 (nI_add _ _) ?_
  refine rg_iload F (pc := 43) dX1_faultsBy_43 rfl ?_
  refine rg_isub F (pc := 45) (v := nI (((zOffM k (G / 2 ^ (zSt P i) % 2 ^ (min ((zCa P i) + (zo P i)) ((rFoot k) * (zF P i)))) (min ((zCa P i) + (zo P i)) ((rFoot k) * (zF P i)))) + ((rFoot k) * (zF P i))) - (min ((zCa P i) + (zo P i)) ((rFoot k) * (zF P i))))) dX1_faultsBy_45 (pk_sub (by omega)) ?_
  exact rg_iret F (pc := 46) hrt9 (by decide) (by decide) dX1_faultsBy_46 ⟨rfl, rfl⟩
set_option maxHeartbeats 4000000 in
set_option maxRecDepth 100000 in
theorem c_clean (l : Launch) (D : va_G) (M : rMem) (la : Nat) (x0 x1 x2 : Int32) (pt : Option Nat) (ro : Nat) (x5 : Int64) (x6 x7 x8 x9 x10 x11 : Int32) (x12 : Int64) (x13 x14 x15 x16 : Int32) (a b : Nat) (hm : M la = some (.inr (2, [.int (x0), .int (x1), .int (x2), va_rf (pt), .ref (ro), .long (x5), .int (x6), .int (x7), .int (x8), .int (x9), .int (x10), .int (x11), .long (x12), .int (nI a), .int (nI b), .int (x15), .int (x16)]))) (h1 : a < 100) (h2 : b < 100) : CMi l D yX1_isFaultless cX1_isFaultless 1 ((some .boolean)) 1 0 0 M [.ref (la)] (fun r M' => r = nI (decide (a = 0 ∧ b = 0)).toNat ∧ M' = M) := by
  refine rM (lv0 := [some (.ref (la))]) (by decide) rfl rfl (Nat.le_of_ble_eq_true rfl) (fun P0 E0 S0 m0 as0 bl0 mt0 c0 A F hrt9 hnm => ?_)
  refine rg_aload_n F (pc := 0) dX1_isFaultless_0 rfl ?_
  refine rg_get F (pc := 1) (ci := 2) rfl inX1 hm 13 (by decide) q157 (fun _ h9 => h9) rfl dX1_isFaultless_1 ?_
  refine rg_nif_ne F (pc := 4) (tgt := 18) dX1_isFaultless_4 (by decide) (by omega) (fun c4 => ?_) (fun c4 => ?_)
  · refine rg_iconst F (pc := 18) (v := nI 0) dX1_isFaultless_18 (by decide) ?_
    exact rg_zret F (pc := 19) rfl hrt9 (by decide) (by decide) dX1_isFaultless_19 ⟨by rw [(show decide (a = 0 ∧ b = 0) = false from decide_eq_false (by omega))]; rfl, rfl⟩
  · refine rg_aload_n F (pc := 7) dX1_isFaultless_7 rfl ?_
    refine rg_get F (pc := 8) (ci := 2) rfl inX1 hm 14 (by decide) q158 (fun _ h9 => h9) rfl dX1_isFaultless_8 ?_
    refine rg_nif_ne F (pc := 11) (tgt := 18) dX1_isFaultless_11 (by decide) (by omega) (fun c11 => ?_) (fun c11 => ?_)
    · refine rg_iconst F (pc := 18) (v := nI 0) dX1_isFaultless_18 (by decide) ?_
      exact rg_zret F (pc := 19) rfl hrt9 (by decide) (by decide) dX1_isFaultless_19 ⟨by rw [(show decide (a = 0 ∧ b = 0) = false from decide_eq_false (by omega))]; rfl, rfl⟩
    · refine rg_iconst F (pc := 14) (v := nI 1) dX1_isFaultless_14 (by decide) ?_
      refine rg_goto F (pc := 15) (tgt := 19) dX1_isFaultless_15 (by decide) ?_
      exact rg_zret F (pc := 19) rfl hrt9 (by decide) (by decide) dX1_isFaultless_19 ⟨by rw [(show decide (a = 0 ∧ b = 0) = true from decide_eq_true (by omega))]; rfl, rfl⟩
set_option maxHeartbeats 4000000 in
set_option maxRecDepth 100000 in
theorem c_strAt (l : Launch) (D : va_G) (M : rMem) (la : Nat) (x0 x1 x2 : Int32) (pt : Option Nat) (ro : Nat) (x5 : Int64) (x6 x7 x8 x9 x10 x11 : Int32) (x12 : Int64) (x13 x14 x15 x16 : Int32) (b p : Nat) (hm : M la = some (.inr (2, [.int (x0), .int (x1), .int (x2), va_rf (pt), .ref (ro), .long (x5), .int (x6), .int (x7), .int (x8), .int (x9), .int (x10), .int (x11), .long (lN b), .int (x13), .int (x14), .int (x15), .int (x16)]))) (h1 : b < 2 ^ 64) (h2 : p < 64) : CMi l D yX1_stressAt cX1_stressAt 2 ((some .int)) 1 0 0 M [.ref (la), .int (nI p)] (fun r M' => r = nI (b / 2 ^ p % 2) ∧ M' = M) := by
  refine rM (lv0 := [some (.ref (la)), some (.int (nI p))]) (by decide) rfl rfl (Nat.le_of_ble_eq_true rfl) (fun P0 E0 S0 m0 as0 bl0 mt0 c0 A F hrt9 hnm => ?_)
  refine rg_aload_n F (pc := 0) dX1_stressAt_0 rfl ?_
  refine rg_get F (pc := 1) (ci := 2) rfl inX1 hm 12 (by decide) q156 (fun _ h9 => h9) rfl dX1_stressAt_1 ?_
  refine rg_iload_n F (pc := 4) dX1_stressAt_4 rfl ?_
  refine rg_lushr F (pc := 5) (v := lN (b / 2 ^ p)) dX1_stressAt_5 (wb_shr (by omega) (by omega)) ?_
  refine rg_lconst F (pc := 6) (v := lN 1) dX1_stressAt_6 (by decide) ?_
  refine rg_land F (pc := 7) (v := lN (b / 2 ^ p % 2)) dX1_stressAt_7 (wb_a1 (Nat.lt_of_le_of_lt (Nat.div_le_self _ _) h1)) ?_
  refine rg_l2i F (pc := 8) (v := nI (b / 2 ^ p % 2)) dX1_stressAt_8 (lN_i _) ?_
  exact rg_iret F (pc := 9) hrt9 (by decide) (by decide) dX1_stressAt_9 ⟨rfl, rfl⟩
/-- a line's cell once it is scanned -/
abbrev lo (P : Poem) (i : Nat) (pt : Option Nat) (ro : Nat) : List Value := [.int (nI (zM P i)), .int (nI (zF P i)), .int (nI (zK P i)), va_rf (pt), .ref (ro), .long (lN (zb P i)), .int (nI (zo P i)), .int (nI (zOM P i (zC P i))), .int (nI (zSt P i)), .int (nI (zCa P i)), .int (nI (zStay P i)), .int (nI (zOv P i)), .long (lN (zBits P i)), .int (nI (zOff P i)), .int (nI (zLack P i)), .int (nI (zPaid P i)), .int (nI (zTax P i))]
def zTold (P : Poem) (i what : Nat) : Nat := match what with
  | 0 => zM P i
  | 1 => zF P i
  | 2 => zK P i
  | 3 => zC P i
  | 4 => zo P i
  | 5 => zCa P i
  | 6 => zStay P i
  | 7 => zOv P i
  | 8 => zOff P i
  | 9 => zLack P i
  | 10 => zPaid P i
  | _ => zTax P i
set_option maxHeartbeats 4000000 in
set_option maxRecDepth 100000 in
theorem c_tells (l : Launch) (D : va_G) (M : rMem) (la : Nat) (pt : Option Nat) (ro : Nat) (md : Int32) (bk : Nat) (g : Nat → Nat) (P : Poem) (i what : Nat) (hm : M la = some (.inr (2, lo P i pt ro))) (hL : isL D M ro md bk (zC P i) g) (hwt : what < 12) : CMi l D yX1_tells cX1_tells 2 ((some .int)) 2 0 0 M [.ref (la), .int (nI what)] (fun r M' => r = nI (zTold P i what) ∧ M' = M) := by
  refine rM (lv0 := [some (.ref (la)), some (.int (nI what))]) (by decide) rfl rfl (Nat.le_of_ble_eq_true rfl) (fun P0 E0 S0 m0 as0 bl0 mt0 c0 A F hrt9 hnm => ?_)
  refine rg_iload_n F (pc := 0) dX1_tells_0 rfl ?_
  rcases (show what = 0 ∨ what = 1 ∨ what = 2 ∨ what = 3 ∨ what = 4 ∨ what = 5 ∨ what = 6 ∨ what = 7 ∨ what = 8 ∨ what = 9 ∨ what = 10 ∨ what = 11 by omega) with rfl | rfl | rfl | rfl | rfl | rfl | rfl | rfl | rfl | rfl | rfl | rfl
  · refine rg_tab F (pc := 1) (off := 59) (tgt := 60) dX1_tells_1 (by decide) (by decide) (by decide) (by decide) ?_
    refine rg_aload_n F (pc := 60) dX1_tells_60 rfl ?_
    refine rg_get F (pc := 61) (ci := 2) rfl inX1 hm 0 (by decide) q13 (fun _ h9 => h9) rfl dX1_tells_61 ?_
    exact rg_iret F (pc := 64) hrt9 (by decide) (by decide) dX1_tells_64 ⟨rfl, rfl⟩
  · refine rg_tab F (pc := 1) (off := 64) (tgt := 65) dX1_tells_1 (by decide) (by decide) (by decide) (by decide) ?_
    refine rg_aload_n F (pc := 65) dX1_tells_65 rfl ?_
    refine rg_get F (pc := 66) (ci := 2) rfl inX1 hm 1 (by decide) q14 (fun _ h9 => h9) rfl dX1_tells_66 ?_
    exact rg_iret F (pc := 69) hrt9 (by decide) (by decide) dX1_tells_69 ⟨rfl, rfl⟩
  · refine rg_tab F (pc := 1) (off := 69) (tgt := 70) dX1_tells_1 (by decide) (by decide) (by decide) (by decide) ?_
    refine rg_aload_n F (pc := 70) dX1_tells_70 rfl ?_
    refine rg_get F (pc := 71) (ci := 2) rfl inX1 hm 2 (by decide) q15 (fun _ h9 => h9) rfl dX1_tells_71 ?_
    exact rg_iret F (pc := 74) hrt9 (by decide) (by decide) dX1_tells_74 ⟨rfl, rfl⟩
  · refine rg_tab F (pc := 1) (off := 74) (tgt := 75) dX1_tells_1 (by decide) (by decide) (by decide) (by decide) ?_
    refine rg_aload_n F (pc := 75) dX1_tells_75 rfl ?_
    refine rg_get F (pc := 76) (ci := 2) rfl inX1 hm 4 (by decide) q20 (fun _ h9 => h9) rfl dX1_tells_76 ?_
    refine rg_callVi F (pc := 79) (As := []) (rest := []) (ci := 0) (c_size l D _ ro md bk (zC P i) hL.1) q40 vq_Jx4a65c_size_8abf5 rfl hL.1 rfl rfl (Nat.le_of_ble_eq_true rfl) (Nat.le_of_ble_eq_true rfl) (Nat.le_of_ble_eq_true rfl) ⟨(Nat.le_of_ble_eq_true rfl), (Nat.le_of_ble_eq_true rfl)⟩ dX1_tells_79 (fun r9 M9 hp => ?_)
    refine rg_top (v2 := .int (nI (zC P i))) (by first | (rw [hp.1]; done) | (rw [hp.1]; rfl)) ?_
    refine rg_mem (M2 := M) hp.2 ?_
    exact rg_iret F (pc := 82) hrt9 (by decide) (by decide) dX1_tells_82 ⟨rfl, rfl⟩
  · refine rg_tab F (pc := 1) (off := 82) (tgt := 83) dX1_tells_1 (by decide) (by decide) (by decide) (by decide) ?_
    refine rg_aload_n F (pc := 83) dX1_tells_83 rfl ?_
    refine rg_get F (pc := 84) (ci := 2) rfl inX1 hm 6 (by decide) q110 (fun _ h9 => h9) rfl dX1_tells_84 ?_
    exact rg_iret F (pc := 87) hrt9 (by decide) (by decide) dX1_tells_87 ⟨rfl, rfl⟩
  · refine rg_tab F (pc := 1) (off := 87) (tgt := 88) dX1_tells_1 (by decide) (by decide) (by decide) (by decide) ?_
    refine rg_aload_n F (pc := 88) dX1_tells_88 rfl ?_
    refine rg_get F (pc := 89) (ci := 2) rfl inX1 hm 9 (by decide) q152 (fun _ h9 => h9) rfl dX1_tells_89 ?_
    exact rg_iret F (pc := 92) hrt9 (by decide) (by decide) dX1_tells_92 ⟨rfl, rfl⟩
  · refine rg_tab F (pc := 1) (off := 92) (tgt := 93) dX1_tells_1 (by decide) (by decide) (by decide) (by decide) ?_
    refine rg_aload_n F (pc := 93) dX1_tells_93 rfl ?_
    refine rg_get F (pc := 94) (ci := 2) rfl inX1 hm 10 (by decide) q154 (fun _ h9 => h9) rfl dX1_tells_94 ?_
    exact rg_iret F (pc := 97) hrt9 (by decide) (by decide) dX1_tells_97 ⟨rfl, rfl⟩
  · refine rg_tab F (pc := 1) (off := 97) (tgt := 98) dX1_tells_1 (by decide) (by decide) (by decide) (by decide) ?_
    refine rg_aload_n F (pc := 98) dX1_tells_98 rfl ?_
    refine rg_get F (pc := 99) (ci := 2) rfl inX1 hm 11 (by decide) q155 (fun _ h9 => h9) rfl dX1_tells_99 ?_
    exact rg_iret F (pc := 102) hrt9 (by decide) (by decide) dX1_tells_102 ⟨rfl, rfl⟩
  · refine rg_tab F (pc := 1) (off := 102) (tgt := 103) dX1_tells_1 (by decide) (by decide) (by decide) (by decide) ?_
    refine rg_aload_n F (pc := 103) dX1_tells_103 rfl ?_
    refine rg_get F (pc := 104) (ci := 2) rfl inX1 hm 13 (by decide) q157 (fun _ h9 => h9) rfl dX1_tells_104 ?_
    exact rg_iret F (pc := 107) hrt9 (by decide) (by decide) dX1_tells_107 ⟨rfl, rfl⟩
  · refine rg_tab F (pc := 1) (off := 107) (tgt := 108) dX1_tells_1 (by decide) (by decide) (by decide) (by decide) ?_
    refine rg_aload_n F (pc := 108) dX1_tells_108 rfl ?_
    refine rg_get F (pc := 109) (ci := 2) rfl inX1 hm 14 (by decide) q158 (fun _ h9 => h9) rfl dX1_tells_109 ?_
    exact rg_iret F (pc := 112) hrt9 (by decide) (by decide) dX1_tells_112 ⟨rfl, rfl⟩
  · refine rg_tab F (pc := 1) (off := 112) (tgt := 113) dX1_tells_1 (by decide) (by decide) (by decide) (by decide) ?_
    refine rg_aload_n F (pc := 113) dX1_tells_113 rfl ?_
    refine rg_get F (pc := 114) (ci := 2) rfl inX1 hm 15 (by decide) q288 (fun _ h9 => h9) rfl dX1_tells_114 ?_
    exact rg_iret F (pc := 117) hrt9 (by decide) (by decide) dX1_tells_117 ⟨rfl, rfl⟩
  · refine rg_tabO F (pc := 1) (tgt := 118) dX1_tells_1 (by decide) (by decide) ?_
    refine rg_aload_n F (pc := 118) dX1_tells_118 rfl ?_
    refine rg_get F (pc := 119) (ci := 2) rfl inX1 hm 16 (by decide) q290 (fun _ h9 => h9) rfl dX1_tells_119 ?_
    exact rg_iret F (pc := 122) hrt9 (by decide) (by decide) dX1_tells_122 ⟨rfl, rfl⟩
