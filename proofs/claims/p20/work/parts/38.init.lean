theorem rz_nar {o : Nat} (h : o < 2) : narrow .boolean (.int (nI o)) = .int (nI o) ∧ fits .boolean (.int (nI o)) = true := by
  rcases (show o = 0 ∨ o = 1 by omega) with rfl | rfl <;> exact ⟨rfl, rfl⟩
set_option maxHeartbeats 4000000 in
set_option maxRecDepth 100000 in
theorem c_wordInit (l : Launch) (D : va_G) (M : rMem) (a n s t v e o : Nat) (y0 y1 y2 y3 y4 y5 : Int32) (hm : M a = some (.inr (3, [.int (y0), .int (y1), .int (y2), .int (y3), .int (y4), .int (y5)]))) (ho : o < 2) : CMv l D yX2_init cX2_init 7 1 0 0 M [.ref (a), .int (nI n), .int (nI s), .int (nI t), .int (nI v), .int (nI e), .int (nI o)] (fun M' => M' = mset M a (.inr (3, [.int (nI n), .int (nI s), .int (nI t), .int (nI v), .int (nI e), .int (nI o)]))) := by
  refine rM (lv0 := [some (.ref (a)), some (.int (nI n)), some (.int (nI s)), some (.int (nI t)), some (.int (nI v)), some (.int (nI e)), some (.int (nI o))]) (by decide) rfl rfl (Nat.le_of_ble_eq_true rfl) (fun P0 E0 S0 m0 as0 bl0 mt0 c0 A F hrt9 hnm => ?_)
  refine rg_aload_n F (pc := 0) dX2_init_0 rfl ?_
  refine rg_objInit F (pc := 1) q224 q11 q12 dX2_init_1 (Nat.le_of_ble_eq_true rfl) (Nat.le_of_ble_eq_true rfl) ?_
  refine rg_aload_n F (pc := 4) dX2_init_4 rfl ?_
  refine rg_iload_n F (pc := 5) dX2_init_5 rfl ?_
  refine rg_putF F (pc := 6) (ci := 3) (ty := tyX2 0) rfl inX2 tyX2 tyX2_ok nmX2 hm 0 (by decide) q225 (fun _ h9 => h9) rfl (by rw [hnm]; rfl) rfl (tyX2_ok 0 (by decide)) rfl rfl (Nat.le_of_ble_eq_true rfl) dX2_init_6 ?_
  refine rg_mem (M2 := (mset M a (.inr (3, [.int (nI n), .int (y1), .int (y2), .int (y3), .int (y4), .int (y5)])))) rfl ?_
  refine rg_aload_n F (pc := 9) dX2_init_9 rfl ?_
  refine rg_iload_n F (pc := 10) dX2_init_10 rfl ?_
  refine rg_putF F (pc := 11) (ci := 3) (ty := tyX2 1) rfl inX2 tyX2 tyX2_ok nmX2 mset_eq 1 (by decide) q226 (fun _ h9 => h9) rfl (by rw [hnm]; rfl) rfl (tyX2_ok 1 (by decide)) rfl rfl (Nat.le_of_ble_eq_true rfl) dX2_init_11 ?_
  refine rg_mem (M2 := (mset (mset M a (.inr (3, [.int (nI n), .int (y1), .int (y2), .int (y3), .int (y4), .int (y5)]))) a (.inr (3, [.int (nI n), .int (nI s), .int (y2), .int (y3), .int (y4), .int (y5)])))) rfl ?_
  refine rg_mem (M2 := (mset M a (.inr (3, [.int (nI n), .int (nI s), .int (y2), .int (y3), .int (y4), .int (y5)])))) mset_mset ?_
  refine rg_aload_n F (pc := 14) dX2_init_14 rfl ?_
  refine rg_iload_n F (pc := 15) dX2_init_15 rfl ?_
  refine rg_putF F (pc := 16) (ci := 3) (ty := tyX2 2) rfl inX2 tyX2 tyX2_ok nmX2 mset_eq 2 (by decide) q227 (fun _ h9 => h9) rfl (by rw [hnm]; rfl) rfl (tyX2_ok 2 (by decide)) rfl rfl (Nat.le_of_ble_eq_true rfl) dX2_init_16 ?_
  refine rg_mem (M2 := (mset (mset M a (.inr (3, [.int (nI n), .int (nI s), .int (y2), .int (y3), .int (y4), .int (y5)]))) a (.inr (3, [.int (nI n), .int (nI s), .int (nI t), .int (y3), .int (y4), .int (y5)])))) rfl ?_
  refine rg_mem (M2 := (mset M a (.inr (3, [.int (nI n), .int (nI s), .int (nI t), .int (y3), .int (y4), .int (y5)])))) mset_mset ?_
  refine rg_aload_n F (pc := 19) dX2_init_19 rfl ?_
  refine rg_iload F (pc := 20) dX2_init_20 rfl ?_
  refine rg_putF F (pc := 22) (ci := 3) (ty := tyX2 3) rfl inX2 tyX2 tyX2_ok nmX2 mset_eq 3 (by decide) q228 (fun _ h9 => h9) rfl (by rw [hnm]; rfl) rfl (tyX2_ok 3 (by decide)) rfl rfl (Nat.le_of_ble_eq_true rfl) dX2_init_22 ?_
  refine rg_mem (M2 := (mset (mset M a (.inr (3, [.int (nI n), .int (nI s), .int (nI t), .int (y3), .int (y4), .int (y5)]))) a (.inr (3, [.int (nI n), .int (nI s), .int (nI t), .int (nI v), .int (y4), .int (y5)])))) rfl ?_
  refine rg_mem (M2 := (mset M a (.inr (3, [.int (nI n), .int (nI s), .int (nI t), .int (nI v), .int (y4), .int (y5)])))) mset_mset ?_
  refine rg_aload_n F (pc := 25) dX2_init_25 rfl ?_
  refine rg_iload F (pc := 26) dX2_init_26 rfl ?_
  refine rg_putF F (pc := 28) (ci := 3) (ty := tyX2 4) rfl inX2 tyX2 tyX2_ok nmX2 mset_eq 4 (by decide) q118 (fun _ h9 => h9) rfl (by rw [hnm]; rfl) rfl (tyX2_ok 4 (by decide)) rfl rfl (Nat.le_of_ble_eq_true rfl) dX2_init_28 ?_
  refine rg_mem (M2 := (mset (mset M a (.inr (3, [.int (nI n), .int (nI s), .int (nI t), .int (nI v), .int (y4), .int (y5)]))) a (.inr (3, [.int (nI n), .int (nI s), .int (nI t), .int (nI v), .int (nI e), .int (y5)])))) rfl ?_
  refine rg_mem (M2 := (mset M a (.inr (3, [.int (nI n), .int (nI s), .int (nI t), .int (nI v), .int (nI e), .int (y5)])))) mset_mset ?_
  refine rg_aload_n F (pc := 31) dX2_init_31 rfl ?_
  refine rg_iload F (pc := 32) dX2_init_32 rfl ?_
  refine rg_putF F (pc := 34) (ci := 3) (ty := tyX2 5) rfl inX2 tyX2 tyX2_ok nmX2 mset_eq 5 (by decide) q119 (fun _ h9 => h9) rfl (by rw [hnm]; rfl) rfl (tyX2_ok 5 (by decide)) (rz_nar ho).1 (rz_nar ho).2 (Nat.le_of_ble_eq_true rfl) dX2_init_34 ?_
  refine rg_mem (M2 := (mset (mset M a (.inr (3, [.int (nI n), .int (nI s), .int (nI t), .int (nI v), .int (nI e), .int (y5)]))) a (.inr (3, [.int (nI n), .int (nI s), .int (nI t), .int (nI v), .int (nI e), .int (nI o)])))) rfl ?_
  refine rg_mem (M2 := (mset M a (.inr (3, [.int (nI n), .int (nI s), .int (nI t), .int (nI v), .int (nI e), .int (nI o)])))) mset_mset ?_
  exact rg_vret F (pc := 37) hrt9 (by decide) (by decide) dX2_init_37 rfl
set_option maxHeartbeats 4000000 in
set_option maxRecDepth 100000 in
theorem c_lineInit0 (l : Launch) (D : va_G) (M : rMem) (la m f k : Nat) (y0 y1 y2 : Int32) (y3 y4 : Option Nat) (y5 : Int64) (y6 y7 y8 y9 y10 y11 : Int32) (y12 : Int64) (y13 y14 y15 y16 : Int32) (hm : M la = some (.inr (2, [.int (y0), .int (y1), .int (y2), va_rf (y3), va_rf (y4), .long (y5), .int (y6), .int (y7), .int (y8), .int (y9), .int (y10), .int (y11), .long (y12), .int (y13), .int (y14), .int (y15), .int (y16)]))) : CMv l D yX1_init cX1_init 5 4 1 3 M [.ref (la), .int (nI m), .int (nI f), .int (nI k), .null] (fun M' => ∃ q26, M q26 = none ∧ M' = mset (mset M la (.inr (2, [.int (nI m), .int (nI f), .int (nI k), .null, .ref (q26), .long (y5), .int (y6), .int (y7), .int (y8), .int (y9), .int (y10), .int (y11), .long (y12), .int (y13), .int (y14), .int (y15), .int (y16)]))) q26 (.inr (0, [.int (nI 0), .ref (rT0 D), .int (nI 0)]))) := by
  refine rM (lv0 := [some (.ref (la)), some (.int (nI m)), some (.int (nI f)), some (.int (nI k)), some (.null)]) (by decide) rfl rfl (Nat.le_of_ble_eq_true rfl) (fun P0 E0 S0 m0 as0 bl0 mt0 c0 A F hrt9 hnm => ?_)
  refine rg_aload_n F (pc := 0) dX1_init_0 rfl ?_
  refine rg_objInit F (pc := 1) q10 q11 q12 dX1_init_1 (Nat.le_of_ble_eq_true rfl) (Nat.le_of_ble_eq_true rfl) ?_
  refine rg_aload_n F (pc := 4) dX1_init_4 rfl ?_
  refine rg_iload_n F (pc := 5) dX1_init_5 rfl ?_
  refine rg_putF F (pc := 6) (ci := 2) (ty := tyX1 0) rfl inX1 tyX1 tyX1_ok nmX1 hm 0 (by decide) q13 (fun _ h9 => h9) rfl (by rw [hnm]; rfl) rfl (tyX1_ok 0 (by decide)) rfl rfl (Nat.le_of_ble_eq_true rfl) dX1_init_6 ?_
  refine rg_mem (M2 := (mset M la (.inr (2, [.int (nI m), .int (y1), .int (y2), va_rf (y3), va_rf (y4), .long (y5), .int (y6), .int (y7), .int (y8), .int (y9), .int (y10), .int (y11), .long (y12), .int (y13), .int (y14), .int (y15), .int (y16)])))) rfl ?_
  refine rg_aload_n F (pc := 9) dX1_init_9 rfl ?_
  refine rg_iload_n F (pc := 10) dX1_init_10 rfl ?_
  refine rg_putF F (pc := 11) (ci := 2) (ty := tyX1 1) rfl inX1 tyX1 tyX1_ok nmX1 mset_eq 1 (by decide) q14 (fun _ h9 => h9) rfl (by rw [hnm]; rfl) rfl (tyX1_ok 1 (by decide)) rfl rfl (Nat.le_of_ble_eq_true rfl) dX1_init_11 ?_
  refine rg_mem (M2 := (mset (mset M la (.inr (2, [.int (nI m), .int (y1), .int (y2), va_rf (y3), va_rf (y4), .long (y5), .int (y6), .int (y7), .int (y8), .int (y9), .int (y10), .int (y11), .long (y12), .int (y13), .int (y14), .int (y15), .int (y16)]))) la (.inr (2, [.int (nI m), .int (nI f), .int (y2), va_rf (y3), va_rf (y4), .long (y5), .int (y6), .int (y7), .int (y8), .int (y9), .int (y10), .int (y11), .long (y12), .int (y13), .int (y14), .int (y15), .int (y16)])))) rfl ?_
  refine rg_mem (M2 := (mset M la (.inr (2, [.int (nI m), .int (nI f), .int (y2), va_rf (y3), va_rf (y4), .long (y5), .int (y6), .int (y7), .int (y8), .int (y9), .int (y10), .int (y11), .long (y12), .int (y13), .int (y14), .int (y15), .int (y16)])))) mset_mset ?_
  refine rg_aload_n F (pc := 14) dX1_init_14 rfl ?_
  refine rg_iload_n F (pc := 15) dX1_init_15 rfl ?_
  refine rg_putF F (pc := 16) (ci := 2) (ty := tyX1 2) rfl inX1 tyX1 tyX1_ok nmX1 mset_eq 2 (by decide) q15 (fun _ h9 => h9) rfl (by rw [hnm]; rfl) rfl (tyX1_ok 2 (by decide)) rfl rfl (Nat.le_of_ble_eq_true rfl) dX1_init_16 ?_
  refine rg_mem (M2 := (mset (mset M la (.inr (2, [.int (nI m), .int (nI f), .int (y2), va_rf (y3), va_rf (y4), .long (y5), .int (y6), .int (y7), .int (y8), .int (y9), .int (y10), .int (y11), .long (y12), .int (y13), .int (y14), .int (y15), .int (y16)]))) la (.inr (2, [.int (nI m), .int (nI f), .int (nI k), va_rf (y3), va_rf (y4), .long (y5), .int (y6), .int (y7), .int (y8), .int (y9), .int (y10), .int (y11), .long (y12), .int (y13), .int (y14), .int (y15), .int (y16)])))) rfl ?_
  refine rg_mem (M2 := (mset M la (.inr (2, [.int (nI m), .int (nI f), .int (nI k), va_rf (y3), va_rf (y4), .long (y5), .int (y6), .int (y7), .int (y8), .int (y9), .int (y10), .int (y11), .long (y12), .int (y13), .int (y14), .int (y15), .int (y16)])))) mset_mset ?_
  refine rg_aload_n F (pc := 19) dX1_init_19 rfl ?_
  refine rg_aloadN F (pc := 20) dX1_init_20 rfl ?_
  refine rg_putF F (pc := 22) (ci := 2) (ty := tyX1 3) rfl inX1 tyX1 tyX1_ok nmX1 mset_eq 3 (by decide) q16 (fun _ h9 => h9) rfl (by rw [hnm]; rfl) rfl (tyX1_ok 3 (by decide)) rfl rfl (Nat.le_of_ble_eq_true rfl) dX1_init_22 ?_
  refine rg_mem (M2 := (mset (mset M la (.inr (2, [.int (nI m), .int (nI f), .int (nI k), va_rf (y3), va_rf (y4), .long (y5), .int (y6), .int (y7), .int (y8), .int (y9), .int (y10), .int (y11), .long (y12), .int (y13), .int (y14), .int (y15), .int (y16)]))) la (.inr (2, [.int (nI m), .int (nI f), .int (nI k), .null, va_rf (y4), .long (y5), .int (y6), .int (y7), .int (y8), .int (y9), .int (y10), .int (y11), .long (y12), .int (y13), .int (y14), .int (y15), .int (y16)])))) rfl ?_
  refine rg_mem (M2 := (mset M la (.inr (2, [.int (nI m), .int (nI f), .int (nI k), .null, va_rf (y4), .long (y5), .int (y6), .int (y7), .int (y8), .int (y9), .int (y10), .int (y11), .long (y12), .int (y13), .int (y14), .int (y15), .int (y16)])))) mset_mset ?_
  refine rg_aload_n F (pc := 25) dX1_init_25 rfl ?_
  refine rg_new F (pc := 26) (ci := 0) (fs := [.int 0, .null, .int 0]) rfl inJx4a65c tyJx4a65c tyJx4a65c_ok (fun j hj => by rcases (show j = 0 ∨ j = 1 ∨ j = 2 by omega) with rfl | rfl | rfl <;> rfl) q17 q18 q19 (Nat.le_of_ble_eq_true rfl) (Nat.le_of_ble_eq_true rfl) dX1_init_26 (fun q26 hq26 => ?_)
  refine rg_widen (k2 := 1) (n2 := 3) (by decide) (by decide) ?_
  refine rg_mem (M2 := (mset (mset M la (.inr (2, [.int (nI m), .int (nI f), .int (nI k), .null, va_rf (y4), .long (y5), .int (y6), .int (y7), .int (y8), .int (y9), .int (y10), .int (y11), .long (y12), .int (y13), .int (y14), .int (y15), .int (y16)]))) q26 (.inr (0, [.int (nI 0), .null, .int (nI 0)])))) rfl ?_
  refine rg_dup F (pc := 29) dX1_init_29 rfl ?_
  refine rg_callIv F (pc := 30) (As := []) (rest := [.ref (q26), .ref (la)]) (c_listInit l D _ q26 (nI 0) none (nI 0) mset_eq) q21 iq_Jx4a65c_init_da8c8 rfl rfl (Nat.le_of_ble_eq_true rfl) (Nat.le_of_ble_eq_true rfl) (Nat.le_of_ble_eq_true rfl) ⟨(Nat.le_of_ble_eq_true rfl), (Nat.le_of_ble_eq_true rfl)⟩ dX1_init_30 (fun M9 hp => ?_)
  refine rg_mem (M2 := (mset (mset M la (.inr (2, [.int (nI m), .int (nI f), .int (nI k), .null, va_rf (y4), .long (y5), .int (y6), .int (y7), .int (y8), .int (y9), .int (y10), .int (y11), .long (y12), .int (y13), .int (y14), .int (y15), .int (y16)]))) q26 (.inr (0, [.int (nI 0), .ref (rT0 D), .int (nI 0)])))) (hp.trans mset_mset) ?_
  refine rg_putF F (pc := 33) (ci := 2) (ty := tyX1 4) rfl inX1 tyX1 tyX1_ok nmX1 (mset_keep mset_eq (mne_none hm (mset_none hq26))) 4 (by decide) q20 (fun _ h9 => h9) rfl (by rw [hnm]; rfl) rfl (tyX1_ok 4 (by decide)) rfl rfl (Nat.le_of_ble_eq_true rfl) dX1_init_33 ?_
  refine rg_mem (M2 := (mset (mset (mset M la (.inr (2, [.int (nI m), .int (nI f), .int (nI k), .null, va_rf (y4), .long (y5), .int (y6), .int (y7), .int (y8), .int (y9), .int (y10), .int (y11), .long (y12), .int (y13), .int (y14), .int (y15), .int (y16)]))) q26 (.inr (0, [.int (nI 0), .ref (rT0 D), .int (nI 0)]))) la (.inr (2, [.int (nI m), .int (nI f), .int (nI k), .null, .ref (q26), .long (y5), .int (y6), .int (y7), .int (y8), .int (y9), .int (y10), .int (y11), .long (y12), .int (y13), .int (y14), .int (y15), .int (y16)])))) rfl ?_
  refine rg_mem (M2 := (mset (mset M la (.inr (2, [.int (nI m), .int (nI f), .int (nI k), .null, .ref (q26), .long (y5), .int (y6), .int (y7), .int (y8), .int (y9), .int (y10), .int (y11), .long (y12), .int (y13), .int (y14), .int (y15), .int (y16)]))) q26 (.inr (0, [.int (nI 0), .ref (rT0 D), .int (nI 0)])))) (mset_swap (mne_none hm (mset_none hq26))) ?_
  exact rg_vret F (pc := 36) hrt9 (by decide) (by decide) dX1_init_36 ⟨q26, mset_none hq26, rfl⟩
set_option maxHeartbeats 4000000 in
set_option maxRecDepth 100000 in
theorem c_lineInit1 (l : Launch) (D : va_G) (M : rMem) (la m f k pa : Nat) (y0 y1 y2 : Int32) (y3 y4 : Option Nat) (y5 : Int64) (y6 y7 y8 y9 y10 y11 : Int32) (y12 : Int64) (y13 y14 y15 y16 : Int32) (hm : M la = some (.inr (2, [.int (y0), .int (y1), .int (y2), va_rf (y3), va_rf (y4), .long (y5), .int (y6), .int (y7), .int (y8), .int (y9), .int (y10), .int (y11), .long (y12), .int (y13), .int (y14), .int (y15), .int (y16)]))) : CMv l D yX1_init cX1_init 5 4 1 3 M [.ref (la), .int (nI m), .int (nI f), .int (nI k), .ref (pa)] (fun M' => ∃ q26, M q26 = none ∧ M' = mset (mset M la (.inr (2, [.int (nI m), .int (nI f), .int (nI k), .ref (pa), .ref (q26), .long (y5), .int (y6), .int (y7), .int (y8), .int (y9), .int (y10), .int (y11), .long (y12), .int (y13), .int (y14), .int (y15), .int (y16)]))) q26 (.inr (0, [.int (nI 0), .ref (rT0 D), .int (nI 0)]))) := by
  refine rM (lv0 := [some (.ref (la)), some (.int (nI m)), some (.int (nI f)), some (.int (nI k)), some (.ref (pa))]) (by decide) rfl rfl (Nat.le_of_ble_eq_true rfl) (fun P0 E0 S0 m0 as0 bl0 mt0 c0 A F hrt9 hnm => ?_)
  refine rg_aload_n F (pc := 0) dX1_init_0 rfl ?_
  refine rg_objInit F (pc := 1) q10 q11 q12 dX1_init_1 (Nat.le_of_ble_eq_true rfl) (Nat.le_of_ble_eq_true rfl) ?_
  refine rg_aload_n F (pc := 4) dX1_init_4 rfl ?_
  refine rg_iload_n F (pc := 5) dX1_init_5 rfl ?_
  refine rg_putF F (pc := 6) (ci := 2) (ty := tyX1 0) rfl inX1 tyX1 tyX1_ok nmX1 hm 0 (by decide) q13 (fun _ h9 => h9) rfl (by rw [hnm]; rfl) rfl (tyX1_ok 0 (by decide)) rfl rfl (Nat.le_of_ble_eq_true rfl) dX1_init_6 ?_
  refine rg_mem (M2 := (mset M la (.inr (2, [.int (nI m), .int (y1), .int (y2), va_rf (y3), va_rf (y4), .long (y5), .int (y6), .int (y7), .int (y8), .int (y9), .int (y10), .int (y11), .long (y12), .int (y13), .int (y14), .int (y15), .int (y16)])))) rfl ?_
  refine rg_aload_n F (pc := 9) dX1_init_9 rfl ?_
  refine rg_iload_n F (pc := 10) dX1_init_10 rfl ?_
  refine rg_putF F (pc := 11) (ci := 2) (ty := tyX1 1) rfl inX1 tyX1 tyX1_ok nmX1 mset_eq 1 (by decide) q14 (fun _ h9 => h9) rfl (by rw [hnm]; rfl) rfl (tyX1_ok 1 (by decide)) rfl rfl (Nat.le_of_ble_eq_true rfl) dX1_init_11 ?_
  refine rg_mem (M2 := (mset (mset M la (.inr (2, [.int (nI m), .int (y1), .int (y2), va_rf (y3), va_rf (y4), .long (y5), .int (y6), .int (y7), .int (y8), .int (y9), .int (y10), .int (y11), .long (y12), .int (y13), .int (y14), .int (y15), .int (y16)]))) la (.inr (2, [.int (nI m), .int (nI f), .int (y2), va_rf (y3), va_rf (y4), .long (y5), .int (y6), .int (y7), .int (y8), .int (y9), .int (y10), .int (y11), .long (y12), .int (y13), .int (y14), .int (y15), .int (y16)])))) rfl ?_
  refine rg_mem (M2 := (mset M la (.inr (2, [.int (nI m), .int (nI f), .int (y2), va_rf (y3), va_rf (y4), .long (y5), .int (y6), .int (y7), .int (y8), .int (y9), .int (y10), .int (y11), .long (y12), .int (y13), .int (y14), .int (y15), .int (y16)])))) mset_mset ?_
  refine rg_aload_n F (pc := 14) dX1_init_14 rfl ?_
  refine rg_iload_n F (pc := 15) dX1_init_15 rfl ?_
  refine rg_putF F (pc := 16) (ci := 2) (ty := tyX1 2) rfl inX1 tyX1 tyX1_ok nmX1 mset_eq 2 (by decide) q15 (fun _ h9 => h9) rfl (by rw [hnm]; rfl) rfl (tyX1_ok 2 (by decide)) rfl rfl (Nat.le_of_ble_eq_true rfl) dX1_init_16 ?_
  refine rg_mem (M2 := (mset (mset M la (.inr (2, [.int (nI m), .int (nI f), .int (y2), va_rf (y3), va_rf (y4), .long (y5), .int (y6), .int (y7), .int (y8), .int (y9), .int (y10), .int (y11), .long (y12), .int (y13), .int (y14), .int (y15), .int (y16)]))) la (.inr (2, [.int (nI m), .int (nI f), .int (nI k), va_rf (y3), va_rf (y4), .long (y5), .int (y6), .int (y7), .int (y8), .int (y9), .int (y10), .int (y11), .long (y12), .int (y13), .int (y14), .int (y15), .int (y16)])))) rfl ?_
  refine rg_mem (M2 := (mset M la (.inr (2, [.int (nI m), .int (nI f), .int (nI k), va_rf (y3), va_rf (y4), .long (y5), .int (y6), .int (y7), .int (y8), .int (y9), .int (y10), .int (y11), .long (y12), .int (y13), .int (y14), .int (y15), .int (y16)])))) mset_mset ?_
  refine rg_aload_n F (pc := 19) dX1_init_19 rfl ?_
  refine rg_aload F (pc := 20) dX1_init_20 rfl ?_
  refine rg_putF F (pc := 22) (ci := 2) (ty := tyX1 3) rfl inX1 tyX1 tyX1_ok nmX1 mset_eq 3 (by decide) q16 (fun _ h9 => h9) rfl (by rw [hnm]; rfl) rfl (tyX1_ok 3 (by decide)) rfl rfl (Nat.le_of_ble_eq_true rfl) dX1_init_22 ?_
  refine rg_mem (M2 := (mset (mset M la (.inr (2, [.int (nI m), .int (nI f), .int (nI k), va_rf (y3), va_rf (y4), .long (y5), .int (y6), .int (y7), .int (y8), .int (y9), .int (y10), .int (y11), .long (y12), .int (y13), .int (y14), .int (y15), .int (y16)]))) la (.inr (2, [.int (nI m), .int (nI f), .int (nI k), .ref (pa), va_rf (y4), .long (y5), .int (y6), .int (y7), .int (y8), .int (y9), .int (y10), .int (y11), .long (y12), .int (y13), .int (y14), .int (y15), .int (y16)])))) rfl ?_
  refine rg_mem (M2 := (mset M la (.inr (2, [.int (nI m), .int (nI f), .int (nI k), .ref (pa), va_rf (y4), .long (y5), .int (y6), .int (y7), .int (y8), .int (y9), .int (y10), .int (y11), .long (y12), .int (y13), .int (y14), .int (y15), .int (y16)])))) mset_mset ?_
  refine rg_aload_n F (pc := 25) dX1_init_25 rfl ?_
  refine rg_new F (pc := 26) (ci := 0) (fs := [.int 0, .null, .int 0]) rfl inJx4a65c tyJx4a65c tyJx4a65c_ok (fun j hj => by rcases (show j = 0 ∨ j = 1 ∨ j = 2 by omega) with rfl | rfl | rfl <;> rfl) q17 q18 q19 (Nat.le_of_ble_eq_true rfl) (Nat.le_of_ble_eq_true rfl) dX1_init_26 (fun q26 hq26 => ?_)
  refine rg_widen (k2 := 1) (n2 := 3) (by decide) (by decide) ?_
  refine rg_mem (M2 := (mset (mset M la (.inr (2, [.int (nI m), .int (nI f), .int (nI k), .ref (pa), va_rf (y4), .long (y5), .int (y6), .int (y7), .int (y8), .int (y9), .int (y10), .int (y11), .long (y12), .int (y13), .int (y14), .int (y15), .int (y16)]))) q26 (.inr (0, [.int (nI 0), .null, .int (nI 0)])))) rfl ?_
  refine rg_dup F (pc := 29) dX1_init_29 rfl ?_
  refine rg_callIv F (pc := 30) (As := []) (rest := [.ref (q26), .ref (la)]) (c_listInit l D _ q26 (nI 0) none (nI 0) mset_eq) q21 iq_Jx4a65c_init_da8c8 rfl rfl (Nat.le_of_ble_eq_true rfl) (Nat.le_of_ble_eq_true rfl) (Nat.le_of_ble_eq_true rfl) ⟨(Nat.le_of_ble_eq_true rfl), (Nat.le_of_ble_eq_true rfl)⟩ dX1_init_30 (fun M9 hp => ?_)
  refine rg_mem (M2 := (mset (mset M la (.inr (2, [.int (nI m), .int (nI f), .int (nI k), .ref (pa), va_rf (y4), .long (y5), .int (y6), .int (y7), .int (y8), .int (y9), .int (y10), .int (y11), .long (y12), .int (y13), .int (y14), .int (y15), .int (y16)]))) q26 (.inr (0, [.int (nI 0), .ref (rT0 D), .int (nI 0)])))) (hp.trans mset_mset) ?_
  refine rg_putF F (pc := 33) (ci := 2) (ty := tyX1 4) rfl inX1 tyX1 tyX1_ok nmX1 (mset_keep mset_eq (mne_none hm (mset_none hq26))) 4 (by decide) q20 (fun _ h9 => h9) rfl (by rw [hnm]; rfl) rfl (tyX1_ok 4 (by decide)) rfl rfl (Nat.le_of_ble_eq_true rfl) dX1_init_33 ?_
  refine rg_mem (M2 := (mset (mset (mset M la (.inr (2, [.int (nI m), .int (nI f), .int (nI k), .ref (pa), va_rf (y4), .long (y5), .int (y6), .int (y7), .int (y8), .int (y9), .int (y10), .int (y11), .long (y12), .int (y13), .int (y14), .int (y15), .int (y16)]))) q26 (.inr (0, [.int (nI 0), .ref (rT0 D), .int (nI 0)]))) la (.inr (2, [.int (nI m), .int (nI f), .int (nI k), .ref (pa), .ref (q26), .long (y5), .int (y6), .int (y7), .int (y8), .int (y9), .int (y10), .int (y11), .long (y12), .int (y13), .int (y14), .int (y15), .int (y16)])))) rfl ?_
  refine rg_mem (M2 := (mset (mset M la (.inr (2, [.int (nI m), .int (nI f), .int (nI k), .ref (pa), .ref (q26), .long (y5), .int (y6), .int (y7), .int (y8), .int (y9), .int (y10), .int (y11), .long (y12), .int (y13), .int (y14), .int (y15), .int (y16)]))) q26 (.inr (0, [.int (nI 0), .ref (rT0 D), .int (nI 0)])))) (mset_swap (mne_none hm (mset_none hq26))) ?_
  exact rg_vret F (pc := 36) hrt9 (by decide) (by decide) dX1_init_36 ⟨q26, mset_none hq26, rfl⟩
set_option maxHeartbeats 4000000 in
set_option maxRecDepth 100000 in
theorem c_flowInit (l : Launch) (D : va_G) (M : rMem) (a : Nat) (y0 : Option Nat) (hm : M a = some (.inr (1, [va_rf (y0), .int (nI 0)]))) : CMv l D yX0_init cX0_init 1 2 1 5 M [.ref (a)] (fun M' => ∃ q6, M q6 = none ∧ M' = mset (mset M a (.inr (1, [.ref q6, .int (nI 0)]))) q6 (.inl (D.1 7, (5, .inr (.inl (fun _ => 0)))))) := by
  refine rM (lv0 := [some (.ref (a))]) (by decide) rfl rfl (Nat.le_of_ble_eq_true rfl) (fun P0 E0 S0 m0 as0 bl0 mt0 c0 A F hrt9 hnm => ?_)
  refine rg_aload_n F (pc := 0) dX0_init_0 rfl ?_
  refine rg_objInit F (pc := 1) q210 q11 q12 dX0_init_1 (Nat.le_of_ble_eq_true rfl) (Nat.le_of_ble_eq_true rfl) ?_
  refine rg_aload_n F (pc := 4) dX0_init_4 rfl ?_
  refine rg_iconst F (pc := 5) (v := nI 5) dX0_init_5 (by decide) ?_
  refine rg_newL F (pc := 6) (by omega) (Nat.le_of_ble_eq_true rfl) (Nat.le_of_ble_eq_true rfl) q211 dX0_init_6 (fun q6 hq6 => ?_)
  refine rg_widen (k2 := 1) (n2 := 5) (by decide) (by decide) ?_
  refine rg_putF F (pc := 8) (ci := 1) (ty := tyX0 0) rfl inX0 tyX0 tyX0_ok nmX0 (mset_keep hm (mne_none hm hq6)) 0 (by decide) q167 (fun _ h9 => h9) rfl (by rw [hnm]; rfl) rfl (tyX0_ok 0 (by decide)) rfl rfl (Nat.le_of_ble_eq_true rfl) dX0_init_8 ?_
  refine rg_mem (M2 := (mset (mset M q6 (.inl (D.1 7, (5, .inr (.inl (fun _ => 0)))))) a (.inr (1, [.ref (q6), .int (nI 0)])))) rfl ?_
  exact rg_vret F (pc := 11) hrt9 (by decide) (by decide) dX0_init_11 ⟨q6, hq6, mset_comm (mne_none hm hq6).symm⟩
set_option maxHeartbeats 4000000 in
set_option maxRecDepth 100000 in
theorem c_xInit (l : Launch) (D : va_G) (M : rMem) (x : Nat) (y0 y1 y2 : Option Nat) (hm : M x = some (.inr (4, [va_rf (y0), va_rf (y1), va_rf (y2)]))) : CMv l D yX3_init cX3_init 1 4 4 13 M [.ref (x)] (fun M' => ∃ w1 w2 w3 q6, M w1 = none ∧ M w2 = none ∧ M w3 = none ∧ M q6 = none ∧ w1 ≠ w2 ∧ M' = (mset (mset (mset (mset (mset M w1 (.inr (0, [.int (nI 0), .ref (rT0 D), .int (nI 0)]))) x (.inr (4, [.ref (w1), .ref (w2), .ref (w3)]))) w2 (.inr (0, [.int (nI 0), .ref (rT0 D), .int (nI 0)]))) w3 (.inr (1, [.ref (q6), .int (nI 0)]))) q6 (.inl (D.1 7, (5, .inr (.inl (fun _ => 0))))))) := by
  refine rM (lv0 := [some (.ref (x))]) (by decide) rfl rfl (Nat.le_of_ble_eq_true rfl) (fun P0 E0 S0 m0 as0 bl0 mt0 c0 A F hrt9 hnm => ?_)
  refine rg_aload_n F (pc := 0) dX3_init_0 rfl ?_
  refine rg_objInit F (pc := 1) q200 q11 q12 dX3_init_1 (Nat.le_of_ble_eq_true rfl) (Nat.le_of_ble_eq_true rfl) ?_
  refine rg_aload_n F (pc := 4) dX3_init_4 rfl ?_
  refine rg_new F (pc := 5) (ci := 0) (fs := [.int 0, .null, .int 0]) rfl inJx4a65c tyJx4a65c tyJx4a65c_ok (fun j hj => by rcases (show j = 0 ∨ j = 1 ∨ j = 2 by omega) with rfl | rfl | rfl <;> rfl) q201 q18 q19 (Nat.le_of_ble_eq_true rfl) (Nat.le_of_ble_eq_true rfl) dX3_init_5 (fun w1 hw1 => ?_)
  refine rg_widen (k2 := 1) (n2 := 3) (by decide) (by decide) ?_
  refine rg_mem (M2 := (mset M w1 (.inr (0, [.int (nI 0), .null, .int (nI 0)])))) rfl ?_
  refine rg_dup F (pc := 8) dX3_init_8 rfl ?_
  refine rg_callIv F (pc := 9) (As := []) (rest := [.ref (w1), .ref (x)]) (c_listInit l D _ w1 (nI 0) none (nI 0) mset_eq) q207 iq_Jx4a65c_init_da8c8 rfl rfl (Nat.le_of_ble_eq_true rfl) (Nat.le_of_ble_eq_true rfl) (Nat.le_of_ble_eq_true rfl) ⟨(Nat.le_of_ble_eq_true rfl), (Nat.le_of_ble_eq_true rfl)⟩ dX3_init_9 (fun M9 hp => ?_)
  refine rg_mem (M2 := (mset M w1 (.inr (0, [.int (nI 0), .ref (rT0 D), .int (nI 0)])))) (hp.trans mset_mset) ?_
  refine rg_putF F (pc := 12) (ci := 4) (ty := tyX3 0) rfl inX3 tyX3 tyX3_ok nmX3 (mset_keep hm (mne_none hm hw1)) 0 (by decide) q202 (fun _ h9 => h9) rfl (by rw [hnm]; rfl) rfl (tyX3_ok 0 (by decide)) rfl rfl (Nat.le_of_ble_eq_true rfl) dX3_init_12 ?_
  refine rg_mem (M2 := (mset (mset M w1 (.inr (0, [.int (nI 0), .ref (rT0 D), .int (nI 0)]))) x (.inr (4, [.ref (w1), va_rf (y1), va_rf (y2)])))) rfl ?_
  refine rg_aload_n F (pc := 15) dX3_init_15 rfl ?_
  refine rg_new F (pc := 16) (ci := 0) (fs := [.int 0, .null, .int 0]) rfl inJx4a65c tyJx4a65c tyJx4a65c_ok (fun j hj => by rcases (show j = 0 ∨ j = 1 ∨ j = 2 by omega) with rfl | rfl | rfl <;> rfl) q201 q18 q19 (Nat.le_of_ble_eq_true rfl) (Nat.le_of_ble_eq_true rfl) dX3_init_16 (fun w2 hw2 => ?_)
  refine rg_widen (k2 := 2) (n2 := 6) (by decide) (by decide) ?_
  refine rg_mem (M2 := (mset (mset (mset M w1 (.inr (0, [.int (nI 0), .ref (rT0 D), .int (nI 0)]))) x (.inr (4, [.ref (w1), va_rf (y1), va_rf (y2)]))) w2 (.inr (0, [.int (nI 0), .null, .int (nI 0)])))) rfl ?_
  refine rg_dup F (pc := 19) dX3_init_19 rfl ?_
  refine rg_callIv F (pc := 20) (As := []) (rest := [.ref (w2), .ref (x)]) (c_listInit l D _ w2 (nI 0) none (nI 0) mset_eq) q207 iq_Jx4a65c_init_da8c8 rfl rfl (Nat.le_of_ble_eq_true rfl) (Nat.le_of_ble_eq_true rfl) (Nat.le_of_ble_eq_true rfl) ⟨(Nat.le_of_ble_eq_true rfl), (Nat.le_of_ble_eq_true rfl)⟩ dX3_init_20 (fun M9 hp => ?_)
  refine rg_mem (M2 := (mset (mset (mset M w1 (.inr (0, [.int (nI 0), .ref (rT0 D), .int (nI 0)]))) x (.inr (4, [.ref (w1), va_rf (y1), va_rf (y2)]))) w2 (.inr (0, [.int (nI 0), .ref (rT0 D), .int (nI 0)])))) (hp.trans mset_mset) ?_
  refine rg_putF F (pc := 23) (ci := 4) (ty := tyX3 1) rfl inX3 tyX3 tyX3_ok nmX3 (mset_keep mset_eq (mne_none hm (mset_none (mset_none hw2)))) 1 (by decide) q203 (fun _ h9 => h9) rfl (by rw [hnm]; rfl) rfl (tyX3_ok 1 (by decide)) rfl rfl (Nat.le_of_ble_eq_true rfl) dX3_init_23 ?_
  refine rg_mem (M2 := (mset (mset (mset (mset M w1 (.inr (0, [.int (nI 0), .ref (rT0 D), .int (nI 0)]))) x (.inr (4, [.ref (w1), va_rf (y1), va_rf (y2)]))) w2 (.inr (0, [.int (nI 0), .ref (rT0 D), .int (nI 0)]))) x (.inr (4, [.ref (w1), .ref (w2), va_rf (y2)])))) rfl ?_
  refine rg_mem (M2 := (mset (mset (mset M w1 (.inr (0, [.int (nI 0), .ref (rT0 D), .int (nI 0)]))) x (.inr (4, [.ref (w1), .ref (w2), va_rf (y2)]))) w2 (.inr (0, [.int (nI 0), .ref (rT0 D), .int (nI 0)])))) (mset_swap (mne_none hm (mset_none (mset_none hw2)))) ?_
  refine rg_aload_n F (pc := 26) dX3_init_26 rfl ?_
  refine rg_new F (pc := 27) (ci := 1) (fs := [.null, .int 0]) rfl inX0 tyX0 tyX0_ok (fun j hj => by rcases (show j = 0 ∨ j = 1 by omega) with rfl | rfl <;> rfl) q204 q205 q162 (Nat.le_of_ble_eq_true rfl) (Nat.le_of_ble_eq_true rfl) dX3_init_27 (fun w3 hw3 => ?_)
  refine rg_widen (k2 := 3) (n2 := 8) (by decide) (by decide) ?_
  refine rg_mem (M2 := (mset (mset (mset (mset M w1 (.inr (0, [.int (nI 0), .ref (rT0 D), .int (nI 0)]))) x (.inr (4, [.ref (w1), .ref (w2), va_rf (y2)]))) w2 (.inr (0, [.int (nI 0), .ref (rT0 D), .int (nI 0)]))) w3 (.inr (1, [.null, .int (nI 0)])))) rfl ?_
  refine rg_dup F (pc := 30) dX3_init_30 rfl ?_
  refine rg_callIv F (pc := 31) (As := []) (rest := [.ref (w3), .ref (x)]) (c_flowInit l D _ w3 none mset_eq) q208 iq_X0_init rfl rfl (Nat.le_of_ble_eq_true rfl) (Nat.le_of_ble_eq_true rfl) (Nat.le_of_ble_eq_true rfl) ⟨(Nat.le_of_ble_eq_true rfl), (Nat.le_of_ble_eq_true rfl)⟩ dX3_init_31 (fun M9 hp => ?_)
  refine rg_widen (k2 := 4) (n2 := 13) (by decide) (by decide) ?_
  obtain ⟨q6, hq6, hM9⟩ := hp
  refine rg_mem (M2 := (mset (mset (mset (mset (mset M w1 (.inr (0, [.int (nI 0), .ref (rT0 D), .int (nI 0)]))) x (.inr (4, [.ref (w1), .ref (w2), va_rf (y2)]))) w2 (.inr (0, [.int (nI 0), .ref (rT0 D), .int (nI 0)]))) w3 (.inr (1, [.ref (q6), .int (nI 0)]))) q6 (.inl (D.1 7, (5, .inr (.inl (fun _ => 0))))))) (hM9.trans (by rw [mset_mset])) ?_
  refine rg_putF F (pc := 34) (ci := 4) (ty := tyX3 2) rfl inX3 tyX3 tyX3_ok nmX3 (mset_keep (mset_keep (mset_keep mset_eq (mne_none hm (mset_none (mset_none hw2)))) (mne_none hm (mset_none (mset_none (mset_none hw3))))) (mne_none hm (mset_none (mset_none (mset_none (mset_none hq6)))))) 2 (by decide) q206 (fun _ h9 => h9) rfl (by rw [hnm]; rfl) rfl (tyX3_ok 2 (by decide)) rfl rfl (Nat.le_of_ble_eq_true rfl) dX3_init_34 ?_
  refine rg_mem (M2 := (mset (mset (mset (mset (mset (mset M w1 (.inr (0, [.int (nI 0), .ref (rT0 D), .int (nI 0)]))) x (.inr (4, [.ref (w1), .ref (w2), va_rf (y2)]))) w2 (.inr (0, [.int (nI 0), .ref (rT0 D), .int (nI 0)]))) w3 (.inr (1, [.ref (q6), .int (nI 0)]))) q6 (.inl (D.1 7, (5, .inr (.inl (fun _ => 0)))))) x (.inr (4, [.ref (w1), .ref (w2), .ref (w3)])))) rfl ?_
  refine rg_mem (M2 := (mset (mset (mset (mset (mset M w1 (.inr (0, [.int (nI 0), .ref (rT0 D), .int (nI 0)]))) x (.inr (4, [.ref (w1), .ref (w2), .ref (w3)]))) w2 (.inr (0, [.int (nI 0), .ref (rT0 D), .int (nI 0)]))) w3 (.inr (1, [.ref (q6), .int (nI 0)]))) q6 (.inl (D.1 7, (5, .inr (.inl (fun _ => 0))))))) (by funext q9; by_cases h9 : q9 = x; (rw [h9]; simp [mset, (mne_none hm (mset_none (mset_none hw2))), (mne_none hm (mset_none (mset_none (mset_none hw3)))), (mne_none hm (mset_none (mset_none (mset_none (mset_none hq6)))))]); simp [mset, h9]) ?_
  exact rg_vret F (pc := 37) hrt9 (by decide) (by decide) dX3_init_37 ⟨w1, w2, w3, q6, hw1, (mset_none (mset_none hw2)), (mset_none (mset_none (mset_none hw3))), (mset_none (mset_none (mset_none (mset_none hq6)))), (fun z9 => by subst z9; have h9 := hw2; simp [mset] at h9; split at h9 <;> cases h9), rfl⟩
