set_option maxHeartbeats 4000000 in
set_option maxRecDepth 100000 in
theorem r_taxesWith (l : Launch) (D : va_G) (M : rMem) (m : Nat) (P : Poem) (nW nL : Nat) (ad : Nat → Nat) (Fn : Nat → Nat → Int32) (t lo : Int32) (i p w : Nat) (hV : mV D M m P nW nL ad Fn t lo) (hi : i < nL) (hp9 : p < zC P i) (hw : w < nW) : CMi l D yX4_taxesWith cX4_taxesWith 5 ((some .int)) 5 0 0 M [.ref (m), .int (nI ((8 * i) + p)), .int (nI w)] (fun r M' => r = nI (zTry P i p w nL) ∧ ∃ F' lo', mV D M' m P nW nL ad F' t lo') := by
  obtain ⟨hP, hA, hB⟩ := id hV
  have hn30 := hP.1.1
  have hn10 := hP.2.1
  have hz8 := (hP.2.2 i hi).2.2.2.2.1
  have hcp : zC (zPut P i p w) i = zC P i := zPut_b hp9
  have hPp : zOk (zPut P i p w) nW nL := ⟨hP.1, hP.2.1, fun k hk => zPut_ok (hP.2.2 i hi) (hP.2.2 k hk) hw (Nat.le_of_lt hp9) (by omega)⟩
  refine rM (lv0 := [some (.ref (m)), some (.int (nI ((8 * i) + p))), some (.int (nI w)), none, none]) (by decide) rfl rfl (Nat.le_of_ble_eq_true rfl) (fun P0 E0 S0 m0 as0 bl0 mt0 c0 A F hrt9 hnm => ?_)
  refine rg_aload_n F (pc := 0) dX4_taxesWith_0 rfl ?_
  refine rg_get F (pc := 1) (ci := 5) rfl inX4 hA.1 12 (by decide) q408 (fun _ h9 => h9) rfl dX4_taxesWith_1 ?_
  refine rg_iload_n F (pc := 4) dX4_taxesWith_4 rfl ?_
  refine rm_ld F hA (pc := 5) (q := 9) (j := (8 * i) + p) (x := nI (zR P i p)) (by decide) (show (8 * i) + p < 80 by omega) (hB.2.2.2.2 i (by omega) p (by omega)) dX4_taxesWith_5 ?_
  refine rg_istore_n F (pc := 6) (lv' := [some (.ref (m)), some (.int (nI ((8 * i) + p))), some (.int (nI w)), some (.int (nI (zR P i p))), none]) dX4_taxesWith_6 (Nat.le_of_ble_eq_true rfl) rfl ?_
  refine rg_aload_n F (pc := 7) dX4_taxesWith_7 rfl ?_
  refine rg_get F (pc := 8) (ci := 5) rfl inX4 hA.1 12 (by decide) q408 (fun _ h9 => h9) rfl dX4_taxesWith_8 ?_
  refine rg_iload_n F (pc := 11) dX4_taxesWith_11 rfl ?_
  refine rg_iload_n F (pc := 12) dX4_taxesWith_12 rfl ?_
  refine rm_st F hA (pc := 13) (q := 9) (j := (8 * i) + p) (x := nI w) (by decide) (show (8 * i) + p < 80 by omega) dX4_taxesWith_13 (fun Ms1 hAs1 => ?_)
  have hBp : mB (zPut P i p w) nW nL (sf Fn 9 (upd (Fn 9) ((8 * i) + p) (nI w))) := mB_put hP hB hi hp9
  refine rg_aload_n F (pc := 14) dX4_taxesWith_14 rfl ?_
  refine rg_callVi F (pc := 15) (As := []) (rest := []) (ci := 5) (r_scan l D _ m (zPut P i p w) nW nL ad (sf Fn 9 (upd (Fn 9) ((8 * i) + p) (nI w))) t lo ⟨hPp, hAs1, hBp⟩) q485 vq_X4_scan rfl hAs1.1 rfl rfl (Nat.le_of_ble_eq_true rfl) (Nat.le_of_ble_eq_true rfl) (Nat.le_of_ble_eq_true rfl) ⟨(Nat.le_of_ble_eq_true rfl), (Nat.le_of_ble_eq_true rfl)⟩ dX4_taxesWith_15 (fun r9 M2 hp => ?_)
  refine rg_top (v2 := .int (nI (zTry P i p w nL))) (by rw [hp.1]; rfl) ?_
  obtain ⟨-, F2, hA2, hfe2, hs2⟩ := hp
  have hB2 := hBp.fe hfe2
  have hB3 := mB_put (i := i) (p := p) (w := zR P i p) hPp hB2 hi (by rw [hcp]; exact hp9)
  rw [zPut_put P i p w _ hp9, zPut_same P i p hp9] at hB3
  refine rg_istore F (pc := 18) (lv' := [some (.ref (m)), some (.int (nI ((8 * i) + p))), some (.int (nI w)), some (.int (nI (zR P i p))), some (.int (nI (zTry P i p w nL)))]) dX4_taxesWith_18 (Nat.le_of_ble_eq_true rfl) rfl ?_
  refine rg_aload_n F (pc := 20) dX4_taxesWith_20 rfl ?_
  refine rg_get F (pc := 21) (ci := 5) rfl inX4 hA2.1 12 (by decide) q408 (fun _ h9 => h9) rfl dX4_taxesWith_21 ?_
  refine rg_iload_n F (pc := 24) dX4_taxesWith_24 rfl ?_
  refine rg_iload_n F (pc := 25) dX4_taxesWith_25 rfl ?_
  refine rm_st F hA2 (pc := 26) (q := 9) (j := (8 * i) + p) (x := nI (zR P i p)) (by decide) (show (8 * i) + p < 80 by omega) dX4_taxesWith_26 (fun Ms2 hAs2 => ?_)
  refine rg_iload F (pc := 27) dX4_taxesWith_27 rfl ?_
  exact rg_iret F (pc := 29) hrt9 (by decide) (by decide) dX4_taxesWith_29 ⟨rfl, _, _, hP, hAs2, hB3⟩
