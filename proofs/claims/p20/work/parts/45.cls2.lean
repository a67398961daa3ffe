set_option maxHeartbeats 4000000 in
set_option maxRecDepth 100000 in
theorem c_tw (l : Launch) (D : va_G) (M : rMem) (x : Nat) (P : Poem) (nW nL : Nat) (u : Nat → Nat → Nat) (i p w : Nat) (hV : cV D M x P nW nL u) (hi : i < nL) (hp9 : p < zC P i) (hw : w < nW) : CMi l D yX3_taxesWith cX3_taxesWith 6 ((some .int)) 9 0 0 M [.ref (x), .int (nI i), .int (nI p), .ref (wa u w), .ref (wa u (zR P i p))] (fun r M' => r = nI (zTry P i p w nL) ∧ cV D M' x P nW nL u) := by
  refine rM (lv0 := [some (.ref (x)), some (.int (nI i)), some (.int (nI p)), some (.ref (wa u w)), some (.ref (wa u (zR P i p))), none]) (by decide) rfl rfl (Nat.le_of_ble_eq_true rfl) (fun P0 E0 S0 m0 as0 bl0 mt0 c0 A F hrt9 hnm => ?_)
  have hO := cV_see hV
  obtain ⟨mdw, hLw⟩ := hO.2.2.1
  obtain ⟨mdl, hLl⟩ := hO.2.2.2.1
  have hn30 := hO.1.1.1
  have hn10 := hO.1.2.1
  have hzr := (hO.1.2.2 i hi).2.2.2.2.2 p hp9
  refine rg_aload_n F (pc := 0) dX3_taxesWith_0 rfl ?_
  refine rg_iload_n F (pc := 1) dX3_taxesWith_1 rfl ?_
  refine rg_iload_n F (pc := 2) dX3_taxesWith_2 rfl ?_
  refine rg_aload_n F (pc := 3) dX3_taxesWith_3 rfl ?_
  refine rg_callVv F (pc := 4) (As := [.int (nI i), .int (nI p), .ref (wa u w)]) (rest := []) (ci := 4) (c_pwBV l D _ x P nW nL u i p w hV hi hw hp9) q315 vq_X3_replaceWord rfl hO.2.1 rfl rfl (Nat.le_of_ble_eq_true rfl) (Nat.le_of_ble_eq_true rfl) (Nat.le_of_ble_eq_true rfl) ⟨(Nat.le_of_ble_eq_true rfl), (Nat.le_of_ble_eq_true rfl)⟩ dX3_taxesWith_4 (fun M1 hp => ?_)
  have hO1 := cV_see hp
  obtain ⟨mdw1, hLw1⟩ := hO1.2.2.1
  obtain ⟨mdl1, hLl1⟩ := hO1.2.2.2.1
  have hn301 := hO1.1.1.1
  have hn101 := hO1.1.2.1
  refine rg_aload_n F (pc := 7) dX3_taxesWith_7 rfl ?_
  refine rg_callVi F (pc := 8) (As := []) (rest := []) (ci := 4) (c_allV l D _ x (zPut P i p w) nW nL u hp) q352 vq_X3_allTaxes rfl hO1.2.1 rfl rfl (Nat.le_of_ble_eq_true rfl) (Nat.le_of_ble_eq_true rfl) (Nat.le_of_ble_eq_true rfl) ⟨(Nat.le_of_ble_eq_true rfl), (Nat.le_of_ble_eq_true rfl)⟩ dX3_taxesWith_8 (fun r9 M9 hq => ?_)
  refine rg_top (v2 := .int (nI (zTry P i p w nL))) (by rw [hq.1]; rfl) ?_
  refine rg_mem (M2 := M1) hq.2 ?_
  refine rg_istore F (pc := 11) (lv' := [some (.ref (x)), some (.int (nI i)), some (.int (nI p)), some (.ref (wa u w)), some (.ref (wa u (zR P i p))), some (.int (nI (zTry P i p w nL)))]) dX3_taxesWith_11 (Nat.le_of_ble_eq_true rfl) rfl ?_
  refine rg_aload_n F (pc := 13) dX3_taxesWith_13 rfl ?_
  refine rg_iload_n F (pc := 14) dX3_taxesWith_14 rfl ?_
  refine rg_iload_n F (pc := 15) dX3_taxesWith_15 rfl ?_
  refine rg_aload F (pc := 16) dX3_taxesWith_16 rfl ?_
  refine rg_callVv F (pc := 18) (As := [.int (nI i), .int (nI p), .ref (wa u (zR P i p))]) (rest := []) (ci := 4) (c_pwBV l D _ x (zPut P i p w) nW nL u i p (zR P i p) hp hi hzr (by rw [show zC (zPut P i p w) i = zC P i from zPut_b hp9]; exact hp9)) q315 vq_X3_replaceWord rfl hO1.2.1 rfl rfl (Nat.le_of_ble_eq_true rfl) (Nat.le_of_ble_eq_true rfl) (Nat.le_of_ble_eq_true rfl) ⟨(Nat.le_of_ble_eq_true rfl), (Nat.le_of_ble_eq_true rfl)⟩ dX3_taxesWith_18 (fun M2 hp2 => ?_)
  rw [zPut_put P i p w _ hp9, zPut_same P i p hp9] at hp2
  refine rg_iload F (pc := 21) dX3_taxesWith_21 rfl ?_
  exact rg_iret F (pc := 23) hrt9 (by decide) (by decide) dX3_taxesWith_23 ⟨rfl, hp2⟩
set_option maxHeartbeats 4000000 in
set_option maxRecDepth 100000 in
theorem c_bw (l : Launch) (D : va_G) (M : rMem) (x : Nat) (P : Poem) (nW nL : Nat) (u : Nat → Nat → Nat) (i p : Nat) (hV : cV D M x P nW nL u) (hi : i < nL) (hp9 : p < zC P i) : CMq l D yX3_bestWord cX3_bestWord 9 ((some (.object "RhymeTax$Word"))) 9 0 0 M [.ref (x), .int (nI i), .int (nI p), .ref (wa u (zR P i p))] (fun r M' => r = some (wa u (zBest P i p nL nW)) ∧ cV D M' x P nW nL u) := by
  refine rM (lv0 := [some (.ref (x)), some (.int (nI i)), some (.int (nI p)), some (.ref (wa u (zR P i p))), none, none, none, none, none]) (by decide) rfl rfl (Nat.le_of_ble_eq_true rfl) (fun P0 E0 S0 m0 as0 bl0 mt0 c0 A F hrt9 hnm => ?_)
  have hO := cV_see hV
  obtain ⟨mdw, hLw⟩ := hO.2.2.1
  obtain ⟨mdl, hLl⟩ := hO.2.2.2.1
  have hn30 := hO.1.1.1
  have hn10 := hO.1.2.1
  have hzr := (hO.1.2.2 i hi).2.2.2.2.2 p hp9
  have hz8 := (hO.1.2.2 i hi).2.2.2.2.1
  have hbl := fun w hw => zBst_le (nL := nL) hO.1 hi hp9 hzr w hw
  refine rg_aload_n F (pc := 0) dX3_bestWord_0 rfl ?_
  refine rg_astore F (pc := 1) (lv' := [some (.ref (x)), some (.int (nI i)), some (.int (nI p)), some (.ref (wa u (zR P i p))), some (.ref (wa u (zR P i p))), none, none, none, none]) dX3_bestWord_1 (Nat.le_of_ble_eq_true rfl) rfl ?_
  refine rg_iconst F (pc := 3) (v := nI 0) dX3_bestWord_3 (by decide) ?_
  refine rg_istore F (pc := 4) (lv' := [some (.ref (x)), some (.int (nI i)), some (.int (nI p)), some (.ref (wa u (zR P i p))), some (.ref (wa u (zR P i p))), some (.int (nI 0)), none, none, none]) dX3_bestWord_4 (Nat.le_of_ble_eq_true rfl) rfl ?_
  refine rg_iconst F (pc := 6) (v := nI 0) dX3_bestWord_6 (by decide) ?_
  refine rg_istore F (pc := 7) (lv' := [some (.ref (x)), some (.int (nI i)), some (.int (nI p)), some (.ref (wa u (zR P i p))), some (.ref (wa u (zR P i p))), some (.int (nI 0)), some (.int (nI 0)), none, none]) dX3_bestWord_7 (Nat.le_of_ble_eq_true rfl) rfl ?_
  refine rg_eq (lv2 := [some (.ref (x)), some (.int (nI i)), some (.int (nI p)), some (.ref (wa u (zR P i p))), some (.ref (wa u (zBst P i p nL (zR P i p) 0).2)), some (.int (nI (zLs P i p nL (zR P i p) 0))), some (.int (nI 0)), none, none]) (st2 := []) (pc2 := 9) rfl rfl rfl ?_
  suffices L0 : ∀ (d9 : Nat) (w : Nat) (M1 : rMem) (Q1 : Poem), nW - w < d9 → (w ≤ nW) → (cV D M1 x Q1 nW nL u) → (∀ w2, zPut Q1 i p w2 = zPut P i p w2) → (zC Q1 i = zC P i) → rG P0 l E0 (rR 9 0 0) S0 m0 as0 bl0 mt0 c0 D A 9 (MQ bl0 (va_Qq (fun r M' => r = some (wa u (zBest P i p nL nW)) ∧ cV D M' x P nW nL u) (cB D A) A) as0 S0 0 0 A) M1 0 0 [some (.ref (x)), some (.int (nI i)), some (.int (nI p)), some (.ref (wa u (zR P i p))), some (.ref (wa u (zBst P i p nL (zR P i p) w).2)), some (.int (nI (zLs P i p nL (zR P i p) w))), some (.int (nI w)), none, none] 9 [] from L0 _ 0 _ P (Nat.lt_succ_self _) (Nat.zero_le _) hV (fun _ => rfl) rfl
  intro d9
  induction d9 with
  | zero => intro w M1 Q1 hd9; exact absurd hd9 (Nat.not_lt_zero _)
  | succ d9 ih =>
    intro w M1 Q1 hd9 hw hV1 hq1 hc1
    have hO1 := cV_see hV1
    obtain ⟨mdw1, hLw1⟩ := hO1.2.2.1
    obtain ⟨mdl1, hLl1⟩ := hO1.2.2.2.1
    have hn301 := hO1.1.1.1
    have hn101 := hO1.1.2.1
    have hbw := hbl w hw
    have hls := zLs_le P i p nL (zR P i p) w
    have hln : w ≠ 0 → _ := fun z => zLs_ne P i p nL (zR P i p) w z
    have hlz : w = 0 → (zBst P i p nL (zR P i p) w).1 = 2147483647 := fun z => by subst z; rfl
    refine rg_iload F (pc := 9) dX3_bestWord_9 rfl ?_
    refine rg_aload_n F (pc := 11) dX3_bestWord_11 rfl ?_
    refine rg_get F (pc := 12) (ci := 4) rfl inX3 hO1.2.1 0 (by decide) q202 (fun _ h9 => h9) rfl dX3_bestWord_12 ?_
    refine rg_callVi F (pc := 15) (As := []) (rest := [.int (nI w)]) (ci := 0) (c_size l D _ (gw u) mdw1 (gbw u) nW hLw1.1) q221 vq_Jx4a65c_size_8abf5 rfl hLw1.1 rfl rfl (Nat.le_of_ble_eq_true rfl) (Nat.le_of_ble_eq_true rfl) (Nat.le_of_ble_eq_true rfl) ⟨(Nat.le_of_ble_eq_true rfl), (Nat.le_of_ble_eq_true rfl)⟩ dX3_bestWord_15 (fun r9 M9 hp => ?_)
    refine rg_top (v2 := .int (nI nW)) (by first | (rw [hp.1]; done) | (rw [hp.1]; rfl)) ?_
    refine rg_mem (M2 := M1) hp.2 ?_
    refine rg_ncmp_ge F (pc := 18) (tgt := 75) dX3_bestWord_18 (by decide) (by omega) (by omega) (fun c18 => ?_) (fun c18 => ?_)
    · refine rg_aload_n F (pc := 75) dX3_bestWord_75 rfl ?_
      refine rg_iload_n F (pc := 76) dX3_bestWord_76 rfl ?_
      refine rg_iload_n F (pc := 77) dX3_bestWord_77 rfl ?_
      refine rg_aload_n F (pc := 78) dX3_bestWord_78 rfl ?_
      refine rg_callVv F (pc := 79) (As := [.int (nI i), .int (nI p), .ref (wa u (zR P i p))]) (rest := []) (ci := 4) (c_pwBV l D _ x Q1 nW nL u i p (zR P i p) hV1 hi hzr (by rw [hc1]; exact hp9)) q315 vq_X3_replaceWord rfl hO1.2.1 rfl rfl (Nat.le_of_ble_eq_true rfl) (Nat.le_of_ble_eq_true rfl) (Nat.le_of_ble_eq_true rfl) ⟨(Nat.le_of_ble_eq_true rfl), (Nat.le_of_ble_eq_true rfl)⟩ dX3_bestWord_79 (fun M2 hp => ?_)
      rw [hq1, zPut_same P i p hp9] at hp
      refine rg_aload F (pc := 82) dX3_bestWord_82 rfl ?_
      have e9 : w = nW := by omega
      exact rg_aret F (pc := 84) (some (wa u (zBst P i p nL (zR P i p) w).2)) rfl hrt9 (Or.inl ⟨_, rfl⟩) (by decide) (by decide) dX3_bestWord_84 ⟨by rw [e9]; rfl, hp⟩
    · refine rg_aload_n F (pc := 21) dX3_bestWord_21 rfl ?_
      refine rg_get F (pc := 22) (ci := 4) rfl inX3 hO1.2.1 0 (by decide) q202 (fun _ h9 => h9) rfl dX3_bestWord_22 ?_
      refine rg_iload F (pc := 25) dX3_bestWord_25 rfl ?_
      refine rg_callVq F (pc := 27) (As := [.int (nI w)]) (rest := []) (ci := 0) (c_lget l D _ (gw u) mdw1 (gbw u) nW (wa u) w hLw1 (by omega)) q237 vq_Jx4a65c_get_915e3 rfl hLw1.1 rfl rfl (Nat.le_of_ble_eq_true rfl) (Nat.le_of_ble_eq_true rfl) (Nat.le_of_ble_eq_true rfl) ⟨(Nat.le_of_ble_eq_true rfl), (Nat.le_of_ble_eq_true rfl)⟩ dX3_bestWord_27 (fun r9 M9 hp => ?_)
      refine rg_top (v2 := .ref (wa u w)) (by rw [hp.1]; rfl) ?_
      refine rg_mem (M2 := M1) hp.2 ?_
      refine rg_cast F (pc := 30) (ci := 3) rfl (hO1.2.2.2.2.1 w (by omega)) q232 dX3_bestWord_30 ?_
      refine rg_astore F (pc := 33) (lv' := [some (.ref (x)), some (.int (nI i)), some (.int (nI p)), some (.ref (wa u (zR P i p))), some (.ref (wa u (zBst P i p nL (zR P i p) w).2)), some (.int (nI (zLs P i p nL (zR P i p) w))), some (.int (nI w)), some (.ref (wa u w)), none]) dX3_bestWord_33 (Nat.le_of_ble_eq_true rfl) rfl ?_
      refine rg_aload_n F (pc := 35) dX3_bestWord_35 rfl ?_
      refine rg_iload_n F (pc := 36) dX3_bestWord_36 rfl ?_
      refine rg_iload_n F (pc := 37) dX3_bestWord_37 rfl ?_
      refine rg_aload F (pc := 38) dX3_bestWord_38 rfl ?_
      refine rg_callVv F (pc := 40) (As := [.int (nI i), .int (nI p), .ref (wa u w)]) (rest := []) (ci := 4) (c_pwBV l D _ x Q1 nW nL u i p w hV1 hi (by omega) (by rw [hc1]; exact hp9)) q315 vq_X3_replaceWord rfl hO1.2.1 rfl rfl (Nat.le_of_ble_eq_true rfl) (Nat.le_of_ble_eq_true rfl) (Nat.le_of_ble_eq_true rfl) ⟨(Nat.le_of_ble_eq_true rfl), (Nat.le_of_ble_eq_true rfl)⟩ dX3_bestWord_40 (fun M2 hp => ?_)
      have hO2 := cV_see hp
      obtain ⟨mdw2, hLw2⟩ := hO2.2.2.1
      obtain ⟨mdl2, hLl2⟩ := hO2.2.2.2.1
      have hn302 := hO2.1.1.1
      have hn102 := hO2.1.2.1
      refine rg_aload_n F (pc := 43) dX3_bestWord_43 rfl ?_
      refine rg_callVi F (pc := 44) (As := []) (rest := []) (ci := 4) (c_allV l D _ x (zPut Q1 i p w) nW nL u hp) q352 vq_X3_allTaxes rfl hO2.2.1 rfl rfl (Nat.le_of_ble_eq_true rfl) (Nat.le_of_ble_eq_true rfl) (Nat.le_of_ble_eq_true rfl) ⟨(Nat.le_of_ble_eq_true rfl), (Nat.le_of_ble_eq_true rfl)⟩ dX3_bestWord_44 (fun r9 M9 hq => ?_)
      refine rg_top (v2 := .int (nI (zTry P i p w nL))) (by rw [hq.1, hq1]; rfl) ?_
      refine rg_mem (M2 := M2) hq.2 ?_
      have htr : zTry P i p w nL ≤ 2000 := zTry_le hO.1 hi hp9 (by omega)
      refine rg_istore F (pc := 47) (lv' := [some (.ref (x)), some (.int (nI i)), some (.int (nI p)), some (.ref (wa u (zR P i p))), some (.ref (wa u (zBst P i p nL (zR P i p) w).2)), some (.int (nI (zLs P i p nL (zR P i p) w))), some (.int (nI w)), some (.ref (wa u w)), some (.int (nI (zTry P i p w nL)))]) dX3_bestWord_47 (Nat.le_of_ble_eq_true rfl) rfl ?_
      refine rg_iload F (pc := 49) dX3_bestWord_49 rfl ?_
      refine rg_nif_eq F (pc := 51) (tgt := 61) dX3_bestWord_51 (by decide) (by omega) (fun c51 => ?_) (fun c51 => ?_)
      · refine rg_iload F (pc := 61) dX3_bestWord_61 rfl ?_
        refine rg_istore F (pc := 63) (lv' := [some (.ref (x)), some (.int (nI i)), some (.int (nI p)), some (.ref (wa u (zR P i p))), some (.ref (wa u (zBst P i p nL (zR P i p) w).2)), some (.int (nI (zTry P i p w nL))), some (.int (nI w)), some (.ref (wa u w)), some (.int (nI (zTry P i p w nL)))]) dX3_bestWord_63 (Nat.le_of_ble_eq_true rfl) rfl ?_
        refine rg_aload F (pc := 65) dX3_bestWord_65 rfl ?_
        refine rg_astore F (pc := 67) (lv' := [some (.ref (x)), some (.int (nI i)), some (.int (nI p)), some (.ref (wa u (zR P i p))), some (.ref (wa u w)), some (.int (nI (zTry P i p w nL))), some (.int (nI w)), some (.ref (wa u w)), some (.int (nI (zTry P i p w nL)))]) dX3_bestWord_67 (Nat.le_of_ble_eq_true rfl) rfl ?_
        have eb : (zBst P i p nL (zR P i p) (w + 1)) = (zTry P i p w nL, w) := if_pos (by omega)
        have el : zLs P i p nL (zR P i p) (w + 1) = zTry P i p w nL := (congrArg Prod.fst eb)
        refine rg_eq (lv2 := [some (.ref (x)), some (.int (nI i)), some (.int (nI p)), some (.ref (wa u (zR P i p))), some (.ref (wa u (zBst P i p nL (zR P i p) (w + 1)).2)), some (.int (nI (zLs P i p nL (zR P i p) (w + 1)))), some (.int (nI w)), some (.ref (wa u w)), some (.int (nI (zTry P i p w nL)))]) (st2 := []) (pc2 := 69) (by rw [eb, el]) rfl rfl ?_
        refine rg_sub (lv' := [some (.ref (x)), some (.int (nI i)), some (.int (nI p)), some (.ref (wa u (zR P i p))), some (.ref (wa u (zBst P i p nL (zR P i p) (w + 1)).2)), some (.int (nI (zLs P i p nL (zR P i p) (w + 1)))), some (.int (nI w)), none, none]) (by repeat' constructor) ?_
        refine rg_iinc F (pc := 69) (v := nI (w + 1)) (lv' := [some (.ref (x)), some (.int (nI i)), some (.int (nI p)), some (.ref (wa u (zR P i p))), some (.ref (wa u (zBst P i p nL (zR P i p) (w + 1)).2)), some (.int (nI (zLs P i p nL (zR P i p) (w + 1)))), some (.int (nI (w + 1))), none, none]) dX3_bestWord_69 rfl (nI_add _ 1) (Nat.le_of_ble_eq_true rfl) rfl ?_
        refine rg_goto F (pc := 72) (tgt := 9) dX3_bestWord_72 (by decide) ?_
        exact ih (w + 1) _ (zPut Q1 i p w) (by omega) (by omega) hp (fun w2 => by rw [zPut_put Q1 i p w w2 (by rw [hc1]; exact hp9), hq1]) ((show zC (zPut Q1 i p w) i = zC Q1 i from zPut_b (by rw [hc1]; exact hp9)).trans hc1)
      · refine rg_iload F (pc := 54) dX3_bestWord_54 rfl ?_
        refine rg_iload F (pc := 56) dX3_bestWord_56 rfl ?_
        refine rg_ncmp_ge F (pc := 58) (tgt := 69) dX3_bestWord_58 (by decide) (by omega) (by omega) (fun c58 => ?_) (fun c58 => ?_)
        · have eb : (zBst P i p nL (zR P i p) (w + 1)) = zBst P i p nL (zR P i p) w := if_neg (by omega)
          have el : zLs P i p nL (zR P i p) (w + 1) = zLs P i p nL (zR P i p) w := (congrArg Prod.fst eb).trans (hln (by omega)).symm
          refine rg_eq (lv2 := [some (.ref (x)), some (.int (nI i)), some (.int (nI p)), some (.ref (wa u (zR P i p))), some (.ref (wa u (zBst P i p nL (zR P i p) (w + 1)).2)), some (.int (nI (zLs P i p nL (zR P i p) (w + 1)))), some (.int (nI w)), some (.ref (wa u w)), some (.int (nI (zTry P i p w nL)))]) (st2 := []) (pc2 := 69) (by rw [eb, el]) rfl rfl ?_
          refine rg_sub (lv' := [some (.ref (x)), some (.int (nI i)), some (.int (nI p)), some (.ref (wa u (zR P i p))), some (.ref (wa u (zBst P i p nL (zR P i p) (w + 1)).2)), some (.int (nI (zLs P i p nL (zR P i p) (w + 1)))), some (.int (nI w)), none, none]) (by repeat' constructor) ?_
          refine rg_iinc F (pc := 69) (v := nI (w + 1)) (lv' := [some (.ref (x)), some (.int (nI i)), some (.int (nI p)), some (.ref (wa u (zR P i p))), some (.ref (wa u (zBst P i p nL (zR P i p) (w + 1)).2)), some (.int (nI (zLs P i p nL (zR P i p) (w + 1)))), some (.int (nI (w + 1))), none, none]) dX3_bestWord_69 rfl (nI_add _ 1) (Nat.le_of_ble_eq_true rfl) rfl ?_
          refine rg_goto F (pc := 72) (tgt := 9) dX3_bestWord_72 (by decide) ?_
          exact ih (w + 1) _ (zPut Q1 i p w) (by omega) (by omega) hp (fun w2 => by rw [zPut_put Q1 i p w w2 (by rw [hc1]; exact hp9), hq1]) ((show zC (zPut Q1 i p w) i = zC Q1 i from zPut_b (by rw [hc1]; exact hp9)).trans hc1)
        · refine rg_iload F (pc := 61) dX3_bestWord_61 rfl ?_
          refine rg_istore F (pc := 63) (lv' := [some (.ref (x)), some (.int (nI i)), some (.int (nI p)), some (.ref (wa u (zR P i p))), some (.ref (wa u (zBst P i p nL (zR P i p) w).2)), some (.int (nI (zTry P i p w nL))), some (.int (nI w)), some (.ref (wa u w)), some (.int (nI (zTry P i p w nL)))]) dX3_bestWord_63 (Nat.le_of_ble_eq_true rfl) rfl ?_
          refine rg_aload F (pc := 65) dX3_bestWord_65 rfl ?_
          refine rg_astore F (pc := 67) (lv' := [some (.ref (x)), some (.int (nI i)), some (.int (nI p)), some (.ref (wa u (zR P i p))), some (.ref (wa u w)), some (.int (nI (zTry P i p w nL))), some (.int (nI w)), some (.ref (wa u w)), some (.int (nI (zTry P i p w nL)))]) dX3_bestWord_67 (Nat.le_of_ble_eq_true rfl) rfl ?_
          have eb : (zBst P i p nL (zR P i p) (w + 1)) = (zTry P i p w nL, w) := if_pos (by omega)
          have el : zLs P i p nL (zR P i p) (w + 1) = zTry P i p w nL := (congrArg Prod.fst eb)
          refine rg_eq (lv2 := [some (.ref (x)), some (.int (nI i)), some (.int (nI p)), some (.ref (wa u (zR P i p))), some (.ref (wa u (zBst P i p nL (zR P i p) (w + 1)).2)), some (.int (nI (zLs P i p nL (zR P i p) (w + 1)))), some (.int (nI w)), some (.ref (wa u w)), some (.int (nI (zTry P i p w nL)))]) (st2 := []) (pc2 := 69) (by rw [eb, el]) rfl rfl ?_
          refine rg_sub (lv' := [some (.ref (x)), some (.int (nI i)), some (.int (nI p)), some (.ref (wa u (zR P i p))), some (.ref (wa u (zBst P i p nL (zR P i p) (w + 1)).2)), some (.int (nI (zLs P i p nL (zR P i p) (w + 1)))), some (.int (nI w)), none, none]) (by repeat' constructor) ?_
          refine rg_iinc F (pc := 69) (v := nI (w + 1)) (lv' := [some (.ref (x)), some (.int (nI i)), some (.int (nI p)), some (.ref (wa u (zR P i p))), some (.ref (wa u (zBst P i p nL (zR P i p) (w + 1)).2)), some (.int (nI (zLs P i p nL (zR P i p) (w + 1)))), some (.int (nI (w + 1))), none, none]) dX3_bestWord_69 rfl (nI_add _ 1) (Nat.le_of_ble_eq_true rfl) rfl ?_
          refine rg_goto F (pc := 72) (tgt := 9) dX3_bestWord_72 (by decide) ?_
          exact ih (w + 1) _ (zPut Q1 i p w) (by omega) (by omega) hp (fun w2 => by rw [zPut_put Q1 i p w w2 (by rw [hc1]; exact hp9), hq1]) ((show zC (zPut Q1 i p w) i = zC Q1 i from zPut_b (by rw [hc1]; exact hp9)).trans hc1)
