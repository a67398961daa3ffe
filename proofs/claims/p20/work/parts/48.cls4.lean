set_option maxHeartbeats 4000000 in
set_option maxRecDepth 100000 in
theorem c_uses (l : Launch) (D : va_G) (M : rMem) (x : Nat) (P : Poem) (nW nL : Nat) (u : Nat → Nat → Nat) (w : Nat) (hV : cV D M x P nW nL u) (hw : w < nW) : CMi l D yX3_usesOf cX3_usesOf 4 ((some .int)) 5 0 0 M [.ref (x), .ref (wa u w)] (fun r M' => r = nI (zUses P w nL) ∧ M' = M) := by
  refine rM (lv0 := [some (.ref (x)), some (.ref (wa u w)), none, none]) (by decide) rfl rfl (Nat.le_of_ble_eq_true rfl) (fun P0 E0 S0 m0 as0 bl0 mt0 c0 A F hrt9 hnm => ?_)
  have hO := cV_see hV
  obtain ⟨mdw, hLw⟩ := hO.2.2.1
  obtain ⟨mdl, hLl⟩ := hO.2.2.2.1
  have hn30 := hO.1.1.1
  have hn10 := hO.1.2.1
  refine rg_iconst F (pc := 0) (v := nI 0) dX3_usesOf_0 (by decide) ?_
  refine rg_istore_n F (pc := 1) (lv' := [some (.ref (x)), some (.ref (wa u w)), some (.int (nI 0)), none]) dX3_usesOf_1 (Nat.le_of_ble_eq_true rfl) rfl ?_
  refine rg_iconst F (pc := 2) (v := nI 0) dX3_usesOf_2 (by decide) ?_
  refine rg_istore_n F (pc := 3) (lv' := [some (.ref (x)), some (.ref (wa u w)), some (.int (nI 0)), some (.int (nI 0))]) dX3_usesOf_3 (Nat.le_of_ble_eq_true rfl) rfl ?_
  refine rg_eq (lv2 := [some (.ref (x)), some (.ref (wa u w)), some (.int (nI (zUses P w 0))), some (.int (nI 0))]) (st2 := []) (pc2 := 4) rfl rfl rfl ?_
  suffices L0 : ∀ (d9 : Nat) (i : Nat), nL - i < d9 → (i ≤ nL) → rG P0 l E0 (rR 5 0 0) S0 m0 as0 bl0 mt0 c0 D A 4 (MQ bl0 (va_Qi (fun r M' => r = nI (zUses P w nL) ∧ M' = M) (cB D A) A) as0 S0 0 0 A) M 0 0 [some (.ref (x)), some (.ref (wa u w)), some (.int (nI (zUses P w i))), some (.int (nI i))] 4 [] from L0 _ 0 (Nat.lt_succ_self _) (Nat.zero_le _)
  intro d9
  induction d9 with
  | zero => intro i hd9; exact absurd hd9 (Nat.not_lt_zero _)
  | succ d9 ih =>
    intro i hd9 hi1
    have hul := zUses_le hO.1 w i hi1
    refine rg_iload_n F (pc := 4) dX3_usesOf_4 rfl ?_
    refine rg_aload_n F (pc := 5) dX3_usesOf_5 rfl ?_
    refine rg_get F (pc := 6) (ci := 4) rfl inX3 hO.2.1 1 (by decide) q203 (fun _ h9 => h9) rfl dX3_usesOf_6 ?_
    refine rg_callVi F (pc := 9) (As := []) (rest := [.int (nI i)]) (ci := 0) (c_size l D _ (gl u) mdl (gbl u) nL hLl.1) q221 vq_Jx4a65c_size_8abf5 rfl hLl.1 rfl rfl (Nat.le_of_ble_eq_true rfl) (Nat.le_of_ble_eq_true rfl) (Nat.le_of_ble_eq_true rfl) ⟨(Nat.le_of_ble_eq_true rfl), (Nat.le_of_ble_eq_true rfl)⟩ dX3_usesOf_9 (fun r9 M9 hp => ?_)
    refine rg_top (v2 := .int (nI nL)) (by first | (rw [hp.1]; done) | (rw [hp.1]; rfl)) ?_
    refine rg_mem (M2 := M) hp.2 ?_
    refine rg_ncmp_ge F (pc := 12) (tgt := 39) dX3_usesOf_12 (by decide) (by omega) (by omega) (fun c12 => ?_) (fun c12 => ?_)
    · refine rg_iload_n F (pc := 39) dX3_usesOf_39 rfl ?_
      have e9 : i = nL := by omega
      exact rg_iret F (pc := 40) hrt9 (by decide) (by decide) dX3_usesOf_40 ⟨by rw [e9], rfl⟩
    · refine rg_iload_n F (pc := 15) dX3_usesOf_15 rfl ?_
      refine rg_aload_n F (pc := 16) dX3_usesOf_16 rfl ?_
      refine rg_get F (pc := 17) (ci := 4) rfl inX3 hO.2.1 1 (by decide) q203 (fun _ h9 => h9) rfl dX3_usesOf_17 ?_
      refine rg_iload_n F (pc := 20) dX3_usesOf_20 rfl ?_
      refine rg_callVq F (pc := 21) (As := [.int (nI i)]) (rest := [.int (nI (zUses P w i))]) (ci := 0) (c_lget l D _ (gl u) mdl (gbl u) nL (la u) i hLl (by omega)) q237 vq_Jx4a65c_get_915e3 rfl hLl.1 rfl rfl (Nat.le_of_ble_eq_true rfl) (Nat.le_of_ble_eq_true rfl) (Nat.le_of_ble_eq_true rfl) ⟨(Nat.le_of_ble_eq_true rfl), (Nat.le_of_ble_eq_true rfl)⟩ dX3_usesOf_21 (fun r9 M9 hp => ?_)
      refine rg_top (v2 := .ref (la u i)) (by rw [hp.1]; rfl) ?_
      refine rg_mem (M2 := M) hp.2 ?_
      refine rg_cast F (pc := 24) (ci := 2) rfl (hO.2.2.2.2.2.2.1 i (by omega)) q295 dX3_usesOf_24 ?_
      refine rg_aload_n F (pc := 27) dX3_usesOf_27 rfl ?_
      refine rg_callVi F (pc := 28) (As := [.ref (wa u w)]) (rest := [.int (nI (zUses P w i))]) (ci := 2) (c_ulV l D _ x P nW nL u i w hV (by omega) hw) q240 vq_X1_usesOf rfl (hO.2.2.2.2.2.2.1 i (by omega)) rfl rfl (Nat.le_of_ble_eq_true rfl) (Nat.le_of_ble_eq_true rfl) (Nat.le_of_ble_eq_true rfl) ⟨(Nat.le_of_ble_eq_true rfl), (Nat.le_of_ble_eq_true rfl)⟩ dX3_usesOf_28 (fun r9 M9 hp => ?_)
      refine rg_top (v2 := .int (nI (zUse P i w (zC P i)))) (by first | (rw [hp.1]; done) | (rw [hp.1]; rfl)) ?_
      refine rg_mem (M2 := M) hp.2 ?_
      refine rg_iadd F (pc := 31) (v := nI (zUses P w (i + 1))) dX3_usesOf_31 (nI_add _ _) ?_
      refine rg_istore_n F (pc := 32) (lv' := [some (.ref (x)), some (.ref (wa u w)), some (.int (nI (zUses P w (i + 1)))), some (.int (nI i))]) dX3_usesOf_32 (Nat.le_of_ble_eq_true rfl) rfl ?_
      refine rg_iinc F (pc := 33) (v := nI (i + 1)) (lv' := [some (.ref (x)), some (.ref (wa u w)), some (.int (nI (zUses P w (i + 1)))), some (.int (nI (i + 1)))]) dX3_usesOf_33 rfl (nI_add _ 1) (Nat.le_of_ble_eq_true rfl) rfl ?_
      refine rg_goto F (pc := 36) (tgt := 4) dX3_usesOf_36 (by decide) ?_
      exact ih (i + 1) (by omega) (by omega)
set_option maxHeartbeats 4000000 in
set_option maxRecDepth 100000 in
theorem c_aboutW (l : Launch) (D : va_G) (M : rMem) (x : Nat) (P : Poem) (nW nL : Nat) (u : Nat → Nat → Nat) (w what : Nat) (hV : cV D M x P nW nL u) (hw : w < nW) (hwt : what < 6) : CMi l D yX3_aboutWord cX3_aboutWord 3 ((some .int)) 6 0 0 M [.ref (x), .ref (wa u w), .int (nI what)] (fun r M' => r = nI (zAbout P nL w what) ∧ M' = M) := by
  refine rM (lv0 := [some (.ref (x)), some (.ref (wa u w)), some (.int (nI what))]) (by decide) rfl rfl (Nat.le_of_ble_eq_true rfl) (fun P0 E0 S0 m0 as0 bl0 mt0 c0 A F hrt9 hnm => ?_)
  have hO := cV_see hV
  obtain ⟨mdw, hLw⟩ := hO.2.2.1
  obtain ⟨mdl, hLl⟩ := hO.2.2.2.1
  have hn30 := hO.1.1.1
  have hn10 := hO.1.2.1
  have hoo := (hO.1.1.2 w hw).2.2.2.2.2
  refine rg_iload_n F (pc := 0) dX3_aboutWord_0 rfl ?_
  rcases (show what = 0 ∨ what = 1 ∨ what = 2 ∨ what = 3 ∨ what = 4 ∨ what = 5 by omega) with rfl | rfl | rfl | rfl | rfl | rfl
  · refine rg_tab F (pc := 1) (off := 35) (tgt := 36) dX3_aboutWord_1 (by decide) (by decide) (by decide) (by decide) ?_
    refine rg_aload_n F (pc := 36) dX3_aboutWord_36 rfl ?_
    refine rg_get F (pc := 37) (ci := 3) rfl inX2 (hO.2.2.2.2.1 w hw) 1 (by decide) q244 (fun _ h9 => h9) rfl dX3_aboutWord_37 ?_
    exact rg_iret F (pc := 40) hrt9 (by decide) (by decide) dX3_aboutWord_40 ⟨rfl, rfl⟩
  · refine rg_tab F (pc := 1) (off := 40) (tgt := 41) dX3_aboutWord_1 (by decide) (by decide) (by decide) (by decide) ?_
    refine rg_aload_n F (pc := 41) dX3_aboutWord_41 rfl ?_
    refine rg_get F (pc := 42) (ci := 3) rfl inX2 (hO.2.2.2.2.1 w hw) 2 (by decide) q245 (fun _ h9 => h9) rfl dX3_aboutWord_42 ?_
    exact rg_iret F (pc := 45) hrt9 (by decide) (by decide) dX3_aboutWord_45 ⟨rfl, rfl⟩
  · refine rg_tab F (pc := 1) (off := 45) (tgt := 46) dX3_aboutWord_1 (by decide) (by decide) (by decide) (by decide) ?_
    refine rg_aload_n F (pc := 46) dX3_aboutWord_46 rfl ?_
    refine rg_get F (pc := 47) (ci := 3) rfl inX2 (hO.2.2.2.2.1 w hw) 3 (by decide) q246 (fun _ h9 => h9) rfl dX3_aboutWord_47 ?_
    exact rg_iret F (pc := 50) hrt9 (by decide) (by decide) dX3_aboutWord_50 ⟨rfl, rfl⟩
  · refine rg_tab F (pc := 1) (off := 50) (tgt := 51) dX3_aboutWord_1 (by decide) (by decide) (by decide) (by decide) ?_
    refine rg_aload_n F (pc := 51) dX3_aboutWord_51 rfl ?_
    refine rg_get F (pc := 52) (ci := 3) rfl inX2 (hO.2.2.2.2.1 w hw) 4 (by decide) q247 (fun _ h9 => h9) rfl dX3_aboutWord_52 ?_
    exact rg_iret F (pc := 55) hrt9 (by decide) (by decide) dX3_aboutWord_55 ⟨rfl, rfl⟩
  · refine rg_tab F (pc := 1) (off := 55) (tgt := 56) dX3_aboutWord_1 (by decide) (by decide) (by decide) (by decide) ?_
    refine rg_aload_n F (pc := 56) dX3_aboutWord_56 rfl ?_
    refine rg_get F (pc := 57) (ci := 3) rfl inX2 (hO.2.2.2.2.1 w hw) 5 (by decide) q248 (fun _ h9 => h9) rfl dX3_aboutWord_57 ?_
    refine rg_nif_eq F (pc := 60) (tgt := 67) dX3_aboutWord_60 (by decide) (by omega) (fun c60 => ?_) (fun c60 => ?_)
    · refine rg_iconst F (pc := 67) (v := nI 0) dX3_aboutWord_67 (by decide) ?_
      exact rg_iret F (pc := 68) hrt9 (by decide) (by decide) dX3_aboutWord_68 ⟨by rw [show zAbout P nL w 4 = 0 from (by show zO P w = _; omega)], rfl⟩
    · refine rg_iconst F (pc := 63) (v := nI 1) dX3_aboutWord_63 (by decide) ?_
      refine rg_goto F (pc := 64) (tgt := 68) dX3_aboutWord_64 (by decide) ?_
      exact rg_iret F (pc := 68) hrt9 (by decide) (by decide) dX3_aboutWord_68 ⟨by rw [show zAbout P nL w 4 = 1 from (by show zO P w = _; omega)], rfl⟩
  · refine rg_tabO F (pc := 1) (tgt := 69) dX3_aboutWord_1 (by decide) (by decide) ?_
    refine rg_aload_n F (pc := 69) dX3_aboutWord_69 rfl ?_
    refine rg_aload_n F (pc := 70) dX3_aboutWord_70 rfl ?_
    refine rg_callVi F (pc := 71) (As := [.ref (wa u w)]) (rest := []) (ci := 4) (c_uses l D _ x P nW nL u w hV hw) q249 vq_X3_usesOf rfl hO.2.1 rfl rfl (Nat.le_of_ble_eq_true rfl) (Nat.le_of_ble_eq_true rfl) (Nat.le_of_ble_eq_true rfl) ⟨(Nat.le_of_ble_eq_true rfl), (Nat.le_of_ble_eq_true rfl)⟩ dX3_aboutWord_71 (fun r9 M9 hp => ?_)
    refine rg_top (v2 := .int (nI (zUses P w nL))) (by first | (rw [hp.1]; done) | (rw [hp.1]; rfl)) ?_
    refine rg_mem (M2 := M) hp.2 ?_
    exact rg_iret F (pc := 74) hrt9 (by decide) (by decide) dX3_aboutWord_74 ⟨rfl, rfl⟩
set_option maxHeartbeats 4000000 in
set_option maxRecDepth 100000 in
theorem c_about (l : Launch) (D : va_G) (M : rMem) (x : Nat) (P : Poem) (nW nL : Nat) (u : Nat → Nat → Nat) (w what : Nat) (hV : cV D M x P nW nL u) (hw : w < nW) (hwt : what < 6) : CMi l D yX3_about cX3_about 4 ((some .int)) 7 0 0 M [.ref (x), .int (nI w), .int (nI what)] (fun r M' => r = nI (zAbout P nL w what) ∧ M' = M) := by
  refine rM (lv0 := [some (.ref (x)), some (.int (nI w)), some (.int (nI what)), none]) (by decide) rfl rfl (Nat.le_of_ble_eq_true rfl) (fun P0 E0 S0 m0 as0 bl0 mt0 c0 A F hrt9 hnm => ?_)
  have hO := cV_see hV
  obtain ⟨mdw, hLw⟩ := hO.2.2.1
  obtain ⟨mdl, hLl⟩ := hO.2.2.2.1
  have hn30 := hO.1.1.1
  have hn10 := hO.1.2.1
  refine rg_aload_n F (pc := 0) dX3_about_0 rfl ?_
  refine rg_iload_n F (pc := 1) dX3_about_1 rfl ?_
  refine rg_callVq F (pc := 2) (As := [.int (nI w)]) (rest := []) (ci := 4) (c_nwV l D _ x P nW nL u w hV (by omega)) q253 vq_X3_neededWord rfl hO.2.1 rfl rfl (Nat.le_of_ble_eq_true rfl) (Nat.le_of_ble_eq_true rfl) (Nat.le_of_ble_eq_true rfl) ⟨(Nat.le_of_ble_eq_true rfl), (Nat.le_of_ble_eq_true rfl)⟩ dX3_about_2 (fun r9 M9 hp => ?_)
  refine rg_top (v2 := .ref (wa u w)) (by rw [hp.1]; rfl) ?_
  refine rg_mem (M2 := M) hp.2 ?_
  refine rg_astore_n F (pc := 5) (lv' := [some (.ref (x)), some (.int (nI w)), some (.int (nI what)), some (.ref (wa u w))]) dX3_about_5 (Nat.le_of_ble_eq_true rfl) rfl ?_
  refine rg_iload_n F (pc := 6) dX3_about_6 rfl ?_
  refine rg_bipush F (pc := 7) (v := nI 6) dX3_about_7 (by decide) ?_
  refine rg_callSv F (pc := 9) (As := [.int (nI what), .int (nI 6)]) (rest := []) (c_ref l D _ what 6 (by omega) (by omega)) q233 sq_X3_refuseOutside rfl rfl (Nat.le_of_ble_eq_true rfl) (Nat.le_of_ble_eq_true rfl) (Nat.le_of_ble_eq_true rfl) ⟨(Nat.le_of_ble_eq_true rfl), (Nat.le_of_ble_eq_true rfl)⟩ dX3_about_9 (fun M9 hp => ?_)
  refine rg_mem (M2 := M) hp ?_
  refine rg_aload_n F (pc := 12) dX3_about_12 rfl ?_
  refine rg_aload_n F (pc := 13) dX3_about_13 rfl ?_
  refine rg_iload_n F (pc := 14) dX3_about_14 rfl ?_
  refine rg_callVi F (pc := 15) (As := [.ref (wa u w), .int (nI what)]) (rest := []) (ci := 4) (c_aboutW l D _ x P nW nL u w what hV (by omega) (by omega)) q256 vq_X3_aboutWord rfl hO.2.1 rfl rfl (Nat.le_of_ble_eq_true rfl) (Nat.le_of_ble_eq_true rfl) (Nat.le_of_ble_eq_true rfl) ⟨(Nat.le_of_ble_eq_true rfl), (Nat.le_of_ble_eq_true rfl)⟩ dX3_about_15 (fun r9 M9 hp => ?_)
  refine rg_top (v2 := .int (nI (zAbout P nL w what))) (by first | (rw [hp.1]; done) | (rw [hp.1]; rfl)) ?_
  refine rg_mem (M2 := M) hp.2 ?_
  exact rg_iret F (pc := 18) hrt9 (by decide) (by decide) dX3_about_18 ⟨rfl, rfl⟩
set_option maxHeartbeats 4000000 in
set_option maxRecDepth 100000 in
theorem c_lost (l : Launch) (D : va_G) (M : rMem) (x : Nat) (P : Poem) (nW nL : Nat) (u : Nat → Nat → Nat) (hV : cV D M x P nW nL u) : CMi l D yX3_lost cX3_lost 2 ((some .int)) 4 0 0 M [.ref (x)] (fun r M' => r = nI (zLost P nL) ∧ M' = M) := by
  refine rM (lv0 := [some (.ref (x)), none]) (by decide) rfl rfl (Nat.le_of_ble_eq_true rfl) (fun P0 E0 S0 m0 as0 bl0 mt0 c0 A F hrt9 hnm => ?_)
  have hO := cV_see hV
  obtain ⟨mdw, hLw⟩ := hO.2.2.1
  obtain ⟨mdl, hLl⟩ := hO.2.2.2.1
  have hn30 := hO.1.1.1
  have hn10 := hO.1.2.1
  refine rg_aload_n F (pc := 0) dX3_lost_0 rfl ?_
  refine rg_get F (pc := 1) (ci := 4) rfl inX3 hO.2.1 1 (by decide) q203 (fun _ h9 => h9) rfl dX3_lost_1 ?_
  refine rg_callVi F (pc := 4) (As := []) (rest := []) (ci := 0) (c_size l D _ (gl u) mdl (gbl u) nL hLl.1) q221 vq_Jx4a65c_size_8abf5 rfl hLl.1 rfl rfl (Nat.le_of_ble_eq_true rfl) (Nat.le_of_ble_eq_true rfl) (Nat.le_of_ble_eq_true rfl) ⟨(Nat.le_of_ble_eq_true rfl), (Nat.le_of_ble_eq_true rfl)⟩ dX3_lost_4 (fun r9 M9 hp => ?_)
  refine rg_top (v2 := .int (nI nL)) (by first | (rw [hp.1]; done) | (rw [hp.1]; rfl)) ?_
  refine rg_mem (M2 := M) hp.2 ?_
  refine rg_istore_n F (pc := 7) (lv' := [some (.ref (x)), some (.int (nI nL))]) dX3_lost_7 (Nat.le_of_ble_eq_true rfl) rfl ?_
  refine rg_iload_n F (pc := 8) dX3_lost_8 rfl ?_
  refine rg_nif_le F (pc := 9) (tgt := 31) dX3_lost_9 (by decide) (by omega) (fun c9 => ?_) (fun c9 => ?_)
  · refine rg_iconst F (pc := 31) (v := nI 0) dX3_lost_31 (by decide) ?_
    exact rg_iret F (pc := 32) hrt9 (by decide) (by decide) dX3_lost_32 ⟨by unfold zLost; rw [if_neg (by omega)], rfl⟩
  · refine rg_aload_n F (pc := 12) dX3_lost_12 rfl ?_
    refine rg_get F (pc := 13) (ci := 4) rfl inX3 hO.2.1 1 (by decide) q203 (fun _ h9 => h9) rfl dX3_lost_13 ?_
    refine rg_iload_n F (pc := 16) dX3_lost_16 rfl ?_
    refine rg_iconst F (pc := 17) (v := nI 1) dX3_lost_17 (by decide) ?_
    refine rg_isub F (pc := 18) (v := nI (nL - 1)) dX3_lost_18 (pk_sub (by omega)) ?_
    refine rg_callVq F (pc := 19) (As := [.int (nI (nL - 1))]) (rest := []) (ci := 0) (c_lget l D _ (gl u) mdl (gbl u) nL (la u) (nL - 1) hLl (by omega)) q237 vq_Jx4a65c_get_915e3 rfl hLl.1 rfl rfl (Nat.le_of_ble_eq_true rfl) (Nat.le_of_ble_eq_true rfl) (Nat.le_of_ble_eq_true rfl) ⟨(Nat.le_of_ble_eq_true rfl), (Nat.le_of_ble_eq_true rfl)⟩ dX3_lost_19 (fun r9 M9 hp => ?_)
    refine rg_top (v2 := .ref (la u (nL - 1))) (by rw [hp.1]; rfl) ?_
    refine rg_mem (M2 := M) hp.2 ?_
    refine rg_cast F (pc := 22) (ci := 2) rfl (hO.2.2.2.2.2.2.1 (nL - 1) (by omega)) q295 dX3_lost_22 ?_
    refine rg_get F (pc := 25) (ci := 2) rfl inX1 (hO.2.2.2.2.2.2.1 (nL - 1) (by omega)) 11 (by decide) q274 (fun _ h9 => h9) rfl dX3_lost_25 ?_
    refine rg_goto F (pc := 28) (tgt := 32) dX3_lost_28 (by decide) ?_
    exact rg_iret F (pc := 32) hrt9 (by decide) (by decide) dX3_lost_32 ⟨by unfold zLost; rw [if_pos (by omega)], rfl⟩
set_option maxHeartbeats 4000000 in
set_option maxRecDepth 100000 in
theorem c_cin2 (l : Launch) (D : va_G) (M : rMem) (x : Nat) (P : Poem) (nW nL : Nat) (u : Nat → Nat → Nat) (hV : cV D M x P nW nL u) : CMi l D yX3_countInLines cX3_countInLines 5 ((some .int)) 4 0 0 M [.ref (x), .int (nI 2)] (fun r M' => r = nI (zCl P 2 nL) ∧ M' = M) := by
  refine rM (lv0 := [some (.ref (x)), some (.int (nI 2)), none, none, none]) (by decide) rfl rfl (Nat.le_of_ble_eq_true rfl) (fun P0 E0 S0 m0 as0 bl0 mt0 c0 A F hrt9 hnm => ?_)
  have hO := cV_see hV
  obtain ⟨mdw, hLw⟩ := hO.2.2.1
  obtain ⟨mdl, hLl⟩ := hO.2.2.2.1
  have hn30 := hO.1.1.1
  have hn10 := hO.1.2.1
  refine rg_iconst F (pc := 0) (v := nI 0) dX3_countInLines_0 (by decide) ?_
  refine rg_istore_n F (pc := 1) (lv' := [some (.ref (x)), some (.int (nI 2)), some (.int (nI 0)), none, none]) dX3_countInLines_1 (Nat.le_of_ble_eq_true rfl) rfl ?_
  refine rg_iconst F (pc := 2) (v := nI 0) dX3_countInLines_2 (by decide) ?_
  refine rg_istore_n F (pc := 3) (lv' := [some (.ref (x)), some (.int (nI 2)), some (.int (nI 0)), some (.int (nI 0)), none]) dX3_countInLines_3 (Nat.le_of_ble_eq_true rfl) rfl ?_
  refine rg_eq (lv2 := [some (.ref (x)), some (.int (nI 2)), some (.int (nI (zCl P 2 0))), some (.int (nI 0)), none]) (st2 := []) (pc2 := 4) rfl rfl rfl ?_
  suffices L0 : ∀ (d9 : Nat) (i : Nat), nL - i < d9 → (i ≤ nL) → rG P0 l E0 (rR 4 0 0) S0 m0 as0 bl0 mt0 c0 D A 5 (MQ bl0 (va_Qi (fun r M' => r = nI (zCl P 2 nL) ∧ M' = M) (cB D A) A) as0 S0 0 0 A) M 0 0 [some (.ref (x)), some (.int (nI 2)), some (.int (nI (zCl P 2 i))), some (.int (nI i)), none] 4 [] from L0 _ 0 (Nat.lt_succ_self _) (Nat.zero_le _)
  intro d9
  induction d9 with
  | zero => intro i hd9; exact absurd hd9 (Nat.not_lt_zero _)
  | succ d9 ih =>
    intro i hd9 hi1
    have hul := zCl_le hO.1 2 i hi1
    refine rg_iload_n F (pc := 4) dX3_countInLines_4 rfl ?_
    refine rg_aload_n F (pc := 5) dX3_countInLines_5 rfl ?_
    refine rg_get F (pc := 6) (ci := 4) rfl inX3 hO.2.1 1 (by decide) q203 (fun _ h9 => h9) rfl dX3_countInLines_6 ?_
    refine rg_callVi F (pc := 9) (As := []) (rest := [.int (nI i)]) (ci := 0) (c_size l D _ (gl u) mdl (gbl u) nL hLl.1) q221 vq_Jx4a65c_size_8abf5 rfl hLl.1 rfl rfl (Nat.le_of_ble_eq_true rfl) (Nat.le_of_ble_eq_true rfl) (Nat.le_of_ble_eq_true rfl) ⟨(Nat.le_of_ble_eq_true rfl), (Nat.le_of_ble_eq_true rfl)⟩ dX3_countInLines_9 (fun r9 M9 hp => ?_)
    refine rg_top (v2 := .int (nI nL)) (by first | (rw [hp.1]; done) | (rw [hp.1]; rfl)) ?_
    refine rg_mem (M2 := M) hp.2 ?_
    refine rg_ncmp_ge F (pc := 12) (tgt := 103) dX3_countInLines_12 (by decide) (by omega) (by omega) (fun c12 => ?_) (fun c12 => ?_)
    · refine rg_iload_n F (pc := 103) dX3_countInLines_103 rfl ?_
      have e9 : i = nL := by omega
      exact rg_iret F (pc := 104) hrt9 (by decide) (by decide) dX3_countInLines_104 ⟨by rw [e9], rfl⟩
    · refine rg_aload_n F (pc := 15) dX3_countInLines_15 rfl ?_
      refine rg_get F (pc := 16) (ci := 4) rfl inX3 hO.2.1 1 (by decide) q203 (fun _ h9 => h9) rfl dX3_countInLines_16 ?_
      refine rg_iload_n F (pc := 19) dX3_countInLines_19 rfl ?_
      refine rg_callVq F (pc := 20) (As := [.int (nI i)]) (rest := []) (ci := 0) (c_lget l D _ (gl u) mdl (gbl u) nL (la u) i hLl (by omega)) q237 vq_Jx4a65c_get_915e3 rfl hLl.1 rfl rfl (Nat.le_of_ble_eq_true rfl) (Nat.le_of_ble_eq_true rfl) (Nat.le_of_ble_eq_true rfl) ⟨(Nat.le_of_ble_eq_true rfl), (Nat.le_of_ble_eq_true rfl)⟩ dX3_countInLines_20 (fun r9 M9 hp => ?_)
      refine rg_top (v2 := .ref (la u i)) (by rw [hp.1]; rfl) ?_
      refine rg_mem (M2 := M) hp.2 ?_
      have hi : i < nL := by omega
      obtain ⟨bkr, mdr, hrr⟩ := hO.2.2.2.2.2.1 i (by omega)
      refine rg_cast F (pc := 23) (ci := 2) rfl (hO.2.2.2.2.2.2.1 i (by omega)) q295 dX3_countInLines_23 ?_
      refine rg_astore F (pc := 26) (lv' := [some (.ref (x)), some (.int (nI 2)), some (.int (nI (zCl P 2 i))), some (.int (nI i)), some (.ref (la u i))]) dX3_countInLines_26 (Nat.le_of_ble_eq_true rfl) rfl ?_
      refine rg_iload_n F (pc := 28) dX3_countInLines_28 rfl ?_
      refine rg_look F (pc := 29) (off := 27) (tgt := 56) dX3_countInLines_29 (by decide) (by decide) (by decide) ?_
      refine rg_iload_n F (pc := 56) dX3_countInLines_56 rfl ?_
      refine rg_aload F (pc := 57) dX3_countInLines_57 rfl ?_
      refine rg_get F (pc := 59) (ci := 2) rfl inX1 (hO.2.2.2.2.2.2.1 i (by omega)) 4 (by decide) q311 (fun _ h9 => h9) rfl dX3_countInLines_59 ?_
      refine rg_callVi F (pc := 62) (As := []) (rest := [.int (nI (zCl P 2 i))]) (ci := 0) (c_size l D _ (ra u i) mdr bkr (zC P i) hrr.1) q221 vq_Jx4a65c_size_8abf5 rfl hrr.1 rfl rfl (Nat.le_of_ble_eq_true rfl) (Nat.le_of_ble_eq_true rfl) (Nat.le_of_ble_eq_true rfl) ⟨(Nat.le_of_ble_eq_true rfl), (Nat.le_of_ble_eq_true rfl)⟩ dX3_countInLines_62 (fun r9 M9 hp => ?_)
      refine rg_top (v2 := .int (nI (zC P i))) (by first | (rw [hp.1]; done) | (rw [hp.1]; rfl)) ?_
      refine rg_mem (M2 := M) hp.2 ?_
      refine rg_iadd F (pc := 65) (v := nI ((zCl P 2 i) + (zC P i))) dX3_countInLines_65 (nI_add _ _) ?_
      refine rg_istore_n F (pc := 66) (lv' := [some (.ref (x)), some (.int (nI 2)), some (.int (nI ((zCl P 2 i) + (zC P i)))), some (.int (nI i)), some (.ref (la u i))]) dX3_countInLines_66 (Nat.le_of_ble_eq_true rfl) rfl ?_
      refine rg_goto F (pc := 67) (tgt := 97) dX3_countInLines_67 (by decide) ?_
      refine rg_eq (lv2 := [some (.ref (x)), some (.int (nI 2)), some (.int (nI (zCl P 2 (i + 1)))), some (.int (nI i)), some (.ref (la u i))]) (st2 := []) (pc2 := 97) (rfl) rfl rfl ?_
      refine rg_sub (lv' := [some (.ref (x)), some (.int (nI 2)), some (.int (nI (zCl P 2 (i + 1)))), some (.int (nI i)), none]) (by repeat' constructor) ?_
      refine rg_iinc F (pc := 97) (v := nI (i + 1)) (lv' := [some (.ref (x)), some (.int (nI 2)), some (.int (nI (zCl P 2 (i + 1)))), some (.int (nI (i + 1))), none]) dX3_countInLines_97 rfl (nI_add _ 1) (Nat.le_of_ble_eq_true rfl) rfl ?_
      refine rg_goto F (pc := 100) (tgt := 4) dX3_countInLines_100 (by decide) ?_
      exact ih (i + 1) (by omega) (by omega)
set_option maxHeartbeats 4000000 in
set_option maxRecDepth 100000 in
theorem c_cin3 (l : Launch) (D : va_G) (M : rMem) (x : Nat) (P : Poem) (nW nL : Nat) (u : Nat → Nat → Nat) (hV : cV D M x P nW nL u) : CMi l D yX3_countInLines cX3_countInLines 5 ((some .int)) 4 0 0 M [.ref (x), .int (nI 3)] (fun r M' => r = nI (zCl P 3 nL) ∧ M' = M) := by
  refine rM (lv0 := [some (.ref (x)), some (.int (nI 3)), none, none, none]) (by decide) rfl rfl (Nat.le_of_ble_eq_true rfl) (fun P0 E0 S0 m0 as0 bl0 mt0 c0 A F hrt9 hnm => ?_)
  have hO := cV_see hV
  obtain ⟨mdw, hLw⟩ := hO.2.2.1
  obtain ⟨mdl, hLl⟩ := hO.2.2.2.1
  have hn30 := hO.1.1.1
  have hn10 := hO.1.2.1
  refine rg_iconst F (pc := 0) (v := nI 0) dX3_countInLines_0 (by decide) ?_
  refine rg_istore_n F (pc := 1) (lv' := [some (.ref (x)), some (.int (nI 3)), some (.int (nI 0)), none, none]) dX3_countInLines_1 (Nat.le_of_ble_eq_true rfl) rfl ?_
  refine rg_iconst F (pc := 2) (v := nI 0) dX3_countInLines_2 (by decide) ?_
  refine rg_istore_n F (pc := 3) (lv' := [some (.ref (x)), some (.int (nI 3)), some (.int (nI 0)), some (.int (nI 0)), none]) dX3_countInLines_3 (Nat.le_of_ble_eq_true rfl) rfl ?_
  refine rg_eq (lv2 := [some (.ref (x)), some (.int (nI 3)), some (.int (nI (zCl P 3 0))), some (.int (nI 0)), none]) (st2 := []) (pc2 := 4) rfl rfl rfl ?_
  suffices L0 : ∀ (d9 : Nat) (i : Nat), nL - i < d9 → (i ≤ nL) → rG P0 l E0 (rR 4 0 0) S0 m0 as0 bl0 mt0 c0 D A 5 (MQ bl0 (va_Qi (fun r M' => r = nI (zCl P 3 nL) ∧ M' = M) (cB D A) A) as0 S0 0 0 A) M 0 0 [some (.ref (x)), some (.int (nI 3)), some (.int (nI (zCl P 3 i))), some (.int (nI i)), none] 4 [] from L0 _ 0 (Nat.lt_succ_self _) (Nat.zero_le _)
  intro d9
  induction d9 with
  | zero => intro i hd9; exact absurd hd9 (Nat.not_lt_zero _)
  | succ d9 ih =>
    intro i hd9 hi1
    have hul := zCl_le hO.1 3 i hi1
    refine rg_iload_n F (pc := 4) dX3_countInLines_4 rfl ?_
    refine rg_aload_n F (pc := 5) dX3_countInLines_5 rfl ?_
    refine rg_get F (pc := 6) (ci := 4) rfl inX3 hO.2.1 1 (by decide) q203 (fun _ h9 => h9) rfl dX3_countInLines_6 ?_
    refine rg_callVi F (pc := 9) (As := []) (rest := [.int (nI i)]) (ci := 0) (c_size l D _ (gl u) mdl (gbl u) nL hLl.1) q221 vq_Jx4a65c_size_8abf5 rfl hLl.1 rfl rfl (Nat.le_of_ble_eq_true rfl) (Nat.le_of_ble_eq_true rfl) (Nat.le_of_ble_eq_true rfl) ⟨(Nat.le_of_ble_eq_true rfl), (Nat.le_of_ble_eq_true rfl)⟩ dX3_countInLines_9 (fun r9 M9 hp => ?_)
    refine rg_top (v2 := .int (nI nL)) (by first | (rw [hp.1]; done) | (rw [hp.1]; rfl)) ?_
    refine rg_mem (M2 := M) hp.2 ?_
    refine rg_ncmp_ge F (pc := 12) (tgt := 103) dX3_countInLines_12 (by decide) (by omega) (by omega) (fun c12 => ?_) (fun c12 => ?_)
    · refine rg_iload_n F (pc := 103) dX3_countInLines_103 rfl ?_
      have e9 : i = nL := by omega
      exact rg_iret F (pc := 104) hrt9 (by decide) (by decide) dX3_countInLines_104 ⟨by rw [e9], rfl⟩
    · refine rg_aload_n F (pc := 15) dX3_countInLines_15 rfl ?_
      refine rg_get F (pc := 16) (ci := 4) rfl inX3 hO.2.1 1 (by decide) q203 (fun _ h9 => h9) rfl dX3_countInLines_16 ?_
      refine rg_iload_n F (pc := 19) dX3_countInLines_19 rfl ?_
      refine rg_callVq F (pc := 20) (As := [.int (nI i)]) (rest := []) (ci := 0) (c_lget l D _ (gl u) mdl (gbl u) nL (la u) i hLl (by omega)) q237 vq_Jx4a65c_get_915e3 rfl hLl.1 rfl rfl (Nat.le_of_ble_eq_true rfl) (Nat.le_of_ble_eq_true rfl) (Nat.le_of_ble_eq_true rfl) ⟨(Nat.le_of_ble_eq_true rfl), (Nat.le_of_ble_eq_true rfl)⟩ dX3_countInLines_20 (fun r9 M9 hp => ?_)
      refine rg_top (v2 := .ref (la u i)) (by rw [hp.1]; rfl) ?_
      refine rg_mem (M2 := M) hp.2 ?_
      have hi : i < nL := by omega
      obtain ⟨bkr, mdr, hrr⟩ := hO.2.2.2.2.2.1 i (by omega)
      refine rg_cast F (pc := 23) (ci := 2) rfl (hO.2.2.2.2.2.2.1 i (by omega)) q295 dX3_countInLines_23 ?_
      refine rg_astore F (pc := 26) (lv' := [some (.ref (x)), some (.int (nI 3)), some (.int (nI (zCl P 3 i))), some (.int (nI i)), some (.ref (la u i))]) dX3_countInLines_26 (Nat.le_of_ble_eq_true rfl) rfl ?_
      refine rg_iload_n F (pc := 28) dX3_countInLines_28 rfl ?_
      refine rg_look F (pc := 29) (off := 41) (tgt := 70) dX3_countInLines_29 (by decide) (by decide) (by decide) ?_
      refine rg_iload_n F (pc := 70) dX3_countInLines_70 rfl ?_
      refine rg_aload F (pc := 71) dX3_countInLines_71 rfl ?_
      refine rg_callVi F (pc := 73) (As := []) (rest := [.int (nI (zCl P 3 i))]) (ci := 2) (c_clV l D _ x P nW nL u i hV (by omega)) q345 vq_X1_isFaultless rfl (hO.2.2.2.2.2.2.1 i (by omega)) rfl rfl (Nat.le_of_ble_eq_true rfl) (Nat.le_of_ble_eq_true rfl) (Nat.le_of_ble_eq_true rfl) ⟨(Nat.le_of_ble_eq_true rfl), (Nat.le_of_ble_eq_true rfl)⟩ dX3_countInLines_73 (fun r9 M9 hp => ?_)
      refine rg_top (v2 := .int (nI ((decide (zOff P i = 0 ∧ zLack P i = 0)).toNat))) (by first | (rw [hp.1]; done) | (rw [hp.1]; rfl)) ?_
      refine rg_mem (M2 := M) hp.2 ?_
      refine rg_bif_eq F (pc := 76) (tgt := 83) dX3_countInLines_76 (by decide) (fun c76 => ?_) (fun c76 => ?_)
      · refine rg_iconst F (pc := 83) (v := nI 0) dX3_countInLines_83 (by decide) ?_
        refine rg_iadd F (pc := 84) (v := nI ((zCl P 3 i) + 0)) dX3_countInLines_84 (nI_add _ _) ?_
        refine rg_istore_n F (pc := 85) (lv' := [some (.ref (x)), some (.int (nI 3)), some (.int (nI ((zCl P 3 i) + 0))), some (.int (nI i)), some (.ref (la u i))]) dX3_countInLines_85 (Nat.le_of_ble_eq_true rfl) rfl ?_
        refine rg_goto F (pc := 86) (tgt := 97) dX3_countInLines_86 (by decide) ?_
        have eb : zCl P 3 (i + 1) = zCl P 3 i + 0 := by show _ + (decide (zOff P i = 0 ∧ zLack P i = 0)).toNat = _; rw [c76]; rfl
        refine rg_eq (lv2 := [some (.ref (x)), some (.int (nI 3)), some (.int (nI (zCl P 3 (i + 1)))), some (.int (nI i)), some (.ref (la u i))]) (st2 := []) (pc2 := 97) (by rw [eb]) rfl rfl ?_
        refine rg_sub (lv' := [some (.ref (x)), some (.int (nI 3)), some (.int (nI (zCl P 3 (i + 1)))), some (.int (nI i)), none]) (by repeat' constructor) ?_
        refine rg_iinc F (pc := 97) (v := nI (i + 1)) (lv' := [some (.ref (x)), some (.int (nI 3)), some (.int (nI (zCl P 3 (i + 1)))), some (.int (nI (i + 1))), none]) dX3_countInLines_97 rfl (nI_add _ 1) (Nat.le_of_ble_eq_true rfl) rfl ?_
        refine rg_goto F (pc := 100) (tgt := 4) dX3_countInLines_100 (by decide) ?_
        exact ih (i + 1) (by omega) (by omega)
      · refine rg_iconst F (pc := 79) (v := nI 1) dX3_countInLines_79 (by decide) ?_
        refine rg_goto F (pc := 80) (tgt := 84) dX3_countInLines_80 (by decide) ?_
        refine rg_iadd F (pc := 84) (v := nI ((zCl P 3 i) + 1)) dX3_countInLines_84 (nI_add _ _) ?_
        refine rg_istore_n F (pc := 85) (lv' := [some (.ref (x)), some (.int (nI 3)), some (.int (nI ((zCl P 3 i) + 1))), some (.int (nI i)), some (.ref (la u i))]) dX3_countInLines_85 (Nat.le_of_ble_eq_true rfl) rfl ?_
        refine rg_goto F (pc := 86) (tgt := 97) dX3_countInLines_86 (by decide) ?_
        have eb : zCl P 3 (i + 1) = zCl P 3 i + 1 := by show _ + (decide (zOff P i = 0 ∧ zLack P i = 0)).toNat = _; rw [c76]; rfl
        refine rg_eq (lv2 := [some (.ref (x)), some (.int (nI 3)), some (.int (nI (zCl P 3 (i + 1)))), some (.int (nI i)), some (.ref (la u i))]) (st2 := []) (pc2 := 97) (by rw [eb]) rfl rfl ?_
        refine rg_sub (lv' := [some (.ref (x)), some (.int (nI 3)), some (.int (nI (zCl P 3 (i + 1)))), some (.int (nI i)), none]) (by repeat' constructor) ?_
        refine rg_iinc F (pc := 97) (v := nI (i + 1)) (lv' := [some (.ref (x)), some (.int (nI 3)), some (.int (nI (zCl P 3 (i + 1)))), some (.int (nI (i + 1))), none]) dX3_countInLines_97 rfl (nI_add _ 1) (Nat.le_of_ble_eq_true rfl) rfl ?_
        refine rg_goto F (pc := 100) (tgt := 4) dX3_countInLines_100 (by decide) ?_
        exact ih (i + 1) (by omega) (by omega)
set_option maxHeartbeats 4000000 in
set_option maxRecDepth 100000 in
theorem c_cin4 (l : Launch) (D : va_G) (M : rMem) (x : Nat) (P : Poem) (nW nL : Nat) (u : Nat → Nat → Nat) (hV : cV D M x P nW nL u) : CMi l D yX3_countInLines cX3_countInLines 5 ((some .int)) 4 0 0 M [.ref (x), .int (nI 4)] (fun r M' => r = nI (zCl P 4 nL) ∧ M' = M) := by
  refine rM (lv0 := [some (.ref (x)), some (.int (nI 4)), none, none, none]) (by decide) rfl rfl (Nat.le_of_ble_eq_true rfl) (fun P0 E0 S0 m0 as0 bl0 mt0 c0 A F hrt9 hnm => ?_)
  have hO := cV_see hV
  obtain ⟨mdw, hLw⟩ := hO.2.2.1
  obtain ⟨mdl, hLl⟩ := hO.2.2.2.1
  have hn30 := hO.1.1.1
  have hn10 := hO.1.2.1
  refine rg_iconst F (pc := 0) (v := nI 0) dX3_countInLines_0 (by decide) ?_
  refine rg_istore_n F (pc := 1) (lv' := [some (.ref (x)), some (.int (nI 4)), some (.int (nI 0)), none, none]) dX3_countInLines_1 (Nat.le_of_ble_eq_true rfl) rfl ?_
  refine rg_iconst F (pc := 2) (v := nI 0) dX3_countInLines_2 (by decide) ?_
  refine rg_istore_n F (pc := 3) (lv' := [some (.ref (x)), some (.int (nI 4)), some (.int (nI 0)), some (.int (nI 0)), none]) dX3_countInLines_3 (Nat.le_of_ble_eq_true rfl) rfl ?_
  refine rg_eq (lv2 := [some (.ref (x)), some (.int (nI 4)), some (.int (nI (zCl P 4 0))), some (.int (nI 0)), none]) (st2 := []) (pc2 := 4) rfl rfl rfl ?_
  suffices L0 : ∀ (d9 : Nat) (i : Nat), nL - i < d9 → (i ≤ nL) → rG P0 l E0 (rR 4 0 0) S0 m0 as0 bl0 mt0 c0 D A 5 (MQ bl0 (va_Qi (fun r M' => r = nI (zCl P 4 nL) ∧ M' = M) (cB D A) A) as0 S0 0 0 A) M 0 0 [some (.ref (x)), some (.int (nI 4)), some (.int (nI (zCl P 4 i))), some (.int (nI i)), none] 4 [] from L0 _ 0 (Nat.lt_succ_self _) (Nat.zero_le _)
  intro d9
  induction d9 with
  | zero => intro i hd9; exact absurd hd9 (Nat.not_lt_zero _)
  | succ d9 ih =>
    intro i hd9 hi1
    have hul := zCl_le hO.1 4 i hi1
    refine rg_iload_n F (pc := 4) dX3_countInLines_4 rfl ?_
    refine rg_aload_n F (pc := 5) dX3_countInLines_5 rfl ?_
    refine rg_get F (pc := 6) (ci := 4) rfl inX3 hO.2.1 1 (by decide) q203 (fun _ h9 => h9) rfl dX3_countInLines_6 ?_
    refine rg_callVi F (pc := 9) (As := []) (rest := [.int (nI i)]) (ci := 0) (c_size l D _ (gl u) mdl (gbl u) nL hLl.1) q221 vq_Jx4a65c_size_8abf5 rfl hLl.1 rfl rfl (Nat.le_of_ble_eq_true rfl) (Nat.le_of_ble_eq_true rfl) (Nat.le_of_ble_eq_true rfl) ⟨(Nat.le_of_ble_eq_true rfl), (Nat.le_of_ble_eq_true rfl)⟩ dX3_countInLines_9 (fun r9 M9 hp => ?_)
    refine rg_top (v2 := .int (nI nL)) (by first | (rw [hp.1]; done) | (rw [hp.1]; rfl)) ?_
    refine rg_mem (M2 := M) hp.2 ?_
    refine rg_ncmp_ge F (pc := 12) (tgt := 103) dX3_countInLines_12 (by decide) (by omega) (by omega) (fun c12 => ?_) (fun c12 => ?_)
    · refine rg_iload_n F (pc := 103) dX3_countInLines_103 rfl ?_
      have e9 : i = nL := by omega
      exact rg_iret F (pc := 104) hrt9 (by decide) (by decide) dX3_countInLines_104 ⟨by rw [e9], rfl⟩
    · refine rg_aload_n F (pc := 15) dX3_countInLines_15 rfl ?_
      refine rg_get F (pc := 16) (ci := 4) rfl inX3 hO.2.1 1 (by decide) q203 (fun _ h9 => h9) rfl dX3_countInLines_16 ?_
      refine rg_iload_n F (pc := 19) dX3_countInLines_19 rfl ?_
      refine rg_callVq F (pc := 20) (As := [.int (nI i)]) (rest := []) (ci := 0) (c_lget l D _ (gl u) mdl (gbl u) nL (la u) i hLl (by omega)) q237 vq_Jx4a65c_get_915e3 rfl hLl.1 rfl rfl (Nat.le_of_ble_eq_true rfl) (Nat.le_of_ble_eq_true rfl) (Nat.le_of_ble_eq_true rfl) ⟨(Nat.le_of_ble_eq_true rfl), (Nat.le_of_ble_eq_true rfl)⟩ dX3_countInLines_20 (fun r9 M9 hp => ?_)
      refine rg_top (v2 := .ref (la u i)) (by rw [hp.1]; rfl) ?_
      refine rg_mem (M2 := M) hp.2 ?_
      have hi : i < nL := by omega
      obtain ⟨bkr, mdr, hrr⟩ := hO.2.2.2.2.2.1 i (by omega)
      refine rg_cast F (pc := 23) (ci := 2) rfl (hO.2.2.2.2.2.2.1 i (by omega)) q295 dX3_countInLines_23 ?_
      refine rg_astore F (pc := 26) (lv' := [some (.ref (x)), some (.int (nI 4)), some (.int (nI (zCl P 4 i))), some (.int (nI i)), some (.ref (la u i))]) dX3_countInLines_26 (Nat.le_of_ble_eq_true rfl) rfl ?_
      refine rg_iload_n F (pc := 28) dX3_countInLines_28 rfl ?_
      refine rg_look F (pc := 29) (off := 60) (tgt := 89) dX3_countInLines_29 (by decide) (by decide) (by decide) ?_
      refine rg_iload_n F (pc := 89) dX3_countInLines_89 rfl ?_
      refine rg_aload F (pc := 90) dX3_countInLines_90 rfl ?_
      refine rg_get F (pc := 92) (ci := 2) rfl inX1 (hO.2.2.2.2.2.2.1 i (by omega)) 10 (by decide) q273 (fun _ h9 => h9) rfl dX3_countInLines_92 ?_
      refine rg_iadd F (pc := 95) (v := nI ((zCl P 4 i) + (zStay P i))) dX3_countInLines_95 (nI_add _ _) ?_
      refine rg_istore_n F (pc := 96) (lv' := [some (.ref (x)), some (.int (nI 4)), some (.int (nI ((zCl P 4 i) + (zStay P i)))), some (.int (nI i)), some (.ref (la u i))]) dX3_countInLines_96 (Nat.le_of_ble_eq_true rfl) rfl ?_
      refine rg_eq (lv2 := [some (.ref (x)), some (.int (nI 4)), some (.int (nI (zCl P 4 (i + 1)))), some (.int (nI i)), some (.ref (la u i))]) (st2 := []) (pc2 := 97) (rfl) rfl rfl ?_
      refine rg_sub (lv' := [some (.ref (x)), some (.int (nI 4)), some (.int (nI (zCl P 4 (i + 1)))), some (.int (nI i)), none]) (by repeat' constructor) ?_
      refine rg_iinc F (pc := 97) (v := nI (i + 1)) (lv' := [some (.ref (x)), some (.int (nI 4)), some (.int (nI (zCl P 4 (i + 1)))), some (.int (nI (i + 1))), none]) dX3_countInLines_97 rfl (nI_add _ 1) (Nat.le_of_ble_eq_true rfl) rfl ?_
      refine rg_goto F (pc := 100) (tgt := 4) dX3_countInLines_100 (by decide) ?_
      exact ih (i + 1) (by omega) (by omega)
set_option maxHeartbeats 4000000 in
set_option maxRecDepth 100000 in
theorem c_cnt (l : Launch) (D : va_G) (M : rMem) (x : Nat) (P : Poem) (nW nL : Nat) (u : Nat → Nat → Nat) (what : Nat) (hV : cV D M x P nW nL u) (hwt : what < 7) : CMi l D yX3_countAll cX3_countAll 2 ((some .int)) 5 0 0 M [.ref (x), .int (nI what)] (fun r M' => r = nI (zCnt P nW nL what) ∧ M' = M) := by
  refine rM (lv0 := [some (.ref (x)), some (.int (nI what))]) (by decide) rfl rfl (Nat.le_of_ble_eq_true rfl) (fun P0 E0 S0 m0 as0 bl0 mt0 c0 A F hrt9 hnm => ?_)
  have hO := cV_see hV
  obtain ⟨mdw, hLw⟩ := hO.2.2.1
  obtain ⟨mdl, hLl⟩ := hO.2.2.2.1
  have hn30 := hO.1.1.1
  have hn10 := hO.1.2.1
  refine rg_iload_n F (pc := 0) dX3_countAll_0 rfl ?_
  rcases (show what = 0 ∨ what = 1 ∨ what = 2 ∨ what = 3 ∨ what = 4 ∨ what = 5 ∨ what = 6 by omega) with rfl | rfl | rfl | rfl | rfl | rfl | rfl
  · refine rg_tab F (pc := 1) (off := 43) (tgt := 44) dX3_countAll_1 (by decide) (by decide) (by decide) (by decide) ?_
    refine rg_aload_n F (pc := 44) dX3_countAll_44 rfl ?_
    refine rg_get F (pc := 45) (ci := 4) rfl inX3 hO.2.1 0 (by decide) q202 (fun _ h9 => h9) rfl dX3_countAll_45 ?_
    refine rg_callVi F (pc := 48) (As := []) (rest := []) (ci := 0) (c_size l D _ (gw u) mdw (gbw u) nW hLw.1) q221 vq_Jx4a65c_size_8abf5 rfl hLw.1 rfl rfl (Nat.le_of_ble_eq_true rfl) (Nat.le_of_ble_eq_true rfl) (Nat.le_of_ble_eq_true rfl) ⟨(Nat.le_of_ble_eq_true rfl), (Nat.le_of_ble_eq_true rfl)⟩ dX3_countAll_48 (fun r9 M9 hp => ?_)
    refine rg_top (v2 := .int (nI nW)) (by first | (rw [hp.1]; done) | (rw [hp.1]; rfl)) ?_
    refine rg_mem (M2 := M) hp.2 ?_
    exact rg_iret F (pc := 51) hrt9 (by decide) (by decide) dX3_countAll_51 ⟨rfl, rfl⟩
  · refine rg_tab F (pc := 1) (off := 51) (tgt := 52) dX3_countAll_1 (by decide) (by decide) (by decide) (by decide) ?_
    refine rg_aload_n F (pc := 52) dX3_countAll_52 rfl ?_
    refine rg_get F (pc := 53) (ci := 4) rfl inX3 hO.2.1 1 (by decide) q203 (fun _ h9 => h9) rfl dX3_countAll_53 ?_
    refine rg_callVi F (pc := 56) (As := []) (rest := []) (ci := 0) (c_size l D _ (gl u) mdl (gbl u) nL hLl.1) q221 vq_Jx4a65c_size_8abf5 rfl hLl.1 rfl rfl (Nat.le_of_ble_eq_true rfl) (Nat.le_of_ble_eq_true rfl) (Nat.le_of_ble_eq_true rfl) ⟨(Nat.le_of_ble_eq_true rfl), (Nat.le_of_ble_eq_true rfl)⟩ dX3_countAll_56 (fun r9 M9 hp => ?_)
    refine rg_top (v2 := .int (nI nL)) (by first | (rw [hp.1]; done) | (rw [hp.1]; rfl)) ?_
    refine rg_mem (M2 := M) hp.2 ?_
    exact rg_iret F (pc := 59) hrt9 (by decide) (by decide) dX3_countAll_59 ⟨rfl, rfl⟩
  · refine rg_tab F (pc := 1) (off := 69) (tgt := 70) dX3_countAll_1 (by decide) (by decide) (by decide) (by decide) ?_
    refine rg_aload_n F (pc := 70) dX3_countAll_70 rfl ?_
    refine rg_iload_n F (pc := 71) dX3_countAll_71 rfl ?_
    refine rg_callVi F (pc := 72) (As := [.int (nI 2)]) (rest := []) (ci := 4) (c_cin2 l D _ x P nW nL u hV) q355 vq_X3_countInLines rfl hO.2.1 rfl rfl (Nat.le_of_ble_eq_true rfl) (Nat.le_of_ble_eq_true rfl) (Nat.le_of_ble_eq_true rfl) ⟨(Nat.le_of_ble_eq_true rfl), (Nat.le_of_ble_eq_true rfl)⟩ dX3_countAll_72 (fun r9 M9 hp => ?_)
    refine rg_top (v2 := .int (nI (zCl P 2 nL))) (by first | (rw [hp.1]; done) | (rw [hp.1]; rfl)) ?_
    refine rg_mem (M2 := M) hp.2 ?_
    exact rg_iret F (pc := 75) hrt9 (by decide) (by decide) dX3_countAll_75 ⟨rfl, rfl⟩
  · refine rg_tab F (pc := 1) (off := 69) (tgt := 70) dX3_countAll_1 (by decide) (by decide) (by decide) (by decide) ?_
    refine rg_aload_n F (pc := 70) dX3_countAll_70 rfl ?_
    refine rg_iload_n F (pc := 71) dX3_countAll_71 rfl ?_
    refine rg_callVi F (pc := 72) (As := [.int (nI 3)]) (rest := []) (ci := 4) (c_cin3 l D _ x P nW nL u hV) q355 vq_X3_countInLines rfl hO.2.1 rfl rfl (Nat.le_of_ble_eq_true rfl) (Nat.le_of_ble_eq_true rfl) (Nat.le_of_ble_eq_true rfl) ⟨(Nat.le_of_ble_eq_true rfl), (Nat.le_of_ble_eq_true rfl)⟩ dX3_countAll_72 (fun r9 M9 hp => ?_)
    refine rg_top (v2 := .int (nI (zCl P 3 nL))) (by first | (rw [hp.1]; done) | (rw [hp.1]; rfl)) ?_
    refine rg_mem (M2 := M) hp.2 ?_
    exact rg_iret F (pc := 75) hrt9 (by decide) (by decide) dX3_countAll_75 ⟨rfl, rfl⟩
  · refine rg_tab F (pc := 1) (off := 69) (tgt := 70) dX3_countAll_1 (by decide) (by decide) (by decide) (by decide) ?_
    refine rg_aload_n F (pc := 70) dX3_countAll_70 rfl ?_
    refine rg_iload_n F (pc := 71) dX3_countAll_71 rfl ?_
    refine rg_callVi F (pc := 72) (As := [.int (nI 4)]) (rest := []) (ci := 4) (c_cin4 l D _ x P nW nL u hV) q355 vq_X3_countInLines rfl hO.2.1 rfl rfl (Nat.le_of_ble_eq_true rfl) (Nat.le_of_ble_eq_true rfl) (Nat.le_of_ble_eq_true rfl) ⟨(Nat.le_of_ble_eq_true rfl), (Nat.le_of_ble_eq_true rfl)⟩ dX3_countAll_72 (fun r9 M9 hp => ?_)
    refine rg_top (v2 := .int (nI (zCl P 4 nL))) (by first | (rw [hp.1]; done) | (rw [hp.1]; rfl)) ?_
    refine rg_mem (M2 := M) hp.2 ?_
    exact rg_iret F (pc := 75) hrt9 (by decide) (by decide) dX3_countAll_75 ⟨rfl, rfl⟩
  · refine rg_tab F (pc := 1) (off := 59) (tgt := 60) dX3_countAll_1 (by decide) (by decide) (by decide) (by decide) ?_
    refine rg_aload_n F (pc := 60) dX3_countAll_60 rfl ?_
    refine rg_callVi F (pc := 61) (As := []) (rest := []) (ci := 4) (c_lost l D _ x P nW nL u hV) q349 vq_X3_lost rfl hO.2.1 rfl rfl (Nat.le_of_ble_eq_true rfl) (Nat.le_of_ble_eq_true rfl) (Nat.le_of_ble_eq_true rfl) ⟨(Nat.le_of_ble_eq_true rfl), (Nat.le_of_ble_eq_true rfl)⟩ dX3_countAll_61 (fun r9 M9 hp => ?_)
    refine rg_top (v2 := .int (nI (zLost P nL))) (by first | (rw [hp.1]; done) | (rw [hp.1]; rfl)) ?_
    refine rg_mem (M2 := M) hp.2 ?_
    exact rg_iret F (pc := 64) hrt9 (by decide) (by decide) dX3_countAll_64 ⟨rfl, rfl⟩
  · refine rg_tab F (pc := 1) (off := 64) (tgt := 65) dX3_countAll_1 (by decide) (by decide) (by decide) (by decide) ?_
    refine rg_aload_n F (pc := 65) dX3_countAll_65 rfl ?_
    refine rg_callVi F (pc := 66) (As := []) (rest := []) (ci := 4) (c_allV l D _ x P nW nL u hV) q352 vq_X3_allTaxes rfl hO.2.1 rfl rfl (Nat.le_of_ble_eq_true rfl) (Nat.le_of_ble_eq_true rfl) (Nat.le_of_ble_eq_true rfl) ⟨(Nat.le_of_ble_eq_true rfl), (Nat.le_of_ble_eq_true rfl)⟩ dX3_countAll_66 (fun r9 M9 hp => ?_)
    refine rg_top (v2 := .int (nI (zAll P nL))) (by first | (rw [hp.1]; done) | (rw [hp.1]; rfl)) ?_
    refine rg_mem (M2 := M) hp.2 ?_
    exact rg_iret F (pc := 69) hrt9 (by decide) (by decide) dX3_countAll_69 ⟨rfl, rfl⟩
set_option maxHeartbeats 4000000 in
set_option maxRecDepth 100000 in
theorem c_count (l : Launch) (D : va_G) (M : rMem) (x : Nat) (P : Poem) (nW nL : Nat) (u : Nat → Nat → Nat) (what : Nat) (hV : cV D M x P nW nL u) (hwt : what < 7) : CMi l D yX3_count cX3_count 2 ((some .int)) 6 0 0 M [.ref (x), .int (nI what)] (fun r M' => r = nI (zCnt P nW nL what) ∧ M' = M) := by
  refine rM (lv0 := [some (.ref (x)), some (.int (nI what))]) (by decide) rfl rfl (Nat.le_of_ble_eq_true rfl) (fun P0 E0 S0 m0 as0 bl0 mt0 c0 A F hrt9 hnm => ?_)
  have hO := cV_see hV
  obtain ⟨mdw, hLw⟩ := hO.2.2.1
  obtain ⟨mdl, hLl⟩ := hO.2.2.2.1
  have hn30 := hO.1.1.1
  have hn10 := hO.1.2.1
  refine rg_iload_n F (pc := 0) dX3_count_0 rfl ?_
  refine rg_bipush F (pc := 1) (v := nI 7) dX3_count_1 (by decide) ?_
  refine rg_callSv F (pc := 3) (As := [.int (nI what), .int (nI 7)]) (rest := []) (c_ref l D _ what 7 (by omega) (by omega)) q233 sq_X3_refuseOutside rfl rfl (Nat.le_of_ble_eq_true rfl) (Nat.le_of_ble_eq_true rfl) (Nat.le_of_ble_eq_true rfl) ⟨(Nat.le_of_ble_eq_true rfl), (Nat.le_of_ble_eq_true rfl)⟩ dX3_count_3 (fun M9 hp => ?_)
  refine rg_mem (M2 := M) hp ?_
  refine rg_aload_n F (pc := 6) dX3_count_6 rfl ?_
  refine rg_iload_n F (pc := 7) dX3_count_7 rfl ?_
  refine rg_callVi F (pc := 8) (As := [.int (nI what)]) (rest := []) (ci := 4) (c_cnt l D _ x P nW nL u what hV (by omega)) q359 vq_X3_countAll rfl hO.2.1 rfl rfl (Nat.le_of_ble_eq_true rfl) (Nat.le_of_ble_eq_true rfl) (Nat.le_of_ble_eq_true rfl) ⟨(Nat.le_of_ble_eq_true rfl), (Nat.le_of_ble_eq_true rfl)⟩ dX3_count_8 (fun r9 M9 hp => ?_)
  refine rg_top (v2 := .int (nI (zCnt P nW nL what))) (by first | (rw [hp.1]; done) | (rw [hp.1]; rfl)) ?_
  refine rg_mem (M2 := M) hp.2 ?_
  exact rg_iret F (pc := 11) hrt9 (by decide) (by decide) dX3_count_11 ⟨rfl, rfl⟩
set_option maxHeartbeats 4000000 in
set_option maxRecDepth 100000 in
theorem c_mix (l : Launch) (D : va_G) (M : rMem) (s9 : Int64) (n : Nat) : CMl l D yX3_mix cX3_mix 4 ((some .long)) 1 0 0 M [.long (s9), .long (lN n)] (fun r M' => r = zMix s9 n ∧ M' = M) := by
  refine rM (lv0 := [some (.long (s9)), none, some (.long (lN n)), none]) (by decide) rfl rfl (Nat.le_of_ble_eq_true rfl) (fun P0 E0 S0 m0 as0 bl0 mt0 c0 A F hrt9 hnm => ?_)
  refine rg_lload_n F (pc := 0) dX3_mix_0 rfl ?_
  refine rg_ldc2 F (pc := 1) (v := 31) q378 dX3_mix_1 ?_
  refine rg_top (v2 := .long (lN 31)) rfl ?_
  refine rg_lmul F (pc := 4) (v := s9 * (lN 31)) dX3_mix_4 rfl ?_
  refine rg_lload_n F (pc := 5) dX3_mix_5 rfl ?_
  refine rg_ladd F (pc := 6) (v := (s9 * (lN 31)) + (lN n)) dX3_mix_6 rfl ?_
  exact rg_lret F (pc := 7) hrt9 (by decide) (by decide) dX3_mix_7 ⟨rfl, rfl⟩
set_option maxHeartbeats 4000000 in
set_option maxRecDepth 100000 in
theorem c_mixL (l : Launch) (D : va_G) (M : rMem) (x : Nat) (P : Poem) (nW nL : Nat) (u : Nat → Nat → Nat) (i : Nat) (s9 : Int64) (hV : cV D M x P nW nL u) (hi : i < nL) : CMl l D yX3_mixLine cX3_mixLine 6 ((some .long)) 4 0 0 M [.long (s9), .ref (la u i)] (fun r M' => r = zMl P i s9 ∧ M' = M) := by
  refine rM (lv0 := [some (.long (s9)), none, some (.ref (la u i)), none, none, none]) (by decide) rfl rfl (Nat.le_of_ble_eq_true rfl) (fun P0 E0 S0 m0 as0 bl0 mt0 c0 A F hrt9 hnm => ?_)
  have hO := cV_see hV
  obtain ⟨mdw, hLw⟩ := hO.2.2.1
  obtain ⟨mdl, hLl⟩ := hO.2.2.2.1
  have hn30 := hO.1.1.1
  have hn10 := hO.1.2.1
  have hz8 := (hO.1.2.2 i hi).2.2.2.2.1
  have hst := zStay_le (hO.1.2.2 i hi)
  obtain ⟨bkr, mdr, hrr⟩ := hO.2.2.2.2.2.1 i (by omega)
  refine rg_lload_n F (pc := 0) dX3_mixLine_0 rfl ?_
  refine rg_lstore_n F (pc := 1) (lv' := [some (.long (s9)), none, some (.ref (la u i)), some (.long (s9)), none, none]) dX3_mixLine_1 (Nat.le_of_ble_eq_true rfl) rfl ?_
  refine rg_iconst F (pc := 2) (v := nI 0) dX3_mixLine_2 (by decide) ?_
  refine rg_istore F (pc := 3) (lv' := [some (.long (s9)), none, some (.ref (la u i)), some (.long (s9)), none, some (.int (nI 0))]) dX3_mixLine_3 (Nat.le_of_ble_eq_true rfl) rfl ?_
  refine rg_eq (lv2 := [some (.long (s9)), none, some (.ref (la u i)), some (.long ((zMx s9 (zTold P i) 0))), none, some (.int (nI 0))]) (st2 := []) (pc2 := 5) rfl rfl rfl ?_
  suffices L0 : ∀ (d9 : Nat) (a : Nat), 12 - a < d9 → (a ≤ 12) → rG P0 l E0 (rR 4 0 0) S0 m0 as0 bl0 mt0 c0 D A 6 (MQ bl0 (va_Ql (fun r M' => r = zMl P i s9 ∧ M' = M) (cB D A) A) as0 S0 0 0 A) M 0 0 [some (.long (s9)), none, some (.ref (la u i)), some (.long ((zMx s9 (zTold P i) a))), none, some (.int (nI a))] 5 [] from L0 _ 0 (Nat.lt_succ_self _) (Nat.zero_le _)
  intro d9
  induction d9 with
  | zero => intro a hd9; exact absurd hd9 (Nat.not_lt_zero _)
  | succ d9 ih =>
    intro a hd9 ha
    refine rg_iload F (pc := 5) dX3_mixLine_5 rfl ?_
    refine rg_bipush F (pc := 7) (v := nI 12) dX3_mixLine_7 (by decide) ?_
    refine rg_ncmp_ge F (pc := 9) (tgt := 30) dX3_mixLine_9 (by decide) (by omega) (by omega) (fun c9 => ?_) (fun c9 => ?_)
    · refine rg_iconst F (pc := 30) (v := nI 0) dX3_mixLine_30 (by decide) ?_
      refine rg_istore F (pc := 31) (lv' := [some (.long (s9)), none, some (.ref (la u i)), some (.long ((zMx s9 (zTold P i) a))), none, some (.int (nI 0))]) dX3_mixLine_31 (Nat.le_of_ble_eq_true rfl) rfl ?_
      have e33 : a = 12 := by omega
      rw [show a = 12 from e33]
      refine rg_eq (lv2 := [some (.long (s9)), none, some (.ref (la u i)), some (.long ((zMx (zMx s9 (zTold P i) 12) (zR P i) 0))), none, some (.int (nI 0))]) (st2 := []) (pc2 := 33) rfl rfl rfl ?_
      suffices L1 : ∀ (d9 : Nat) (b : Nat), zC P i - b < d9 → (b ≤ zC P i) → rG P0 l E0 (rR 4 0 0) S0 m0 as0 bl0 mt0 c0 D A 6 (MQ bl0 (va_Ql (fun r M' => r = zMl P i s9 ∧ M' = M) (cB D A) A) as0 S0 0 0 A) M 0 0 [some (.long (s9)), none, some (.ref (la u i)), some (.long ((zMx (zMx s9 (zTold P i) 12) (zR P i) b))), none, some (.int (nI b))] 33 [] from L1 _ 0 (Nat.lt_succ_self _) (Nat.zero_le _)
      intro d9
      induction d9 with
      | zero => intro b hd9; exact absurd hd9 (Nat.not_lt_zero _)
      | succ d9 ihb =>
        intro b hd9 hb
        refine rg_iload F (pc := 33) dX3_mixLine_33 rfl ?_
        refine rg_aload_n F (pc := 35) dX3_mixLine_35 rfl ?_
        refine rg_get F (pc := 36) (ci := 2) rfl inX1 (hO.2.2.2.2.2.2.1 i (by omega)) 4 (by decide) q311 (fun _ h9 => h9) rfl dX3_mixLine_36 ?_
        refine rg_callVi F (pc := 39) (As := []) (rest := [.int (nI b)]) (ci := 0) (c_size l D _ (ra u i) mdr bkr (zC P i) hrr.1) q221 vq_Jx4a65c_size_8abf5 rfl hrr.1 rfl rfl (Nat.le_of_ble_eq_true rfl) (Nat.le_of_ble_eq_true rfl) (Nat.le_of_ble_eq_true rfl) ⟨(Nat.le_of_ble_eq_true rfl), (Nat.le_of_ble_eq_true rfl)⟩ dX3_mixLine_39 (fun r9 M9 hp => ?_)
        refine rg_top (v2 := .int (nI (zC P i))) (by first | (rw [hp.1]; done) | (rw [hp.1]; rfl)) ?_
        refine rg_mem (M2 := M) hp.2 ?_
        refine rg_ncmp_ge F (pc := 42) (tgt := 72) dX3_mixLine_42 (by decide) (by omega) (by omega) (fun c42 => ?_) (fun c42 => ?_)
        · refine rg_iconst F (pc := 72) (v := nI 0) dX3_mixLine_72 (by decide) ?_
          refine rg_istore F (pc := 73) (lv' := [some (.long (s9)), none, some (.ref (la u i)), some (.long ((zMx (zMx s9 (zTold P i) 12) (zR P i) b))), none, some (.int (nI 0))]) dX3_mixLine_73 (Nat.le_of_ble_eq_true rfl) rfl ?_
          have e75 : b = zC P i := by omega
          rw [show b = zC P i from e75]
          refine rg_eq (lv2 := [some (.long (s9)), none, some (.ref (la u i)), some (.long ((zMx (zMx (zMx s9 (zTold P i) 12) (zR P i) (zC P i)) (fun p => zBits P i / 2 ^ p % 2) 0))), none, some (.int (nI 0))]) (st2 := []) (pc2 := 75) rfl rfl rfl ?_
          suffices L2 : ∀ (d9 : Nat) (d : Nat), zStay P i - d < d9 → (d ≤ zStay P i) → rG P0 l E0 (rR 4 0 0) S0 m0 as0 bl0 mt0 c0 D A 6 (MQ bl0 (va_Ql (fun r M' => r = zMl P i s9 ∧ M' = M) (cB D A) A) as0 S0 0 0 A) M 0 0 [some (.long (s9)), none, some (.ref (la u i)), some (.long ((zMx (zMx (zMx s9 (zTold P i) 12) (zR P i) (zC P i)) (fun p => zBits P i / 2 ^ p % 2) d))), none, some (.int (nI d))] 75 [] from L2 _ 0 (Nat.lt_succ_self _) (Nat.zero_le _)
          intro d9
          induction d9 with
          | zero => intro d hd9; exact absurd hd9 (Nat.not_lt_zero _)
          | succ d9 ihd =>
            intro d hd9 hd
            refine rg_iload F (pc := 75) dX3_mixLine_75 rfl ?_
            refine rg_aload_n F (pc := 77) dX3_mixLine_77 rfl ?_
            refine rg_get F (pc := 78) (ci := 2) rfl inX1 (hO.2.2.2.2.2.2.1 i (by omega)) 10 (by decide) q273 (fun _ h9 => h9) rfl dX3_mixLine_78 ?_
            refine rg_ncmp_ge F (pc := 81) (tgt := 102) dX3_mixLine_81 (by decide) (by omega) (by omega) (fun c81 => ?_) (fun c81 => ?_)
            · refine rg_lload_n F (pc := 102) dX3_mixLine_102 rfl ?_
              have e9 : d = zStay P i := by omega
              exact rg_lret F (pc := 103) hrt9 (by decide) (by decide) dX3_mixLine_103 ⟨by rw [e9]; rfl, rfl⟩
            · refine rg_lload_n F (pc := 84) dX3_mixLine_84 rfl ?_
              refine rg_aload_n F (pc := 85) dX3_mixLine_85 rfl ?_
              refine rg_iload F (pc := 86) dX3_mixLine_86 rfl ?_
              refine rg_callVi F (pc := 88) (As := [.int (nI d)]) (rest := [.long ((zMx (zMx (zMx s9 (zTold P i) 12) (zR P i) (zC P i)) (fun p => zBits P i / 2 ^ p % 2) d))]) (ci := 2) (c_saV l D _ x P nW nL u i d hV hi (by omega)) q334 vq_X1_stressAt rfl (hO.2.2.2.2.2.2.1 i (by omega)) rfl rfl (Nat.le_of_ble_eq_true rfl) (Nat.le_of_ble_eq_true rfl) (Nat.le_of_ble_eq_true rfl) ⟨(Nat.le_of_ble_eq_true rfl), (Nat.le_of_ble_eq_true rfl)⟩ dX3_mixLine_88 (fun r9 M9 hp => ?_)
              refine rg_top (v2 := .int (nI (zBits P i / 2 ^ d % 2))) (by first | (rw [hp.1]; done) | (rw [hp.1]; rfl)) ?_
              refine rg_mem (M2 := M) hp.2 ?_
              refine rg_i2l F (pc := 91) (v := lN (zBits P i / 2 ^ d % 2)) dX3_mixLine_91 (nI_l (by omega)) ?_
              refine rg_callSl F (pc := 92) (As := [.long ((zMx (zMx (zMx s9 (zTold P i) 12) (zR P i) (zC P i)) (fun p => zBits P i / 2 ^ p % 2) d)), .long (lN (zBits P i / 2 ^ d % 2))]) (rest := []) (c_mix l D _ ((zMx (zMx (zMx s9 (zTold P i) 12) (zR P i) (zC P i)) (fun p => zBits P i / 2 ^ p % 2) d)) (zBits P i / 2 ^ d % 2)) q376 sq_X3_mix rfl rfl (Nat.le_of_ble_eq_true rfl) (Nat.le_of_ble_eq_true rfl) (Nat.le_of_ble_eq_true rfl) ⟨(Nat.le_of_ble_eq_true rfl), (Nat.le_of_ble_eq_true rfl)⟩ dX3_mixLine_92 (fun r9 M9 hp => ?_)
              refine rg_top (v2 := .long (zMix ((zMx (zMx (zMx s9 (zTold P i) 12) (zR P i) (zC P i)) (fun p => zBits P i / 2 ^ p % 2) d)) (zBits P i / 2 ^ d % 2))) (by first | (rw [hp.1]; done) | (rw [hp.1]; rfl)) ?_
              refine rg_mem (M2 := M) hp.2 ?_
              refine rg_lstore_n F (pc := 95) (lv' := [some (.long (s9)), none, some (.ref (la u i)), some (.long (zMix ((zMx (zMx (zMx s9 (zTold P i) 12) (zR P i) (zC P i)) (fun p => zBits P i / 2 ^ p % 2) d)) (zBits P i / 2 ^ d % 2))), none, some (.int (nI d))]) dX3_mixLine_95 (Nat.le_of_ble_eq_true rfl) rfl ?_
              refine rg_iinc F (pc := 96) (v := nI (d + 1)) (lv' := [some (.long (s9)), none, some (.ref (la u i)), some (.long (zMix ((zMx (zMx (zMx s9 (zTold P i) 12) (zR P i) (zC P i)) (fun p => zBits P i / 2 ^ p % 2) d)) (zBits P i / 2 ^ d % 2))), none, some (.int (nI (d + 1)))]) dX3_mixLine_96 rfl (nI_add _ 1) (Nat.le_of_ble_eq_true rfl) rfl ?_
              refine rg_goto F (pc := 99) (tgt := 75) dX3_mixLine_99 (by decide) ?_
              exact ihd (d + 1) (by omega) (by omega)
        · refine rg_lload_n F (pc := 45) dX3_mixLine_45 rfl ?_
          refine rg_aload_n F (pc := 46) dX3_mixLine_46 rfl ?_
          refine rg_get F (pc := 47) (ci := 2) rfl inX1 (hO.2.2.2.2.2.2.1 i (by omega)) 4 (by decide) q311 (fun _ h9 => h9) rfl dX3_mixLine_47 ?_
          refine rg_iload F (pc := 50) dX3_mixLine_50 rfl ?_
          refine rg_callVq F (pc := 52) (As := [.int (nI b)]) (rest := [.long ((zMx (zMx s9 (zTold P i) 12) (zR P i) b))]) (ci := 0) (c_lget l D _ (ra u i) mdr bkr (zC P i) ((fun j => wa u (zR P i j))) b hrr (by omega)) q237 vq_Jx4a65c_get_915e3 rfl hrr.1 rfl rfl (Nat.le_of_ble_eq_true rfl) (Nat.le_of_ble_eq_true rfl) (Nat.le_of_ble_eq_true rfl) ⟨(Nat.le_of_ble_eq_true rfl), (Nat.le_of_ble_eq_true rfl)⟩ dX3_mixLine_52 (fun r9 M9 hp => ?_)
          refine rg_top (v2 := .ref ((fun j => wa u (zR P i j)) b)) (by rw [hp.1]; rfl) ?_
          refine rg_mem (M2 := M) hp.2 ?_
          have hzr := (hO.1.2.2 i hi).2.2.2.2.2 b (by omega)
          refine rg_cast F (pc := 55) (ci := 3) rfl (hO.2.2.2.2.1 _ hzr) q232 dX3_mixLine_55 ?_
          refine rg_get F (pc := 58) (ci := 3) rfl inX2 (hO.2.2.2.2.1 _ hzr) 0 (by decide) q219 (fun _ h9 => h9) rfl dX3_mixLine_58 ?_
          refine rg_i2l F (pc := 61) (v := lN (zR P i b)) dX3_mixLine_61 (nI_l (by omega)) ?_
          refine rg_callSl F (pc := 62) (As := [.long ((zMx (zMx s9 (zTold P i) 12) (zR P i) b)), .long (lN (zR P i b))]) (rest := []) (c_mix l D _ ((zMx (zMx s9 (zTold P i) 12) (zR P i) b)) (zR P i b)) q376 sq_X3_mix rfl rfl (Nat.le_of_ble_eq_true rfl) (Nat.le_of_ble_eq_true rfl) (Nat.le_of_ble_eq_true rfl) ⟨(Nat.le_of_ble_eq_true rfl), (Nat.le_of_ble_eq_true rfl)⟩ dX3_mixLine_62 (fun r9 M9 hp => ?_)
          refine rg_top (v2 := .long (zMix ((zMx (zMx s9 (zTold P i) 12) (zR P i) b)) (zR P i b))) (by first | (rw [hp.1]; done) | (rw [hp.1]; rfl)) ?_
          refine rg_mem (M2 := M) hp.2 ?_
          refine rg_lstore_n F (pc := 65) (lv' := [some (.long (s9)), none, some (.ref (la u i)), some (.long (zMix ((zMx (zMx s9 (zTold P i) 12) (zR P i) b)) (zR P i b))), none, some (.int (nI b))]) dX3_mixLine_65 (Nat.le_of_ble_eq_true rfl) rfl ?_
          refine rg_iinc F (pc := 66) (v := nI (b + 1)) (lv' := [some (.long (s9)), none, some (.ref (la u i)), some (.long (zMix ((zMx (zMx s9 (zTold P i) 12) (zR P i) b)) (zR P i b))), none, some (.int (nI (b + 1)))]) dX3_mixLine_66 rfl (nI_add _ 1) (Nat.le_of_ble_eq_true rfl) rfl ?_
          refine rg_goto F (pc := 69) (tgt := 33) dX3_mixLine_69 (by decide) ?_
          exact ihb (b + 1) (by omega) (by omega)
    · refine rg_lload_n F (pc := 12) dX3_mixLine_12 rfl ?_
      refine rg_aload_n F (pc := 13) dX3_mixLine_13 rfl ?_
      refine rg_iload F (pc := 14) dX3_mixLine_14 rfl ?_
      refine rg_callVi F (pc := 16) (As := [.int (nI a)]) (rest := [.long ((zMx s9 (zTold P i) a))]) (ci := 2) (c_teV l D _ x P nW nL u i a hV hi (by omega)) q330 vq_X1_tells rfl (hO.2.2.2.2.2.2.1 i (by omega)) rfl rfl (Nat.le_of_ble_eq_true rfl) (Nat.le_of_ble_eq_true rfl) (Nat.le_of_ble_eq_true rfl) ⟨(Nat.le_of_ble_eq_true rfl), (Nat.le_of_ble_eq_true rfl)⟩ dX3_mixLine_16 (fun r9 M9 hp => ?_)
      refine rg_top (v2 := .int (nI (zTold P i a))) (by first | (rw [hp.1]; done) | (rw [hp.1]; rfl)) ?_
      refine rg_mem (M2 := M) hp.2 ?_
      have htl := zTold_le hO.1 hi a
      refine rg_i2l F (pc := 19) (v := lN (zTold P i a)) dX3_mixLine_19 (nI_l (by omega)) ?_
      refine rg_callSl F (pc := 20) (As := [.long ((zMx s9 (zTold P i) a)), .long (lN (zTold P i a))]) (rest := []) (c_mix l D _ ((zMx s9 (zTold P i) a)) (zTold P i a)) q376 sq_X3_mix rfl rfl (Nat.le_of_ble_eq_true rfl) (Nat.le_of_ble_eq_true rfl) (Nat.le_of_ble_eq_true rfl) ⟨(Nat.le_of_ble_eq_true rfl), (Nat.le_of_ble_eq_true rfl)⟩ dX3_mixLine_20 (fun r9 M9 hp => ?_)
      refine rg_top (v2 := .long (zMix ((zMx s9 (zTold P i) a)) (zTold P i a))) (by first | (rw [hp.1]; done) | (rw [hp.1]; rfl)) ?_
      refine rg_mem (M2 := M) hp.2 ?_
      refine rg_lstore_n F (pc := 23) (lv' := [some (.long (s9)), none, some (.ref (la u i)), some (.long (zMix ((zMx s9 (zTold P i) a)) (zTold P i a))), none, some (.int (nI a))]) dX3_mixLine_23 (Nat.le_of_ble_eq_true rfl) rfl ?_
      refine rg_iinc F (pc := 24) (v := nI (a + 1)) (lv' := [some (.long (s9)), none, some (.ref (la u i)), some (.long (zMix ((zMx s9 (zTold P i) a)) (zTold P i a))), none, some (.int (nI (a + 1)))]) dX3_mixLine_24 rfl (nI_add _ 1) (Nat.le_of_ble_eq_true rfl) rfl ?_
      refine rg_goto F (pc := 27) (tgt := 5) dX3_mixLine_27 (by decide) ?_
      exact ih (a + 1) (by omega) (by omega)
set_option maxHeartbeats 4000000 in
set_option maxRecDepth 100000 in
theorem c_digest (l : Launch) (D : va_G) (M : rMem) (x : Nat) (P : Poem) (nW nL : Nat) (u : Nat → Nat → Nat) (hV : cV D M x P nW nL u) : CMl l D yX3_digest cX3_digest 6 ((some .long)) 7 0 0 M [.ref (x)] (fun r M' => r = zDig P nW nL ∧ M' = M) := by
  refine rM (lv0 := [some (.ref (x)), none, none, none, none, none]) (by decide) rfl rfl (Nat.le_of_ble_eq_true rfl) (fun P0 E0 S0 m0 as0 bl0 mt0 c0 A F hrt9 hnm => ?_)
  have hO := cV_see hV
  obtain ⟨mdw, hLw⟩ := hO.2.2.1
  obtain ⟨mdl, hLl⟩ := hO.2.2.2.1
  have hn30 := hO.1.1.1
  have hn10 := hO.1.2.1
  refine rg_ldc2 F (pc := 0) (v := 977) q380 dX3_digest_0 ?_
  refine rg_top (v2 := .long (lN 977)) rfl ?_
  refine rg_lstore_n F (pc := 3) (lv' := [some (.ref (x)), some (.long (lN 977)), none, none, none, none]) dX3_digest_3 (Nat.le_of_ble_eq_true rfl) rfl ?_
  refine rg_iconst F (pc := 4) (v := nI 0) dX3_digest_4 (by decide) ?_
  refine rg_istore_n F (pc := 5) (lv' := [some (.ref (x)), some (.long (lN 977)), none, some (.int (nI 0)), none, none]) dX3_digest_5 (Nat.le_of_ble_eq_true rfl) rfl ?_
  refine rg_eq (lv2 := [some (.ref (x)), some (.long ((zMx (lN 977) (zCnt P nW nL) 0))), none, some (.int (nI 0)), none, none]) (st2 := []) (pc2 := 6) rfl rfl rfl ?_
  suffices L0 : ∀ (d9 : Nat) (a : Nat), 7 - a < d9 → (a ≤ 7) → rG P0 l E0 (rR 7 0 0) S0 m0 as0 bl0 mt0 c0 D A 6 (MQ bl0 (va_Ql (fun r M' => r = zDig P nW nL ∧ M' = M) (cB D A) A) as0 S0 0 0 A) M 0 0 [some (.ref (x)), some (.long ((zMx (lN 977) (zCnt P nW nL) a))), none, some (.int (nI a)), none, none] 6 [] from L0 _ 0 (Nat.lt_succ_self _) (Nat.zero_le _)
  intro d9
  induction d9 with
  | zero => intro a hd9; exact absurd hd9 (Nat.not_lt_zero _)
  | succ d9 iha =>
    intro a hd9 ha
    refine rg_iload_n F (pc := 6) dX3_digest_6 rfl ?_
    refine rg_bipush F (pc := 7) (v := nI 7) dX3_digest_7 (by decide) ?_
    refine rg_ncmp_ge F (pc := 9) (tgt := 29) dX3_digest_9 (by decide) (by omega) (by omega) (fun c9 => ?_) (fun c9 => ?_)
    · refine rg_iconst F (pc := 29) (v := nI 0) dX3_digest_29 (by decide) ?_
      refine rg_istore_n F (pc := 30) (lv' := [some (.ref (x)), some (.long ((zMx (lN 977) (zCnt P nW nL) a))), none, some (.int (nI 0)), none, none]) dX3_digest_30 (Nat.le_of_ble_eq_true rfl) rfl ?_
      have e7 : a = 7 := by omega
      subst e7
      refine rg_eq (lv2 := [some (.ref (x)), some (.long ((zMw P nL (zMx (lN 977) (zCnt P nW nL) 7) 0))), none, some (.int (nI 0)), none, none]) (st2 := []) (pc2 := 31) rfl rfl rfl ?_
      suffices L1 : ∀ (d9 : Nat) (w : Nat), nW - w < d9 → (w ≤ nW) → rG P0 l E0 (rR 7 0 0) S0 m0 as0 bl0 mt0 c0 D A 6 (MQ bl0 (va_Ql (fun r M' => r = zDig P nW nL ∧ M' = M) (cB D A) A) as0 S0 0 0 A) M 0 0 [some (.ref (x)), some (.long ((zMw P nL (zMx (lN 977) (zCnt P nW nL) 7) w))), none, some (.int (nI w)), none, none] 31 [] from L1 _ 0 (Nat.lt_succ_self _) (Nat.zero_le _)
      intro d9
      induction d9 with
      | zero => intro w hd9; exact absurd hd9 (Nat.not_lt_zero _)
      | succ d9 ihw =>
        intro w hd9 hw
        refine rg_iload_n F (pc := 31) dX3_digest_31 rfl ?_
        refine rg_aload_n F (pc := 32) dX3_digest_32 rfl ?_
        refine rg_get F (pc := 33) (ci := 4) rfl inX3 hO.2.1 0 (by decide) q202 (fun _ h9 => h9) rfl dX3_digest_33 ?_
        refine rg_callVi F (pc := 36) (As := []) (rest := [.int (nI w)]) (ci := 0) (c_size l D _ (gw u) mdw (gbw u) nW hLw.1) q221 vq_Jx4a65c_size_8abf5 rfl hLw.1 rfl rfl (Nat.le_of_ble_eq_true rfl) (Nat.le_of_ble_eq_true rfl) (Nat.le_of_ble_eq_true rfl) ⟨(Nat.le_of_ble_eq_true rfl), (Nat.le_of_ble_eq_true rfl)⟩ dX3_digest_36 (fun r9 M9 hp => ?_)
        refine rg_top (v2 := .int (nI nW)) (by first | (rw [hp.1]; done) | (rw [hp.1]; rfl)) ?_
        refine rg_mem (M2 := M) hp.2 ?_
        refine rg_ncmp_ge F (pc := 39) (tgt := 91) dX3_digest_39 (by decide) (by omega) (by omega) (fun c39 => ?_) (fun c39 => ?_)
        · refine rg_iconst F (pc := 91) (v := nI 0) dX3_digest_91 (by decide) ?_
          refine rg_istore_n F (pc := 92) (lv' := [some (.ref (x)), some (.long ((zMw P nL (zMx (lN 977) (zCnt P nW nL) 7) w))), none, some (.int (nI 0)), none, none]) dX3_digest_92 (Nat.le_of_ble_eq_true rfl) rfl ?_
          have e8 : w = nW := by omega
          rw [e8]
          refine rg_eq (lv2 := [some (.ref (x)), some (.long ((zMls P (zMw P nL (zMx (lN 977) (zCnt P nW nL) 7) nW) 0))), none, some (.int (nI 0)), none, none]) (st2 := []) (pc2 := 93) rfl rfl rfl ?_
          suffices L2 : ∀ (d9 : Nat) (i : Nat), nL - i < d9 → (i ≤ nL) → rG P0 l E0 (rR 7 0 0) S0 m0 as0 bl0 mt0 c0 D A 6 (MQ bl0 (va_Ql (fun r M' => r = zDig P nW nL ∧ M' = M) (cB D A) A) as0 S0 0 0 A) M 0 0 [some (.ref (x)), some (.long ((zMls P (zMw P nL (zMx (lN 977) (zCnt P nW nL) 7) nW) i))), none, some (.int (nI i)), none, none] 93 [] from L2 _ 0 (Nat.lt_succ_self _) (Nat.zero_le _)
          intro d9
          induction d9 with
          | zero => intro i hd9; exact absurd hd9 (Nat.not_lt_zero _)
          | succ d9 ihi =>
            intro i hd9 hi
            refine rg_iload_n F (pc := 93) dX3_digest_93 rfl ?_
            refine rg_aload_n F (pc := 94) dX3_digest_94 rfl ?_
            refine rg_get F (pc := 95) (ci := 4) rfl inX3 hO.2.1 1 (by decide) q203 (fun _ h9 => h9) rfl dX3_digest_95 ?_
            refine rg_callVi F (pc := 98) (As := []) (rest := [.int (nI i)]) (ci := 0) (c_size l D _ (gl u) mdl (gbl u) nL hLl.1) q221 vq_Jx4a65c_size_8abf5 rfl hLl.1 rfl rfl (Nat.le_of_ble_eq_true rfl) (Nat.le_of_ble_eq_true rfl) (Nat.le_of_ble_eq_true rfl) ⟨(Nat.le_of_ble_eq_true rfl), (Nat.le_of_ble_eq_true rfl)⟩ dX3_digest_98 (fun r9 M9 hp => ?_)
            refine rg_top (v2 := .int (nI nL)) (by first | (rw [hp.1]; done) | (rw [hp.1]; rfl)) ?_
            refine rg_mem (M2 := M) hp.2 ?_
            refine rg_ncmp_ge F (pc := 101) (tgt := 126) dX3_digest_101 (by decide) (by omega) (by omega) (fun c101 => ?_) (fun c101 => ?_)
            · refine rg_lload_n F (pc := 126) dX3_digest_126 rfl ?_
              have e9 : i = nL := by omega
              exact rg_lret F (pc := 127) hrt9 (by decide) (by decide) dX3_digest_127 ⟨by rw [e9]; rfl, rfl⟩
            · refine rg_lload_n F (pc := 104) dX3_digest_104 rfl ?_
              refine rg_aload_n F (pc := 105) dX3_digest_105 rfl ?_
              refine rg_get F (pc := 106) (ci := 4) rfl inX3 hO.2.1 1 (by decide) q203 (fun _ h9 => h9) rfl dX3_digest_106 ?_
              refine rg_iload_n F (pc := 109) dX3_digest_109 rfl ?_
              refine rg_callVq F (pc := 110) (As := [.int (nI i)]) (rest := [.long ((zMls P (zMw P nL (zMx (lN 977) (zCnt P nW nL) 7) nW) i))]) (ci := 0) (c_lget l D _ (gl u) mdl (gbl u) nL (la u) i hLl (by omega)) q237 vq_Jx4a65c_get_915e3 rfl hLl.1 rfl rfl (Nat.le_of_ble_eq_true rfl) (Nat.le_of_ble_eq_true rfl) (Nat.le_of_ble_eq_true rfl) ⟨(Nat.le_of_ble_eq_true rfl), (Nat.le_of_ble_eq_true rfl)⟩ dX3_digest_110 (fun r9 M9 hp => ?_)
              refine rg_top (v2 := .ref (la u i)) (by rw [hp.1]; rfl) ?_
              refine rg_mem (M2 := M) hp.2 ?_
              refine rg_cast F (pc := 113) (ci := 2) rfl (hO.2.2.2.2.2.2.1 i (by omega)) q295 dX3_digest_113 ?_
              refine rg_callSl F (pc := 116) (As := [.long ((zMls P (zMw P nL (zMx (lN 977) (zCnt P nW nL) 7) nW) i)), .ref (la u i)]) (rest := []) (c_mixL l D _ x P nW nL u i ((zMls P (zMw P nL (zMx (lN 977) (zCnt P nW nL) 7) nW) i)) hV (by omega)) q381 sq_X3_mixLine rfl rfl (Nat.le_of_ble_eq_true rfl) (Nat.le_of_ble_eq_true rfl) (Nat.le_of_ble_eq_true rfl) ⟨(Nat.le_of_ble_eq_true rfl), (Nat.le_of_ble_eq_true rfl)⟩ dX3_digest_116 (fun r9 M9 hp => ?_)
              refine rg_top (v2 := .long (zMl P i ((zMls P (zMw P nL (zMx (lN 977) (zCnt P nW nL) 7) nW) i)))) (by first | (rw [hp.1]; done) | (rw [hp.1]; rfl)) ?_
              refine rg_mem (M2 := M) hp.2 ?_
              refine rg_lstore_n F (pc := 119) (lv' := [some (.ref (x)), some (.long (zMl P i ((zMls P (zMw P nL (zMx (lN 977) (zCnt P nW nL) 7) nW) i)))), none, some (.int (nI i)), none, none]) dX3_digest_119 (Nat.le_of_ble_eq_true rfl) rfl ?_
              refine rg_iinc F (pc := 120) (v := nI (i + 1)) (lv' := [some (.ref (x)), some (.long (zMl P i ((zMls P (zMw P nL (zMx (lN 977) (zCnt P nW nL) 7) nW) i)))), none, some (.int (nI (i + 1))), none, none]) dX3_digest_120 rfl (nI_add _ 1) (Nat.le_of_ble_eq_true rfl) rfl ?_
              refine rg_goto F (pc := 123) (tgt := 93) dX3_digest_123 (by decide) ?_
              exact ihi (i + 1) (by omega) (by omega)
        · refine rg_aload_n F (pc := 42) dX3_digest_42 rfl ?_
          refine rg_get F (pc := 43) (ci := 4) rfl inX3 hO.2.1 0 (by decide) q202 (fun _ h9 => h9) rfl dX3_digest_43 ?_
          refine rg_iload_n F (pc := 46) dX3_digest_46 rfl ?_
          refine rg_callVq F (pc := 47) (As := [.int (nI w)]) (rest := []) (ci := 0) (c_lget l D _ (gw u) mdw (gbw u) nW (wa u) w hLw (by omega)) q237 vq_Jx4a65c_get_915e3 rfl hLw.1 rfl rfl (Nat.le_of_ble_eq_true rfl) (Nat.le_of_ble_eq_true rfl) (Nat.le_of_ble_eq_true rfl) ⟨(Nat.le_of_ble_eq_true rfl), (Nat.le_of_ble_eq_true rfl)⟩ dX3_digest_47 (fun r9 M9 hp => ?_)
          refine rg_top (v2 := .ref (wa u w)) (by rw [hp.1]; rfl) ?_
          refine rg_mem (M2 := M) hp.2 ?_
          refine rg_cast F (pc := 50) (ci := 3) rfl (hO.2.2.2.2.1 w (by omega)) q232 dX3_digest_50 ?_
          refine rg_astore F (pc := 53) (lv' := [some (.ref (x)), some (.long ((zMw P nL (zMx (lN 977) (zCnt P nW nL) 7) w))), none, some (.int (nI w)), some (.ref (wa u w)), none]) dX3_digest_53 (Nat.le_of_ble_eq_true rfl) rfl ?_
          refine rg_iconst F (pc := 55) (v := nI 0) dX3_digest_55 (by decide) ?_
          refine rg_istore F (pc := 56) (lv' := [some (.ref (x)), some (.long ((zMw P nL (zMx (lN 977) (zCnt P nW nL) 7) w))), none, some (.int (nI w)), some (.ref (wa u w)), some (.int (nI 0))]) dX3_digest_56 (Nat.le_of_ble_eq_true rfl) rfl ?_
          have hw1 : w < nW := by omega
          refine rg_eq (lv2 := [some (.ref (x)), some (.long ((zMx (zMw P nL (zMx (lN 977) (zCnt P nW nL) 7) w) (zAbout P nL w) 0))), none, some (.int (nI w)), some (.ref (wa u w)), some (.int (nI 0))]) (st2 := []) (pc2 := 58) rfl rfl rfl ?_
          suffices L2 : ∀ (d9 : Nat) (e : Nat), 6 - e < d9 → (e ≤ 6) → rG P0 l E0 (rR 7 0 0) S0 m0 as0 bl0 mt0 c0 D A 6 (MQ bl0 (va_Ql (fun r M' => r = zDig P nW nL ∧ M' = M) (cB D A) A) as0 S0 0 0 A) M 0 0 [some (.ref (x)), some (.long ((zMx (zMw P nL (zMx (lN 977) (zCnt P nW nL) 7) w) (zAbout P nL w) e))), none, some (.int (nI w)), some (.ref (wa u w)), some (.int (nI e))] 58 [] from L2 _ 0 (Nat.lt_succ_self _) (Nat.zero_le _)
          intro d9
          induction d9 with
          | zero => intro e hd9; exact absurd hd9 (Nat.not_lt_zero _)
          | succ d9 ihe =>
            intro e hd9 he
            refine rg_iload F (pc := 58) dX3_digest_58 rfl ?_
            refine rg_bipush F (pc := 60) (v := nI 6) dX3_digest_60 (by decide) ?_
            refine rg_ncmp_ge F (pc := 62) (tgt := 85) dX3_digest_62 (by decide) (by omega) (by omega) (fun c62 => ?_) (fun c62 => ?_)
            · have e6 : e = 6 := by omega
              subst e6
              refine rg_eq (lv2 := [some (.ref (x)), some (.long ((zMw P nL (zMx (lN 977) (zCnt P nW nL) 7) (w + 1)))), none, some (.int (nI w)), some (.ref (wa u w)), some (.int (nI 6))]) (st2 := []) (pc2 := 85) rfl rfl rfl ?_
              refine rg_sub (lv' := [some (.ref (x)), some (.long ((zMw P nL (zMx (lN 977) (zCnt P nW nL) 7) (w + 1)))), none, some (.int (nI w)), none, none]) (by repeat' constructor) ?_
              refine rg_iinc F (pc := 85) (v := nI (w + 1)) (lv' := [some (.ref (x)), some (.long ((zMw P nL (zMx (lN 977) (zCnt P nW nL) 7) (w + 1)))), none, some (.int (nI (w + 1))), none, none]) dX3_digest_85 rfl (nI_add _ 1) (Nat.le_of_ble_eq_true rfl) rfl ?_
              refine rg_goto F (pc := 88) (tgt := 31) dX3_digest_88 (by decide) ?_
              exact ihw (w + 1) (by omega) (by omega)
            · refine rg_lload_n F (pc := 65) dX3_digest_65 rfl ?_
              refine rg_aload_n F (pc := 66) dX3_digest_66 rfl ?_
              refine rg_aload F (pc := 67) dX3_digest_67 rfl ?_
              refine rg_iload F (pc := 69) dX3_digest_69 rfl ?_
              refine rg_callVi F (pc := 71) (As := [.ref (wa u w), .int (nI e)]) (rest := [.long ((zMx (zMw P nL (zMx (lN 977) (zCnt P nW nL) 7) w) (zAbout P nL w) e))]) (ci := 4) (c_aboutW l D _ x P nW nL u w e hV (by omega) (by omega)) q256 vq_X3_aboutWord rfl hO.2.1 rfl rfl (Nat.le_of_ble_eq_true rfl) (Nat.le_of_ble_eq_true rfl) (Nat.le_of_ble_eq_true rfl) ⟨(Nat.le_of_ble_eq_true rfl), (Nat.le_of_ble_eq_true rfl)⟩ dX3_digest_71 (fun r9 M9 hp => ?_)
              refine rg_top (v2 := .int (nI (zAbout P nL w e))) (by first | (rw [hp.1]; done) | (rw [hp.1]; rfl)) ?_
              refine rg_mem (M2 := M) hp.2 ?_
              have hab := zAbout_le hO.1 hw1 e
              refine rg_i2l F (pc := 74) (v := lN (zAbout P nL w e)) dX3_digest_74 (nI_l (by omega)) ?_
              refine rg_callSl F (pc := 75) (As := [.long ((zMx (zMw P nL (zMx (lN 977) (zCnt P nW nL) 7) w) (zAbout P nL w) e)), .long (lN (zAbout P nL w e))]) (rest := []) (c_mix l D _ ((zMx (zMw P nL (zMx (lN 977) (zCnt P nW nL) 7) w) (zAbout P nL w) e)) (zAbout P nL w e)) q376 sq_X3_mix rfl rfl (Nat.le_of_ble_eq_true rfl) (Nat.le_of_ble_eq_true rfl) (Nat.le_of_ble_eq_true rfl) ⟨(Nat.le_of_ble_eq_true rfl), (Nat.le_of_ble_eq_true rfl)⟩ dX3_digest_75 (fun r9 M9 hp => ?_)
              refine rg_top (v2 := .long (zMix ((zMx (zMw P nL (zMx (lN 977) (zCnt P nW nL) 7) w) (zAbout P nL w) e)) (zAbout P nL w e))) (by first | (rw [hp.1]; done) | (rw [hp.1]; rfl)) ?_
              refine rg_mem (M2 := M) hp.2 ?_
              refine rg_lstore_n F (pc := 78) (lv' := [some (.ref (x)), some (.long (zMix ((zMx (zMw P nL (zMx (lN 977) (zCnt P nW nL) 7) w) (zAbout P nL w) e)) (zAbout P nL w e))), none, some (.int (nI w)), some (.ref (wa u w)), some (.int (nI e))]) dX3_digest_78 (Nat.le_of_ble_eq_true rfl) rfl ?_
              refine rg_iinc F (pc := 79) (v := nI (e + 1)) (lv' := [some (.ref (x)), some (.long (zMix ((zMx (zMw P nL (zMx (lN 977) (zCnt P nW nL) 7) w) (zAbout P nL w) e)) (zAbout P nL w e))), none, some (.int (nI w)), some (.ref (wa u w)), some (.int (nI (e + 1)))]) dX3_digest_79 rfl (nI_add _ 1) (Nat.le_of_ble_eq_true rfl) rfl ?_
              refine rg_goto F (pc := 82) (tgt := 58) dX3_digest_82 (by decide) ?_
              exact ihe (e + 1) (by omega) (by omega)
    · refine rg_lload_n F (pc := 12) dX3_digest_12 rfl ?_
      refine rg_aload_n F (pc := 13) dX3_digest_13 rfl ?_
      refine rg_iload_n F (pc := 14) dX3_digest_14 rfl ?_
      refine rg_callVi F (pc := 15) (As := [.int (nI a)]) (rest := [.long ((zMx (lN 977) (zCnt P nW nL) a))]) (ci := 4) (c_cnt l D _ x P nW nL u a hV (by omega)) q359 vq_X3_countAll rfl hO.2.1 rfl rfl (Nat.le_of_ble_eq_true rfl) (Nat.le_of_ble_eq_true rfl) (Nat.le_of_ble_eq_true rfl) ⟨(Nat.le_of_ble_eq_true rfl), (Nat.le_of_ble_eq_true rfl)⟩ dX3_digest_15 (fun r9 M9 hp => ?_)
      refine rg_top (v2 := .int (nI (zCnt P nW nL a))) (by first | (rw [hp.1]; done) | (rw [hp.1]; rfl)) ?_
      refine rg_mem (M2 := M) hp.2 ?_
      have hcl := zCnt_le hO.1 a
      refine rg_i2l F (pc := 18) (v := lN (zCnt P nW nL a)) dX3_digest_18 (nI_l (by omega)) ?_
      refine rg_callSl F (pc := 19) (As := [.long ((zMx (lN 977) (zCnt P nW nL) a)), .long (lN (zCnt P nW nL a))]) (rest := []) (c_mix l D _ ((zMx (lN 977) (zCnt P nW nL) a)) (zCnt P nW nL a)) q376 sq_X3_mix rfl rfl (Nat.le_of_ble_eq_true rfl) (Nat.le_of_ble_eq_true rfl) (Nat.le_of_ble_eq_true rfl) ⟨(Nat.le_of_ble_eq_true rfl), (Nat.le_of_ble_eq_true rfl)⟩ dX3_digest_19 (fun r9 M9 hp => ?_)
      refine rg_top (v2 := .long (zMix ((zMx (lN 977) (zCnt P nW nL) a)) (zCnt P nW nL a))) (by first | (rw [hp.1]; done) | (rw [hp.1]; rfl)) ?_
      refine rg_mem (M2 := M) hp.2 ?_
      refine rg_lstore_n F (pc := 22) (lv' := [some (.ref (x)), some (.long (zMix ((zMx (lN 977) (zCnt P nW nL) a)) (zCnt P nW nL a))), none, some (.int (nI a)), none, none]) dX3_digest_22 (Nat.le_of_ble_eq_true rfl) rfl ?_
      refine rg_iinc F (pc := 23) (v := nI (a + 1)) (lv' := [some (.ref (x)), some (.long (zMix ((zMx (lN 977) (zCnt P nW nL) a)) (zCnt P nW nL a))), none, some (.int (nI (a + 1))), none, none]) dX3_digest_23 rfl (nI_add _ 1) (Nat.le_of_ble_eq_true rfl) rfl ?_
      refine rg_goto F (pc := 26) (tgt := 6) dX3_digest_26 (by decide) ?_
      exact iha (a + 1) (by omega) (by omega)
