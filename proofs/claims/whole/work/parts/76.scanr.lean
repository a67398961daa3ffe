theorem mS_up {P : Poem} {i j k : Nat} {F : Nat → Nat → Int32} {v : Int32} (h : mS P i F) (_ : 10 ≤ k) (hj : i ≤ j) : mS P i (sf F k (upd (F k) j v)) := fun q hq => by
  have h2 := h q hq
  have e : ∀ r, sf F k (upd (F k) j v) r q = F r q := fun r => by
    by_cases e : r = k
    · subst e; rw [sf_eq]; unfold upd; rw [if_neg (by omega)]
    · rw [sf_ne F _ e]
  rw [e, e, e, e, e, e]
  exact h2
theorem mS_step {P : Poem} {i : Nat} {F : Nat → Nat → Int32} {g : Nat → Int32} {x : Nat} (h : mS P i F) (h10 : F 10 i = nI (zo P i)) (h11 : F 11 i = nI (zCa P i)) (h12 : F 12 i = nI (zStay P i)) (h13 : F 13 i = nI (zBits P i)) (h14 : F 14 i = nI (zOff P i)) (_ : x = zOff P i) (_ : zBits P i < 262144) : mS P (i + 1) (sf (sf F 16 g) 15 (upd (sf F 16 g 15) i (nI (zTax P i)))) := fun q hq => by
  by_cases e : q = i
  · subst e
    exact ⟨h10, h11, h12, h13, h14, by show upd _ q _ q = _; unfold upd; rw [if_pos rfl]⟩
  · obtain ⟨a, b, c, d, f, k⟩ := h q (by omega)
    exact ⟨a, b, c, d, f, by show upd _ i _ q = _; unfold upd; rw [if_neg e]; exact k⟩
set_option maxHeartbeats 4000000 in
set_option maxRecDepth 100000 in
theorem r_scan (l : Launch) (D : va_G) (M : rMem) (m : Nat) (P : Poem) (nW nL : Nat) (ad : Nat → Nat) (Fn : Nat → Nat → Int32) (t lo : Int32) (hV : mV D M m P nW nL ad Fn t lo) : CMi l D yX4_scan cX4_scan 5 ((some .int)) 4 0 0 M [.ref (m)] (fun r M' => r = nI (zAll P nL) ∧ ∃ F', mA D M' m ad F' t nW nL (nI (zCa P nL)) ∧ fe Fn F' ∧ mS P nL F') := by
  obtain ⟨hP, hA, hB⟩ := id hV
  have hn30 := hP.1.1
  have hn10 := hP.2.1
  refine rM (lv0 := [some (.ref (m)), none, none, none, none]) (by decide) rfl rfl (Nat.le_of_ble_eq_true rfl) (fun P0 E0 S0 m0 as0 bl0 mt0 c0 A F hrt9 hnm => ?_)
  refine rg_iconst F (pc := 0) (v := nI 0) dX4_scan_0 (by decide) ?_
  refine rg_istore_n F (pc := 1) (lv' := [some (.ref (m)), some (.int (nI 0)), none, none, none]) dX4_scan_1 (Nat.le_of_ble_eq_true rfl) rfl ?_
  refine rg_iconst F (pc := 2) (v := nI 0) dX4_scan_2 (by decide) ?_
  refine rg_istore_n F (pc := 3) (lv' := [some (.ref (m)), some (.int (nI 0)), some (.int (nI 0)), none, none]) dX4_scan_3 (Nat.le_of_ble_eq_true rfl) rfl ?_
  refine rg_iconst F (pc := 4) (v := nI 0) dX4_scan_4 (by decide) ?_
  refine rg_istore_n F (pc := 5) (lv' := [some (.ref (m)), some (.int (nI 0)), some (.int (nI 0)), some (.int (nI 0)), none]) dX4_scan_5 (Nat.le_of_ble_eq_true rfl) rfl ?_
  refine rg_eq (lv2 := [some (.ref (m)), some (.int (nI (zCa P 0))), some (.int (nI (zAll P 0))), some (.int (nI 0)), none]) (st2 := []) (pc2 := 6) rfl rfl rfl ?_
  suffices L0 : ∀ (d9 : Nat) (i : Nat) (M1 : rMem) (F1 : Nat → Nat → Int32), nL - i < d9 → (i ≤ nL) → (mA D M1 m ad F1 t nW nL lo) → (fe Fn F1) → (mS P i F1) → (∀ q, q < zCa P i → F1 16 q = nI (gB (zFl P i / 2 ^ zSt P i) q)) → rG P0 l E0 (rR 4 0 0) S0 m0 as0 bl0 mt0 c0 D A 5 (MQ bl0 (va_Qi (fun r M' => r = nI (zAll P nL) ∧ ∃ F', mA D M' m ad F' t nW nL (nI (zCa P nL)) ∧ fe Fn F' ∧ mS P nL F') (cB D A) A) as0 S0 0 0 A) M1 0 0 [some (.ref (m)), some (.int (nI (zCa P i))), some (.int (nI (zAll P i))), some (.int (nI i)), none] 6 [] from L0 _ 0 _ _ (Nat.lt_succ_self _) (Nat.zero_le _) hA (fe.rf Fn) (fun i hi => absurd hi (Nat.not_lt_zero _)) (fun q hq => absurd hq (Nat.not_lt_zero _))
  intro d9
  induction d9 with
  | zero => intro i M1 F1 hd9; exact absurd hd9 (Nat.not_lt_zero _)
  | succ d9 ih =>
    intro i M1 F1 hd9 hi1 hA1 hfe hs1 hG1
    have hB1 := hB.fe hfe
    have hca := zCa_le hP hi1
    have hal := zAll_le hP i hi1
    refine rg_iload_n F (pc := 6) dX4_scan_6 rfl ?_
    refine rg_aload_n F (pc := 7) dX4_scan_7 rfl ?_
    refine rg_get F (pc := 8) (ci := 5) rfl inX4 hA1.1 7 (by decide) q406 (fun _ h9 => h9) rfl dX4_scan_8 ?_
    refine rg_ncmp_ge F (pc := 11) (tgt := 256) dX4_scan_11 (by decide) (by omega) (by omega) (fun c11 => ?_) (fun c11 => ?_)
    · refine rg_aload_n F (pc := 256) dX4_scan_256 rfl ?_
      refine rg_iload_n F (pc := 257) dX4_scan_257 rfl ?_
      refine rg_put F (pc := 258) (ci := 5) (ty := tyX4 20) rfl inX4 tyX4 tyX4_ok nmX4 hA1.1 20 (by decide) q445 (fun _ h9 => h9) rfl (tyX4_ok 20 (by decide)) rfl rfl (Nat.le_of_ble_eq_true rfl) dX4_scan_258 ?_
      refine rm_mem hA1 (t2 := t) (nW2 := nW) (nL2 := nL) (lo2 := nI (zCa P i)) rfl (fun Ms2 hAs2 => ?_)
      refine rg_iload_n F (pc := 261) dX4_scan_261 rfl ?_
      exact rg_iret F (pc := 262) hrt9 (by decide) (by decide) dX4_scan_262 ⟨by rw [show nL = i by omega], F1, by rw [show zCa P nL = zCa P i by rw [show nL = i by omega]]; exact hAs2, hfe, by rw [show nL = i by omega]; exact hs1⟩
    · have hi : i < nL := by omega
      have hlk := hP.2.2 i hi
      have hz8 := hlk.2.2.2.2.1
      have hzo := zo_le hP.1 hlk
      have hrm := zRm_le hlk
      have hst := zStay_le hlk
      have hle : zStay P i ≤ zRm P i := Nat.min_le_right _ _
      have hls : zStay P i ≤ zCa P i + zo P i := Nat.min_le_left _ _
      refine rg_aload_n F (pc := 14) dX4_scan_14 rfl ?_
      refine rg_get F (pc := 15) (ci := 5) rfl inX4 hA1.1 14 (by decide) q433 (fun _ h9 => h9) rfl dX4_scan_15 ?_
      refine rg_iload_n F (pc := 18) dX4_scan_18 rfl ?_
      refine rg_iload_n F (pc := 19) dX4_scan_19 rfl ?_
      refine rm_st F hA1 (pc := 20) (q := 11) (j := i) (x := nI (zCa P i)) (by decide) (show i < 10 by omega) dX4_scan_20 (fun Ms2 hAs2 => ?_)
      refine rg_aload_n F (pc := 21) dX4_scan_21 rfl ?_
      refine rg_iload_n F (pc := 22) dX4_scan_22 rfl ?_
      refine rg_iload_n F (pc := 23) dX4_scan_23 rfl ?_
      refine rg_callVi F (pc := 24) (As := [.int (nI i), .int (nI (zCa P i))]) (rest := []) (ci := 5) (r_putOwn l D _ m P nW nL ad (sf F1 11 (upd (F1 11) i (nI (zCa P i)))) t lo i (zCa P i) (zFl P i / 2 ^ zSt P i) ⟨hP, hAs2, hB1⟩ (by omega) (by omega) (zX_lt hP (by omega)) (fun q hq => hG1 q hq)) q446 vq_X4_putOwn rfl hAs2.1 rfl rfl (Nat.le_of_ble_eq_true rfl) (Nat.le_of_ble_eq_true rfl) (Nat.le_of_ble_eq_true rfl) ⟨(Nat.le_of_ble_eq_true rfl), (Nat.le_of_ble_eq_true rfl)⟩ dX4_scan_24 (fun r9 M2 hp => ?_)
      refine rg_top (v2 := .int (nI (zCa P i + zo P i))) (by rw [hp.1]) ?_
      obtain ⟨-, F2, hA2, hk2, hG2⟩ := hp
      have hfe2 : fe Fn F2 := (hfe.sf (k := 11) (by decide) _).tr (fun k hk => hk2 k (by omega))
      have hB2 := hB.fe hfe2
      refine rg_istore_n F (pc := 27) (lv' := [some (.ref (m)), some (.int (nI (zCa P i + zo P i))), some (.int (nI (zAll P i))), some (.int (nI i)), none]) dX4_scan_27 (Nat.le_of_ble_eq_true rfl) rfl ?_
      refine rg_aload_n F (pc := 28) dX4_scan_28 rfl ?_
      refine rg_get F (pc := 29) (ci := 5) rfl inX4 hA2.1 13 (by decide) q434 (fun _ h9 => h9) rfl dX4_scan_29 ?_
      refine rg_iload_n F (pc := 32) dX4_scan_32 rfl ?_
      refine rg_iload_n F (pc := 33) dX4_scan_33 rfl ?_
      refine rg_aload_n F (pc := 34) dX4_scan_34 rfl ?_
      refine rg_get F (pc := 35) (ci := 5) rfl inX4 hA2.1 14 (by decide) q433 (fun _ h9 => h9) rfl dX4_scan_35 ?_
      refine rg_iload_n F (pc := 38) dX4_scan_38 rfl ?_
      refine rm_ld F hA2 (pc := 39) (q := 11) (j := i) (x := nI (zCa P i)) (by decide) (show i < 10 by omega) (show F2 11 i = _ by rw [hk2 11 (by decide), sf_eq]; unfold upd; rw [if_pos rfl]) dX4_scan_39 ?_
      refine rg_isub F (pc := 40) (v := nI ((zCa P i + zo P i) - (zCa P i))) dX4_scan_40 (pk_sub (by omega)) ?_
      refine rm_st F hA2 (pc := 41) (q := 10) (j := i) (x := nI ((zCa P i + zo P i) - (zCa P i))) (by decide) (show i < 10 by omega) dX4_scan_41 (fun Ms3 hAs3 => ?_)
      refine rg_aload_n F (pc := 42) dX4_scan_42 rfl ?_
      refine rg_get F (pc := 43) (ci := 5) rfl inX4 hAs3.1 15 (by decide) q435 (fun _ h9 => h9) rfl dX4_scan_43 ?_
      refine rg_iload_n F (pc := 46) dX4_scan_46 rfl ?_
      refine rg_aload_n F (pc := 47) dX4_scan_47 rfl ?_
      refine rg_iload_n F (pc := 48) dX4_scan_48 rfl ?_
      refine rg_callVi F (pc := 49) (As := [.int (nI i)]) (rest := [.int (nI i), .ref (ad 12)]) (ci := 5) (r_room l D _ m P nW nL ad (sf F2 10 (upd (F2 10) i (nI ((zCa P i + zo P i) - (zCa P i))))) t lo i ⟨hP, hAs3, hB2⟩ (by omega)) q452 vq_X4_room rfl hAs3.1 rfl rfl (Nat.le_of_ble_eq_true rfl) (Nat.le_of_ble_eq_true rfl) (Nat.le_of_ble_eq_true rfl) ⟨(Nat.le_of_ble_eq_true rfl), (Nat.le_of_ble_eq_true rfl)⟩ dX4_scan_49 (fun r9 M9 hp => ?_)
      refine rg_top (v2 := .int (nI (zRm P i))) (by first | (rw [hp.1]; done) | (rw [hp.1]; rfl)) ?_
      refine rg_mem (M2 := Ms3) hp.2 ?_
      refine rg_iload_n F (pc := 52) dX4_scan_52 rfl ?_
      refine rg_min F (pc := 53) (v := nI (zStay P i)) q436 q87 q65 q88 (Nat.le_of_ble_eq_true rfl) (Nat.le_of_ble_eq_true rfl) ⟨(Nat.le_of_ble_eq_true rfl), (Nat.le_of_ble_eq_true rfl)⟩ ((rn_min _ _ (by omega) (by omega)).trans (by rw [Nat.min_comm]; rfl)) dX4_scan_53 ?_
      refine rm_st F hAs3 (pc := 56) (q := 12) (j := i) (x := nI (zStay P i)) (by decide) (show i < 10 by omega) dX4_scan_56 (fun Ms4 hAs4 => ?_)
      refine rg_aload_n F (pc := 57) dX4_scan_57 rfl ?_
      refine rg_get F (pc := 58) (ci := 5) rfl inX4 hAs4.1 16 (by decide) q437 (fun _ h9 => h9) rfl dX4_scan_58 ?_
      refine rg_iload_n F (pc := 61) dX4_scan_61 rfl ?_
      refine rg_iconst F (pc := 62) (v := nI 0) dX4_scan_62 (by decide) ?_
      refine rm_st F hAs4 (pc := 63) (q := 13) (j := i) (x := nI 0) (by decide) (show i < 10 by omega) dX4_scan_63 (fun Ms5 hAs5 => ?_)
      refine rg_aload_n F (pc := 64) dX4_scan_64 rfl ?_
      refine rg_get F (pc := 65) (ci := 5) rfl inX4 hAs5.1 17 (by decide) q438 (fun _ h9 => h9) rfl dX4_scan_65 ?_
      refine rg_iload_n F (pc := 68) dX4_scan_68 rfl ?_
      refine rg_iconst F (pc := 69) (v := nI 0) dX4_scan_69 (by decide) ?_
      refine rm_st F hAs5 (pc := 70) (q := 14) (j := i) (x := nI 0) (by decide) (show i < 10 by omega) dX4_scan_70 (fun Ms6 hAs6 => ?_)
      refine rg_iconst F (pc := 71) (v := nI 0) dX4_scan_71 (by decide) ?_
      refine rg_istore F (pc := 72) (lv' := [some (.ref (m)), some (.int (nI (zCa P i + zo P i))), some (.int (nI (zAll P i))), some (.int (nI i)), some (.int (nI 0))]) dX4_scan_72 (Nat.le_of_ble_eq_true rfl) rfl ?_
      refine rg_eq (lv2 := [some (.ref (m)), some (.int (nI (zCa P i + zo P i))), some (.int (nI (zAll P i))), some (.int (nI i)), some (.int (nI 0))]) (st2 := []) (pc2 := 74) rfl rfl rfl ?_
      have g10 : F2 11 i = nI (zCa P i) := by rw [hk2 11 (by decide), sf_eq]; unfold upd; rw [if_pos rfl]
      have gs : mS P i F2 := fun j hj => by have h := hs1 j hj; rw [hk2 10 (by decide), hk2 11 (by decide), hk2 12 (by decide), hk2 13 (by decide), hk2 14 (by decide), hk2 15 (by decide), sf_ne F1 _ (show 10 ≠ 11 by decide), sf_eq, sf_ne F1 _ (show 12 ≠ 11 by decide), sf_ne F1 _ (show 13 ≠ 11 by decide), sf_ne F1 _ (show 14 ≠ 11 by decide), sf_ne F1 _ (show 15 ≠ 11 by decide)]; unfold upd; rw [if_neg (show j ≠ i by omega)]; exact h
      suffices L6 : ∀ (d9 : Nat) (k : Nat) (M3 : rMem) (F3 : Nat → Nat → Int32), zStay P i - k < d9 → (k ≤ zStay P i) → (mA D M3 m ad F3 t nW nL lo) → (fe Fn F3) → (mS P i F3) → (F3 10 i = nI (zo P i)) → (F3 11 i = nI (zCa P i)) → (F3 12 i = nI (zStay P i)) → (F3 13 i = nI ((zFl P (i + 1) / 2 ^ zSt P i) % 2 ^ k)) → (F3 14 i = nI (zOfs (zM P i) (zFl P (i + 1) / 2 ^ zSt P i) k)) → (∀ q, q < zCa P i + zo P i → F3 16 q = nI (gB (zFl P (i + 1) / 2 ^ zSt P i) q)) → rG P0 l E0 (rR 4 0 0) S0 m0 as0 bl0 mt0 c0 D A 5 (MQ bl0 (va_Qi (fun r M' => r = nI (zAll P nL) ∧ ∃ F', mA D M' m ad F' t nW nL (nI (zCa P nL)) ∧ fe Fn F' ∧ mS P nL F') (cB D A) A) as0 S0 0 0 A) M3 0 0 [some (.ref (m)), some (.int (nI (zCa P i + zo P i))), some (.int (nI (zAll P i))), some (.int (nI i)), some (.int (nI k))] 74 [] from L6 _ 0 _ _ (Nat.lt_succ_self _) (Nat.zero_le _) hAs6 ((((hfe2.sf (k := 10) (by decide) _).sf (k := 12) (by decide) _).sf (k := 13) (by decide) _).sf (k := 14) (by decide) _) (mS_up (mS_up (mS_up (mS_up gs (by decide : 10 ≤ 10) (Nat.le_refl i)) (by decide : 10 ≤ 12) (Nat.le_refl i)) (by decide : 10 ≤ 13) (Nat.le_refl i)) (by decide : 10 ≤ 14) (Nat.le_refl i)) (show upd (F2 10) i _ i = _ by unfold upd; rw [if_pos rfl, Nat.add_sub_cancel_left]) g10 (show upd (F2 12) i _ i = _ by unfold upd; rw [if_pos rfl]) (show upd (F2 13) i _ i = _ by unfold upd; rw [if_pos rfl, Nat.pow_zero, Nat.mod_one]) (show upd (F2 14) i _ i = _ by unfold upd; rw [if_pos rfl]; rfl) (fun q hq => by rw [← zY_eq]; exact hG2 q hq)
      intro d9
      induction d9 with
      | zero => intro k M3 F3 hd9; exact absurd hd9 (Nat.not_lt_zero _)
      | succ d9 ihk =>
        intro k M3 F3 hd9 hk hA3 hfe3 hs3 h10 h11 h12 h13 h14 hG3
        have hB3 := hB.fe hfe3
        have hol := zOfs_le (zM P i) (zFl P (i + 1) / 2 ^ zSt P i) k
        have hm4 := hlk.1
        refine rg_iload F (pc := 74) dX4_scan_74 rfl ?_
        refine rg_aload_n F (pc := 76) dX4_scan_76 rfl ?_
        refine rg_get F (pc := 77) (ci := 5) rfl inX4 hA3.1 15 (by decide) q435 (fun _ h9 => h9) rfl dX4_scan_77 ?_
        refine rg_iload_n F (pc := 80) dX4_scan_80 rfl ?_
        refine rm_ld F hA3 (pc := 81) (q := 12) (j := i) (x := nI (zStay P i)) (by decide) (show i < 10 by omega) h12 dX4_scan_81 ?_
        refine rg_ncmp_ge F (pc := 82) (tgt := 145) dX4_scan_82 (by decide) (by omega) (by omega) (fun c82 => ?_) (fun c82 => ?_)
        · refine rg_sub (lv' := [some (.ref (m)), some (.int (nI (zCa P i + zo P i))), some (.int (nI (zAll P i))), some (.int (nI i)), none]) (by repeat' constructor) ?_
          have ek : k = zStay P i := by omega
          subst ek
          have eb : (zFl P (i + 1) / 2 ^ zSt P i) % 2 ^ zStay P i = zBits P i := rfl
          have eo : zOfs (zM P i) (zFl P (i + 1) / 2 ^ zSt P i) (zStay P i) = zOff P i := (zOfs_off hlk.1 (zStay_6 hlk)).trans rfl
          have hbm := zBits_lt hlk
          have hpp := pop_le 18 (zBits P i)
          have hpd := zPaid_le P i
          have hof : zOff P i ≤ 18 := zOffM_le _ _ _
          have hlq : zLack P i ≤ 18 := by unfold zLack; omega
          rw [eo] at h14
          rw [eb] at h13
          refine rg_iload_n F (pc := 145) dX4_scan_145 rfl ?_
          refine rg_aload_n F (pc := 146) dX4_scan_146 rfl ?_
          refine rg_get F (pc := 147) (ci := 5) rfl inX4 hA3.1 15 (by decide) q435 (fun _ h9 => h9) rfl dX4_scan_147 ?_
          refine rg_iload_n F (pc := 150) dX4_scan_150 rfl ?_
          refine rm_ld F hA3 (pc := 151) (q := 12) (j := i) (x := nI (zStay P i)) (by decide) (show i < 10 by omega) h12 dX4_scan_151 ?_
          refine rg_isub F (pc := 152) (v := nI ((zCa P i + zo P i) - (zStay P i))) dX4_scan_152 (pk_sub (by omega)) ?_
          refine rg_istore_n F (pc := 153) (lv' := [some (.ref (m)), some (.int (nI ((zCa P i + zo P i) - (zStay P i)))), some (.int (nI (zAll P i))), some (.int (nI i)), none]) dX4_scan_153 (Nat.le_of_ble_eq_true rfl) rfl ?_
          refine rg_aload_n F (pc := 154) dX4_scan_154 rfl ?_
          refine rg_get F (pc := 155) (ci := 5) rfl inX4 hA3.1 19 (by decide) q439 (fun _ h9 => h9) rfl dX4_scan_155 ?_
          refine rg_aload_n F (pc := 158) dX4_scan_158 rfl ?_
          refine rg_get F (pc := 159) (ci := 5) rfl inX4 hA3.1 15 (by decide) q435 (fun _ h9 => h9) rfl dX4_scan_159 ?_
          refine rg_iload_n F (pc := 162) dX4_scan_162 rfl ?_
          refine rm_ld F hA3 (pc := 163) (q := 12) (j := i) (x := nI (zStay P i)) (by decide) (show i < 10 by omega) h12 dX4_scan_163 ?_
          refine rg_aload_n F (pc := 164) dX4_scan_164 rfl ?_
          refine rg_get F (pc := 165) (ci := 5) rfl inX4 hA3.1 19 (by decide) q439 (fun _ h9 => h9) rfl dX4_scan_165 ?_
          refine rg_iconst F (pc := 168) (v := nI 0) dX4_scan_168 (by decide) ?_
          refine rg_iload_n F (pc := 169) dX4_scan_169 rfl ?_
          refine rm_copy F hA3 (pc := 170) (q := 16) (sp := zStay P i) (z := (zCa P i + zo P i) - (zStay P i)) (by decide) q441 q90 q91 q92 (show zStay P i + ((zCa P i + zo P i) - (zStay P i)) ≤ 320 by omega) (Nat.le_of_ble_eq_true rfl) (Nat.le_of_ble_eq_true rfl) dX4_scan_170 (fun M4 hA4 => ?_)
          have hG4 : ∀ q, q < zCa P (i + 1) → (va_cpy (F3 16) (F3 16) (zStay P i) 0 ((zCa P i + zo P i) - (zStay P i))) q = nI (gB (zFl P (i + 1) / 2 ^ zSt P (i + 1)) q) := fun q hq => by
            have hq2 : q < zCa P i + zo P i - zStay P i := by have := zCa_succ P i; unfold zOv at this; omega
            unfold va_cpy; rw [if_pos ⟨Nat.zero_le _, by omega⟩, Nat.sub_zero, hG3 _ (by omega), gB_div]; rfl
          have hB4 := hB.fe (hfe3.sf (k := 16) (by decide) (va_cpy (F3 16) (F3 16) (zStay P i) 0 ((zCa P i + zo P i) - (zStay P i))))
          refine rg_iconst F (pc := 173) (v := nI 2) dX4_scan_173 (by decide) ?_
          refine rg_aload_n F (pc := 174) dX4_scan_174 rfl ?_
          refine rg_get F (pc := 175) (ci := 5) rfl inX4 hA4.1 16 (by decide) q437 (fun _ h9 => h9) rfl dX4_scan_175 ?_
          refine rg_iload_n F (pc := 178) dX4_scan_178 rfl ?_
          refine rm_ld F hA4 (pc := 179) (q := 13) (j := i) (x := nI (zBits P i)) (by decide) (show i < 10 by omega) h13 dX4_scan_179 ?_
          refine rg_callSi F (pc := 180) (As := [.int (nI (zBits P i))]) (rest := [.int (nI 2)]) (c_bitsI l D _ (zBits P i) hbm) q459 sq_J6_bitCount_0f7a4 rfl rfl (Nat.le_of_ble_eq_true rfl) (Nat.le_of_ble_eq_true rfl) (Nat.le_of_ble_eq_true rfl) ⟨(Nat.le_of_ble_eq_true rfl), (Nat.le_of_ble_eq_true rfl)⟩ dX4_scan_180 (fun r9 M9 hp => ?_)
          refine rg_top (v2 := .int (nI (pop 18 (zBits P i)))) (by first | (rw [hp.1]; done) | (rw [hp.1]; rfl)) ?_
          refine rg_mem (M2 := M4) hp.2 ?_
          refine rg_imul F (pc := 183) (v := nI (2 * (pop 18 (zBits P i)))) dX4_scan_183 (pk_mul _ _) ?_
          refine rg_iconst F (pc := 184) (v := nI 3) dX4_scan_184 (by decide) ?_
          refine rg_aload_n F (pc := 185) dX4_scan_185 rfl ?_
          refine rg_get F (pc := 186) (ci := 5) rfl inX4 hA4.1 17 (by decide) q438 (fun _ h9 => h9) rfl dX4_scan_186 ?_
          refine rg_iload_n F (pc := 189) dX4_scan_189 rfl ?_
          refine rm_ld F hA4 (pc := 190) (q := 14) (j := i) (x := nI (zOff P i)) (by decide) (show i < 10 by omega) h14 dX4_scan_190 ?_
          refine rg_imul F (pc := 191) (v := nI (3 * (zOff P i))) dX4_scan_191 (pk_mul _ _) ?_
          refine rg_iadd F (pc := 192) (v := nI ((2 * (pop 18 (zBits P i))) + (3 * (zOff P i)))) dX4_scan_192 (nI_add _ _) ?_
          refine rg_iconst F (pc := 193) (v := nI 5) dX4_scan_193 (by decide) ?_
          refine rg_aload_n F (pc := 194) dX4_scan_194 rfl ?_
          refine rg_iload_n F (pc := 195) dX4_scan_195 rfl ?_
          refine rg_callVi F (pc := 196) (As := [.int (nI i)]) (rest := [.int (nI 5), .int (nI ((2 * (pop 18 (zBits P i))) + (3 * (zOff P i))))]) (ci := 5) (r_lacks l D _ m P nW nL ad (sf F3 16 (va_cpy (F3 16) (F3 16) (zStay P i) 0 ((zCa P i + zo P i) - (zStay P i)))) t lo i ⟨hP, hA4, hB4⟩ (by omega) h12) q465 vq_X4_lacks rfl hA4.1 rfl rfl (Nat.le_of_ble_eq_true rfl) (Nat.le_of_ble_eq_true rfl) (Nat.le_of_ble_eq_true rfl) ⟨(Nat.le_of_ble_eq_true rfl), (Nat.le_of_ble_eq_true rfl)⟩ dX4_scan_196 (fun r9 M9 hp => ?_)
          refine rg_top (v2 := .int (nI (zLack P i))) (by first | (rw [hp.1]; done) | (rw [hp.1]; rfl)) ?_
          refine rg_mem (M2 := M4) hp.2 ?_
          refine rg_imul F (pc := 199) (v := nI (5 * (zLack P i))) dX4_scan_199 (pk_mul _ _) ?_
          refine rg_iadd F (pc := 200) (v := nI (((2 * (pop 18 (zBits P i))) + (3 * (zOff P i))) + (5 * (zLack P i)))) dX4_scan_200 (nI_add _ _) ?_
          refine rg_iconst F (pc := 201) (v := nI 4) dX4_scan_201 (by decide) ?_
          refine rg_aload_n F (pc := 202) dX4_scan_202 rfl ?_
          refine rg_iload_n F (pc := 203) dX4_scan_203 rfl ?_
          refine rg_callVi F (pc := 204) (As := [.int (nI i)]) (rest := [.int (nI 4), .int (nI (((2 * (pop 18 (zBits P i))) + (3 * (zOff P i))) + (5 * (zLack P i))))]) (ci := 5) (r_ahead l D _ m P nW nL ad (sf F3 16 (va_cpy (F3 16) (F3 16) (zStay P i) 0 ((zCa P i + zo P i) - (zStay P i)))) t lo i ⟨hP, hA4, hB4⟩ (by omega)) q468 vq_X4_rhymeAhead rfl hA4.1 rfl rfl (Nat.le_of_ble_eq_true rfl) (Nat.le_of_ble_eq_true rfl) (Nat.le_of_ble_eq_true rfl) ⟨(Nat.le_of_ble_eq_true rfl), (Nat.le_of_ble_eq_true rfl)⟩ dX4_scan_204 (fun r9 M9 hp => ?_)
          refine rg_top (v2 := .int (nI (zPaid P i))) (by first | (rw [hp.1]; done) | (rw [hp.1]; rfl)) ?_
          refine rg_mem (M2 := M4) hp.2 ?_
          refine rg_imul F (pc := 207) (v := nI (4 * (zPaid P i))) dX4_scan_207 (pk_mul _ _) ?_
          refine rg_isub F (pc := 208) (v := (nI (((2 * (pop 18 (zBits P i))) + (3 * (zOff P i))) + (5 * (zLack P i)))) - (nI (4 * (zPaid P i)))) dX4_scan_208 rfl ?_
          refine rg_istore F (pc := 209) (lv' := [some (.ref (m)), some (.int (nI ((zCa P i + zo P i) - (zStay P i)))), some (.int (nI (zAll P i))), some (.int (nI i)), some (.int ((nI (((2 * (pop 18 (zBits P i))) + (3 * (zOff P i))) + (5 * (zLack P i)))) - (nI (4 * (zPaid P i)))))]) dX4_scan_209 (Nat.le_of_ble_eq_true rfl) rfl ?_
          refine rg_aload_n F (pc := 211) dX4_scan_211 rfl ?_
          refine rg_get F (pc := 212) (ci := 5) rfl inX4 hA4.1 18 (by decide) q442 (fun _ h9 => h9) rfl dX4_scan_212 ?_
          refine rg_iload_n F (pc := 215) dX4_scan_215 rfl ?_
          refine rg_aload_n F (pc := 216) dX4_scan_216 rfl ?_
          refine rg_get F (pc := 217) (ci := 5) rfl inX4 hA4.1 11 (by decide) q407 (fun _ h9 => h9) rfl dX4_scan_217 ?_
          refine rg_iload_n F (pc := 220) dX4_scan_220 rfl ?_
          refine rm_ld F hA4 (pc := 221) (q := 8) (j := i) (x := nI (zC P i)) (by decide) (show i < 10 by omega) (hB4.2.2.1 i (by omega)) dX4_scan_221 ?_
          refine rg_nif_ne F (pc := 222) (tgt := 234) dX4_scan_222 (by decide) (by omega) (fun c222 => ?_) (fun c222 => ?_)
          · refine rg_iconst F (pc := 234) (v := nI 0) dX4_scan_234 (by decide) ?_
            refine rg_iload F (pc := 235) dX4_scan_235 rfl ?_
            refine rg_max F (pc := 237) (v := nI (2 * pop 18 (zBits P i) + 3 * zOff P i + 5 * zLack P i - 4 * zPaid P i)) q444 q64 q65 q66 (Nat.le_of_ble_eq_true rfl) (Nat.le_of_ble_eq_true rfl) ⟨(Nat.le_of_ble_eq_true rfl), (Nat.le_of_ble_eq_true rfl)⟩ (rn_max0 _ _ (by omega) (by omega)) dX4_scan_237 ?_
            refine rg_top (v2 := .int (nI (zTax P i))) (by unfold zTax; rw [if_neg c222]) ?_
            refine rm_st F hA4 (pc := 240) (q := 15) (j := i) (x := nI (zTax P i)) (by decide) (show i < 10 by omega) dX4_scan_240 (fun Ms8 hAs8 => ?_)
            refine rg_iload_n F (pc := 241) dX4_scan_241 rfl ?_
            refine rg_aload_n F (pc := 242) dX4_scan_242 rfl ?_
            refine rg_get F (pc := 243) (ci := 5) rfl inX4 hAs8.1 18 (by decide) q442 (fun _ h9 => h9) rfl dX4_scan_243 ?_
            refine rg_iload_n F (pc := 246) dX4_scan_246 rfl ?_
            refine rm_ld F hAs8 (pc := 247) (q := 15) (j := i) (x := nI (zTax P i)) (by decide) (show i < 10 by omega) (show upd _ i _ i = _ by unfold upd; rw [if_pos rfl]) dX4_scan_247 ?_
            refine rg_iadd F (pc := 248) (v := nI (zAll P (i + 1))) dX4_scan_248 (nI_add _ _) ?_
            refine rg_istore_n F (pc := 249) (lv' := [some (.ref (m)), some (.int (nI ((zCa P i + zo P i) - (zStay P i)))), some (.int (nI (zAll P (i + 1)))), some (.int (nI i)), some (.int ((nI (((2 * (pop 18 (zBits P i))) + (3 * (zOff P i))) + (5 * (zLack P i)))) - (nI (4 * (zPaid P i)))))]) dX4_scan_249 (Nat.le_of_ble_eq_true rfl) rfl ?_
            refine rg_eq (lv2 := [some (.ref (m)), some (.int (nI (zCa P (i + 1)))), some (.int (nI (zAll P (i + 1)))), some (.int (nI i)), some (.int ((nI (((2 * (pop 18 (zBits P i))) + (3 * (zOff P i))) + (5 * (zLack P i)))) - (nI (4 * (zPaid P i)))))]) (st2 := []) (pc2 := 250) (by rw [zCa_succ]; rfl) rfl rfl ?_
            refine rg_sub (lv' := [some (.ref (m)), some (.int (nI (zCa P (i + 1)))), some (.int (nI (zAll P (i + 1)))), some (.int (nI i)), none]) (by repeat' constructor) ?_
            refine rg_iinc F (pc := 250) (v := nI (i + 1)) (lv' := [some (.ref (m)), some (.int (nI (zCa P (i + 1)))), some (.int (nI (zAll P (i + 1)))), some (.int (nI (i + 1))), none]) dX4_scan_250 rfl (nI_add _ 1) (Nat.le_of_ble_eq_true rfl) rfl ?_
            refine rg_goto F (pc := 253) (tgt := 6) dX4_scan_253 (by decide) ?_
            exact ih (i + 1) _ _ (by omega) (by omega) hAs8 (((hfe3.sf (k := 16) (by decide) _).sf (k := 15) (by decide) _)) (mS_step hs3 h10 h11 h12 h13 h14 eo hbm) (fun q hq => hG4 q hq)
          · refine rg_aload_n F (pc := 225) dX4_scan_225 rfl ?_
            refine rg_get F (pc := 226) (ci := 5) rfl inX4 hA4.1 9 (by decide) q443 (fun _ h9 => h9) rfl dX4_scan_226 ?_
            refine rg_iload_n F (pc := 229) dX4_scan_229 rfl ?_
            refine rm_ld F hA4 (pc := 230) (q := 6) (j := i) (x := nI (zF P i)) (by decide) (show i < 10 by omega) (hB4.2.1 i (by omega)).2.1 dX4_scan_230 ?_
            refine rg_goto F (pc := 231) (tgt := 240) dX4_scan_231 (by decide) ?_
            refine rg_top (v2 := .int (nI (zTax P i))) (by unfold zTax; rw [if_pos c222]) ?_
            refine rm_st F hA4 (pc := 240) (q := 15) (j := i) (x := nI (zTax P i)) (by decide) (show i < 10 by omega) dX4_scan_240 (fun Ms8 hAs8 => ?_)
            refine rg_iload_n F (pc := 241) dX4_scan_241 rfl ?_
            refine rg_aload_n F (pc := 242) dX4_scan_242 rfl ?_
            refine rg_get F (pc := 243) (ci := 5) rfl inX4 hAs8.1 18 (by decide) q442 (fun _ h9 => h9) rfl dX4_scan_243 ?_
            refine rg_iload_n F (pc := 246) dX4_scan_246 rfl ?_
            refine rm_ld F hAs8 (pc := 247) (q := 15) (j := i) (x := nI (zTax P i)) (by decide) (show i < 10 by omega) (show upd _ i _ i = _ by unfold upd; rw [if_pos rfl]) dX4_scan_247 ?_
            refine rg_iadd F (pc := 248) (v := nI (zAll P (i + 1))) dX4_scan_248 (nI_add _ _) ?_
            refine rg_istore_n F (pc := 249) (lv' := [some (.ref (m)), some (.int (nI ((zCa P i + zo P i) - (zStay P i)))), some (.int (nI (zAll P (i + 1)))), some (.int (nI i)), some (.int ((nI (((2 * (pop 18 (zBits P i))) + (3 * (zOff P i))) + (5 * (zLack P i)))) - (nI (4 * (zPaid P i)))))]) dX4_scan_249 (Nat.le_of_ble_eq_true rfl) rfl ?_
            refine rg_eq (lv2 := [some (.ref (m)), some (.int (nI (zCa P (i + 1)))), some (.int (nI (zAll P (i + 1)))), some (.int (nI i)), some (.int ((nI (((2 * (pop 18 (zBits P i))) + (3 * (zOff P i))) + (5 * (zLack P i)))) - (nI (4 * (zPaid P i)))))]) (st2 := []) (pc2 := 250) (by rw [zCa_succ]; rfl) rfl rfl ?_
            refine rg_sub (lv' := [some (.ref (m)), some (.int (nI (zCa P (i + 1)))), some (.int (nI (zAll P (i + 1)))), some (.int (nI i)), none]) (by repeat' constructor) ?_
            refine rg_iinc F (pc := 250) (v := nI (i + 1)) (lv' := [some (.ref (m)), some (.int (nI (zCa P (i + 1)))), some (.int (nI (zAll P (i + 1)))), some (.int (nI (i + 1))), none]) dX4_scan_250 rfl (nI_add _ 1) (Nat.le_of_ble_eq_true rfl) rfl ?_
            refine rg_goto F (pc := 253) (tgt := 6) dX4_scan_253 (by decide) ?_
            exact ih (i + 1) _ _ (by omega) (by omega) hAs8 (((hfe3.sf (k := 16) (by decide) _).sf (k := 15) (by decide) _)) (mS_step hs3 h10 h11 h12 h13 h14 eo hbm) (fun q hq => hG4 q hq)
        · refine rg_aload_n F (pc := 85) dX4_scan_85 rfl ?_
          refine rg_get F (pc := 86) (ci := 5) rfl inX4 hA3.1 16 (by decide) q437 (fun _ h9 => h9) rfl dX4_scan_86 ?_
          refine rg_iload_n F (pc := 89) dX4_scan_89 rfl ?_
          refine rg_dup2 F (pc := 90) dX4_scan_90 rfl rfl ?_
          refine rm_ld F hA3 (pc := 91) (q := 13) (j := i) (x := nI ((zFl P (i + 1) / 2 ^ zSt P i) % 2 ^ k)) (by decide) (show i < 10 by omega) h13 dX4_scan_91 ?_
          refine rg_aload_n F (pc := 92) dX4_scan_92 rfl ?_
          refine rg_get F (pc := 93) (ci := 5) rfl inX4 hA3.1 19 (by decide) q439 (fun _ h9 => h9) rfl dX4_scan_93 ?_
          refine rg_iload F (pc := 96) dX4_scan_96 rfl ?_
          refine rm_ld F hA3 (pc := 98) (q := 16) (j := k) (x := nI (gB (zFl P (i + 1) / 2 ^ zSt P i) k)) (by decide) (show k < 320 by omega) (hG3 k (by omega)) dX4_scan_98 ?_
          refine rg_iload F (pc := 99) dX4_scan_99 rfl ?_
          refine rg_ishl F (pc := 101) (v := nI ((gB (zFl P (i + 1) / 2 ^ zSt P i) k) * 2 ^ k)) dX4_scan_101 (rn_shl (by omega)) ?_
          refine rg_ior F (pc := 102) (v := nI (((zFl P (i + 1) / 2 ^ zSt P i) % 2 ^ k) ||| ((gB (zFl P (i + 1) / 2 ^ zSt P i) k) * 2 ^ k))) dX4_scan_102 (rn_or _ _) ?_
          refine rm_st F hA3 (pc := 103) (q := 13) (j := i) (x := nI (((zFl P (i + 1) / 2 ^ zSt P i) % 2 ^ k) ||| ((gB (zFl P (i + 1) / 2 ^ zSt P i) k) * 2 ^ k))) (by decide) (show i < 10 by omega) dX4_scan_103 (fun Ms8 hAs8 => ?_)
          refine rg_aload_n F (pc := 104) dX4_scan_104 rfl ?_
          refine rg_get F (pc := 105) (ci := 5) rfl inX4 hAs8.1 17 (by decide) q438 (fun _ h9 => h9) rfl dX4_scan_105 ?_
          refine rg_iload_n F (pc := 108) dX4_scan_108 rfl ?_
          refine rg_dup2 F (pc := 109) dX4_scan_109 rfl rfl ?_
          refine rm_ld F hAs8 (pc := 110) (q := 14) (j := i) (x := nI (zOfs (zM P i) (zFl P (i + 1) / 2 ^ zSt P i) k)) (by decide) (show i < 10 by omega) h14 dX4_scan_110 ?_
          refine rg_aload_n F (pc := 111) dX4_scan_111 rfl ?_
          refine rg_get F (pc := 112) (ci := 5) rfl inX4 hAs8.1 19 (by decide) q439 (fun _ h9 => h9) rfl dX4_scan_112 ?_
          refine rg_iload F (pc := 115) dX4_scan_115 rfl ?_
          refine rm_ld F hAs8 (pc := 117) (q := 16) (j := k) (x := nI (gB (zFl P (i + 1) / 2 ^ zSt P i) k)) (by decide) (show k < 320 by omega) (hG3 k (by omega)) dX4_scan_117 ?_
          refine rg_aload_n F (pc := 118) dX4_scan_118 rfl ?_
          refine rg_get F (pc := 119) (ci := 5) rfl inX4 hAs8.1 8 (by decide) q440 (fun _ h9 => h9) rfl dX4_scan_119 ?_
          refine rg_iload_n F (pc := 122) dX4_scan_122 rfl ?_
          refine rm_ld F hAs8 (pc := 123) (q := 5) (j := i) (x := nI (zM P i)) (by decide) (show i < 10 by omega) (hB3.2.1 i (by omega)).1 dX4_scan_123 ?_
          refine rg_iload F (pc := 124) dX4_scan_124 rfl ?_
          refine rg_callSi F (pc := 126) (As := [.int (nI (zM P i)), .int (nI k)]) (rest := [.int (nI (gB (zFl P (i + 1) / 2 ^ zSt P i) k)), .int (nI (zOfs (zM P i) (zFl P (i + 1) / 2 ^ zSt P i) k)), .int (nI i), .ref (ad 14)]) (r_beat l D _ (zM P i) k (by omega) (by omega)) q456 sq_X4_beat rfl rfl (Nat.le_of_ble_eq_true rfl) (Nat.le_of_ble_eq_true rfl) (Nat.le_of_ble_eq_true rfl) ⟨(Nat.le_of_ble_eq_true rfl), (Nat.le_of_ble_eq_true rfl)⟩ dX4_scan_126 (fun r9 M9 hp => ?_)
          refine rg_top (v2 := .int (nI (mBeat (zM P i) k))) (by first | (rw [hp.1]; done) | (rw [hp.1]; rfl)) ?_
          refine rg_mem (M2 := Ms8) hp.2 ?_
          have hg1 := gB_lt (zFl P (i + 1) / 2 ^ zSt P i) k
          have hg2 : mBeat (zM P i) k ≤ 1 := by unfold mBeat; split <;> omega
          refine rg_ncmp_ne F (pc := 129) (tgt := 136) dX4_scan_129 (by decide) (by omega) (by omega) (fun c129 => ?_) (fun c129 => ?_)
          · refine rg_iconst F (pc := 136) (v := nI 1) dX4_scan_136 (by decide) ?_
            refine rg_iadd F (pc := 137) (v := nI ((zOfs (zM P i) (zFl P (i + 1) / 2 ^ zSt P i) k) + 1)) dX4_scan_137 (nI_add _ _) ?_
            refine rm_st F hAs8 (pc := 138) (q := 14) (j := i) (x := nI ((zOfs (zM P i) (zFl P (i + 1) / 2 ^ zSt P i) k) + 1)) (by decide) (show i < 10 by omega) dX4_scan_138 (fun Ms9 hAs9 => ?_)
            refine rg_iinc F (pc := 139) (v := nI (k + 1)) (lv' := [some (.ref (m)), some (.int (nI (zCa P i + zo P i))), some (.int (nI (zAll P i))), some (.int (nI i)), some (.int (nI (k + 1)))]) dX4_scan_139 rfl (nI_add _ 1) (Nat.le_of_ble_eq_true rfl) rfl ?_
            refine rg_goto F (pc := 142) (tgt := 74) dX4_scan_142 (by decide) ?_
            exact ihk (k + 1) _ _ (by omega) (by omega) hAs9 ((hfe3.sf (k := 13) (by decide) _).sf (k := 14) (by decide) _) (mS_up (mS_up hs3 (by decide : 10 ≤ 13) (Nat.le_refl i)) (by decide : 10 ≤ 14) (Nat.le_refl i)) h10 h11 h12 (show upd (F3 13) i _ i = _ by unfold upd; rw [if_pos rfl, gB_acc]) (show upd (F3 14) i _ i = _ by unfold upd; rw [if_pos rfl]; show _ = nI (zOfs (zM P i) (zFl P (i + 1) / 2 ^ zSt P i) k + if gB (zFl P (i + 1) / 2 ^ zSt P i) k = mBeat (zM P i) k then 0 else 1); rw [if_neg c129]) (fun q hq => hG3 q hq)
          · refine rg_iconst F (pc := 132) (v := nI 0) dX4_scan_132 (by decide) ?_
            refine rg_goto F (pc := 133) (tgt := 137) dX4_scan_133 (by decide) ?_
            refine rg_iadd F (pc := 137) (v := nI ((zOfs (zM P i) (zFl P (i + 1) / 2 ^ zSt P i) k) + 0)) dX4_scan_137 (nI_add _ _) ?_
            refine rm_st F hAs8 (pc := 138) (q := 14) (j := i) (x := nI ((zOfs (zM P i) (zFl P (i + 1) / 2 ^ zSt P i) k) + 0)) (by decide) (show i < 10 by omega) dX4_scan_138 (fun Ms9 hAs9 => ?_)
            refine rg_iinc F (pc := 139) (v := nI (k + 1)) (lv' := [some (.ref (m)), some (.int (nI (zCa P i + zo P i))), some (.int (nI (zAll P i))), some (.int (nI i)), some (.int (nI (k + 1)))]) dX4_scan_139 rfl (nI_add _ 1) (Nat.le_of_ble_eq_true rfl) rfl ?_
            refine rg_goto F (pc := 142) (tgt := 74) dX4_scan_142 (by decide) ?_
            exact ihk (k + 1) _ _ (by omega) (by omega) hAs9 ((hfe3.sf (k := 13) (by decide) _).sf (k := 14) (by decide) _) (mS_up (mS_up hs3 (by decide : 10 ≤ 13) (Nat.le_refl i)) (by decide : 10 ≤ 14) (Nat.le_refl i)) h10 h11 h12 (show upd (F3 13) i _ i = _ by unfold upd; rw [if_pos rfl, gB_acc]) (show upd (F3 14) i _ i = _ by unfold upd; rw [if_pos rfl]; show _ = nI (zOfs (zM P i) (zFl P (i + 1) / 2 ^ zSt P i) k + if gB (zFl P (i + 1) / 2 ^ zSt P i) k = mBeat (zM P i) k then 0 else 1); rw [if_pos c129]) (fun q hq => hG3 q hq)
