set_option maxHeartbeats 4000000 in
set_option maxRecDepth 100000 in
theorem r_digest (l : Launch) (D : va_G) (M : rMem) (m : Nat) (P : Poem) (nW nL : Nat) (ad : Nat → Nat) (Fn : Nat → Nat → Int32) (t lo : Int32) (hV : mV D M m P nW nL ad Fn t lo) : CMl l D yX4_digest cX4_digest 5 ((some .long)) 6 400 4000 M [.ref (m)] (fun r M' => r = zDig P nW nL ∧ ∃ F' lo', mV D M' m P nW nL ad F' (nI 0) lo') := by
  obtain ⟨hP, hA, hB⟩ := id hV
  have hn30 := hP.1.1
  have hn10 := hP.2.1
  refine rM (lv0 := [some (.ref (m)), none, none, none, none]) (by decide) rfl rfl (Nat.le_of_ble_eq_true rfl) (fun P0 E0 S0 m0 as0 bl0 mt0 c0 A F hrt9 hnm => ?_)
  refine rg_aload_n F (pc := 0) dX4_digest_0 rfl ?_
  refine rg_iconst F (pc := 1) (v := nI 0) dX4_digest_1 (by decide) ?_
  refine rg_put F (pc := 2) (ci := 5) (ty := tyX4 0) rfl inX4 tyX4 tyX4_ok nmX4 hA.1 0 (by decide) q395 (fun _ h9 => h9) rfl (tyX4_ok 0 (by decide)) rfl rfl (Nat.le_of_ble_eq_true rfl) dX4_digest_2 ?_
  refine rm_mem hA (t2 := nI 0) (nW2 := nW) (nL2 := nL) (lo2 := lo) rfl (fun Ms1 hAs1 => ?_)
  refine rg_ldc2 F (pc := 5) (v := 977) q510 dX4_digest_5 ?_
  refine rg_top (v2 := .long (lN 977)) rfl ?_
  refine rg_lstore_n F (pc := 8) (lv' := [some (.ref (m)), some (.long (lN 977)), none, none, none]) dX4_digest_8 (Nat.le_of_ble_eq_true rfl) rfl ?_
  refine rg_iconst F (pc := 9) (v := nI 0) dX4_digest_9 (by decide) ?_
  refine rg_istore_n F (pc := 10) (lv' := [some (.ref (m)), some (.long (lN 977)), none, some (.int (nI 0)), none]) dX4_digest_10 (Nat.le_of_ble_eq_true rfl) rfl ?_
  refine rg_eq (lv2 := [some (.ref (m)), some (.long (zMx (lN 977) (zCnt P nW nL) 0)), none, some (.int (nI 0)), none]) (st2 := []) (pc2 := 11) rfl rfl rfl ?_
  suffices L1 : ∀ (d9 : Nat) (k : Nat) (M1 : rMem) (F1 : Nat → Nat → Int32) (lo1 : Int32), 7 - k < d9 → (k ≤ 7) → (mA D M1 m ad F1 (nI 0) nW nL lo1) → (mB P nW nL F1) → rG P0 l E0 (rR 6 400 4000) S0 m0 as0 bl0 mt0 c0 D A 5 (MQ bl0 (va_Ql (fun r M' => r = zDig P nW nL ∧ ∃ F' lo', mV D M' m P nW nL ad F' (nI 0) lo') (cB D A) A) as0 S0 400 4000 A) M1 k (7 * k) [some (.ref (m)), some (.long (zMx (lN 977) (zCnt P nW nL) k)), none, some (.int (nI k)), none] 11 [] from L1 _ 0 _ _ _ (Nat.lt_succ_self _) (Nat.zero_le _) hAs1 hB
  intro d9
  induction d9 with
  | zero => intro k M1 F1 lo1 hd9; exact absurd hd9 (Nat.not_lt_zero _)
  | succ d9 ih =>
    intro k M1 F1 lo1 hd9 hk1 hA1 hB1
    refine rg_iload_n F (pc := 11) dX4_digest_11 rfl ?_
    refine rg_bipush F (pc := 12) (v := nI 7) dX4_digest_12 (by decide) ?_
    refine rg_ncmp_ge F (pc := 14) (tgt := 36) dX4_digest_14 (by decide) (by omega) (by omega) (fun c14 => ?_) (fun c14 => ?_)
    · refine rg_iconst F (pc := 36) (v := nI 0) dX4_digest_36 (by decide) ?_
      refine rg_istore_n F (pc := 37) (lv' := [some (.ref (m)), some (.long (zMx (lN 977) (zCnt P nW nL) k)), none, some (.int (nI 0)), none]) dX4_digest_37 (Nat.le_of_ble_eq_true rfl) rfl ?_
      have e7 : k = 7 := by omega
      refine rg_eq (lv2 := [some (.ref (m)), some (.long (zMw P nL (zMx (lN 977) (zCnt P nW nL) 7) 0)), none, some (.int (nI 0)), none]) (st2 := []) (pc2 := 38) (by rw [e7]; rfl) rfl rfl ?_
      refine rg_widen (k2 := 7) (n2 := 49) (by omega) (by omega) ?_
      suffices L2 : ∀ (d9 : Nat) (w : Nat) (M2 : rMem) (F2 : Nat → Nat → Int32) (lo2 : Int32), nW - w < d9 → (w ≤ nW) → (mA D M2 m ad F2 (nI 0) nW nL lo2) → (mB P nW nL F2) → rG P0 l E0 (rR 6 400 4000) S0 m0 as0 bl0 mt0 c0 D A 5 (MQ bl0 (va_Ql (fun r M' => r = zDig P nW nL ∧ ∃ F' lo', mV D M' m P nW nL ad F' (nI 0) lo') (cB D A) A) as0 S0 400 4000 A) M2 (7 + 6 * w) (49 + 36 * w) [some (.ref (m)), some (.long (zMw P nL (zMx (lN 977) (zCnt P nW nL) 7) w)), none, some (.int (nI w)), none] 38 [] from L2 _ 0 _ _ _ (Nat.lt_succ_self _) (Nat.zero_le _) hA1 hB1
      intro d9
      induction d9 with
      | zero => intro w M2 F2 lo2 hd9; exact absurd hd9 (Nat.not_lt_zero _)
      | succ d9 ih =>
        intro w M2 F2 lo2 hd9 hw1 hA2 hB2
        refine rg_iload_n F (pc := 38) dX4_digest_38 rfl ?_
        refine rg_aload_n F (pc := 39) dX4_digest_39 rfl ?_
        refine rg_get F (pc := 40) (ci := 5) rfl inX4 hA2.1 1 (by decide) q400 (fun _ h9 => h9) rfl dX4_digest_40 ?_
        refine rg_ncmp_ge F (pc := 43) (tgt := 83) dX4_digest_43 (by decide) (by omega) (by omega) (fun c43 => ?_) (fun c43 => ?_)
        · have ew : w = nW := by omega
          refine rg_eq (lv2 := [some (.ref (m)), some (.long (zMls P (zMw P nL (zMx (lN 977) (zCnt P nW nL) 7) nW) 0)), none, some (.int (nI w)), none]) (st2 := []) (pc2 := 83) (by rw [ew]; rfl) rfl rfl ?_
          refine rg_sub (lv' := [some (.ref (m)), some (.long (zMls P (zMw P nL (zMx (lN 977) (zCnt P nW nL) 7) nW) 0)), none, none, none]) (by repeat' constructor) ?_
          refine rg_widen (k2 := 187) (n2 := 1129) (by omega) (by omega) ?_
          refine rg_aload_n F (pc := 83) dX4_digest_83 rfl ?_
          refine rg_callVi F (pc := 84) (As := []) (rest := []) (ci := 5) (r_scan l D _ m P nW nL ad F2 (nI 0) lo2 ⟨hP, hA2, hB2⟩) q485 vq_X4_scan rfl hA2.1 rfl rfl (Nat.le_of_ble_eq_true rfl) (Nat.le_of_ble_eq_true rfl) (Nat.le_of_ble_eq_true rfl) ⟨(Nat.le_of_ble_eq_true rfl), (Nat.le_of_ble_eq_true rfl)⟩ dX4_digest_84 (fun r9 Mc4 hp => ?_)
          refine rg_top (v2 := .int (nI (zAll P nL))) (by rw [hp.1]) ?_
          obtain ⟨-, Fc4, hAc4, hfec4, hS4⟩ := hp
          have hBc4 := hB2.fe hfec4
          refine rg_pop F (pc := 87) dX4_digest_87 rfl ?_
          refine rg_iconst F (pc := 88) (v := nI 0) dX4_digest_88 (by decide) ?_
          refine rg_istore_n F (pc := 89) (lv' := [some (.ref (m)), some (.long (zMls P (zMw P nL (zMx (lN 977) (zCnt P nW nL) 7) nW) 0)), none, some (.int (nI 0)), none]) dX4_digest_89 (Nat.le_of_ble_eq_true rfl) rfl ?_
          have hSS := hS4
          refine rg_eq (lv2 := [some (.ref (m)), some (.long (zMls P (zMw P nL (zMx (lN 977) (zCnt P nW nL) 7) nW) 0)), none, some (.int (nI 0)), none]) (st2 := []) (pc2 := 90) rfl rfl rfl ?_
          suffices L4 : ∀ (d9 : Nat) (i : Nat) (M4 : rMem), nL - i < d9 → (i ≤ nL) → (mA D M4 m ad Fc4 (nI 0) nW nL (nI (zCa P nL))) → rG P0 l E0 (rR 6 400 4000) S0 m0 as0 bl0 mt0 c0 D A 5 (MQ bl0 (va_Ql (fun r M' => r = zDig P nW nL ∧ ∃ F' lo', mV D M' m P nW nL ad F' (nI 0) lo') (cB D A) A) as0 S0 400 4000 A) M4 (187 + 12 * i) (1129 + 144 * i) [some (.ref (m)), some (.long (zMls P (zMw P nL (zMx (lN 977) (zCnt P nW nL) 7) nW) i)), none, some (.int (nI i)), none] 90 [] from L4 _ 0 _ (Nat.lt_succ_self _) (Nat.zero_le _) hAc4
          intro d9
          induction d9 with
          | zero => intro i M4 hd9; exact absurd hd9 (Nat.not_lt_zero _)
          | succ d9 ihi =>
            intro i M4 hd9 hi1 hA4
            refine rg_iload_n F (pc := 90) dX4_digest_90 rfl ?_
            refine rg_aload_n F (pc := 91) dX4_digest_91 rfl ?_
            refine rg_get F (pc := 92) (ci := 5) rfl inX4 hA4.1 7 (by decide) q406 (fun _ h9 => h9) rfl dX4_digest_92 ?_
            refine rg_ncmp_ge F (pc := 95) (tgt := 214) dX4_digest_95 (by decide) (by omega) (by omega) (fun c95 => ?_) (fun c95 => ?_)
            · refine rg_lload_n F (pc := 214) dX4_digest_214 rfl ?_
              exact rg_lret F (pc := 215) hrt9 (by omega) (by omega) dX4_digest_215 ⟨by rw [show nL = i by omega]; rfl, _, _, hP, hA4, hBc4⟩
            · have hi : i < nL := by omega
              have hlk := hP.2.2 i hi
              have hz8 := hlk.2.2.2.2.1
              have hst := zStay_le hlk
              have hbl := zBits_lt hlk
              obtain ⟨s10, s11, s12, s13, s14, s15⟩ := hSS i hi
              refine rg_iconst F (pc := 98) (v := nI 0) dX4_digest_98 (by decide) ?_
              refine rg_istore F (pc := 99) (lv' := [some (.ref (m)), some (.long (zMls P (zMw P nL (zMx (lN 977) (zCnt P nW nL) 7) nW) i)), none, some (.int (nI i)), some (.int (nI 0))]) dX4_digest_99 (Nat.le_of_ble_eq_true rfl) rfl ?_
              refine rg_eq (lv2 := [some (.ref (m)), some (.long (zMx (zMls P (zMw P nL (zMx (lN 977) (zCnt P nW nL) 7) nW) i) (zTold P i) 0)), none, some (.int (nI i)), some (.int (nI 0))]) (st2 := []) (pc2 := 101) rfl rfl rfl ?_
              refine rg_widen (k2 := 187 + 12 * i + 0) (n2 := 1129 + 144 * i + 12 * 0) (by omega) (by omega) ?_
              suffices L5 : ∀ (d9 : Nat) (k : Nat) (M5 : rMem), 12 - k < d9 → (k ≤ 12) → (mA D M5 m ad Fc4 (nI 0) nW nL (nI (zCa P nL))) → rG P0 l E0 (rR 6 400 4000) S0 m0 as0 bl0 mt0 c0 D A 5 (MQ bl0 (va_Ql (fun r M' => r = zDig P nW nL ∧ ∃ F' lo', mV D M' m P nW nL ad F' (nI 0) lo') (cB D A) A) as0 S0 400 4000 A) M5 (187 + 12 * i + k) (1129 + 144 * i + 12 * k) [some (.ref (m)), some (.long (zMx (zMls P (zMw P nL (zMx (lN 977) (zCnt P nW nL) 7) nW) i) (zTold P i) k)), none, some (.int (nI i)), some (.int (nI k))] 101 [] from L5 _ 0 _ (Nat.lt_succ_self _) (Nat.zero_le _) hA4
              intro d9
              induction d9 with
              | zero => intro k M5 hd9; exact absurd hd9 (Nat.not_lt_zero _)
              | succ d9 ihk =>
                intro k M5 hd9 hk1 hA5
                refine rg_iload F (pc := 101) dX4_digest_101 rfl ?_
                refine rg_bipush F (pc := 103) (v := nI 12) dX4_digest_103 (by decide) ?_
                refine rg_ncmp_ge F (pc := 105) (tgt := 129) dX4_digest_105 (by decide) (by omega) (by omega) (fun c105 => ?_) (fun c105 => ?_)
                · refine rg_iconst F (pc := 129) (v := nI 0) dX4_digest_129 (by decide) ?_
                  refine rg_istore F (pc := 130) (lv' := [some (.ref (m)), some (.long (zMx (zMls P (zMw P nL (zMx (lN 977) (zCnt P nW nL) 7) nW) i) (zTold P i) k)), none, some (.int (nI i)), some (.int (nI 0))]) dX4_digest_130 (Nat.le_of_ble_eq_true rfl) rfl ?_
                  have e12 : k = 12 := by omega
                  refine rg_eq (lv2 := [some (.ref (m)), some (.long (zMx (zMx (zMls P (zMw P nL (zMx (lN 977) (zCnt P nW nL) 7) nW) i) (zTold P i) 12) (zR P i) 0)), none, some (.int (nI i)), some (.int (nI 0))]) (st2 := []) (pc2 := 132) (by rw [e12]; rfl) rfl rfl ?_
                  refine rg_widen (k2 := 187 + 12 * i + 12) (n2 := 1129 + 144 * i + 144) (by omega) (by omega) ?_
                  suffices L6 : ∀ (d9 : Nat) (j : Nat), zC P i - j < d9 → (j ≤ zC P i) → rG P0 l E0 (rR 6 400 4000) S0 m0 as0 bl0 mt0 c0 D A 5 (MQ bl0 (va_Ql (fun r M' => r = zDig P nW nL ∧ ∃ F' lo', mV D M' m P nW nL ad F' (nI 0) lo') (cB D A) A) as0 S0 400 4000 A) M5 (187 + 12 * i + 12) (1129 + 144 * i + 144) [some (.ref (m)), some (.long (zMx (zMx (zMls P (zMw P nL (zMx (lN 977) (zCnt P nW nL) 7) nW) i) (zTold P i) 12) (zR P i) j)), none, some (.int (nI i)), some (.int (nI j))] 132 [] from L6 _ 0 (Nat.lt_succ_self _) (Nat.zero_le _)
                  intro d9
                  induction d9 with
                  | zero => intro j hd9; exact absurd hd9 (Nat.not_lt_zero _)
                  | succ d9 ihj =>
                    intro j hd9 hj1
                    refine rg_iload F (pc := 132) dX4_digest_132 rfl ?_
                    refine rg_aload_n F (pc := 134) dX4_digest_134 rfl ?_
                    refine rg_get F (pc := 135) (ci := 5) rfl inX4 hA5.1 11 (by decide) q407 (fun _ h9 => h9) rfl dX4_digest_135 ?_
                    refine rg_iload_n F (pc := 138) dX4_digest_138 rfl ?_
                    refine rm_ld F hA5 (pc := 139) (q := 8) (j := i) (x := nI (zC P i)) (by decide) (show i < 10 by omega) (hBc4.2.2.1 i (by omega)) dX4_digest_139 ?_
                    refine rg_ncmp_ge F (pc := 140) (tgt := 169) dX4_digest_140 (by decide) (by omega) (by omega) (fun c140 => ?_) (fun c140 => ?_)
                    · refine rg_iconst F (pc := 169) (v := nI 0) dX4_digest_169 (by decide) ?_
                      refine rg_istore F (pc := 170) (lv' := [some (.ref (m)), some (.long (zMx (zMx (zMls P (zMw P nL (zMx (lN 977) (zCnt P nW nL) 7) nW) i) (zTold P i) 12) (zR P i) j)), none, some (.int (nI i)), some (.int (nI 0))]) dX4_digest_170 (Nat.le_of_ble_eq_true rfl) rfl ?_
                      have ej : j = zC P i := by omega
                      refine rg_eq (lv2 := [some (.ref (m)), some (.long (zMx (zMx (zMx (zMls P (zMw P nL (zMx (lN 977) (zCnt P nW nL) 7) nW) i) (zTold P i) 12) (zR P i) ((zC P i))) (fun p => zBits P i / 2 ^ p % 2) 0)), none, some (.int (nI i)), some (.int (nI 0))]) (st2 := []) (pc2 := 172) (by rw [ej]; rfl) rfl rfl ?_
                      suffices L7 : ∀ (d9 : Nat) (q : Nat), zStay P i - q < d9 → (q ≤ zStay P i) → rG P0 l E0 (rR 6 400 4000) S0 m0 as0 bl0 mt0 c0 D A 5 (MQ bl0 (va_Ql (fun r M' => r = zDig P nW nL ∧ ∃ F' lo', mV D M' m P nW nL ad F' (nI 0) lo') (cB D A) A) as0 S0 400 4000 A) M5 (187 + 12 * i + 12) (1129 + 144 * i + 144) [some (.ref (m)), some (.long (zMx (zMx (zMx (zMls P (zMw P nL (zMx (lN 977) (zCnt P nW nL) 7) nW) i) (zTold P i) 12) (zR P i) ((zC P i))) (fun p => zBits P i / 2 ^ p % 2) q)), none, some (.int (nI i)), some (.int (nI q))] 172 [] from L7 _ 0 (Nat.lt_succ_self _) (Nat.zero_le _)
                      intro d9
                      induction d9 with
                      | zero => intro q hd9; exact absurd hd9 (Nat.not_lt_zero _)
                      | succ d9 ihq =>
                        intro q hd9 hq1
                        refine rg_iload F (pc := 172) dX4_digest_172 rfl ?_
                        refine rg_aload_n F (pc := 174) dX4_digest_174 rfl ?_
                        refine rg_get F (pc := 175) (ci := 5) rfl inX4 hA5.1 15 (by decide) q435 (fun _ h9 => h9) rfl dX4_digest_175 ?_
                        refine rg_iload_n F (pc := 178) dX4_digest_178 rfl ?_
                        refine rm_ld F hA5 (pc := 179) (q := 12) (j := i) (x := nI (zStay P i)) (by decide) (show i < 10 by omega) s12 dX4_digest_179 ?_
                        refine rg_ncmp_ge F (pc := 180) (tgt := 208) dX4_digest_180 (by decide) (by omega) (by omega) (fun c180 => ?_) (fun c180 => ?_)
                        · have eq9 : q = zStay P i := by omega
                          refine rg_eq (lv2 := [some (.ref (m)), some (.long (zMls P (zMw P nL (zMx (lN 977) (zCnt P nW nL) 7) nW) (i + 1))), none, some (.int (nI i)), some (.int (nI q))]) (st2 := []) (pc2 := 208) (by rw [eq9]; rfl) rfl rfl ?_
                          refine rg_sub (lv' := [some (.ref (m)), some (.long (zMls P (zMw P nL (zMx (lN 977) (zCnt P nW nL) 7) nW) (i + 1))), none, some (.int (nI i)), none]) (by repeat' constructor) ?_
                          refine rg_iinc F (pc := 208) (v := nI (i + 1)) (lv' := [some (.ref (m)), some (.long (zMls P (zMw P nL (zMx (lN 977) (zCnt P nW nL) 7) nW) (i + 1))), none, some (.int (nI (i + 1))), none]) dX4_digest_208 rfl (nI_add _ 1) (Nat.le_of_ble_eq_true rfl) rfl ?_
                          refine rg_goto F (pc := 211) (tgt := 90) dX4_digest_211 (by decide) ?_
                          refine rg_widen (k2 := 187 + 12 * (i + 1)) (n2 := 1129 + 144 * (i + 1)) (by omega) (by omega) ?_
                          exact ihi (i + 1) _ (by omega) (by omega) hA5
                        · have hq : q < zStay P i := by omega
                          refine rg_lload_n F (pc := 183) dX4_digest_183 rfl ?_
                          refine rg_ldc2 F (pc := 184) (v := 31) q511 dX4_digest_184 ?_
                          refine rg_top (v2 := .long (lN 31)) rfl ?_
                          refine rg_lmul F (pc := 187) (v := (zMx (zMx (zMx (zMls P (zMw P nL (zMx (lN 977) (zCnt P nW nL) 7) nW) i) (zTold P i) 12) (zR P i) ((zC P i))) (fun p => zBits P i / 2 ^ p % 2) q) * (lN 31)) dX4_digest_187 rfl ?_
                          refine rg_aload_n F (pc := 188) dX4_digest_188 rfl ?_
                          refine rg_get F (pc := 189) (ci := 5) rfl inX4 hA5.1 16 (by decide) q437 (fun _ h9 => h9) rfl dX4_digest_189 ?_
                          refine rg_iload_n F (pc := 192) dX4_digest_192 rfl ?_
                          refine rm_ld F hA5 (pc := 193) (q := 13) (j := i) (x := nI (zBits P i)) (by decide) (show i < 10 by omega) s13 dX4_digest_193 ?_
                          refine rg_iload F (pc := 194) dX4_digest_194 rfl ?_
                          refine rg_ishr F (pc := 196) (v := nI ((zBits P i) / 2 ^ q)) dX4_digest_196 (rn_shr (by omega) (by omega)) ?_
                          refine rg_iconst F (pc := 197) (v := nI 1) dX4_digest_197 (by decide) ?_
                          refine rg_iand F (pc := 198) (v := nI (((zBits P i) / 2 ^ q) % 2)) dX4_digest_198 (rn_and1 (Nat.lt_of_le_of_lt (Nat.div_le_self _ _) (by omega))) ?_
                          refine rg_i2l F (pc := 199) (v := lN (((zBits P i) / 2 ^ q) % 2)) dX4_digest_199 (nI_l (by omega)) ?_
                          refine rg_ladd F (pc := 200) (v := ((zMx (zMx (zMx (zMls P (zMw P nL (zMx (lN 977) (zCnt P nW nL) 7) nW) i) (zTold P i) 12) (zR P i) ((zC P i))) (fun p => zBits P i / 2 ^ p % 2) q) * (lN 31)) + (lN (((zBits P i) / 2 ^ q) % 2))) dX4_digest_200 rfl ?_
                          refine rg_top (v2 := .long (zMx (zMx (zMx (zMls P (zMw P nL (zMx (lN 977) (zCnt P nW nL) 7) nW) i) (zTold P i) 12) (zR P i) ((zC P i))) (fun p => zBits P i / 2 ^ p % 2) (q + 1))) rfl ?_
                          refine rg_lstore_n F (pc := 201) (lv' := [some (.ref (m)), some (.long (zMx (zMx (zMx (zMls P (zMw P nL (zMx (lN 977) (zCnt P nW nL) 7) nW) i) (zTold P i) 12) (zR P i) ((zC P i))) (fun p => zBits P i / 2 ^ p % 2) (q + 1))), none, some (.int (nI i)), some (.int (nI q))]) dX4_digest_201 (Nat.le_of_ble_eq_true rfl) rfl ?_
                          refine rg_iinc F (pc := 202) (v := nI (q + 1)) (lv' := [some (.ref (m)), some (.long (zMx (zMx (zMx (zMls P (zMw P nL (zMx (lN 977) (zCnt P nW nL) 7) nW) i) (zTold P i) 12) (zR P i) ((zC P i))) (fun p => zBits P i / 2 ^ p % 2) (q + 1))), none, some (.int (nI i)), some (.int (nI (q + 1)))]) dX4_digest_202 rfl (nI_add _ 1) (Nat.le_of_ble_eq_true rfl) rfl ?_
                          refine rg_goto F (pc := 205) (tgt := 172) dX4_digest_205 (by decide) ?_
                          exact ihq (q + 1) (by omega) (by omega)
                    · have hj : j < zC P i := by omega
                      have hrj := hlk.2.2.2.2.2 j hj
                      refine rg_lload_n F (pc := 143) dX4_digest_143 rfl ?_
                      refine rg_ldc2 F (pc := 144) (v := 31) q511 dX4_digest_144 ?_
                      refine rg_top (v2 := .long (lN 31)) rfl ?_
                      refine rg_lmul F (pc := 147) (v := (zMx (zMx (zMls P (zMw P nL (zMx (lN 977) (zCnt P nW nL) 7) nW) i) (zTold P i) 12) (zR P i) j) * (lN 31)) dX4_digest_147 rfl ?_
                      refine rg_aload_n F (pc := 148) dX4_digest_148 rfl ?_
                      refine rg_get F (pc := 149) (ci := 5) rfl inX4 hA5.1 12 (by decide) q408 (fun _ h9 => h9) rfl dX4_digest_149 ?_
                      refine rg_bipush F (pc := 152) (v := nI 8) dX4_digest_152 (by decide) ?_
                      refine rg_iload_n F (pc := 154) dX4_digest_154 rfl ?_
                      refine rg_imul F (pc := 155) (v := nI (8 * i)) dX4_digest_155 (pk_mul _ _) ?_
                      refine rg_iload F (pc := 156) dX4_digest_156 rfl ?_
                      refine rg_iadd F (pc := 158) (v := nI ((8 * i) + j)) dX4_digest_158 (nI_add _ _) ?_
                      refine rm_ld F hA5 (pc := 159) (q := 9) (j := (8 * i) + j) (x := nI (zR P i j)) (by decide) (show (8 * i) + j < 80 by omega) (hBc4.2.2.2.2 i (by omega) j (by omega)) dX4_digest_159 ?_
                      refine rg_i2l F (pc := 160) (v := lN (zR P i j)) dX4_digest_160 (nI_l (by omega)) ?_
                      refine rg_ladd F (pc := 161) (v := ((zMx (zMx (zMls P (zMw P nL (zMx (lN 977) (zCnt P nW nL) 7) nW) i) (zTold P i) 12) (zR P i) j) * (lN 31)) + (lN (zR P i j))) dX4_digest_161 rfl ?_
                      refine rg_top (v2 := .long (zMx (zMx (zMls P (zMw P nL (zMx (lN 977) (zCnt P nW nL) 7) nW) i) (zTold P i) 12) (zR P i) (j + 1))) rfl ?_
                      refine rg_lstore_n F (pc := 162) (lv' := [some (.ref (m)), some (.long (zMx (zMx (zMls P (zMw P nL (zMx (lN 977) (zCnt P nW nL) 7) nW) i) (zTold P i) 12) (zR P i) (j + 1))), none, some (.int (nI i)), some (.int (nI j))]) dX4_digest_162 (Nat.le_of_ble_eq_true rfl) rfl ?_
                      refine rg_iinc F (pc := 163) (v := nI (j + 1)) (lv' := [some (.ref (m)), some (.long (zMx (zMx (zMls P (zMw P nL (zMx (lN 977) (zCnt P nW nL) 7) nW) i) (zTold P i) 12) (zR P i) (j + 1))), none, some (.int (nI i)), some (.int (nI (j + 1)))]) dX4_digest_163 rfl (nI_add _ 1) (Nat.le_of_ble_eq_true rfl) rfl ?_
                      refine rg_goto F (pc := 166) (tgt := 132) dX4_digest_166 (by decide) ?_
                      exact ihj (j + 1) (by omega) (by omega)
                · refine rg_lload_n F (pc := 108) dX4_digest_108 rfl ?_
                  refine rg_ldc2 F (pc := 109) (v := 31) q511 dX4_digest_109 ?_
                  refine rg_top (v2 := .long (lN 31)) rfl ?_
                  refine rg_lmul F (pc := 112) (v := (zMx (zMls P (zMw P nL (zMx (lN 977) (zCnt P nW nL) 7) nW) i) (zTold P i) k) * (lN 31)) dX4_digest_112 rfl ?_
                  refine rg_aload_n F (pc := 113) dX4_digest_113 rfl ?_
                  refine rg_iload_n F (pc := 114) dX4_digest_114 rfl ?_
                  refine rg_iload F (pc := 115) dX4_digest_115 rfl ?_
                  have hc1 := zTold_le hP hi k
                  refine rg_callVi F (pc := 117) (As := [.int (nI i), .int (nI k)]) (rest := [.long ((zMx (zMls P (zMw P nL (zMx (lN 977) (zCnt P nW nL) 7) nW) i) (zTold P i) k) * (lN 31))]) (ci := 5) (r_toldOf l D _ m P nW nL ad Fc4 (nI 0) (nI (zCa P nL)) i k ⟨hP, hA5, hBc4⟩ hSS (by omega) (by omega)) q488 vq_X4_toldOf rfl hA5.1 rfl rfl (Nat.le_of_ble_eq_true rfl) (Nat.le_of_ble_eq_true rfl) (Nat.le_of_ble_eq_true rfl) ⟨(by show _ ≤ 400; omega), (by show _ ≤ 4000; omega)⟩ dX4_digest_117 (fun r9 Mt hp => ?_)
                  refine rg_widen (k2 := 187 + 12 * i + k + 1) (n2 := 1129 + 144 * i + 12 * k + 12) (by omega) (by omega) ?_
                  refine rg_top (v2 := .int (nI (zTold P i k))) (by rw [hp.1]) ?_
                  refine rg_i2l F (pc := 120) (v := lN (zTold P i k)) dX4_digest_120 (nI_l (by omega)) ?_
                  refine rg_ladd F (pc := 121) (v := ((zMx (zMls P (zMw P nL (zMx (lN 977) (zCnt P nW nL) 7) nW) i) (zTold P i) k) * (lN 31)) + (lN (zTold P i k))) dX4_digest_121 rfl ?_
                  refine rg_top (v2 := .long (zMx (zMls P (zMw P nL (zMx (lN 977) (zCnt P nW nL) 7) nW) i) (zTold P i) (k + 1))) rfl ?_
                  refine rg_lstore_n F (pc := 122) (lv' := [some (.ref (m)), some (.long (zMx (zMls P (zMw P nL (zMx (lN 977) (zCnt P nW nL) 7) nW) i) (zTold P i) (k + 1))), none, some (.int (nI i)), some (.int (nI k))]) dX4_digest_122 (Nat.le_of_ble_eq_true rfl) rfl ?_
                  refine rg_iinc F (pc := 123) (v := nI (k + 1)) (lv' := [some (.ref (m)), some (.long (zMx (zMls P (zMw P nL (zMx (lN 977) (zCnt P nW nL) 7) nW) i) (zTold P i) (k + 1))), none, some (.int (nI i)), some (.int (nI (k + 1)))]) dX4_digest_123 rfl (nI_add _ 1) (Nat.le_of_ble_eq_true rfl) rfl ?_
                  refine rg_goto F (pc := 126) (tgt := 101) dX4_digest_126 (by decide) ?_
                  refine rg_widen (k2 := 187 + 12 * i + (k + 1)) (n2 := 1129 + 144 * i + 12 * (k + 1)) (by omega) (by omega) ?_
                  exact ihk (k + 1) _ (by omega) (by omega) hp.2
        · have hw : w < nW := by omega
          refine rg_iconst F (pc := 46) (v := nI 0) dX4_digest_46 (by decide) ?_
          refine rg_istore F (pc := 47) (lv' := [some (.ref (m)), some (.long (zMw P nL (zMx (lN 977) (zCnt P nW nL) 7) w)), none, some (.int (nI w)), some (.int (nI 0))]) dX4_digest_47 (Nat.le_of_ble_eq_true rfl) rfl ?_
          refine rg_eq (lv2 := [some (.ref (m)), some (.long (zMx (zMw P nL (zMx (lN 977) (zCnt P nW nL) 7) w) (zAbout P nL w) 0)), none, some (.int (nI w)), some (.int (nI 0))]) (st2 := []) (pc2 := 49) rfl rfl rfl ?_
          refine rg_widen (k2 := 7 + 6 * w + 0) (n2 := 49 + 36 * w + 6 * 0) (by omega) (by omega) ?_
          suffices L3 : ∀ (d9 : Nat) (k : Nat) (M3 : rMem), 6 - k < d9 → (k ≤ 6) → (mA D M3 m ad F2 (nI 0) nW nL lo2) → rG P0 l E0 (rR 6 400 4000) S0 m0 as0 bl0 mt0 c0 D A 5 (MQ bl0 (va_Ql (fun r M' => r = zDig P nW nL ∧ ∃ F' lo', mV D M' m P nW nL ad F' (nI 0) lo') (cB D A) A) as0 S0 400 4000 A) M3 (7 + 6 * w + k) (49 + 36 * w + 6 * k) [some (.ref (m)), some (.long (zMx (zMw P nL (zMx (lN 977) (zCnt P nW nL) 7) w) (zAbout P nL w) k)), none, some (.int (nI w)), some (.int (nI k))] 49 [] from L3 _ 0 _ (Nat.lt_succ_self _) (Nat.zero_le _) hA2
          intro d9
          induction d9 with
          | zero => intro k M3 hd9; exact absurd hd9 (Nat.not_lt_zero _)
          | succ d9 ihk =>
            intro k M3 hd9 hk1 hA3
            refine rg_iload F (pc := 49) dX4_digest_49 rfl ?_
            refine rg_bipush F (pc := 51) (v := nI 6) dX4_digest_51 (by decide) ?_
            refine rg_ncmp_ge F (pc := 53) (tgt := 77) dX4_digest_53 (by decide) (by omega) (by omega) (fun c53 => ?_) (fun c53 => ?_)
            · have e6 : k = 6 := by omega
              refine rg_eq (lv2 := [some (.ref (m)), some (.long (zMw P nL (zMx (lN 977) (zCnt P nW nL) 7) (w + 1))), none, some (.int (nI w)), some (.int (nI k))]) (st2 := []) (pc2 := 77) (by rw [e6]; rfl) rfl rfl ?_
              refine rg_sub (lv' := [some (.ref (m)), some (.long (zMw P nL (zMx (lN 977) (zCnt P nW nL) 7) (w + 1))), none, some (.int (nI w)), none]) (by repeat' constructor) ?_
              refine rg_iinc F (pc := 77) (v := nI (w + 1)) (lv' := [some (.ref (m)), some (.long (zMw P nL (zMx (lN 977) (zCnt P nW nL) 7) (w + 1))), none, some (.int (nI (w + 1))), none]) dX4_digest_77 rfl (nI_add _ 1) (Nat.le_of_ble_eq_true rfl) rfl ?_
              refine rg_goto F (pc := 80) (tgt := 38) dX4_digest_80 (by decide) ?_
              refine rg_widen (k2 := 7 + 6 * (w + 1)) (n2 := 49 + 36 * (w + 1)) (by omega) (by omega) ?_
              exact ih (w + 1) _ _ _ (by omega) (by omega) hA3 hB2
            · refine rg_lload_n F (pc := 56) dX4_digest_56 rfl ?_
              refine rg_ldc2 F (pc := 57) (v := 31) q511 dX4_digest_57 ?_
              refine rg_top (v2 := .long (lN 31)) rfl ?_
              refine rg_lmul F (pc := 60) (v := (zMx (zMw P nL (zMx (lN 977) (zCnt P nW nL) 7) w) (zAbout P nL w) k) * (lN 31)) dX4_digest_60 rfl ?_
              refine rg_aload_n F (pc := 61) dX4_digest_61 rfl ?_
              refine rg_iload_n F (pc := 62) dX4_digest_62 rfl ?_
              refine rg_iload F (pc := 63) dX4_digest_63 rfl ?_
              have hc1 := zAbout_le hP hw k
              refine rg_callVi F (pc := 65) (As := [.int (nI w), .int (nI k)]) (rest := [.long ((zMx (zMw P nL (zMx (lN 977) (zCnt P nW nL) 7) w) (zAbout P nL w) k) * (lN 31))]) (ci := 5) (r_aboutTold l D _ m P nW nL ad F2 (nI 0) lo2 w k ⟨hP, hA3, hB2⟩ (by omega) (by omega)) q403 vq_X4_aboutTold rfl hA3.1 rfl rfl (Nat.le_of_ble_eq_true rfl) (Nat.le_of_ble_eq_true rfl) (Nat.le_of_ble_eq_true rfl) ⟨(by show _ ≤ 400; omega), (by show _ ≤ 4000; omega)⟩ dX4_digest_65 (fun r9 Mt hp => ?_)
              refine rg_widen (k2 := 7 + 6 * w + k + 1) (n2 := 49 + 36 * w + 6 * k + 6) (by omega) (by omega) ?_
              refine rg_top (v2 := .int (nI (zAbout P nL w k))) (by rw [hp.1]) ?_
              refine rg_i2l F (pc := 68) (v := lN (zAbout P nL w k)) dX4_digest_68 (nI_l (by omega)) ?_
              refine rg_ladd F (pc := 69) (v := ((zMx (zMw P nL (zMx (lN 977) (zCnt P nW nL) 7) w) (zAbout P nL w) k) * (lN 31)) + (lN (zAbout P nL w k))) dX4_digest_69 rfl ?_
              refine rg_top (v2 := .long (zMx (zMw P nL (zMx (lN 977) (zCnt P nW nL) 7) w) (zAbout P nL w) (k + 1))) rfl ?_
              refine rg_lstore_n F (pc := 70) (lv' := [some (.ref (m)), some (.long (zMx (zMw P nL (zMx (lN 977) (zCnt P nW nL) 7) w) (zAbout P nL w) (k + 1))), none, some (.int (nI w)), some (.int (nI k))]) dX4_digest_70 (Nat.le_of_ble_eq_true rfl) rfl ?_
              refine rg_iinc F (pc := 71) (v := nI (k + 1)) (lv' := [some (.ref (m)), some (.long (zMx (zMw P nL (zMx (lN 977) (zCnt P nW nL) 7) w) (zAbout P nL w) (k + 1))), none, some (.int (nI w)), some (.int (nI (k + 1)))]) dX4_digest_71 rfl (nI_add _ 1) (Nat.le_of_ble_eq_true rfl) rfl ?_
              refine rg_goto F (pc := 74) (tgt := 49) dX4_digest_74 (by decide) ?_
              refine rg_widen (k2 := 7 + 6 * w + (k + 1)) (n2 := 49 + 36 * w + 6 * (k + 1)) (by omega) (by omega) ?_
              exact ihk (k + 1) _ (by omega) (by omega) hp.2
    · refine rg_lload_n F (pc := 17) dX4_digest_17 rfl ?_
      refine rg_ldc2 F (pc := 18) (v := 31) q511 dX4_digest_18 ?_
      refine rg_top (v2 := .long (lN 31)) rfl ?_
      refine rg_lmul F (pc := 21) (v := (zMx (lN 977) (zCnt P nW nL) k) * (lN 31)) dX4_digest_21 rfl ?_
      refine rg_aload_n F (pc := 22) dX4_digest_22 rfl ?_
      refine rg_iload_n F (pc := 23) dX4_digest_23 rfl ?_
      have hc1 := zCnt_le hP (nL := nL) k
      refine rg_callVi F (pc := 24) (As := [.int (nI k)]) (rest := [.long ((zMx (lN 977) (zCnt P nW nL) k) * (lN 31))]) (ci := 5) (r_counted l D _ m P nW nL ad F1 (nI 0) lo1 k ⟨hP, hA1, hB1⟩ (by omega)) q498 vq_X4_counted rfl hA1.1 rfl rfl (Nat.le_of_ble_eq_true rfl) (Nat.le_of_ble_eq_true rfl) (Nat.le_of_ble_eq_true rfl) ⟨(by show _ ≤ 400; omega), (by show _ ≤ 4000; omega)⟩ dX4_digest_24 (fun r9 Mt hp => ?_)
      refine rg_widen (k2 := k + 1) (n2 := 7 * k + 7) (by omega) (by omega) ?_
      refine rg_top (v2 := .int (nI (zCnt P nW nL k))) (by rw [hp.1]) ?_
      obtain ⟨-, Ft, lot, -, hAt, hBt⟩ := hp
      refine rg_i2l F (pc := 27) (v := lN (zCnt P nW nL k)) dX4_digest_27 (nI_l (by omega)) ?_
      refine rg_ladd F (pc := 28) (v := ((zMx (lN 977) (zCnt P nW nL) k) * (lN 31)) + (lN (zCnt P nW nL k))) dX4_digest_28 rfl ?_
      refine rg_top (v2 := .long (zMx (lN 977) (zCnt P nW nL) (k + 1))) rfl ?_
      refine rg_lstore_n F (pc := 29) (lv' := [some (.ref (m)), some (.long (zMx (lN 977) (zCnt P nW nL) (k + 1))), none, some (.int (nI k)), none]) dX4_digest_29 (Nat.le_of_ble_eq_true rfl) rfl ?_
      refine rg_iinc F (pc := 30) (v := nI (k + 1)) (lv' := [some (.ref (m)), some (.long (zMx (lN 977) (zCnt P nW nL) (k + 1))), none, some (.int (nI (k + 1))), none]) dX4_digest_30 rfl (nI_add _ 1) (Nat.le_of_ble_eq_true rfl) rfl ?_
      refine rg_goto F (pc := 33) (tgt := 11) dX4_digest_33 (by decide) ?_
      refine rg_widen (k2 := k + 1) (n2 := 7 * (k + 1)) (by omega) (by omega) ?_
      exact ih (k + 1) _ _ _ (by omega) (by omega) hAt hBt
