set_option maxHeartbeats 4000000 in
set_option maxRecDepth 100000 in
theorem r_aboutTold (l : Launch) (D : va_G) (M : rMem) (m : Nat) (P : Poem) (nW nL : Nat) (ad : Nat → Nat) (Fn : Nat → Nat → Int32) (t lo : Int32) (w what : Nat) (hV : mV D M m P nW nL ad Fn t lo) (hw : w < nW) (hwt : what < 6) : CMi l D yX4_aboutTold cX4_aboutTold 6 ((some .int)) 1 1 6 M [.ref (m), .int (nI w), .int (nI what)] (fun r M' => r = nI (zAbout P nL w what) ∧ mA D M' m ad Fn t nW nL lo) := by
  obtain ⟨hP, hA, hB⟩ := id hV
  have hn30 := hP.1.1
  have hn10 := hP.2.1
  have wk := hP.1.2 w hw
  refine rM (lv0 := [some (.ref (m)), some (.int (nI w)), some (.int (nI what)), none, none, none]) (by decide) rfl rfl (Nat.le_of_ble_eq_true rfl) (fun P0 E0 S0 m0 as0 bl0 mt0 c0 A F hrt9 hnm => ?_)
  refine rg_iconst F (pc := 0) (v := nI 0) dX4_aboutTold_0 (by decide) ?_
  refine rg_istore_n F (pc := 1) (lv' := [some (.ref (m)), some (.int (nI w)), some (.int (nI what)), some (.int (nI 0)), none, none]) dX4_aboutTold_1 (Nat.le_of_ble_eq_true rfl) rfl ?_
  refine rg_iconst F (pc := 2) (v := nI 0) dX4_aboutTold_2 (by decide) ?_
  refine rg_istore F (pc := 3) (lv' := [some (.ref (m)), some (.int (nI w)), some (.int (nI what)), some (.int (nI 0)), some (.int (nI 0)), none]) dX4_aboutTold_3 (Nat.le_of_ble_eq_true rfl) rfl ?_
  refine rg_eq (lv2 := [some (.ref (m)), some (.int (nI w)), some (.int (nI what)), some (.int (nI (zUses P w 0))), some (.int (nI 0)), none]) (st2 := []) (pc2 := 5) rfl rfl rfl ?_
  suffices L0 : ∀ (d9 : Nat) (i : Nat), nL - i < d9 → (i ≤ nL) → rG P0 l E0 (rR 1 1 6) S0 m0 as0 bl0 mt0 c0 D A 6 (MQ bl0 (va_Qi (fun r M' => r = nI (zAbout P nL w what) ∧ mA D M' m ad Fn t nW nL lo) (cB D A) A) as0 S0 1 6 A) M 0 0 [some (.ref (m)), some (.int (nI w)), some (.int (nI what)), some (.int (nI (zUses P w i))), some (.int (nI i)), none] 5 [] from L0 _ 0 (Nat.lt_succ_self _) (Nat.zero_le _)
  intro d9
  induction d9 with
  | zero => intro i hd9; exact absurd hd9 (Nat.not_lt_zero _)
  | succ d9 ih =>
    intro i hd9 hi1
    have hu1 := zUses_le hP w i hi1
    refine rg_iload F (pc := 5) dX4_aboutTold_5 rfl ?_
    refine rg_aload_n F (pc := 7) dX4_aboutTold_7 rfl ?_
    refine rg_get F (pc := 8) (ci := 5) rfl inX4 hA.1 7 (by decide) q406 (fun _ h9 => h9) rfl dX4_aboutTold_8 ?_
    refine rg_ncmp_ge F (pc := 11) (tgt := 66) dX4_aboutTold_11 (by decide) (by omega) (by omega) (fun c11 => ?_) (fun c11 => ?_)
    · have ei : i = nL := by omega
      refine rg_eq (lv2 := [some (.ref (m)), some (.int (nI w)), some (.int (nI what)), some (.int (nI (zUses P w nL))), some (.int (nI i)), none]) (st2 := []) (pc2 := 66) (by rw [ei]) rfl rfl ?_
      refine rg_sub (lv' := [some (.ref (m)), some (.int (nI w)), some (.int (nI what)), some (.int (nI (zUses P w nL))), none, none]) (by repeat' constructor) ?_
      refine rg_bipush F (pc := 66) (v := nI 6) dX4_aboutTold_66 (by decide) ?_
      refine rm_newI F hA (pc := 68) (N := 6) (Nat.le_of_ble_eq_true rfl) (Nat.le_of_ble_eq_true rfl) (Nat.le_of_ble_eq_true rfl) q409 dX4_aboutTold_68 (fun a68 Ms2 hN2 => ?_)
      refine rg_widen (k2 := 1) (n2 := 6) (by decide) (by decide) ?_
      refine rg_dup F (pc := 70) dX4_aboutTold_70 rfl ?_
      refine rg_iconst F (pc := 71) (v := nI 0) dX4_aboutTold_71 (by decide) ?_
      refine rg_aload_n F (pc := 72) dX4_aboutTold_72 rfl ?_
      refine rg_get F (pc := 73) (ci := 5) rfl inX4 hN2.1.1 2 (by decide) q410 (fun _ h9 => h9) rfl dX4_aboutTold_73 ?_
      refine rg_iload_n F (pc := 76) dX4_aboutTold_76 rfl ?_
      refine rm_ld F hN2.1 (pc := 77) (q := 0) (j := w) (x := nI (zS P w)) (by decide) (show w < 30 by omega) (hB.1 w (by omega)).1 dX4_aboutTold_77 ?_
      refine rm_stN F hN2 (pc := 78) (j := 0) (x := nI (zS P w)) (Nat.le_of_ble_eq_true rfl) (Nat.le_of_ble_eq_true rfl) dX4_aboutTold_78 (fun Ms3 hN3 => ?_)
      refine rg_dup F (pc := 79) dX4_aboutTold_79 rfl ?_
      refine rg_iconst F (pc := 80) (v := nI 1) dX4_aboutTold_80 (by decide) ?_
      refine rg_aload_n F (pc := 81) dX4_aboutTold_81 rfl ?_
      refine rg_get F (pc := 82) (ci := 5) rfl inX4 hN3.1.1 3 (by decide) q411 (fun _ h9 => h9) rfl dX4_aboutTold_82 ?_
      refine rg_iload_n F (pc := 85) dX4_aboutTold_85 rfl ?_
      refine rm_ld F hN3.1 (pc := 86) (q := 1) (j := w) (x := nI (zT P w)) (by decide) (show w < 30 by omega) (hB.1 w (by omega)).2.1 dX4_aboutTold_86 ?_
      refine rm_stN F hN3 (pc := 87) (j := 1) (x := nI (zT P w)) (Nat.le_of_ble_eq_true rfl) (Nat.le_of_ble_eq_true rfl) dX4_aboutTold_87 (fun Ms4 hN4 => ?_)
      refine rg_dup F (pc := 88) dX4_aboutTold_88 rfl ?_
      refine rg_iconst F (pc := 89) (v := nI 2) dX4_aboutTold_89 (by decide) ?_
      refine rg_aload_n F (pc := 90) dX4_aboutTold_90 rfl ?_
      refine rg_get F (pc := 91) (ci := 5) rfl inX4 hN4.1.1 4 (by decide) q412 (fun _ h9 => h9) rfl dX4_aboutTold_91 ?_
      refine rg_iload_n F (pc := 94) dX4_aboutTold_94 rfl ?_
      refine rm_ld F hN4.1 (pc := 95) (q := 2) (j := w) (x := nI (zV P w)) (by decide) (show w < 30 by omega) (hB.1 w (by omega)).2.2.1 dX4_aboutTold_95 ?_
      refine rm_stN F hN4 (pc := 96) (j := 2) (x := nI (zV P w)) (Nat.le_of_ble_eq_true rfl) (Nat.le_of_ble_eq_true rfl) dX4_aboutTold_96 (fun Ms5 hN5 => ?_)
      refine rg_dup F (pc := 97) dX4_aboutTold_97 rfl ?_
      refine rg_iconst F (pc := 98) (v := nI 3) dX4_aboutTold_98 (by decide) ?_
      refine rg_aload_n F (pc := 99) dX4_aboutTold_99 rfl ?_
      refine rg_get F (pc := 100) (ci := 5) rfl inX4 hN5.1.1 5 (by decide) q413 (fun _ h9 => h9) rfl dX4_aboutTold_100 ?_
      refine rg_iload_n F (pc := 103) dX4_aboutTold_103 rfl ?_
      refine rm_ld F hN5.1 (pc := 104) (q := 3) (j := w) (x := nI (zE P w)) (by decide) (show w < 30 by omega) (hB.1 w (by omega)).2.2.2.1 dX4_aboutTold_104 ?_
      refine rm_stN F hN5 (pc := 105) (j := 3) (x := nI (zE P w)) (Nat.le_of_ble_eq_true rfl) (Nat.le_of_ble_eq_true rfl) dX4_aboutTold_105 (fun Ms6 hN6 => ?_)
      refine rg_dup F (pc := 106) dX4_aboutTold_106 rfl ?_
      refine rg_iconst F (pc := 107) (v := nI 4) dX4_aboutTold_107 (by decide) ?_
      refine rg_aload_n F (pc := 108) dX4_aboutTold_108 rfl ?_
      refine rg_get F (pc := 109) (ci := 5) rfl inX4 hN6.1.1 6 (by decide) q414 (fun _ h9 => h9) rfl dX4_aboutTold_109 ?_
      refine rg_iload_n F (pc := 112) dX4_aboutTold_112 rfl ?_
      refine rm_ld F hN6.1 (pc := 113) (q := 4) (j := w) (x := nI (zO P w)) (by decide) (show w < 30 by omega) (hB.1 w (by omega)).2.2.2.2 dX4_aboutTold_113 ?_
      refine rm_stN F hN6 (pc := 114) (j := 4) (x := nI (zO P w)) (Nat.le_of_ble_eq_true rfl) (Nat.le_of_ble_eq_true rfl) dX4_aboutTold_114 (fun Ms7 hN7 => ?_)
      refine rg_dup F (pc := 115) dX4_aboutTold_115 rfl ?_
      refine rg_iconst F (pc := 116) (v := nI 5) dX4_aboutTold_116 (by decide) ?_
      refine rg_iload_n F (pc := 117) dX4_aboutTold_117 rfl ?_
      refine rm_stN F hN7 (pc := 118) (j := 5) (x := nI (zUses P w nL)) (Nat.le_of_ble_eq_true rfl) (Nat.le_of_ble_eq_true rfl) dX4_aboutTold_118 (fun Ms8 hN8 => ?_)
      refine rg_astore F (pc := 119) (lv' := [some (.ref (m)), some (.int (nI w)), some (.int (nI what)), some (.int (nI (zUses P w nL))), some (.ref (a68)), none]) dX4_aboutTold_119 (Nat.le_of_ble_eq_true rfl) rfl ?_
      refine rg_aload F (pc := 121) dX4_aboutTold_121 rfl ?_
      refine rg_iload_n F (pc := 123) dX4_aboutTold_123 rfl ?_
      refine rm_ldN F hN8 (pc := 124) (j := what) (x := nI (zAbout P nL w what)) (by omega) (Nat.le_of_ble_eq_true rfl) (by rcases (show what = 0 ∨ what = 1 ∨ what = 2 ∨ what = 3 ∨ what = 4 ∨ what = 5 by omega) with h | h | h | h | h | h <;> subst h <;> rfl) dX4_aboutTold_124 ?_
      exact rg_iret F (pc := 125) hrt9 (by decide) (by decide) dX4_aboutTold_125 ⟨rfl, hN8.1⟩
    · have hi : i < nL := by omega
      have hz8 := (hP.2.2 i hi).2.2.2.2.1
      refine rg_iconst F (pc := 14) (v := nI 0) dX4_aboutTold_14 (by decide) ?_
      refine rg_istore F (pc := 15) (lv' := [some (.ref (m)), some (.int (nI w)), some (.int (nI what)), some (.int (nI (zUses P w i))), some (.int (nI i)), some (.int (nI 0))]) dX4_aboutTold_15 (Nat.le_of_ble_eq_true rfl) rfl ?_
      refine rg_eq (lv2 := [some (.ref (m)), some (.int (nI w)), some (.int (nI what)), some (.int (nI (zUses P w i + zUse P i w 0))), some (.int (nI i)), some (.int (nI 0))]) (st2 := []) (pc2 := 17) rfl rfl rfl ?_
      suffices L1 : ∀ (d9 : Nat) (j : Nat), zC P i - j < d9 → (j ≤ zC P i) → rG P0 l E0 (rR 1 1 6) S0 m0 as0 bl0 mt0 c0 D A 6 (MQ bl0 (va_Qi (fun r M' => r = nI (zAbout P nL w what) ∧ mA D M' m ad Fn t nW nL lo) (cB D A) A) as0 S0 1 6 A) M 0 0 [some (.ref (m)), some (.int (nI w)), some (.int (nI what)), some (.int (nI (zUses P w i + zUse P i w j))), some (.int (nI i)), some (.int (nI j))] 17 [] from L1 _ 0 (Nat.lt_succ_self _) (Nat.zero_le _)
      intro d9
      induction d9 with
      | zero => intro j hd9; exact absurd hd9 (Nat.not_lt_zero _)
      | succ d9 ihj =>
        intro j hd9 hj1
        have hu2 := zUse_le P i w j
        refine rg_iload F (pc := 17) dX4_aboutTold_17 rfl ?_
        refine rg_aload_n F (pc := 19) dX4_aboutTold_19 rfl ?_
        refine rg_get F (pc := 20) (ci := 5) rfl inX4 hA.1 11 (by decide) q407 (fun _ h9 => h9) rfl dX4_aboutTold_20 ?_
        refine rg_iload F (pc := 23) dX4_aboutTold_23 rfl ?_
        refine rm_ld F hA (pc := 25) (q := 8) (j := i) (x := nI (zC P i)) (by decide) (show i < 10 by omega) (hB.2.2.1 i (by omega)) dX4_aboutTold_25 ?_
        refine rg_ncmp_ge F (pc := 26) (tgt := 60) dX4_aboutTold_26 (by decide) (by omega) (by omega) (fun c26 => ?_) (fun c26 => ?_)
        · refine rg_eq (lv2 := [some (.ref (m)), some (.int (nI w)), some (.int (nI what)), some (.int (nI (zUses P w (i + 1)))), some (.int (nI i)), some (.int (nI j))]) (st2 := []) (pc2 := 60) (by rw [show j = zC P i by omega]; rfl) rfl rfl ?_
          refine rg_sub (lv' := [some (.ref (m)), some (.int (nI w)), some (.int (nI what)), some (.int (nI (zUses P w (i + 1)))), some (.int (nI i)), none]) (by repeat' constructor) ?_
          refine rg_iinc F (pc := 60) (v := nI (i + 1)) (lv' := [some (.ref (m)), some (.int (nI w)), some (.int (nI what)), some (.int (nI (zUses P w (i + 1)))), some (.int (nI (i + 1))), none]) dX4_aboutTold_60 rfl (nI_add _ 1) (Nat.le_of_ble_eq_true rfl) rfl ?_
          refine rg_goto F (pc := 63) (tgt := 5) dX4_aboutTold_63 (by decide) ?_
          exact ih (i + 1) (by omega) (by omega)
        · have hj : j < zC P i := by omega
          have hrw := (hP.2.2 i hi).2.2.2.2.2 j hj
          refine rg_iload_n F (pc := 29) dX4_aboutTold_29 rfl ?_
          refine rg_aload_n F (pc := 30) dX4_aboutTold_30 rfl ?_
          refine rg_get F (pc := 31) (ci := 5) rfl inX4 hA.1 12 (by decide) q408 (fun _ h9 => h9) rfl dX4_aboutTold_31 ?_
          refine rg_bipush F (pc := 34) (v := nI 8) dX4_aboutTold_34 (by decide) ?_
          refine rg_iload F (pc := 36) dX4_aboutTold_36 rfl ?_
          refine rg_imul F (pc := 38) (v := nI (8 * i)) dX4_aboutTold_38 (pk_mul _ _) ?_
          refine rg_iload F (pc := 39) dX4_aboutTold_39 rfl ?_
          refine rg_iadd F (pc := 41) (v := nI ((8 * i) + j)) dX4_aboutTold_41 (nI_add _ _) ?_
          refine rm_ld F hA (pc := 42) (q := 9) (j := (8 * i) + j) (x := nI (zR P i j)) (by decide) (show (8 * i) + j < 80 by omega) (hB.2.2.2.2 i (by omega) j (by omega)) dX4_aboutTold_42 ?_
          refine rg_iload_n F (pc := 43) dX4_aboutTold_43 rfl ?_
          refine rg_ncmp_ne F (pc := 44) (tgt := 51) dX4_aboutTold_44 (by decide) (by omega) (by omega) (fun c44 => ?_) (fun c44 => ?_)
          · refine rg_iconst F (pc := 51) (v := nI 0) dX4_aboutTold_51 (by decide) ?_
            refine rg_iadd F (pc := 52) (v := nI ((zUses P w i + zUse P i w j) + 0)) dX4_aboutTold_52 (nI_add _ _) ?_
            refine rg_top (v2 := .int (nI (zUses P w i + zUse P i w (j + 1)))) (by show _ = Value.int (nI (zUses P w i + (zUse P i w j + if zR P i j = w then 1 else 0))); rw [if_neg c44]; congr 2) ?_
            refine rg_istore_n F (pc := 53) (lv' := [some (.ref (m)), some (.int (nI w)), some (.int (nI what)), some (.int (nI (zUses P w i + zUse P i w (j + 1)))), some (.int (nI i)), some (.int (nI j))]) dX4_aboutTold_53 (Nat.le_of_ble_eq_true rfl) rfl ?_
            refine rg_iinc F (pc := 54) (v := nI (j + 1)) (lv' := [some (.ref (m)), some (.int (nI w)), some (.int (nI what)), some (.int (nI (zUses P w i + zUse P i w (j + 1)))), some (.int (nI i)), some (.int (nI (j + 1)))]) dX4_aboutTold_54 rfl (nI_add _ 1) (Nat.le_of_ble_eq_true rfl) rfl ?_
            refine rg_goto F (pc := 57) (tgt := 17) dX4_aboutTold_57 (by decide) ?_
            exact ihj (j + 1) (by omega) (by omega)
          · refine rg_iconst F (pc := 47) (v := nI 1) dX4_aboutTold_47 (by decide) ?_
            refine rg_goto F (pc := 48) (tgt := 52) dX4_aboutTold_48 (by decide) ?_
            refine rg_iadd F (pc := 52) (v := nI ((zUses P w i + zUse P i w j) + 1)) dX4_aboutTold_52 (nI_add _ _) ?_
            refine rg_top (v2 := .int (nI (zUses P w i + zUse P i w (j + 1)))) (by show _ = Value.int (nI (zUses P w i + (zUse P i w j + if zR P i j = w then 1 else 0))); rw [if_pos c44]; congr 2) ?_
            refine rg_istore_n F (pc := 53) (lv' := [some (.ref (m)), some (.int (nI w)), some (.int (nI what)), some (.int (nI (zUses P w i + zUse P i w (j + 1)))), some (.int (nI i)), some (.int (nI j))]) dX4_aboutTold_53 (Nat.le_of_ble_eq_true rfl) rfl ?_
            refine rg_iinc F (pc := 54) (v := nI (j + 1)) (lv' := [some (.ref (m)), some (.int (nI w)), some (.int (nI what)), some (.int (nI (zUses P w i + zUse P i w (j + 1)))), some (.int (nI i)), some (.int (nI (j + 1)))]) dX4_aboutTold_54 rfl (nI_add _ 1) (Nat.le_of_ble_eq_true rfl) rfl ?_
            refine rg_goto F (pc := 57) (tgt := 17) dX4_aboutTold_57 (by decide) ?_
            exact ihj (j + 1) (by omega) (by omega)
set_option maxHeartbeats 4000000 in
set_option maxRecDepth 100000 in
theorem r_toldOf (l : Launch) (D : va_G) (M : rMem) (m : Nat) (P : Poem) (nW nL : Nat) (ad : Nat → Nat) (Fn : Nat → Nat → Int32) (t lo : Int32) (i what : Nat) (hV : mV D M m P nW nL ad Fn t lo) (hS : mS P nL Fn) (hi : i < nL) (hwt : what < 12) : CMi l D yX4_toldOf cX4_toldOf 4 ((some .int)) 4 1 12 M [.ref (m), .int (nI i), .int (nI what)] (fun r M' => r = nI (zTold P i what) ∧ mA D M' m ad Fn t nW nL lo) := by
  obtain ⟨hP, hA, hB⟩ := id hV
  have hn30 := hP.1.1
  have hn10 := hP.2.1
  obtain ⟨s10, s11, s12, s13, s14, s15⟩ := hS i hi
  have hb0 := zBg_eq P i
  have hz8 := (hP.2.2 i hi).2.2.2.2.1
  have hls : zStay P i ≤ zCa P i + zo P i := Nat.min_le_left _ _
  refine rM (lv0 := [some (.ref (m)), some (.int (nI i)), some (.int (nI what)), none]) (by decide) rfl rfl (Nat.le_of_ble_eq_true rfl) (fun P0 E0 S0 m0 as0 bl0 mt0 c0 A F hrt9 hnm => ?_)
  refine rg_bipush F (pc := 0) (v := nI 12) dX4_toldOf_0 (by decide) ?_
  refine rm_newI F hA (pc := 2) (N := 12) (Nat.le_of_ble_eq_true rfl) (Nat.le_of_ble_eq_true rfl) (Nat.le_of_ble_eq_true rfl) q409 dX4_toldOf_2 (fun a2 Ms1 hN1 => ?_)
  refine rg_widen (k2 := 1) (n2 := 12) (by decide) (by decide) ?_
  refine rg_dup F (pc := 4) dX4_toldOf_4 rfl ?_
  refine rg_iconst F (pc := 5) (v := nI 0) dX4_toldOf_5 (by decide) ?_
  refine rg_aload_n F (pc := 6) dX4_toldOf_6 rfl ?_
  refine rg_get F (pc := 7) (ci := 5) rfl inX4 hN1.1.1 8 (by decide) q440 (fun _ h9 => h9) rfl dX4_toldOf_7 ?_
  refine rg_iload_n F (pc := 10) dX4_toldOf_10 rfl ?_
  refine rm_ld F hN1.1 (pc := 11) (q := 5) (j := i) (x := nI (zM P i)) (by decide) (show i < 10 by omega) (hB.2.1 i (by omega)).1 dX4_toldOf_11 ?_
  refine rm_stN F hN1 (pc := 12) (j := 0) (x := nI (zM P i)) (Nat.le_of_ble_eq_true rfl) (Nat.le_of_ble_eq_true rfl) dX4_toldOf_12 (fun Ms2 hN2 => ?_)
  refine rg_dup F (pc := 13) dX4_toldOf_13 rfl ?_
  refine rg_iconst F (pc := 14) (v := nI 1) dX4_toldOf_14 (by decide) ?_
  refine rg_aload_n F (pc := 15) dX4_toldOf_15 rfl ?_
  refine rg_get F (pc := 16) (ci := 5) rfl inX4 hN2.1.1 9 (by decide) q443 (fun _ h9 => h9) rfl dX4_toldOf_16 ?_
  refine rg_iload_n F (pc := 19) dX4_toldOf_19 rfl ?_
  refine rm_ld F hN2.1 (pc := 20) (q := 6) (j := i) (x := nI (zF P i)) (by decide) (show i < 10 by omega) (hB.2.1 i (by omega)).2.1 dX4_toldOf_20 ?_
  refine rm_stN F hN2 (pc := 21) (j := 1) (x := nI (zF P i)) (Nat.le_of_ble_eq_true rfl) (Nat.le_of_ble_eq_true rfl) dX4_toldOf_21 (fun Ms3 hN3 => ?_)
  refine rg_dup F (pc := 22) dX4_toldOf_22 rfl ?_
  refine rg_iconst F (pc := 23) (v := nI 2) dX4_toldOf_23 (by decide) ?_
  refine rg_aload_n F (pc := 24) dX4_toldOf_24 rfl ?_
  refine rg_get F (pc := 25) (ci := 5) rfl inX4 hN3.1.1 10 (by decide) q471 (fun _ h9 => h9) rfl dX4_toldOf_25 ?_
  refine rg_iload_n F (pc := 28) dX4_toldOf_28 rfl ?_
  refine rm_ld F hN3.1 (pc := 29) (q := 7) (j := i) (x := nI (zK P i)) (by decide) (show i < 10 by omega) (hB.2.1 i (by omega)).2.2 dX4_toldOf_29 ?_
  refine rm_stN F hN3 (pc := 30) (j := 2) (x := nI (zK P i)) (Nat.le_of_ble_eq_true rfl) (Nat.le_of_ble_eq_true rfl) dX4_toldOf_30 (fun Ms4 hN4 => ?_)
  refine rg_dup F (pc := 31) dX4_toldOf_31 rfl ?_
  refine rg_iconst F (pc := 32) (v := nI 3) dX4_toldOf_32 (by decide) ?_
  refine rg_aload_n F (pc := 33) dX4_toldOf_33 rfl ?_
  refine rg_get F (pc := 34) (ci := 5) rfl inX4 hN4.1.1 11 (by decide) q407 (fun _ h9 => h9) rfl dX4_toldOf_34 ?_
  refine rg_iload_n F (pc := 37) dX4_toldOf_37 rfl ?_
  refine rm_ld F hN4.1 (pc := 38) (q := 8) (j := i) (x := nI (zC P i)) (by decide) (show i < 10 by omega) (hB.2.2.1 i (by omega)) dX4_toldOf_38 ?_
  refine rm_stN F hN4 (pc := 39) (j := 3) (x := nI (zC P i)) (Nat.le_of_ble_eq_true rfl) (Nat.le_of_ble_eq_true rfl) dX4_toldOf_39 (fun Ms5 hN5 => ?_)
  refine rg_dup F (pc := 40) dX4_toldOf_40 rfl ?_
  refine rg_iconst F (pc := 41) (v := nI 4) dX4_toldOf_41 (by decide) ?_
  refine rg_aload_n F (pc := 42) dX4_toldOf_42 rfl ?_
  refine rg_get F (pc := 43) (ci := 5) rfl inX4 hN5.1.1 13 (by decide) q434 (fun _ h9 => h9) rfl dX4_toldOf_43 ?_
  refine rg_iload_n F (pc := 46) dX4_toldOf_46 rfl ?_
  refine rm_ld F hN5.1 (pc := 47) (q := 10) (j := i) (x := nI (zo P i)) (by decide) (show i < 10 by omega) s10 dX4_toldOf_47 ?_
  refine rm_stN F hN5 (pc := 48) (j := 4) (x := nI (zo P i)) (Nat.le_of_ble_eq_true rfl) (Nat.le_of_ble_eq_true rfl) dX4_toldOf_48 (fun Ms6 hN6 => ?_)
  refine rg_dup F (pc := 49) dX4_toldOf_49 rfl ?_
  refine rg_iconst F (pc := 50) (v := nI 5) dX4_toldOf_50 (by decide) ?_
  refine rg_aload_n F (pc := 51) dX4_toldOf_51 rfl ?_
  refine rg_get F (pc := 52) (ci := 5) rfl inX4 hN6.1.1 14 (by decide) q433 (fun _ h9 => h9) rfl dX4_toldOf_52 ?_
  refine rg_iload_n F (pc := 55) dX4_toldOf_55 rfl ?_
  refine rm_ld F hN6.1 (pc := 56) (q := 11) (j := i) (x := nI (zCa P i)) (by decide) (show i < 10 by omega) s11 dX4_toldOf_56 ?_
  refine rm_stN F hN6 (pc := 57) (j := 5) (x := nI (zCa P i)) (Nat.le_of_ble_eq_true rfl) (Nat.le_of_ble_eq_true rfl) dX4_toldOf_57 (fun Ms7 hN7 => ?_)
  refine rg_dup F (pc := 58) dX4_toldOf_58 rfl ?_
  refine rg_bipush F (pc := 59) (v := nI 6) dX4_toldOf_59 (by decide) ?_
  refine rg_aload_n F (pc := 61) dX4_toldOf_61 rfl ?_
  refine rg_get F (pc := 62) (ci := 5) rfl inX4 hN7.1.1 15 (by decide) q435 (fun _ h9 => h9) rfl dX4_toldOf_62 ?_
  refine rg_iload_n F (pc := 65) dX4_toldOf_65 rfl ?_
  refine rm_ld F hN7.1 (pc := 66) (q := 12) (j := i) (x := nI (zStay P i)) (by decide) (show i < 10 by omega) s12 dX4_toldOf_66 ?_
  refine rm_stN F hN7 (pc := 67) (j := 6) (x := nI (zStay P i)) (Nat.le_of_ble_eq_true rfl) (Nat.le_of_ble_eq_true rfl) dX4_toldOf_67 (fun Ms8 hN8 => ?_)
  refine rg_dup F (pc := 68) dX4_toldOf_68 rfl ?_
  refine rg_bipush F (pc := 69) (v := nI 7) dX4_toldOf_69 (by decide) ?_
  refine rg_aload_n F (pc := 71) dX4_toldOf_71 rfl ?_
  refine rg_get F (pc := 72) (ci := 5) rfl inX4 hN8.1.1 14 (by decide) q433 (fun _ h9 => h9) rfl dX4_toldOf_72 ?_
  refine rg_iload_n F (pc := 75) dX4_toldOf_75 rfl ?_
  refine rm_ld F hN8.1 (pc := 76) (q := 11) (j := i) (x := nI (zCa P i)) (by decide) (show i < 10 by omega) s11 dX4_toldOf_76 ?_
  refine rg_aload_n F (pc := 77) dX4_toldOf_77 rfl ?_
  refine rg_get F (pc := 78) (ci := 5) rfl inX4 hN8.1.1 13 (by decide) q434 (fun _ h9 => h9) rfl dX4_toldOf_78 ?_
  refine rg_iload_n F (pc := 81) dX4_toldOf_81 rfl ?_
  refine rm_ld F hN8.1 (pc := 82) (q := 10) (j := i) (x := nI (zo P i)) (by decide) (show i < 10 by omega) s10 dX4_toldOf_82 ?_
  refine rg_iadd F (pc := 83) (v := nI ((zCa P i) + (zo P i))) dX4_toldOf_83 (nI_add _ _) ?_
  refine rg_aload_n F (pc := 84) dX4_toldOf_84 rfl ?_
  refine rg_get F (pc := 85) (ci := 5) rfl inX4 hN8.1.1 15 (by decide) q435 (fun _ h9 => h9) rfl dX4_toldOf_85 ?_
  refine rg_iload_n F (pc := 88) dX4_toldOf_88 rfl ?_
  refine rm_ld F hN8.1 (pc := 89) (q := 12) (j := i) (x := nI (zStay P i)) (by decide) (show i < 10 by omega) s12 dX4_toldOf_89 ?_
  refine rg_isub F (pc := 90) (v := nI (((zCa P i) + (zo P i)) - (zStay P i))) dX4_toldOf_90 (pk_sub (by omega)) ?_
  refine rm_stN F hN8 (pc := 91) (j := 7) (x := nI (((zCa P i) + (zo P i)) - (zStay P i))) (Nat.le_of_ble_eq_true rfl) (Nat.le_of_ble_eq_true rfl) dX4_toldOf_91 (fun Ms9 hN9 => ?_)
  refine rg_dup F (pc := 92) dX4_toldOf_92 rfl ?_
  refine rg_bipush F (pc := 93) (v := nI 8) dX4_toldOf_93 (by decide) ?_
  refine rg_aload_n F (pc := 95) dX4_toldOf_95 rfl ?_
  refine rg_get F (pc := 96) (ci := 5) rfl inX4 hN9.1.1 17 (by decide) q438 (fun _ h9 => h9) rfl dX4_toldOf_96 ?_
  refine rg_iload_n F (pc := 99) dX4_toldOf_99 rfl ?_
  refine rm_ld F hN9.1 (pc := 100) (q := 14) (j := i) (x := nI (zOff P i)) (by decide) (show i < 10 by omega) s14 dX4_toldOf_100 ?_
  refine rm_stN F hN9 (pc := 101) (j := 8) (x := nI (zOff P i)) (Nat.le_of_ble_eq_true rfl) (Nat.le_of_ble_eq_true rfl) dX4_toldOf_101 (fun Ms10 hN10 => ?_)
  refine rg_dup F (pc := 102) dX4_toldOf_102 rfl ?_
  refine rg_bipush F (pc := 103) (v := nI 9) dX4_toldOf_103 (by decide) ?_
  refine rg_aload_n F (pc := 105) dX4_toldOf_105 rfl ?_
  refine rg_iload_n F (pc := 106) dX4_toldOf_106 rfl ?_
  refine rg_callVi F (pc := 107) (As := [.int (nI i)]) (rest := [.int (nI 9), .ref (a2), .ref (a2)]) (ci := 5) (r_lacks l D _ m P nW nL ad Fn t lo i ⟨hP, hN10.1, hB⟩ (by omega) s12) q465 vq_X4_lacks rfl hN10.1.1 rfl rfl (Nat.le_of_ble_eq_true rfl) (Nat.le_of_ble_eq_true rfl) (Nat.le_of_ble_eq_true rfl) ⟨(Nat.le_of_ble_eq_true rfl), (Nat.le_of_ble_eq_true rfl)⟩ dX4_toldOf_107 (fun r9 M9 hp => ?_)
  refine rg_top (v2 := .int (nI (zLack P i))) (by first | (rw [hp.1]; done) | (rw [hp.1]; rfl)) ?_
  refine rg_mem (M2 := Ms10) hp.2 ?_
  refine rm_stN F hN10 (pc := 110) (j := 9) (x := nI (zLack P i)) (Nat.le_of_ble_eq_true rfl) (Nat.le_of_ble_eq_true rfl) dX4_toldOf_110 (fun Ms11 hN11 => ?_)
  refine rg_dup F (pc := 111) dX4_toldOf_111 rfl ?_
  refine rg_bipush F (pc := 112) (v := nI 10) dX4_toldOf_112 (by decide) ?_
  refine rg_aload_n F (pc := 114) dX4_toldOf_114 rfl ?_
  refine rg_iload_n F (pc := 115) dX4_toldOf_115 rfl ?_
  refine rg_callVi F (pc := 116) (As := [.int (nI i)]) (rest := [.int (nI 10), .ref (a2), .ref (a2)]) (ci := 5) (r_ahead l D _ m P nW nL ad Fn t lo i ⟨hP, hN11.1, hB⟩ (by omega)) q468 vq_X4_rhymeAhead rfl hN11.1.1 rfl rfl (Nat.le_of_ble_eq_true rfl) (Nat.le_of_ble_eq_true rfl) (Nat.le_of_ble_eq_true rfl) ⟨(Nat.le_of_ble_eq_true rfl), (Nat.le_of_ble_eq_true rfl)⟩ dX4_toldOf_116 (fun r9 M9 hp => ?_)
  refine rg_top (v2 := .int (nI (zPaid P i))) (by first | (rw [hp.1]; done) | (rw [hp.1]; rfl)) ?_
  refine rg_mem (M2 := Ms11) hp.2 ?_
  refine rm_stN F hN11 (pc := 119) (j := 10) (x := nI (zPaid P i)) (Nat.le_of_ble_eq_true rfl) (Nat.le_of_ble_eq_true rfl) dX4_toldOf_119 (fun Ms12 hN12 => ?_)
  refine rg_dup F (pc := 120) dX4_toldOf_120 rfl ?_
  refine rg_bipush F (pc := 121) (v := nI 11) dX4_toldOf_121 (by decide) ?_
  refine rg_aload_n F (pc := 123) dX4_toldOf_123 rfl ?_
  refine rg_get F (pc := 124) (ci := 5) rfl inX4 hN12.1.1 18 (by decide) q442 (fun _ h9 => h9) rfl dX4_toldOf_124 ?_
  refine rg_iload_n F (pc := 127) dX4_toldOf_127 rfl ?_
  refine rm_ld F hN12.1 (pc := 128) (q := 15) (j := i) (x := nI (zTax P i)) (by decide) (show i < 10 by omega) s15 dX4_toldOf_128 ?_
  refine rm_stN F hN12 (pc := 129) (j := 11) (x := nI (zTax P i)) (Nat.le_of_ble_eq_true rfl) (Nat.le_of_ble_eq_true rfl) dX4_toldOf_129 (fun Ms13 hN13 => ?_)
  refine rg_astore_n F (pc := 130) (lv' := [some (.ref (m)), some (.int (nI i)), some (.int (nI what)), some (.ref (a2))]) dX4_toldOf_130 (Nat.le_of_ble_eq_true rfl) rfl ?_
  refine rg_aload_n F (pc := 131) dX4_toldOf_131 rfl ?_
  refine rg_iload_n F (pc := 132) dX4_toldOf_132 rfl ?_
  refine rm_ldN F hN13 (pc := 133) (j := what) (x := nI (zTold P i what)) (by omega) (Nat.le_of_ble_eq_true rfl) (by rcases (show what = 0 ∨ what = 1 ∨ what = 2 ∨ what = 3 ∨ what = 4 ∨ what = 5 ∨ what = 6 ∨ what = 7 ∨ what = 8 ∨ what = 9 ∨ what = 10 ∨ what = 11 by omega) with h | h | h | h | h | h | h | h | h | h | h | h <;> subst h <;> rfl) dX4_toldOf_133 ?_
  exact rg_iret F (pc := 134) hrt9 (by decide) (by decide) dX4_toldOf_134 ⟨rfl, hN13.1⟩
