abbrev wo (P : Poem) (w : Nat) : List Value := [.int (nI w), .int (nI (zS P w)), .int (nI (zT P w)), .int (nI (zV P w)), .int (nI (zE P w)), .int (nI (zO P w))]
def pv (g : Nat → Nat) : Nat → Option Nat
  | 0 => none
  | j + 1 => some (g j)
theorem zOLs (P : Poem) (i j : Nat) : zOL P i (j + 1) = zOL P i j - zMelt P i j + zS P (zR P i j) := rfl
theorem zOBs (P : Poem) (i j : Nat) : zOB P i (j + 1) = (zOB P i j ||| zT P (zR P i j) * 2 ^ (zOL P i j - zMelt P i j)) := rfl
theorem zOMs (P : Poem) (i j : Nat) : zOM P i (j + 1) = zOM P i j + zMelt P i j := rfl
theorem zMelt_t {P : Poem} {i j : Nat} (h : decide (zE P (zR P i j) = 0 ∧ zO P (zR P i (j + 1)) = 1) = true) : zMelt P i (j + 1) = 1 := if_pos ⟨Nat.succ_pos _, of_decide_eq_true h⟩
theorem zMelt_f {P : Poem} {i j : Nat} (h : decide (zE P (zR P i j) = 0 ∧ zO P (zR P i (j + 1)) = 1) = false) : zMelt P i (j + 1) = 0 := if_neg (fun z => of_decide_eq_false h z.2)
theorem zT_lt {P : Poem} {nW w : Nat} (hW : zWok P nW) (hw : w < nW) : zT P w < 16 := by
  obtain ⟨h1, h2, h3, -⟩ := hW.2 w hw
  exact Nat.lt_of_lt_of_le h3 (show 2 ^ zS P w ≤ 2 ^ 4 from Nat.pow_le_pow_right (by decide) h2)
theorem zOB_64 {b n : Nat} (h : b < 2 ^ n) (hn : n ≤ 64) : b < 2 ^ 64 := Nat.lt_of_lt_of_le h (Nat.pow_le_pow_right (by decide) hn)
theorem zTs_64 {t n : Nat} (h : t < 16) (hn : n ≤ 60) : t * 2 ^ n < 2 ^ 64 := by
  have h1 : 2 ^ n ≤ 2 ^ 60 := Nat.pow_le_pow_right (by decide) hn
  calc t * 2 ^ n ≤ 15 * 2 ^ 60 := Nat.mul_le_mul (by omega) h1
    _ < 2 ^ 64 := by decide
set_option maxHeartbeats 4000000 in
set_option maxRecDepth 100000 in
theorem c_join (l : Launch) (D : va_G) (M : rMem) (la : Nat) (x0 x1 x2 : Int32) (pt : Option Nat) (ro : Nat) (x5 : Int64) (x6 x7 x8 x9 x10 x11 : Int32) (x12 : Int64) (x13 x14 x15 x16 : Int32) (md : Int32) (bk : Nat) (g : Nat → Nat) (P : Poem) (nW i : Nat) (hm : M la = some (.inr (2, [.int (x0), .int (x1), .int (x2), va_rf (pt), .ref (ro), .long (x5), .int (x6), .int (x7), .int (x8), .int (x9), .int (x10), .int (x11), .long (x12), .int (x13), .int (x14), .int (x15), .int (x16)]))) (hL : isL D M ro md bk (zC P i) g) (hw : ∀ j, j < zC P i → M (g j) = some (.inr (3, wo P (zR P i j)))) (hW : zWok P nW) (hi : zLok P nW i) : CMv l D yX1_joinWords cX1_joinWords 4 4 0 0 M [.ref (la)] (fun M' => M' = mset M la (.inr (2, [.int (x0), .int (x1), .int (x2), va_rf (pt), .ref (ro), .long (lN (zb P i)), .int (nI (zo P i)), .int (nI (zOM P i (zC P i))), .int (x8), .int (x9), .int (x10), .int (x11), .long (x12), .int (x13), .int (x14), .int (x15), .int (x16)]))) := by
  refine rM (lv0 := [some (.ref (la)), none, none, none]) (by decide) rfl rfl (Nat.le_of_ble_eq_true rfl) (fun P0 E0 S0 m0 as0 bl0 mt0 c0 A F hrt9 hnm => ?_)
  refine rg_aload_n F (pc := 0) dX1_joinWords_0 rfl ?_
  refine rg_lconst F (pc := 1) (v := lN 0) dX1_joinWords_1 (by decide) ?_
  refine rg_put F (pc := 2) (ci := 2) (ty := tyX1 5) rfl inX1 tyX1 tyX1_ok nmX1 hm 5 (by decide) q109 (fun _ h9 => h9) rfl (tyX1_ok 5 (by decide)) rfl rfl (Nat.le_of_ble_eq_true rfl) dX1_joinWords_2 ?_
  refine rg_mem (M2 := (mset M la (.inr (2, [.int (x0), .int (x1), .int (x2), va_rf (pt), .ref (ro), .long (lN 0), .int (x6), .int (x7), .int (x8), .int (x9), .int (x10), .int (x11), .long (x12), .int (x13), .int (x14), .int (x15), .int (x16)])))) rfl ?_
  refine rg_aload_n F (pc := 5) dX1_joinWords_5 rfl ?_
  refine rg_iconst F (pc := 6) (v := nI 0) dX1_joinWords_6 (by decide) ?_
  refine rg_put F (pc := 7) (ci := 2) (ty := tyX1 6) rfl inX1 tyX1 tyX1_ok nmX1 mset_eq 6 (by decide) q110 (fun _ h9 => h9) rfl (tyX1_ok 6 (by decide)) rfl rfl (Nat.le_of_ble_eq_true rfl) dX1_joinWords_7 ?_
  refine rg_mem (M2 := (mset (mset M la (.inr (2, [.int (x0), .int (x1), .int (x2), va_rf (pt), .ref (ro), .long (lN 0), .int (x6), .int (x7), .int (x8), .int (x9), .int (x10), .int (x11), .long (x12), .int (x13), .int (x14), .int (x15), .int (x16)]))) la (.inr (2, [.int (x0), .int (x1), .int (x2), va_rf (pt), .ref (ro), .long (lN 0), .int (nI 0), .int (x7), .int (x8), .int (x9), .int (x10), .int (x11), .long (x12), .int (x13), .int (x14), .int (x15), .int (x16)])))) rfl ?_
  refine rg_mem (M2 := (mset M la (.inr (2, [.int (x0), .int (x1), .int (x2), va_rf (pt), .ref (ro), .long (lN 0), .int (nI 0), .int (x7), .int (x8), .int (x9), .int (x10), .int (x11), .long (x12), .int (x13), .int (x14), .int (x15), .int (x16)])))) mset_mset ?_
  refine rg_aload_n F (pc := 10) dX1_joinWords_10 rfl ?_
  refine rg_iconst F (pc := 11) (v := nI 0) dX1_joinWords_11 (by decide) ?_
  refine rg_put F (pc := 12) (ci := 2) (ty := tyX1 7) rfl inX1 tyX1 tyX1_ok nmX1 mset_eq 7 (by decide) q111 (fun _ h9 => h9) rfl (tyX1_ok 7 (by decide)) rfl rfl (Nat.le_of_ble_eq_true rfl) dX1_joinWords_12 ?_
  refine rg_mem (M2 := (mset (mset M la (.inr (2, [.int (x0), .int (x1), .int (x2), va_rf (pt), .ref (ro), .long (lN 0), .int (nI 0), .int (x7), .int (x8), .int (x9), .int (x10), .int (x11), .long (x12), .int (x13), .int (x14), .int (x15), .int (x16)]))) la (.inr (2, [.int (x0), .int (x1), .int (x2), va_rf (pt), .ref (ro), .long (lN 0), .int (nI 0), .int (nI 0), .int (x8), .int (x9), .int (x10), .int (x11), .long (x12), .int (x13), .int (x14), .int (x15), .int (x16)])))) rfl ?_
  refine rg_mem (M2 := (mset M la (.inr (2, [.int (x0), .int (x1), .int (x2), va_rf (pt), .ref (ro), .long (lN 0), .int (nI 0), .int (nI 0), .int (x8), .int (x9), .int (x10), .int (x11), .long (x12), .int (x13), .int (x14), .int (x15), .int (x16)])))) mset_mset ?_
  refine rg_null F (pc := 15) dX1_joinWords_15 ?_
  refine rg_astore_nN F (pc := 16) (lv' := [some (.ref (la)), some (.null), none, none]) dX1_joinWords_16 (Nat.le_of_ble_eq_true rfl) rfl ?_
  refine rg_iconst F (pc := 17) (v := nI 0) dX1_joinWords_17 (by decide) ?_
  refine rg_istore_n F (pc := 18) (lv' := [some (.ref (la)), some (.null), some (.int (nI 0)), none]) dX1_joinWords_18 (Nat.le_of_ble_eq_true rfl) rfl ?_
  refine rg_sub (lv' := [some (.ref (la)), some (va_rf (pv g 0)), some (.int (nI 0)), none]) ⟨rfl, rfl, rfl, trivial⟩ ?_
  suffices L0 : ∀ (d9 : Nat) (j : Nat), zC P i - j < d9 → j ≤ zC P i → rG P0 l E0 (rR 4 0 0) S0 m0 as0 bl0 mt0 c0 D A 4 (MQ bl0 (va_Qv (fun M' => M' = mset M la (.inr (2, [.int (x0), .int (x1), .int (x2), va_rf (pt), .ref (ro), .long (lN (zb P i)), .int (nI (zo P i)), .int (nI (zOM P i (zC P i))), .int (x8), .int (x9), .int (x10), .int (x11), .long (x12), .int (x13), .int (x14), .int (x15), .int (x16)]))) (cB D A) A) as0 S0 0 0 A) (mset M la (.inr (2, [.int (x0), .int (x1), .int (x2), va_rf (pt), .ref (ro), .long (lN (zOB P i j)), .int (nI (zOL P i j)), .int (nI (zOM P i j)), .int (x8), .int (x9), .int (x10), .int (x11), .long (x12), .int (x13), .int (x14), .int (x15), .int (x16)]))) 0 0 [some (.ref (la)), some (va_rf (pv g j)), some (.int (nI j)), none] 19 [] from L0 _ 0 (Nat.lt_succ_self _) (Nat.zero_le _)
  intro d9
  induction d9 with
  | zero => intro j hd9; exact absurd hd9 (Nat.not_lt_zero _)
  | succ d9 ih =>
    intro j hd9 hj
    have hc8 := hi.2.2.2.2.1
    obtain ⟨b1, b2, b3, b4⟩ := zOL_b hW hi.2.2.2.2.2 j hj
    have b5 := zOB_64 b3 (by omega)
    have b8 := zMelt_le P i j
    cases j with
    | zero =>
      refine rg_eq (lv2 := [some (.ref (la)), some (.null), some (.int (nI 0)), none]) (st2 := []) (pc2 := 19) rfl rfl rfl ?_
      refine rg_iload_n F (pc := 19) dX1_joinWords_19 rfl ?_
      refine rg_aload_n F (pc := 20) dX1_joinWords_20 rfl ?_
      refine rg_get F (pc := 21) (ci := 2) rfl inX1 mset_eq 4 (by decide) q20 (fun _ h9 => h9) rfl dX1_joinWords_21 ?_
      refine rg_callVi F (pc := 24) (As := []) (rest := [.int (nI 0)]) (ci := 0) (c_size l D _ ro md bk (zC P i) (mset_keep hL.1 (mne_ci hL.1 hm (by decide)))) q40 vq_Jx4a65c_size_8abf5 rfl (mset_keep hL.1 (mne_ci hL.1 hm (by decide))) rfl rfl (Nat.le_of_ble_eq_true rfl) (Nat.le_of_ble_eq_true rfl) (Nat.le_of_ble_eq_true rfl) ⟨(Nat.le_of_ble_eq_true rfl), (Nat.le_of_ble_eq_true rfl)⟩ dX1_joinWords_24 (fun r9 M9 hp => ?_)
      refine rg_top (v2 := .int (nI (zC P i))) (by first | (rw [hp.1]; done) | (rw [hp.1]; rfl)) ?_
      refine rg_mem (M2 := (mset M la (.inr (2, [.int (x0), .int (x1), .int (x2), va_rf (pt), .ref (ro), .long (lN (zOB P i 0)), .int (nI (zOL P i 0)), .int (nI (zOM P i 0)), .int (x8), .int (x9), .int (x10), .int (x11), .long (x12), .int (x13), .int (x14), .int (x15), .int (x16)])))) hp.2 ?_
      refine rg_ncmp_ge F (pc := 27) (tgt := 114) dX1_joinWords_27 (by decide) (by omega) (by omega) (fun c27 => ?_) (fun c27 => ?_)
      · have e9 : 0 = zC P i := by omega
        exact rg_vret F (pc := 114) hrt9 (by decide) (by decide) dX1_joinWords_114 (by unfold zb zo; rw [← e9])
      · refine rg_aload_n F (pc := 30) dX1_joinWords_30 rfl ?_
        refine rg_get F (pc := 31) (ci := 2) rfl inX1 mset_eq 4 (by decide) q20 (fun _ h9 => h9) rfl dX1_joinWords_31 ?_
        refine rg_iload_n F (pc := 34) dX1_joinWords_34 rfl ?_
        refine rg_callVq F (pc := 35) (As := [.int (nI 0)]) (rest := []) (ci := 0) (c_lget l D _ ro md bk (zC P i) g 0 (isL_obj hL hm (by decide)) (by omega)) q44 vq_Jx4a65c_get_915e3 rfl (mset_keep hL.1 (mne_ci hL.1 hm (by decide))) rfl rfl (Nat.le_of_ble_eq_true rfl) (Nat.le_of_ble_eq_true rfl) (Nat.le_of_ble_eq_true rfl) ⟨(Nat.le_of_ble_eq_true rfl), (Nat.le_of_ble_eq_true rfl)⟩ dX1_joinWords_35 (fun r9 M9 hp => ?_)
        refine rg_top (v2 := .ref (g 0)) (by rw [hp.1]; rfl) ?_
        refine rg_mem (M2 := (mset M la (.inr (2, [.int (x0), .int (x1), .int (x2), va_rf (pt), .ref (ro), .long (lN (zOB P i 0)), .int (nI (zOL P i 0)), .int (nI (zOM P i 0)), .int (x8), .int (x9), .int (x10), .int (x11), .long (x12), .int (x13), .int (x14), .int (x15), .int (x16)])))) hp.2 ?_
        refine rg_cast F (pc := 38) (ci := 3) rfl (mset_keep (hw 0 (by omega)) (mne_ci (hw 0 (by omega)) hm (by decide))) q39 dX1_joinWords_38 ?_
        refine rg_astore_n F (pc := 41) (lv' := [some (.ref (la)), some (.null), some (.int (nI 0)), some (.ref (g 0))]) dX1_joinWords_41 (Nat.le_of_ble_eq_true rfl) rfl ?_
        refine rg_aload_nN F (pc := 42) dX1_joinWords_42 rfl ?_
        refine rg_ifnullN F (pc := 43) (tgt := 74) dX1_joinWords_43 (by decide) ?_
        have hz : zMelt P i 0 = 0 := zMelt_0 P i
        have b6 := zT_lt hW (hi.2.2.2.2.2 (0) (by omega))
        have b7 := hW.2 _ (hi.2.2.2.2.2 (0) (by omega))
        refine rg_mem (M2 := (mset M la (.inr (2, [.int (x0), .int (x1), .int (x2), va_rf (pt), .ref (ro), .long (lN (zOB P i 0)), .int (nI (zOL P i 0)), .int (nI (zOM P i (0 + 1))), .int (x8), .int (x9), .int (x10), .int (x11), .long (x12), .int (x13), .int (x14), .int (x15), .int (x16)])))) (by rw [zOMs P i 0, hz]; rfl) ?_
        refine rg_aload_n F (pc := 74) dX1_joinWords_74 rfl ?_
        refine rg_dup F (pc := 75) dX1_joinWords_75 rfl ?_
        refine rg_get F (pc := 76) (ci := 2) rfl inX1 mset_eq 5 (by decide) q109 (fun _ h9 => h9) rfl dX1_joinWords_76 ?_
        refine rg_aload_n F (pc := 79) dX1_joinWords_79 rfl ?_
        refine rg_get F (pc := 80) (ci := 3) rfl inX2 (mset_keep (hw 0 (by omega)) (mne_ci (hw 0 (by omega)) hm (by decide))) 2 (by decide) q112 (fun _ h9 => h9) rfl dX1_joinWords_80 ?_
        refine rg_i2l F (pc := 83) (v := lN (zT P (zR P i 0))) dX1_joinWords_83 (nI_l (by omega)) ?_
        refine rg_aload_n F (pc := 84) dX1_joinWords_84 rfl ?_
        refine rg_get F (pc := 85) (ci := 2) rfl inX1 mset_eq 6 (by decide) q110 (fun _ h9 => h9) rfl dX1_joinWords_85 ?_
        refine rg_lshl F (pc := 88) (v := lN ((zT P (zR P i 0)) * 2 ^ (zOL P i 0))) dX1_joinWords_88 (wb_shl _ (by omega)) ?_
        refine rg_lor F (pc := 89) (v := lN (zOB P i (0 + 1))) dX1_joinWords_89 ((wb_or b5 (zTs_64 b6 (by omega))).trans (by rw [zOBs P i 0, hz]; rfl)) ?_
        refine rg_put F (pc := 90) (ci := 2) (ty := tyX1 5) rfl inX1 tyX1 tyX1_ok nmX1 mset_eq 5 (by decide) q109 (fun _ h9 => h9) rfl (tyX1_ok 5 (by decide)) rfl rfl (Nat.le_of_ble_eq_true rfl) dX1_joinWords_90 ?_
        refine rg_mem (M2 := (mset (mset M la (.inr (2, [.int (x0), .int (x1), .int (x2), va_rf (pt), .ref (ro), .long (lN (zOB P i 0)), .int (nI (zOL P i 0)), .int (nI (zOM P i (0 + 1))), .int (x8), .int (x9), .int (x10), .int (x11), .long (x12), .int (x13), .int (x14), .int (x15), .int (x16)]))) la (.inr (2, [.int (x0), .int (x1), .int (x2), va_rf (pt), .ref (ro), .long (lN (zOB P i (0 + 1))), .int (nI (zOL P i 0)), .int (nI (zOM P i (0 + 1))), .int (x8), .int (x9), .int (x10), .int (x11), .long (x12), .int (x13), .int (x14), .int (x15), .int (x16)])))) rfl ?_
        refine rg_mem (M2 := (mset M la (.inr (2, [.int (x0), .int (x1), .int (x2), va_rf (pt), .ref (ro), .long (lN (zOB P i (0 + 1))), .int (nI (zOL P i 0)), .int (nI (zOM P i (0 + 1))), .int (x8), .int (x9), .int (x10), .int (x11), .long (x12), .int (x13), .int (x14), .int (x15), .int (x16)])))) mset_mset ?_
        refine rg_aload_n F (pc := 93) dX1_joinWords_93 rfl ?_
        refine rg_dup F (pc := 94) dX1_joinWords_94 rfl ?_
        refine rg_get F (pc := 95) (ci := 2) rfl inX1 mset_eq 6 (by decide) q110 (fun _ h9 => h9) rfl dX1_joinWords_95 ?_
        refine rg_aload_n F (pc := 98) dX1_joinWords_98 rfl ?_
        refine rg_get F (pc := 99) (ci := 3) rfl inX2 (mset_keep (hw 0 (by omega)) (mne_ci (hw 0 (by omega)) hm (by decide))) 1 (by decide) q113 (fun _ h9 => h9) rfl dX1_joinWords_99 ?_
        refine rg_iadd F (pc := 102) (v := nI (zOL P i (0 + 1))) dX1_joinWords_102 ((nI_add _ _).trans (by rw [zOLs P i 0, hz]; rfl)) ?_
        refine rg_put F (pc := 103) (ci := 2) (ty := tyX1 6) rfl inX1 tyX1 tyX1_ok nmX1 mset_eq 6 (by decide) q110 (fun _ h9 => h9) rfl (tyX1_ok 6 (by decide)) rfl rfl (Nat.le_of_ble_eq_true rfl) dX1_joinWords_103 ?_
        refine rg_mem (M2 := (mset (mset M la (.inr (2, [.int (x0), .int (x1), .int (x2), va_rf (pt), .ref (ro), .long (lN (zOB P i (0 + 1))), .int (nI (zOL P i 0)), .int (nI (zOM P i (0 + 1))), .int (x8), .int (x9), .int (x10), .int (x11), .long (x12), .int (x13), .int (x14), .int (x15), .int (x16)]))) la (.inr (2, [.int (x0), .int (x1), .int (x2), va_rf (pt), .ref (ro), .long (lN (zOB P i (0 + 1))), .int (nI (zOL P i (0 + 1))), .int (nI (zOM P i (0 + 1))), .int (x8), .int (x9), .int (x10), .int (x11), .long (x12), .int (x13), .int (x14), .int (x15), .int (x16)])))) rfl ?_
        refine rg_mem (M2 := (mset M la (.inr (2, [.int (x0), .int (x1), .int (x2), va_rf (pt), .ref (ro), .long (lN (zOB P i (0 + 1))), .int (nI (zOL P i (0 + 1))), .int (nI (zOM P i (0 + 1))), .int (x8), .int (x9), .int (x10), .int (x11), .long (x12), .int (x13), .int (x14), .int (x15), .int (x16)])))) mset_mset ?_
        refine rg_aload_n F (pc := 106) dX1_joinWords_106 rfl ?_
        refine rg_astore_n F (pc := 107) (lv' := [some (.ref (la)), some (.ref (g 0)), some (.int (nI 0)), some (.ref (g 0))]) dX1_joinWords_107 (Nat.le_of_ble_eq_true rfl) rfl ?_
        refine rg_iinc F (pc := 108) (v := nI (0 + 1)) (lv' := [some (.ref (la)), some (.ref (g 0)), some (.int (nI (0 + 1))), some (.ref (g 0))]) dX1_joinWords_108 rfl (nI_add _ 1) (Nat.le_of_ble_eq_true rfl) rfl ?_
        refine rg_goto F (pc := 111) (tgt := 19) dX1_joinWords_111 (by decide) ?_
        refine rg_sub (lv' := [some (.ref (la)), some (va_rf (pv g (0 + 1))), some (.int (nI (0 + 1))), none]) ⟨rfl, rfl, rfl, trivial⟩ ?_
        exact ih (0 + 1) (by omega) (by omega)
    | succ j =>
      refine rg_eq (lv2 := [some (.ref (la)), some (.ref (g j)), some (.int (nI (j + 1))), none]) (st2 := []) (pc2 := 19) rfl rfl rfl ?_
      refine rg_iload_n F (pc := 19) dX1_joinWords_19 rfl ?_
      refine rg_aload_n F (pc := 20) dX1_joinWords_20 rfl ?_
      refine rg_get F (pc := 21) (ci := 2) rfl inX1 mset_eq 4 (by decide) q20 (fun _ h9 => h9) rfl dX1_joinWords_21 ?_
      refine rg_callVi F (pc := 24) (As := []) (rest := [.int (nI (j + 1))]) (ci := 0) (c_size l D _ ro md bk (zC P i) (mset_keep hL.1 (mne_ci hL.1 hm (by decide)))) q40 vq_Jx4a65c_size_8abf5 rfl (mset_keep hL.1 (mne_ci hL.1 hm (by decide))) rfl rfl (Nat.le_of_ble_eq_true rfl) (Nat.le_of_ble_eq_true rfl) (Nat.le_of_ble_eq_true rfl) ⟨(Nat.le_of_ble_eq_true rfl), (Nat.le_of_ble_eq_true rfl)⟩ dX1_joinWords_24 (fun r9 M9 hp => ?_)
      refine rg_top (v2 := .int (nI (zC P i))) (by first | (rw [hp.1]; done) | (rw [hp.1]; rfl)) ?_
      refine rg_mem (M2 := (mset M la (.inr (2, [.int (x0), .int (x1), .int (x2), va_rf (pt), .ref (ro), .long (lN (zOB P i (j + 1))), .int (nI (zOL P i (j + 1))), .int (nI (zOM P i (j + 1))), .int (x8), .int (x9), .int (x10), .int (x11), .long (x12), .int (x13), .int (x14), .int (x15), .int (x16)])))) hp.2 ?_
      refine rg_ncmp_ge F (pc := 27) (tgt := 114) dX1_joinWords_27 (by decide) (by omega) (by omega) (fun c27 => ?_) (fun c27 => ?_)
      · have e9 : j + 1 = zC P i := by omega
        exact rg_vret F (pc := 114) hrt9 (by decide) (by decide) dX1_joinWords_114 (by unfold zb zo; rw [← e9])
      · refine rg_aload_n F (pc := 30) dX1_joinWords_30 rfl ?_
        refine rg_get F (pc := 31) (ci := 2) rfl inX1 mset_eq 4 (by decide) q20 (fun _ h9 => h9) rfl dX1_joinWords_31 ?_
        refine rg_iload_n F (pc := 34) dX1_joinWords_34 rfl ?_
        refine rg_callVq F (pc := 35) (As := [.int (nI (j + 1))]) (rest := []) (ci := 0) (c_lget l D _ ro md bk (zC P i) g ((j + 1)) (isL_obj hL hm (by decide)) (by omega)) q44 vq_Jx4a65c_get_915e3 rfl (mset_keep hL.1 (mne_ci hL.1 hm (by decide))) rfl rfl (Nat.le_of_ble_eq_true rfl) (Nat.le_of_ble_eq_true rfl) (Nat.le_of_ble_eq_true rfl) ⟨(Nat.le_of_ble_eq_true rfl), (Nat.le_of_ble_eq_true rfl)⟩ dX1_joinWords_35 (fun r9 M9 hp => ?_)
        refine rg_top (v2 := .ref (g ((j + 1)))) (by rw [hp.1]; rfl) ?_
        refine rg_mem (M2 := (mset M la (.inr (2, [.int (x0), .int (x1), .int (x2), va_rf (pt), .ref (ro), .long (lN (zOB P i (j + 1))), .int (nI (zOL P i (j + 1))), .int (nI (zOM P i (j + 1))), .int (x8), .int (x9), .int (x10), .int (x11), .long (x12), .int (x13), .int (x14), .int (x15), .int (x16)])))) hp.2 ?_
        refine rg_cast F (pc := 38) (ci := 3) rfl (mset_keep (hw ((j + 1)) (by omega)) (mne_ci (hw ((j + 1)) (by omega)) hm (by decide))) q39 dX1_joinWords_38 ?_
        refine rg_astore_n F (pc := 41) (lv' := [some (.ref (la)), some (.ref (g j)), some (.int (nI (j + 1))), some (.ref (g ((j + 1))))]) dX1_joinWords_41 (Nat.le_of_ble_eq_true rfl) rfl ?_
        refine rg_aload_n F (pc := 42) dX1_joinWords_42 rfl ?_
        refine rg_ifnull F (pc := 43) dX1_joinWords_43 ?_
        refine rg_aload_n F (pc := 46) dX1_joinWords_46 rfl ?_
        refine rg_aload_n F (pc := 47) dX1_joinWords_47 rfl ?_
        refine rg_callVi F (pc := 48) (As := [.ref (g ((j + 1)))]) (rest := []) (ci := 3) (c_meltsInto l D _ (g j) (zR P i j) (zS P (zR P i j)) (zT P (zR P i j)) (zV P (zR P i j)) (zE P (zR P i j)) (zO P (zR P i j)) (g ((j + 1))) (zR P i ((j + 1))) (zS P (zR P i ((j + 1)))) (zT P (zR P i ((j + 1)))) (zV P (zR P i ((j + 1)))) (zE P (zR P i ((j + 1)))) (zO P (zR P i ((j + 1)))) (mset_keep (hw j (by omega)) (mne_ci (hw j (by omega)) hm (by decide))) (mset_keep (hw ((j + 1)) (by omega)) (mne_ci (hw ((j + 1)) (by omega)) hm (by decide))) (by have := hW.2 _ (hi.2.2.2.2.2 j (by omega)); omega) (by have := hW.2 _ (hi.2.2.2.2.2 (j + 1) (by omega)); omega)) q114 vq_X2_meltsInto rfl (mset_keep (hw j (by omega)) (mne_ci (hw j (by omega)) hm (by decide))) rfl rfl (Nat.le_of_ble_eq_true rfl) (Nat.le_of_ble_eq_true rfl) (Nat.le_of_ble_eq_true rfl) ⟨(Nat.le_of_ble_eq_true rfl), (Nat.le_of_ble_eq_true rfl)⟩ dX1_joinWords_48 (fun r9 M9 hp => ?_)
        refine rg_top (v2 := .int (nI ((decide (zE P (zR P i j) = 0 ∧ zO P (zR P i ((j + 1))) = 1)).toNat))) (by first | (rw [hp.1]; done) | (rw [hp.1]; rfl)) ?_
        refine rg_mem (M2 := (mset M la (.inr (2, [.int (x0), .int (x1), .int (x2), va_rf (pt), .ref (ro), .long (lN (zOB P i (j + 1))), .int (nI (zOL P i (j + 1))), .int (nI (zOM P i (j + 1))), .int (x8), .int (x9), .int (x10), .int (x11), .long (x12), .int (x13), .int (x14), .int (x15), .int (x16)])))) hp.2 ?_
        refine rg_bif_eq F (pc := 51) (tgt := 74) dX1_joinWords_51 (by decide) (fun c51 => ?_) (fun c51 => ?_)
        · have hz : zMelt P i (j + 1) = 0 := zMelt_f c51
          have b6 := zT_lt hW (hi.2.2.2.2.2 (j + 1) (by omega))
          have b7 := hW.2 _ (hi.2.2.2.2.2 (j + 1) (by omega))
          refine rg_mem (M2 := (mset M la (.inr (2, [.int (x0), .int (x1), .int (x2), va_rf (pt), .ref (ro), .long (lN (zOB P i (j + 1))), .int (nI (zOL P i (j + 1))), .int (nI (zOM P i (j + 1 + 1))), .int (x8), .int (x9), .int (x10), .int (x11), .long (x12), .int (x13), .int (x14), .int (x15), .int (x16)])))) (by rw [zOMs P i (j + 1), hz]; rfl) ?_
          refine rg_aload_n F (pc := 74) dX1_joinWords_74 rfl ?_
          refine rg_dup F (pc := 75) dX1_joinWords_75 rfl ?_
          refine rg_get F (pc := 76) (ci := 2) rfl inX1 mset_eq 5 (by decide) q109 (fun _ h9 => h9) rfl dX1_joinWords_76 ?_
          refine rg_aload_n F (pc := 79) dX1_joinWords_79 rfl ?_
          refine rg_get F (pc := 80) (ci := 3) rfl inX2 (mset_keep (hw ((j + 1)) (by omega)) (mne_ci (hw ((j + 1)) (by omega)) hm (by decide))) 2 (by decide) q112 (fun _ h9 => h9) rfl dX1_joinWords_80 ?_
          refine rg_i2l F (pc := 83) (v := lN (zT P (zR P i (j + 1)))) dX1_joinWords_83 (nI_l (by omega)) ?_
          refine rg_aload_n F (pc := 84) dX1_joinWords_84 rfl ?_
          refine rg_get F (pc := 85) (ci := 2) rfl inX1 mset_eq 6 (by decide) q110 (fun _ h9 => h9) rfl dX1_joinWords_85 ?_
          refine rg_lshl F (pc := 88) (v := lN ((zT P (zR P i (j + 1))) * 2 ^ (zOL P i (j + 1)))) dX1_joinWords_88 (wb_shl _ (by omega)) ?_
          refine rg_lor F (pc := 89) (v := lN (zOB P i (j + 1 + 1))) dX1_joinWords_89 ((wb_or b5 (zTs_64 b6 (by omega))).trans (by rw [zOBs P i (j + 1), hz]; rfl)) ?_
          refine rg_put F (pc := 90) (ci := 2) (ty := tyX1 5) rfl inX1 tyX1 tyX1_ok nmX1 mset_eq 5 (by decide) q109 (fun _ h9 => h9) rfl (tyX1_ok 5 (by decide)) rfl rfl (Nat.le_of_ble_eq_true rfl) dX1_joinWords_90 ?_
          refine rg_mem (M2 := (mset (mset M la (.inr (2, [.int (x0), .int (x1), .int (x2), va_rf (pt), .ref (ro), .long (lN (zOB P i (j + 1))), .int (nI (zOL P i (j + 1))), .int (nI (zOM P i (j + 1 + 1))), .int (x8), .int (x9), .int (x10), .int (x11), .long (x12), .int (x13), .int (x14), .int (x15), .int (x16)]))) la (.inr (2, [.int (x0), .int (x1), .int (x2), va_rf (pt), .ref (ro), .long (lN (zOB P i (j + 1 + 1))), .int (nI (zOL P i (j + 1))), .int (nI (zOM P i (j + 1 + 1))), .int (x8), .int (x9), .int (x10), .int (x11), .long (x12), .int (x13), .int (x14), .int (x15), .int (x16)])))) rfl ?_
          refine rg_mem (M2 := (mset M la (.inr (2, [.int (x0), .int (x1), .int (x2), va_rf (pt), .ref (ro), .long (lN (zOB P i (j + 1 + 1))), .int (nI (zOL P i (j + 1))), .int (nI (zOM P i (j + 1 + 1))), .int (x8), .int (x9), .int (x10), .int (x11), .long (x12), .int (x13), .int (x14), .int (x15), .int (x16)])))) mset_mset ?_
          refine rg_aload_n F (pc := 93) dX1_joinWords_93 rfl ?_
          refine rg_dup F (pc := 94) dX1_joinWords_94 rfl ?_
          refine rg_get F (pc := 95) (ci := 2) rfl inX1 mset_eq 6 (by decide) q110 (fun _ h9 => h9) rfl dX1_joinWords_95 ?_
          refine rg_aload_n F (pc := 98) dX1_joinWords_98 rfl ?_
          refine rg_get F (pc := 99) (ci := 3) rfl inX2 (mset_keep (hw ((j + 1)) (by omega)) (mne_ci (hw ((j + 1)) (by omega)) hm (by decide))) 1 (by decide) q113 (fun _ h9 => h9) rfl dX1_joinWords_99 ?_
          refine rg_iadd F (pc := 102) (v := nI (zOL P i (j + 1 + 1))) dX1_joinWords_102 ((nI_add _ _).trans (by rw [zOLs P i (j + 1), hz]; rfl)) ?_
          refine rg_put F (pc := 103) (ci := 2) (ty := tyX1 6) rfl inX1 tyX1 tyX1_ok nmX1 mset_eq 6 (by decide) q110 (fun _ h9 => h9) rfl (tyX1_ok 6 (by decide)) rfl rfl (Nat.le_of_ble_eq_true rfl) dX1_joinWords_103 ?_
          refine rg_mem (M2 := (mset (mset M la (.inr (2, [.int (x0), .int (x1), .int (x2), va_rf (pt), .ref (ro), .long (lN (zOB P i (j + 1 + 1))), .int (nI (zOL P i (j + 1))), .int (nI (zOM P i (j + 1 + 1))), .int (x8), .int (x9), .int (x10), .int (x11), .long (x12), .int (x13), .int (x14), .int (x15), .int (x16)]))) la (.inr (2, [.int (x0), .int (x1), .int (x2), va_rf (pt), .ref (ro), .long (lN (zOB P i (j + 1 + 1))), .int (nI (zOL P i (j + 1 + 1))), .int (nI (zOM P i (j + 1 + 1))), .int (x8), .int (x9), .int (x10), .int (x11), .long (x12), .int (x13), .int (x14), .int (x15), .int (x16)])))) rfl ?_
          refine rg_mem (M2 := (mset M la (.inr (2, [.int (x0), .int (x1), .int (x2), va_rf (pt), .ref (ro), .long (lN (zOB P i (j + 1 + 1))), .int (nI (zOL P i (j + 1 + 1))), .int (nI (zOM P i (j + 1 + 1))), .int (x8), .int (x9), .int (x10), .int (x11), .long (x12), .int (x13), .int (x14), .int (x15), .int (x16)])))) mset_mset ?_
          refine rg_aload_n F (pc := 106) dX1_joinWords_106 rfl ?_
          refine rg_astore_n F (pc := 107) (lv' := [some (.ref (la)), some (.ref (g ((j + 1)))), some (.int (nI (j + 1))), some (.ref (g ((j + 1))))]) dX1_joinWords_107 (Nat.le_of_ble_eq_true rfl) rfl ?_
          refine rg_iinc F (pc := 108) (v := nI ((j + 1) + 1)) (lv' := [some (.ref (la)), some (.ref (g ((j + 1)))), some (.int (nI ((j + 1) + 1))), some (.ref (g ((j + 1))))]) dX1_joinWords_108 rfl (nI_add _ 1) (Nat.le_of_ble_eq_true rfl) rfl ?_
          refine rg_goto F (pc := 111) (tgt := 19) dX1_joinWords_111 (by decide) ?_
          refine rg_sub (lv' := [some (.ref (la)), some (va_rf (pv g (j + 1 + 1))), some (.int (nI (j + 1 + 1))), none]) ⟨rfl, rfl, rfl, trivial⟩ ?_
          exact ih (j + 1 + 1) (by omega) (by omega)
        · refine rg_aload_n F (pc := 54) dX1_joinWords_54 rfl ?_
          refine rg_dup F (pc := 55) dX1_joinWords_55 rfl ?_
          refine rg_get F (pc := 56) (ci := 2) rfl inX1 mset_eq 7 (by decide) q111 (fun _ h9 => h9) rfl dX1_joinWords_56 ?_
          refine rg_iconst F (pc := 59) (v := nI 1) dX1_joinWords_59 (by decide) ?_
          refine rg_iadd F (pc := 60) (v := nI (zOM P i (j + 1 + 1))) dX1_joinWords_60 ((nI_add _ _).trans (by rw [zOMs P i (j + 1), zMelt_t c51])) ?_
          refine rg_put F (pc := 61) (ci := 2) (ty := tyX1 7) rfl inX1 tyX1 tyX1_ok nmX1 mset_eq 7 (by decide) q111 (fun _ h9 => h9) rfl (tyX1_ok 7 (by decide)) rfl rfl (Nat.le_of_ble_eq_true rfl) dX1_joinWords_61 ?_
          refine rg_mem (M2 := (mset (mset M la (.inr (2, [.int (x0), .int (x1), .int (x2), va_rf (pt), .ref (ro), .long (lN (zOB P i (j + 1))), .int (nI (zOL P i (j + 1))), .int (nI (zOM P i (j + 1))), .int (x8), .int (x9), .int (x10), .int (x11), .long (x12), .int (x13), .int (x14), .int (x15), .int (x16)]))) la (.inr (2, [.int (x0), .int (x1), .int (x2), va_rf (pt), .ref (ro), .long (lN (zOB P i (j + 1))), .int (nI (zOL P i (j + 1))), .int (nI (zOM P i (j + 1 + 1))), .int (x8), .int (x9), .int (x10), .int (x11), .long (x12), .int (x13), .int (x14), .int (x15), .int (x16)])))) rfl ?_
          refine rg_mem (M2 := (mset M la (.inr (2, [.int (x0), .int (x1), .int (x2), va_rf (pt), .ref (ro), .long (lN (zOB P i (j + 1))), .int (nI (zOL P i (j + 1))), .int (nI (zOM P i (j + 1 + 1))), .int (x8), .int (x9), .int (x10), .int (x11), .long (x12), .int (x13), .int (x14), .int (x15), .int (x16)])))) mset_mset ?_
          refine rg_aload_n F (pc := 64) dX1_joinWords_64 rfl ?_
          refine rg_dup F (pc := 65) dX1_joinWords_65 rfl ?_
          refine rg_get F (pc := 66) (ci := 2) rfl inX1 mset_eq 6 (by decide) q110 (fun _ h9 => h9) rfl dX1_joinWords_66 ?_
          refine rg_iconst F (pc := 69) (v := nI 1) dX1_joinWords_69 (by decide) ?_
          refine rg_isub F (pc := 70) (v := nI ((zOL P i (j + 1)) - 1)) dX1_joinWords_70 (pk_sub (by omega)) ?_
          refine rg_put F (pc := 71) (ci := 2) (ty := tyX1 6) rfl inX1 tyX1 tyX1_ok nmX1 mset_eq 6 (by decide) q110 (fun _ h9 => h9) rfl (tyX1_ok 6 (by decide)) rfl rfl (Nat.le_of_ble_eq_true rfl) dX1_joinWords_71 ?_
          refine rg_mem (M2 := (mset (mset M la (.inr (2, [.int (x0), .int (x1), .int (x2), va_rf (pt), .ref (ro), .long (lN (zOB P i (j + 1))), .int (nI (zOL P i (j + 1))), .int (nI (zOM P i (j + 1 + 1))), .int (x8), .int (x9), .int (x10), .int (x11), .long (x12), .int (x13), .int (x14), .int (x15), .int (x16)]))) la (.inr (2, [.int (x0), .int (x1), .int (x2), va_rf (pt), .ref (ro), .long (lN (zOB P i (j + 1))), .int (nI ((zOL P i (j + 1)) - 1)), .int (nI (zOM P i (j + 1 + 1))), .int (x8), .int (x9), .int (x10), .int (x11), .long (x12), .int (x13), .int (x14), .int (x15), .int (x16)])))) rfl ?_
          refine rg_mem (M2 := (mset M la (.inr (2, [.int (x0), .int (x1), .int (x2), va_rf (pt), .ref (ro), .long (lN (zOB P i (j + 1))), .int (nI ((zOL P i (j + 1)) - 1)), .int (nI (zOM P i (j + 1 + 1))), .int (x8), .int (x9), .int (x10), .int (x11), .long (x12), .int (x13), .int (x14), .int (x15), .int (x16)])))) mset_mset ?_
          have hz : zMelt P i (j + 1) = 1 := zMelt_t c51
          have b6 := zT_lt hW (hi.2.2.2.2.2 (j + 1) (by omega))
          have b7 := hW.2 _ (hi.2.2.2.2.2 (j + 1) (by omega))
          refine rg_aload_n F (pc := 74) dX1_joinWords_74 rfl ?_
          refine rg_dup F (pc := 75) dX1_joinWords_75 rfl ?_
          refine rg_get F (pc := 76) (ci := 2) rfl inX1 mset_eq 5 (by decide) q109 (fun _ h9 => h9) rfl dX1_joinWords_76 ?_
          refine rg_aload_n F (pc := 79) dX1_joinWords_79 rfl ?_
          refine rg_get F (pc := 80) (ci := 3) rfl inX2 (mset_keep (hw ((j + 1)) (by omega)) (mne_ci (hw ((j + 1)) (by omega)) hm (by decide))) 2 (by decide) q112 (fun _ h9 => h9) rfl dX1_joinWords_80 ?_
          refine rg_i2l F (pc := 83) (v := lN (zT P (zR P i (j + 1)))) dX1_joinWords_83 (nI_l (by omega)) ?_
          refine rg_aload_n F (pc := 84) dX1_joinWords_84 rfl ?_
          refine rg_get F (pc := 85) (ci := 2) rfl inX1 mset_eq 6 (by decide) q110 (fun _ h9 => h9) rfl dX1_joinWords_85 ?_
          refine rg_lshl F (pc := 88) (v := lN ((zT P (zR P i (j + 1))) * 2 ^ ((zOL P i (j + 1)) - 1))) dX1_joinWords_88 (wb_shl _ (by omega)) ?_
          refine rg_lor F (pc := 89) (v := lN (zOB P i (j + 1 + 1))) dX1_joinWords_89 ((wb_or b5 (zTs_64 b6 (by omega))).trans (by rw [zOBs P i (j + 1), hz])) ?_
          refine rg_put F (pc := 90) (ci := 2) (ty := tyX1 5) rfl inX1 tyX1 tyX1_ok nmX1 mset_eq 5 (by decide) q109 (fun _ h9 => h9) rfl (tyX1_ok 5 (by decide)) rfl rfl (Nat.le_of_ble_eq_true rfl) dX1_joinWords_90 ?_
          refine rg_mem (M2 := (mset (mset M la (.inr (2, [.int (x0), .int (x1), .int (x2), va_rf (pt), .ref (ro), .long (lN (zOB P i (j + 1))), .int (nI ((zOL P i (j + 1)) - 1)), .int (nI (zOM P i (j + 1 + 1))), .int (x8), .int (x9), .int (x10), .int (x11), .long (x12), .int (x13), .int (x14), .int (x15), .int (x16)]))) la (.inr (2, [.int (x0), .int (x1), .int (x2), va_rf (pt), .ref (ro), .long (lN (zOB P i (j + 1 + 1))), .int (nI ((zOL P i (j + 1)) - 1)), .int (nI (zOM P i (j + 1 + 1))), .int (x8), .int (x9), .int (x10), .int (x11), .long (x12), .int (x13), .int (x14), .int (x15), .int (x16)])))) rfl ?_
          refine rg_mem (M2 := (mset M la (.inr (2, [.int (x0), .int (x1), .int (x2), va_rf (pt), .ref (ro), .long (lN (zOB P i (j + 1 + 1))), .int (nI ((zOL P i (j + 1)) - 1)), .int (nI (zOM P i (j + 1 + 1))), .int (x8), .int (x9), .int (x10), .int (x11), .long (x12), .int (x13), .int (x14), .int (x15), .int (x16)])))) mset_mset ?_
          refine rg_aload_n F (pc := 93) dX1_joinWords_93 rfl ?_
          refine rg_dup F (pc := 94) dX1_joinWords_94 rfl ?_
          refine rg_get F (pc := 95) (ci := 2) rfl inX1 mset_eq 6 (by decide) q110 (fun _ h9 => h9) rfl dX1_joinWords_95 ?_
          refine rg_aload_n F (pc := 98) dX1_joinWords_98 rfl ?_
          refine rg_get F (pc := 99) (ci := 3) rfl inX2 (mset_keep (hw ((j + 1)) (by omega)) (mne_ci (hw ((j + 1)) (by omega)) hm (by decide))) 1 (by decide) q113 (fun _ h9 => h9) rfl dX1_joinWords_99 ?_
          refine rg_iadd F (pc := 102) (v := nI (zOL P i (j + 1 + 1))) dX1_joinWords_102 ((nI_add _ _).trans (by rw [zOLs P i (j + 1), hz])) ?_
          refine rg_put F (pc := 103) (ci := 2) (ty := tyX1 6) rfl inX1 tyX1 tyX1_ok nmX1 mset_eq 6 (by decide) q110 (fun _ h9 => h9) rfl (tyX1_ok 6 (by decide)) rfl rfl (Nat.le_of_ble_eq_true rfl) dX1_joinWords_103 ?_
          refine rg_mem (M2 := (mset (mset M la (.inr (2, [.int (x0), .int (x1), .int (x2), va_rf (pt), .ref (ro), .long (lN (zOB P i (j + 1 + 1))), .int (nI ((zOL P i (j + 1)) - 1)), .int (nI (zOM P i (j + 1 + 1))), .int (x8), .int (x9), .int (x10), .int (x11), .long (x12), .int (x13), .int (x14), .int (x15), .int (x16)]))) la (.inr (2, [.int (x0), .int (x1), .int (x2), va_rf (pt), .ref (ro), .long (lN (zOB P i (j + 1 + 1))), .int (nI (zOL P i (j + 1 + 1))), .int (nI (zOM P i (j + 1 + 1))), .int (x8), .int (x9), .int (x10), .int (x11), .long (x12), .int (x13), .int (x14), .int (x15), .int (x16)])))) rfl ?_
          refine rg_mem (M2 := (mset M la (.inr (2, [.int (x0), .int (x1), .int (x2), va_rf (pt), .ref (ro), .long (lN (zOB P i (j + 1 + 1))), .int (nI (zOL P i (j + 1 + 1))), .int (nI (zOM P i (j + 1 + 1))), .int (x8), .int (x9), .int (x10), .int (x11), .long (x12), .int (x13), .int (x14), .int (x15), .int (x16)])))) mset_mset ?_
          refine rg_aload_n F (pc := 106) dX1_joinWords_106 rfl ?_
          refine rg_astore_n F (pc := 107) (lv' := [some (.ref (la)), some (.ref (g ((j + 1)))), some (.int (nI (j + 1))), some (.ref (g ((j + 1))))]) dX1_joinWords_107 (Nat.le_of_ble_eq_true rfl) rfl ?_
          refine rg_iinc F (pc := 108) (v := nI ((j + 1) + 1)) (lv' := [some (.ref (la)), some (.ref (g ((j + 1)))), some (.int (nI ((j + 1) + 1))), some (.ref (g ((j + 1))))]) dX1_joinWords_108 rfl (nI_add _ 1) (Nat.le_of_ble_eq_true rfl) rfl ?_
          refine rg_goto F (pc := 111) (tgt := 19) dX1_joinWords_111 (by decide) ?_
          refine rg_sub (lv' := [some (.ref (la)), some (va_rf (pv g (j + 1 + 1))), some (.int (nI (j + 1 + 1))), none]) ⟨rfl, rfl, rfl, trivial⟩ ?_
          exact ih (j + 1 + 1) (by omega) (by omega)
