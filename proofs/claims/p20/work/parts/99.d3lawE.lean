section LAW
variable {p : Program} {l : Launch} {e : Env} {s : State} {m : MethodId} {args : Array Value} {below : List Frame} {meth : Method} {c : Code} {D : va_G} {A : Nat → Prop} {Q : State → Prop} {M : rMem} {k n : Nat}
set_option maxHeartbeats 4000000 in
set_option maxRecDepth 100000 in
theorem L_E (F : rF p l e room_1 s m args below meth c cL_law 26 RL D A) {tm : Nat} {x : Nat} {P : Poem} {nW nL : Nat} {u : Nat → Nat → Nat} (hV : cV D M x P nW nL u) (h1W : 1 ≤ nW) (h1L : 1 ≤ nL) (hk : k ≤ 610524) (hn : n ≤ 7270126) (KK : ∀ M' : rMem, cV D M' x P nW nL u → rG p l e room_1 s m args below meth c D A 26 Q M' k n [some (.ref (rSb D)), some (.ref (x)), some (.int (nI tm)), none, none, none, none, none, none, none, none, none, none, none, none, none, none, none, none, none, none, none, none, none, none, none] 1166 []) : rG p l e room_1 s m args below meth c D A 26 Q M k n [some (.ref (rSb D)), some (.ref (x)), some (.int (nI tm)), none, some (.int (nI nL)), none, none, none, none, some (.long (zDig P nW nL)), none, some (.int (nI (zCl P 2 nL))), some (.int (nI (zCl P 4 nL))), some (.int (nI (zCa P nL))), none, none, none, none, none, none, none, none, none, none, none, none] 1092 [] := by
  have hO12 := cV_see hV
  have hn10 := hO12.1.2.1
  have hall := zAll_le hO12.1 nL (Nat.le_refl _)
  have hb2 : zCl P 2 nL ≤ 2000 := zCnt_le hO12.1 2
  have hb4 : zCl P 4 nL ≤ 2000 := zCnt_le hO12.1 4
  have hb5 : zLost P nL ≤ 2000 := zCnt_le hO12.1 5
  rw [zLost_ca h1L] at hb5
  refine rg_aload_n F (pc := 1092) dL_law_1092 rfl ?_
  refine rg_iconst F (pc := 1093) (v := nI 2) dL_law_1093 (by decide) ?_
  refine rg_callVi F (pc := 1094) (As := [.int (nI 2)]) (rest := []) (ci := 4) (c_count l D _ x P nW nL u 2 hV (by decide)) q409 vq_X3_count rfl hO12.2.1 rfl rfl (Nat.le_of_ble_eq_true rfl) (Nat.le_of_ble_eq_true rfl) (Nat.le_of_ble_eq_true rfl) ⟨by show _ ≤ 610524; omega, by show _ ≤ 7270126; omega⟩ dL_law_1094 (fun r9 M9 hp => ?_)
  refine rg_widen (k2 := k) (n2 := n) (by omega) (by omega) ?_
  refine rg_top (v2 := .int (nI (zCl P 2 nL))) (by first | (rw [hp.1]; done) | (rw [hp.1]; rfl)) ?_
  refine rg_mem (M2 := M) hp.2 ?_
  refine rg_iload F (pc := 1097) dL_law_1097 rfl ?_
  refine rg_ncmp_ne F (pc := 1099) (tgt := 1164) dL_law_1099 (by decide) (by omega) (by omega) (fun c1099 => by exfalso; omega) (fun c1099 => ?_)
  refine rg_aload_n F (pc := 1102) dL_law_1102 rfl ?_
  refine rg_iconst F (pc := 1103) (v := nI 4) dL_law_1103 (by decide) ?_
  refine rg_callVi F (pc := 1104) (As := [.int (nI 4)]) (rest := []) (ci := 4) (c_count l D _ x P nW nL u 4 hV (by decide)) q409 vq_X3_count rfl hO12.2.1 rfl rfl (Nat.le_of_ble_eq_true rfl) (Nat.le_of_ble_eq_true rfl) (Nat.le_of_ble_eq_true rfl) ⟨by show _ ≤ 610524; omega, by show _ ≤ 7270126; omega⟩ dL_law_1104 (fun r9 M9 hp => ?_)
  refine rg_widen (k2 := k) (n2 := n) (by omega) (by omega) ?_
  refine rg_top (v2 := .int (nI (zCl P 4 nL))) (by first | (rw [hp.1]; done) | (rw [hp.1]; rfl)) ?_
  refine rg_mem (M2 := M) hp.2 ?_
  refine rg_iload F (pc := 1107) dL_law_1107 rfl ?_
  refine rg_ncmp_ne F (pc := 1109) (tgt := 1164) dL_law_1109 (by decide) (by omega) (by omega) (fun c1109 => by exfalso; omega) (fun c1109 => ?_)
  refine rg_aload_n F (pc := 1112) dL_law_1112 rfl ?_
  refine rg_iconst F (pc := 1113) (v := nI 5) dL_law_1113 (by decide) ?_
  refine rg_callVi F (pc := 1114) (As := [.int (nI 5)]) (rest := []) (ci := 4) (c_count l D _ x P nW nL u 5 hV (by decide)) q409 vq_X3_count rfl hO12.2.1 rfl rfl (Nat.le_of_ble_eq_true rfl) (Nat.le_of_ble_eq_true rfl) (Nat.le_of_ble_eq_true rfl) ⟨by show _ ≤ 610524; omega, by show _ ≤ 7270126; omega⟩ dL_law_1114 (fun r9 M9 hp => ?_)
  refine rg_widen (k2 := k) (n2 := n) (by omega) (by omega) ?_
  refine rg_top (v2 := .int (nI (zCa P nL))) (by rw [hp.1]; show Value.int (nI (zLost P nL)) = _; rw [zLost_ca h1L]) ?_
  refine rg_mem (M2 := M) hp.2 ?_
  refine rg_iload F (pc := 1117) dL_law_1117 rfl ?_
  refine rg_ncmp_ne F (pc := 1119) (tgt := 1164) dL_law_1119 (by decide) (by omega) (by omega) (fun c1119 => by exfalso; omega) (fun c1119 => ?_)
  refine rg_aload_n F (pc := 1122) dL_law_1122 rfl ?_
  refine rg_bipush F (pc := 1123) (v := nI 6) dL_law_1123 (by decide) ?_
  refine rg_callVi F (pc := 1125) (As := [.int (nI 6)]) (rest := []) (ci := 4) (c_count l D _ x P nW nL u 6 hV (by decide)) q409 vq_X3_count rfl hO12.2.1 rfl rfl (Nat.le_of_ble_eq_true rfl) (Nat.le_of_ble_eq_true rfl) (Nat.le_of_ble_eq_true rfl) ⟨by show _ ≤ 610524; omega, by show _ ≤ 7270126; omega⟩ dL_law_1125 (fun r9 M9 hp => ?_)
  refine rg_widen (k2 := k) (n2 := n) (by omega) (by omega) ?_
  refine rg_top (v2 := .int (nI (zAll P nL))) (by first | (rw [hp.1]; done) | (rw [hp.1]; rfl)) ?_
  refine rg_mem (M2 := M) hp.2 ?_
  refine rg_aload_n F (pc := 1128) dL_law_1128 rfl ?_
  refine rg_callSi F (pc := 1129) (As := [.ref (x)]) (rest := [.int (nI (zAll P nL))]) (c_sum l D _ x P nW nL u hV) q435 sq_L_sum rfl rfl (Nat.le_of_ble_eq_true rfl) (Nat.le_of_ble_eq_true rfl) (Nat.le_of_ble_eq_true rfl) ⟨by show _ ≤ 610524; omega, by show _ ≤ 7270126; omega⟩ dL_law_1129 (fun r9 M9 hp => ?_)
  refine rg_widen (k2 := k) (n2 := n) (by omega) (by omega) ?_
  refine rg_top (v2 := .int (nI (zAll P nL))) (by first | (rw [hp.1]; done) | (rw [hp.1]; rfl)) ?_
  refine rg_mem (M2 := M) hp.2 ?_
  refine rg_ncmp_ne F (pc := 1132) (tgt := 1164) dL_law_1132 (by decide) (by omega) (by omega) (fun c1132 => by exfalso; omega) (fun c1132 => ?_)
  refine rg_aload_n F (pc := 1135) dL_law_1135 rfl ?_
  refine rg_callVd F (pc := 1136) (As := []) (rest := []) (ci := 4) (c_mean l D _ x P nW nL u hV) q449 vq_X3_mean rfl hO12.2.1 rfl rfl (Nat.le_of_ble_eq_true rfl) (Nat.le_of_ble_eq_true rfl) (Nat.le_of_ble_eq_true rfl) ⟨by show _ ≤ 610524; omega, by show _ ≤ 7270126; omega⟩ dL_law_1136 (fun r9 M9 hp => ?_)
  refine rg_widen (k2 := k) (n2 := n) (by omega) (by omega) ?_
  refine rg_top (v2 := .double (FP.ddiv (FP.i2d (nI (zAll P nL))) (FP.i2d (nI nL)))) (by rw [hp.1]; unfold zMean; rw [if_pos (by omega)]) ?_
  refine rg_mem (M2 := M) hp.2 ?_
  refine rg_aload_n F (pc := 1139) dL_law_1139 rfl ?_
  refine rg_bipush F (pc := 1140) (v := nI 6) dL_law_1140 (by decide) ?_
  refine rg_callVi F (pc := 1142) (As := [.int (nI 6)]) (rest := [.double (FP.ddiv (FP.i2d (nI (zAll P nL))) (FP.i2d (nI nL)))]) (ci := 4) (c_count l D _ x P nW nL u 6 hV (by decide)) q409 vq_X3_count rfl hO12.2.1 rfl rfl (Nat.le_of_ble_eq_true rfl) (Nat.le_of_ble_eq_true rfl) (Nat.le_of_ble_eq_true rfl) ⟨by show _ ≤ 610524; omega, by show _ ≤ 7270126; omega⟩ dL_law_1142 (fun r9 M9 hp => ?_)
  refine rg_widen (k2 := k) (n2 := n) (by omega) (by omega) ?_
  refine rg_top (v2 := .int (nI (zAll P nL))) (by first | (rw [hp.1]; done) | (rw [hp.1]; rfl)) ?_
  refine rg_mem (M2 := M) hp.2 ?_
  refine rg_i2d F (pc := 1145) dL_law_1145 ?_
  refine rg_iload F (pc := 1146) dL_law_1146 rfl ?_
  refine rg_i2d F (pc := 1148) dL_law_1148 ?_
  refine rg_ddiv F (pc := 1149) dL_law_1149 (dd_n (by omega) (by omega) (by omega)) ?_
  refine rg_dcm9 F (pc := 1150) (op := .l) dL_law_1150 ?_
  refine rg_top (v2 := .int (nI 0)) ((by rw [dc_n (by omega) (by omega) (by omega)]; rfl)) ?_
  refine rg_nif_ne F (pc := 1151) (tgt := 1164) dL_law_1151 (by decide) (by omega) (fun c1151 => by exfalso; omega) (fun c1151 => ?_)
  refine rg_aload_n F (pc := 1154) dL_law_1154 rfl ?_
  refine rg_callVl F (pc := 1155) (As := []) (rest := []) (ci := 4) (c_digest l D _ x P nW nL u hV) q420 vq_X3_digest rfl hO12.2.1 rfl rfl (Nat.le_of_ble_eq_true rfl) (Nat.le_of_ble_eq_true rfl) (Nat.le_of_ble_eq_true rfl) ⟨by show _ ≤ 610524; omega, by show _ ≤ 7270126; omega⟩ dL_law_1155 (fun r9 M9 hp => ?_)
  refine rg_widen (k2 := k) (n2 := n) (by omega) (by omega) ?_
  refine rg_top (v2 := .long (zDig P nW nL)) (by first | (rw [hp.1]; done) | (rw [hp.1]; rfl)) ?_
  refine rg_mem (M2 := M) hp.2 ?_
  refine rg_lload F (pc := 1158) dL_law_1158 rfl ?_
  refine rg_lcmp F (pc := 1160) (v := nI 0) dL_law_1160 (lc_self _) ?_
  refine rg_nif_eq F (pc := 1161) (tgt := 1166) dL_law_1161 (by decide) (by omega) (fun c1161 => ?_) (fun c1161 => by exfalso; omega)
  refine rg_sub (lv' := [some (.ref (rSb D)), some (.ref (x)), some (.int (nI tm)), none, none, none, none, none, none, none, none, none, none, none, none, none, none, none, none, none, none, none, none, none, none, none]) (by repeat' constructor) ?_
  exact KK _ hV
set_option maxHeartbeats 4000000 in
set_option maxRecDepth 100000 in
theorem L_W (F : rF p l e room_1 s m args below meth c cL_law 26 RL D A) {tm : Nat} (ht : tm < 24) {x : Nat} {P : Poem} {nW nL : Nat} {u : Nat → Nat → Nat} (hV : cV D M x P nW nL u) (h1W : 1 ≤ nW) (h1L : 1 ≤ nL) (hk : k ≤ 610524) (hn : n ≤ 7270126) (KK : ∀ M' : rMem, cV D M' x P nW nL u → rG p l e room_1 s m args below meth c D A 26 Q M' k n [some (.ref (rSb D)), some (.ref (x)), some (.int (nI tm)), none, none, none, none, none, none, none, none, none, none, none, none, none, none, none, none, none, none, none, none, none, none, none] 1166 []) : rG p l e room_1 s m args below meth c D A 26 Q M k n [some (.ref (rSb D)), some (.ref (x)), some (.int (nI tm)), none, some (.int (nI nL)), none, none, none, none, some (.long (zDig P nW nL)), none, some (.int (nI (zCl P 2 nL))), some (.int (nI (zCl P 4 nL))), some (.int (nI (zCa P nL))), none, none, none, none, none, none, none, none, none, none, none, none] 1032 [] := by
  have hO13 := cV_see hV
  have hn10 := hO13.1.2.1
  have hall := zAll_le hO13.1 nL (Nat.le_refl _)
  refine rg_iload_n F (pc := 1032) dL_law_1032 rfl ?_
  refine rg_iconst F (pc := 1033) (v := nI 4) dL_law_1033 (by decide) ?_
  refine rg_irem F (pc := 1034) (v := nI (tm % 4)) dL_law_1034 (by decide) (pk_rem (by omega) (by omega) (by omega)) ?_
  refine rg_nif_ne F (pc := 1035) (tgt := 1045) dL_law_1035 (by decide) (by omega) (fun c1035 => ?_) (fun c1035 => ?_)
  · refine rg_iconst F (pc := 1045) (v := (-1)) dL_law_1045 (by decide) ?_
    refine rg_istore F (pc := 1046) (lv' := [some (.ref (rSb D)), some (.ref (x)), some (.int (nI tm)), none, some (.int (nI nL)), none, none, none, none, some (.long (zDig P nW nL)), none, some (.int (nI (zCl P 2 nL))), some (.int (nI (zCl P 4 nL))), some (.int (nI (zCa P nL))), some (.int ((-1))), none, none, none, none, none, none, none, none, none, none, none]) dL_law_1046 (Nat.le_of_ble_eq_true rfl) rfl ?_
    refine rg_iload F (pc := 1048) dL_law_1048 rfl ?_
    refine rg_if_lt F (pc := 1050) (tgt := 1092) dL_law_1050 (by decide) (fun c1050 => ?_) (fun c1050 => absurd (by decide) c1050)
    refine rg_sub (lv' := [some (.ref (rSb D)), some (.ref (x)), some (.int (nI tm)), none, some (.int (nI nL)), none, none, none, none, some (.long (zDig P nW nL)), none, some (.int (nI (zCl P 2 nL))), some (.int (nI (zCl P 4 nL))), some (.int (nI (zCa P nL))), none, none, none, none, none, none, none, none, none, none, none, none]) (by repeat' constructor) ?_
    exact L_E F hV h1W h1L hk hn KK
  · refine rg_aload_n F (pc := 1038) dL_law_1038 rfl ?_
    refine rg_callVi F (pc := 1039) (As := []) (rest := []) (ci := 4) (c_worst l D _ x P nW nL u hV) q443 vq_X3_worst rfl hO13.2.1 rfl rfl (Nat.le_of_ble_eq_true rfl) (Nat.le_of_ble_eq_true rfl) (Nat.le_of_ble_eq_true rfl) ⟨by show _ ≤ 610524; omega, by show _ ≤ 7270126; omega⟩ dL_law_1039 (fun r9 M1 hp => ?_)
    refine rg_widen (k2 := k) (n2 := n) (by omega) (by omega) ?_
    obtain ⟨hr9, hVa⟩ := hp
    have hgd := (zWo_gd P nW nL nL (Nat.le_refl _)).2
    have hO14 := cV_see hVa
    rcases hgd with hgd | ⟨i9, j9, hi9, hj9, hgd, hlt9⟩
    · refine rg_top (v2 := .int ((-1))) (by rw [hr9, hgd]) ?_
      refine rg_goto F (pc := 1042) (tgt := 1046) dL_law_1042 (by decide) ?_
      refine rg_istore F (pc := 1046) (lv' := [some (.ref (rSb D)), some (.ref (x)), some (.int (nI tm)), none, some (.int (nI nL)), none, none, none, none, some (.long (zDig P nW nL)), none, some (.int (nI (zCl P 2 nL))), some (.int (nI (zCl P 4 nL))), some (.int (nI (zCa P nL))), some (.int ((-1))), none, none, none, none, none, none, none, none, none, none, none]) dL_law_1046 (Nat.le_of_ble_eq_true rfl) rfl ?_
      refine rg_iload F (pc := 1048) dL_law_1048 rfl ?_
      refine rg_if_lt F (pc := 1050) (tgt := 1092) dL_law_1050 (by decide) (fun c1050 => ?_) (fun c1050 => absurd (by decide) c1050)
      refine rg_sub (lv' := [some (.ref (rSb D)), some (.ref (x)), some (.int (nI tm)), none, some (.int (nI nL)), none, none, none, none, some (.long (zDig P nW nL)), none, some (.int (nI (zCl P 2 nL))), some (.int (nI (zCl P 4 nL))), some (.int (nI (zCa P nL))), none, none, none, none, none, none, none, none, none, none, none, none]) (by repeat' constructor) ?_
      exact L_E F hVa h1W h1L hk hn KK
    · refine rg_top (v2 := .int (nI (10 * i9 + j9))) (by rw [hr9, hgd]) ?_
      have hj8 := (hO13.1.2.2 i9 hi9).2.2.2.2.1
      refine rg_goto F (pc := 1042) (tgt := 1046) dL_law_1042 (by decide) ?_
      refine rg_istore F (pc := 1046) (lv' := [some (.ref (rSb D)), some (.ref (x)), some (.int (nI tm)), none, some (.int (nI nL)), none, none, none, none, some (.long (zDig P nW nL)), none, some (.int (nI (zCl P 2 nL))), some (.int (nI (zCl P 4 nL))), some (.int (nI (zCa P nL))), some (.int (nI (10 * i9 + j9))), none, none, none, none, none, none, none, none, none, none, none]) dL_law_1046 (Nat.le_of_ble_eq_true rfl) rfl ?_
      refine rg_iload F (pc := 1048) dL_law_1048 rfl ?_
      refine rg_if_lt F (pc := 1050) (tgt := 1092) dL_law_1050 (by decide) (fun c9 => absurd c9 (nI_pos (by omega))) (fun _ => ?_)
      refine rg_aload_n F (pc := 1053) dL_law_1053 rfl ?_
      refine rg_iload F (pc := 1054) dL_law_1054 rfl ?_
      refine rg_bipush F (pc := 1056) (v := nI 10) dL_law_1056 (by decide) ?_
      refine rg_idiv F (pc := 1058) (v := nI i9) dL_law_1058 (by decide) ((pk_div (by omega) (by omega) (by omega)).trans (by rw [show (10 * i9 + j9) / 10 = i9 by omega])) ?_
      refine rg_iload F (pc := 1059) dL_law_1059 rfl ?_
      refine rg_bipush F (pc := 1061) (v := nI 10) dL_law_1061 (by decide) ?_
      refine rg_irem F (pc := 1063) (v := nI j9) dL_law_1063 (by decide) ((pk_rem (by omega) (by omega) (by omega)).trans (by rw [show (10 * i9 + j9) % 10 = j9 by omega])) ?_
      refine rg_aload_n F (pc := 1064) dL_law_1064 rfl ?_
      refine rg_iload F (pc := 1065) dL_law_1065 rfl ?_
      refine rg_bipush F (pc := 1067) (v := nI 10) dL_law_1067 (by decide) ?_
      refine rg_idiv F (pc := 1069) (v := nI i9) dL_law_1069 (by decide) ((pk_div (by omega) (by omega) (by omega)).trans (by rw [show (10 * i9 + j9) / 10 = i9 by omega])) ?_
      refine rg_iload F (pc := 1070) dL_law_1070 rfl ?_
      refine rg_bipush F (pc := 1072) (v := nI 10) dL_law_1072 (by decide) ?_
      refine rg_irem F (pc := 1074) (v := nI j9) dL_law_1074 (by decide) ((pk_rem (by omega) (by omega) (by omega)).trans (by rw [show (10 * i9 + j9) % 10 = j9 by omega])) ?_
      refine rg_callVi F (pc := 1075) (As := [.int (nI i9), .int (nI j9)]) (rest := [.int (nI j9), .int (nI i9), .ref (x)]) (ci := 4) (c_best l D _ x P nW nL u i9 j9 hVa hi9 hj9) q446 vq_X3_best rfl hO14.2.1 rfl rfl (Nat.le_of_ble_eq_true rfl) (Nat.le_of_ble_eq_true rfl) (Nat.le_of_ble_eq_true rfl) ⟨by show _ ≤ 610524; omega, by show _ ≤ 7270126; omega⟩ dL_law_1075 (fun r9 M2 hp => ?_)
      refine rg_widen (k2 := k) (n2 := n) (by omega) (by omega) ?_
      obtain ⟨hr9, hVb⟩ := hp
      refine rg_top (v2 := .int (nI (zBest P i9 j9 nL nW))) (by rw [hr9]) ?_
      have hO15 := cV_see hVb
      have hbl := zBest_lt hO13.1 hi9 hj9
      have hty := zTry_le hO13.1 hi9 hj9 hbl
      refine rg_callVi F (pc := 1078) (As := [.int (nI i9), .int (nI j9), .int (nI (zBest P i9 j9 nL nW))]) (rest := []) (ci := 4) (c_tries l D _ x P nW nL u i9 j9 (zBest P i9 j9 nL nW) hVb hi9 hj9 hbl) q429 vq_X3_tries rfl hO15.2.1 rfl rfl (Nat.le_of_ble_eq_true rfl) (Nat.le_of_ble_eq_true rfl) (Nat.le_of_ble_eq_true rfl) ⟨by show _ ≤ 610524; omega, by show _ ≤ 7270126; omega⟩ dL_law_1078 (fun r9 M3 hp => ?_)
      refine rg_widen (k2 := k) (n2 := n) (by omega) (by omega) ?_
      obtain ⟨hr9, hVc⟩ := hp
      refine rg_top (v2 := .int (nI (zTry P i9 j9 (zBest P i9 j9 nL nW) nL))) (by rw [hr9]) ?_
      have hO16 := cV_see hVc
      refine rg_aload_n F (pc := 1081) dL_law_1081 rfl ?_
      refine rg_bipush F (pc := 1082) (v := nI 6) dL_law_1082 (by decide) ?_
      refine rg_callVi F (pc := 1084) (As := [.int (nI 6)]) (rest := [.int (nI (zTry P i9 j9 (zBest P i9 j9 nL nW) nL))]) (ci := 4) (c_count l D _ x P nW nL u 6 hVc (by decide)) q409 vq_X3_count rfl hO16.2.1 rfl rfl (Nat.le_of_ble_eq_true rfl) (Nat.le_of_ble_eq_true rfl) (Nat.le_of_ble_eq_true rfl) ⟨by show _ ≤ 610524; omega, by show _ ≤ 7270126; omega⟩ dL_law_1084 (fun r9 M9 hp => ?_)
      refine rg_widen (k2 := k) (n2 := n) (by omega) (by omega) ?_
      refine rg_top (v2 := .int (nI (zAll P nL))) (by first | (rw [hp.1]; done) | (rw [hp.1]; rfl)) ?_
      refine rg_mem (M2 := M3) hp.2 ?_
      refine rg_ncmp_lt F (pc := 1087) (tgt := 1092) dL_law_1087 (by decide) (by omega) (by omega) (fun c1087 => ?_) (fun c1087 => by exfalso; omega)
      refine rg_sub (lv' := [some (.ref (rSb D)), some (.ref (x)), some (.int (nI tm)), none, some (.int (nI nL)), none, none, none, none, some (.long (zDig P nW nL)), none, some (.int (nI (zCl P 2 nL))), some (.int (nI (zCl P 4 nL))), some (.int (nI (zCa P nL))), none, none, none, none, none, none, none, none, none, none, none, none]) (by repeat' constructor) ?_
      exact L_E F hVc h1W h1L hk hn KK
end LAW
