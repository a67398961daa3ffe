set_option maxHeartbeats 4000000 in
set_option maxRecDepth 100000 in
theorem c_rb00 (l : Launch) (D : va_G) (M : rMem) (la : Nat) (x0 x1 x2 : Int32) (pt : Option Nat) (ro : Nat) (x5 : Int64) (x6 x7 x8 x9 x10 x11 : Int32) (x12 : Int64) (x13 x14 x15 x16 : Int32) (md : Int32) (bk : Nat) (g : Nat → Nat) (lb : Nat) (y0 y1 y2 : Int32) (pt2 : Option Nat) (rb : Nat) (y5 : Int64) (y6 y7 y8 y9 y10 y11 : Int32) (y12 : Int64) (y13 y14 y15 y16 : Int32) (md2 : Int32) (bk2 : Nat) (g2 : Nat → Nat) (P : Poem) (nW i k : Nat) (hm : M la = some (.inr (2, [.int (x0), .int (x1), .int (x2), va_rf (pt), .ref (ro), .long (x5), .int (x6), .int (x7), .int (x8), .int (x9), .int (x10), .int (x11), .long (x12), .int (x13), .int (x14), .int (x15), .int (x16)]))) (hL : isL D M ro md bk (zC P i) g) (hw : ∀ j, j < zC P i → M (g j) = some (.inr (3, wo P (zR P i j)))) (hm2 : M lb = some (.inr (2, [.int (y0), .int (y1), .int (y2), va_rf (pt2), .ref (rb), .long (y5), .int (y6), .int (y7), .int (y8), .int (y9), .int (y10), .int (y11), .long (y12), .int (y13), .int (y14), .int (y15), .int (y16)]))) (hL2 : isL D M rb md2 bk2 (zC P k) g2) (hw2 : ∀ j, j < zC P k → M (g2 j) = some (.inr (3, wo P (zR P k j)))) (hW : zWok P nW) (hi : zLok P nW i) (hk : zLok P nW k) (hc0 : 0 < zC P i) (hc1 : 0 < zC P k) : CMi l D yX3_rhymeBetween cX3_rhymeBetween 4 ((some .int)) 5 0 0 M [.ref (la), .ref (lb)] (fun r M' => r = nI (zRh P i k) ∧ M' = M) := by
  have ra := hi.2.2.2.2.2 (zC P i - 1) (by omega)
  have rb9 := hk.2.2.2.2.2 (zC P k - 1) (by omega)
  have wa := hW.2 _ ra
  have wb := hW.2 _ rb9
  have w30 := hW.1
  refine rM (lv0 := [some (.ref (la)), some (.ref (lb)), none, none]) (by decide) rfl rfl (Nat.le_of_ble_eq_true rfl) (fun P0 E0 S0 m0 as0 bl0 mt0 c0 A F hrt9 hnm => ?_)
  refine rg_aload_n F (pc := 0) dX3_rhymeBetween_0 rfl ?_
  refine rg_ifnull F (pc := 1) dX3_rhymeBetween_1 ?_
  refine rg_aload_n F (pc := 4) dX3_rhymeBetween_4 rfl ?_
  refine rg_ifnonnull F (pc := 5) (tgt := 10) dX3_rhymeBetween_5 (by decide) ?_
  refine rg_aload_n F (pc := 10) dX3_rhymeBetween_10 rfl ?_
  refine rg_callVq F (pc := 11) (As := []) (rest := []) (ci := 2) (c_last l D _ la x0 x1 x2 pt ro x5 x6 x7 x8 x9 x10 x11 x12 x13 x14 x15 x16 md bk g P i hm hL hw hi.2.2.2.2.1) q262 vq_X1_lastWord rfl hm rfl rfl (Nat.le_of_ble_eq_true rfl) (Nat.le_of_ble_eq_true rfl) (Nat.le_of_ble_eq_true rfl) ⟨(Nat.le_of_ble_eq_true rfl), (Nat.le_of_ble_eq_true rfl)⟩ dX3_rhymeBetween_11 (fun r9 M9 hp => ?_)
  refine rg_top (v2 := .ref (g (zC P i - 1))) (by rw [hp.1, pv_pos hc0]; rfl) ?_
  refine rg_mem (M2 := M) hp.2 ?_
  refine rg_astore_n F (pc := 14) (lv' := [some (.ref (la)), some (.ref (lb)), some (.ref (g (zC P i - 1))), none]) dX3_rhymeBetween_14 (Nat.le_of_ble_eq_true rfl) rfl ?_
  refine rg_aload_n F (pc := 15) dX3_rhymeBetween_15 rfl ?_
  refine rg_callVq F (pc := 16) (As := []) (rest := []) (ci := 2) (c_last l D _ lb y0 y1 y2 pt2 rb y5 y6 y7 y8 y9 y10 y11 y12 y13 y14 y15 y16 md2 bk2 g2 P k hm2 hL2 hw2 hk.2.2.2.2.1) q262 vq_X1_lastWord rfl hm2 rfl rfl (Nat.le_of_ble_eq_true rfl) (Nat.le_of_ble_eq_true rfl) (Nat.le_of_ble_eq_true rfl) ⟨(Nat.le_of_ble_eq_true rfl), (Nat.le_of_ble_eq_true rfl)⟩ dX3_rhymeBetween_16 (fun r9 M9 hp => ?_)
  refine rg_top (v2 := .ref (g2 (zC P k - 1))) (by rw [hp.1, pv_pos hc1]; rfl) ?_
  refine rg_mem (M2 := M) hp.2 ?_
  refine rg_astore_n F (pc := 19) (lv' := [some (.ref (la)), some (.ref (lb)), some (.ref (g (zC P i - 1))), some (.ref (g2 (zC P k - 1)))]) dX3_rhymeBetween_19 (Nat.le_of_ble_eq_true rfl) rfl ?_
  refine rg_aload_n F (pc := 20) dX3_rhymeBetween_20 rfl ?_
  refine rg_ifnull F (pc := 21) dX3_rhymeBetween_21 ?_
  refine rg_aload_n F (pc := 24) dX3_rhymeBetween_24 rfl ?_
  refine rg_ifnonnull F (pc := 25) (tgt := 32) dX3_rhymeBetween_25 (by decide) ?_
  refine rg_aload_n F (pc := 32) dX3_rhymeBetween_32 rfl ?_
  refine rg_aload_n F (pc := 33) dX3_rhymeBetween_33 rfl ?_
  refine rg_callVi F (pc := 34) (As := [.ref (g2 (zC P k - 1))]) (rest := []) (ci := 3) (c_rhymeWith l D _ (g (zC P i - 1)) (zR P i (zC P i - 1)) (zS P (zR P i (zC P i - 1))) (zT P (zR P i (zC P i - 1))) (zV P (zR P i (zC P i - 1))) (zE P (zR P i (zC P i - 1))) (zO P (zR P i (zC P i - 1))) (g2 (zC P k - 1)) (zR P k (zC P k - 1)) (zS P (zR P k (zC P k - 1))) (zT P (zR P k (zC P k - 1))) (zV P (zR P k (zC P k - 1))) (zE P (zR P k (zC P k - 1))) (zO P (zR P k (zC P k - 1))) (hw (zC P i - 1) (by omega)) (hw2 (zC P k - 1) (by omega)) (by omega) (by omega) (by omega) (by omega) (by omega) (by omega) (by omega) (by omega) (zT_lt hW ra) (by omega) (by omega) (zT_lt hW rb9)) q265 vq_X2_rhymeWith rfl (hw (zC P i - 1) (by omega)) rfl rfl (Nat.le_of_ble_eq_true rfl) (Nat.le_of_ble_eq_true rfl) (Nat.le_of_ble_eq_true rfl) ⟨(Nat.le_of_ble_eq_true rfl), (Nat.le_of_ble_eq_true rfl)⟩ dX3_rhymeBetween_34 (fun r9 M9 hp => ?_)
  refine rg_top (v2 := .int (nI (zRhW P (zR P i (zC P i - 1)) (zR P k (zC P k - 1))))) (by first | (rw [hp.1]; done) | (rw [hp.1]; rfl)) ?_
  refine rg_mem (M2 := M) hp.2 ?_
  exact rg_iret F (pc := 37) hrt9 (by decide) (by decide) dX3_rhymeBetween_37 ⟨by unfold zRh; rw [if_neg (by omega)], rfl⟩
set_option maxHeartbeats 4000000 in
set_option maxRecDepth 100000 in
theorem c_rb01 (l : Launch) (D : va_G) (M : rMem) (la : Nat) (x0 x1 x2 : Int32) (pt : Option Nat) (ro : Nat) (x5 : Int64) (x6 x7 x8 x9 x10 x11 : Int32) (x12 : Int64) (x13 x14 x15 x16 : Int32) (md : Int32) (bk : Nat) (g : Nat → Nat) (lb : Nat) (y0 y1 y2 : Int32) (pt2 : Option Nat) (rb : Nat) (y5 : Int64) (y6 y7 y8 y9 y10 y11 : Int32) (y12 : Int64) (y13 y14 y15 y16 : Int32) (md2 : Int32) (bk2 : Nat) (g2 : Nat → Nat) (P : Poem) (nW i k : Nat) (hm : M la = some (.inr (2, [.int (x0), .int (x1), .int (x2), va_rf (pt), .ref (ro), .long (x5), .int (x6), .int (x7), .int (x8), .int (x9), .int (x10), .int (x11), .long (x12), .int (x13), .int (x14), .int (x15), .int (x16)]))) (hL : isL D M ro md bk (zC P i) g) (hw : ∀ j, j < zC P i → M (g j) = some (.inr (3, wo P (zR P i j)))) (hm2 : M lb = some (.inr (2, [.int (y0), .int (y1), .int (y2), va_rf (pt2), .ref (rb), .long (y5), .int (y6), .int (y7), .int (y8), .int (y9), .int (y10), .int (y11), .long (y12), .int (y13), .int (y14), .int (y15), .int (y16)]))) (hL2 : isL D M rb md2 bk2 (zC P k) g2) (hw2 : ∀ j, j < zC P k → M (g2 j) = some (.inr (3, wo P (zR P k j)))) (hW : zWok P nW) (hi : zLok P nW i) (hk : zLok P nW k) (hc0 : 0 < zC P i) (hc1 : zC P k = 0) : CMi l D yX3_rhymeBetween cX3_rhymeBetween 4 ((some .int)) 5 0 0 M [.ref (la), .ref (lb)] (fun r M' => r = nI (zRh P i k) ∧ M' = M) := by
  refine rM (lv0 := [some (.ref (la)), some (.ref (lb)), none, none]) (by decide) rfl rfl (Nat.le_of_ble_eq_true rfl) (fun P0 E0 S0 m0 as0 bl0 mt0 c0 A F hrt9 hnm => ?_)
  refine rg_aload_n F (pc := 0) dX3_rhymeBetween_0 rfl ?_
  refine rg_ifnull F (pc := 1) dX3_rhymeBetween_1 ?_
  refine rg_aload_n F (pc := 4) dX3_rhymeBetween_4 rfl ?_
  refine rg_ifnonnull F (pc := 5) (tgt := 10) dX3_rhymeBetween_5 (by decide) ?_
  refine rg_aload_n F (pc := 10) dX3_rhymeBetween_10 rfl ?_
  refine rg_callVq F (pc := 11) (As := []) (rest := []) (ci := 2) (c_last l D _ la x0 x1 x2 pt ro x5 x6 x7 x8 x9 x10 x11 x12 x13 x14 x15 x16 md bk g P i hm hL hw hi.2.2.2.2.1) q262 vq_X1_lastWord rfl hm rfl rfl (Nat.le_of_ble_eq_true rfl) (Nat.le_of_ble_eq_true rfl) (Nat.le_of_ble_eq_true rfl) ⟨(Nat.le_of_ble_eq_true rfl), (Nat.le_of_ble_eq_true rfl)⟩ dX3_rhymeBetween_11 (fun r9 M9 hp => ?_)
  refine rg_top (v2 := .ref (g (zC P i - 1))) (by rw [hp.1, pv_pos hc0]; rfl) ?_
  refine rg_mem (M2 := M) hp.2 ?_
  refine rg_astore_n F (pc := 14) (lv' := [some (.ref (la)), some (.ref (lb)), some (.ref (g (zC P i - 1))), none]) dX3_rhymeBetween_14 (Nat.le_of_ble_eq_true rfl) rfl ?_
  refine rg_aload_n F (pc := 15) dX3_rhymeBetween_15 rfl ?_
  refine rg_callVq F (pc := 16) (As := []) (rest := []) (ci := 2) (c_last l D _ lb y0 y1 y2 pt2 rb y5 y6 y7 y8 y9 y10 y11 y12 y13 y14 y15 y16 md2 bk2 g2 P k hm2 hL2 hw2 hk.2.2.2.2.1) q262 vq_X1_lastWord rfl hm2 rfl rfl (Nat.le_of_ble_eq_true rfl) (Nat.le_of_ble_eq_true rfl) (Nat.le_of_ble_eq_true rfl) ⟨(Nat.le_of_ble_eq_true rfl), (Nat.le_of_ble_eq_true rfl)⟩ dX3_rhymeBetween_16 (fun r9 M9 hp => ?_)
  refine rg_top (v2 := .null) (by rw [hp.1, hc1]; rfl) ?_
  refine rg_mem (M2 := M) hp.2 ?_
  refine rg_astore_nN F (pc := 19) (lv' := [some (.ref (la)), some (.ref (lb)), some (.ref (g (zC P i - 1))), some (.null)]) dX3_rhymeBetween_19 (Nat.le_of_ble_eq_true rfl) rfl ?_
  refine rg_aload_n F (pc := 20) dX3_rhymeBetween_20 rfl ?_
  refine rg_ifnull F (pc := 21) dX3_rhymeBetween_21 ?_
  refine rg_aload_nN F (pc := 24) dX3_rhymeBetween_24 rfl ?_
  refine rg_ifnonnullN F (pc := 25) dX3_rhymeBetween_25 ?_
  refine rg_iconst F (pc := 28) (v := nI 0) dX3_rhymeBetween_28 (by decide) ?_
  refine rg_goto F (pc := 29) (tgt := 37) dX3_rhymeBetween_29 (by decide) ?_
  exact rg_iret F (pc := 37) hrt9 (by decide) (by decide) dX3_rhymeBetween_37 ⟨by unfold zRh; rw [if_pos (by omega)], rfl⟩
set_option maxHeartbeats 4000000 in
set_option maxRecDepth 100000 in
theorem c_rb10 (l : Launch) (D : va_G) (M : rMem) (la : Nat) (x0 x1 x2 : Int32) (pt : Option Nat) (ro : Nat) (x5 : Int64) (x6 x7 x8 x9 x10 x11 : Int32) (x12 : Int64) (x13 x14 x15 x16 : Int32) (md : Int32) (bk : Nat) (g : Nat → Nat) (lb : Nat) (y0 y1 y2 : Int32) (pt2 : Option Nat) (rb : Nat) (y5 : Int64) (y6 y7 y8 y9 y10 y11 : Int32) (y12 : Int64) (y13 y14 y15 y16 : Int32) (md2 : Int32) (bk2 : Nat) (g2 : Nat → Nat) (P : Poem) (nW i k : Nat) (hm : M la = some (.inr (2, [.int (x0), .int (x1), .int (x2), va_rf (pt), .ref (ro), .long (x5), .int (x6), .int (x7), .int (x8), .int (x9), .int (x10), .int (x11), .long (x12), .int (x13), .int (x14), .int (x15), .int (x16)]))) (hL : isL D M ro md bk (zC P i) g) (hw : ∀ j, j < zC P i → M (g j) = some (.inr (3, wo P (zR P i j)))) (hm2 : M lb = some (.inr (2, [.int (y0), .int (y1), .int (y2), va_rf (pt2), .ref (rb), .long (y5), .int (y6), .int (y7), .int (y8), .int (y9), .int (y10), .int (y11), .long (y12), .int (y13), .int (y14), .int (y15), .int (y16)]))) (hL2 : isL D M rb md2 bk2 (zC P k) g2) (hw2 : ∀ j, j < zC P k → M (g2 j) = some (.inr (3, wo P (zR P k j)))) (hW : zWok P nW) (hi : zLok P nW i) (hk : zLok P nW k) (hc0 : zC P i = 0) (hc1 : 0 < zC P k) : CMi l D yX3_rhymeBetween cX3_rhymeBetween 4 ((some .int)) 5 0 0 M [.ref (la), .ref (lb)] (fun r M' => r = nI (zRh P i k) ∧ M' = M) := by
  refine rM (lv0 := [some (.ref (la)), some (.ref (lb)), none, none]) (by decide) rfl rfl (Nat.le_of_ble_eq_true rfl) (fun P0 E0 S0 m0 as0 bl0 mt0 c0 A F hrt9 hnm => ?_)
  refine rg_aload_n F (pc := 0) dX3_rhymeBetween_0 rfl ?_
  refine rg_ifnull F (pc := 1) dX3_rhymeBetween_1 ?_
  refine rg_aload_n F (pc := 4) dX3_rhymeBetween_4 rfl ?_
  refine rg_ifnonnull F (pc := 5) (tgt := 10) dX3_rhymeBetween_5 (by decide) ?_
  refine rg_aload_n F (pc := 10) dX3_rhymeBetween_10 rfl ?_
  refine rg_callVq F (pc := 11) (As := []) (rest := []) (ci := 2) (c_last l D _ la x0 x1 x2 pt ro x5 x6 x7 x8 x9 x10 x11 x12 x13 x14 x15 x16 md bk g P i hm hL hw hi.2.2.2.2.1) q262 vq_X1_lastWord rfl hm rfl rfl (Nat.le_of_ble_eq_true rfl) (Nat.le_of_ble_eq_true rfl) (Nat.le_of_ble_eq_true rfl) ⟨(Nat.le_of_ble_eq_true rfl), (Nat.le_of_ble_eq_true rfl)⟩ dX3_rhymeBetween_11 (fun r9 M9 hp => ?_)
  refine rg_top (v2 := .null) (by rw [hp.1, hc0]; rfl) ?_
  refine rg_mem (M2 := M) hp.2 ?_
  refine rg_astore_nN F (pc := 14) (lv' := [some (.ref (la)), some (.ref (lb)), some (.null), none]) dX3_rhymeBetween_14 (Nat.le_of_ble_eq_true rfl) rfl ?_
  refine rg_aload_n F (pc := 15) dX3_rhymeBetween_15 rfl ?_
  refine rg_callVq F (pc := 16) (As := []) (rest := []) (ci := 2) (c_last l D _ lb y0 y1 y2 pt2 rb y5 y6 y7 y8 y9 y10 y11 y12 y13 y14 y15 y16 md2 bk2 g2 P k hm2 hL2 hw2 hk.2.2.2.2.1) q262 vq_X1_lastWord rfl hm2 rfl rfl (Nat.le_of_ble_eq_true rfl) (Nat.le_of_ble_eq_true rfl) (Nat.le_of_ble_eq_true rfl) ⟨(Nat.le_of_ble_eq_true rfl), (Nat.le_of_ble_eq_true rfl)⟩ dX3_rhymeBetween_16 (fun r9 M9 hp => ?_)
  refine rg_top (v2 := .ref (g2 (zC P k - 1))) (by rw [hp.1, pv_pos hc1]; rfl) ?_
  refine rg_mem (M2 := M) hp.2 ?_
  refine rg_astore_n F (pc := 19) (lv' := [some (.ref (la)), some (.ref (lb)), some (.null), some (.ref (g2 (zC P k - 1)))]) dX3_rhymeBetween_19 (Nat.le_of_ble_eq_true rfl) rfl ?_
  refine rg_aload_nN F (pc := 20) dX3_rhymeBetween_20 rfl ?_
  refine rg_ifnullN F (pc := 21) (tgt := 28) dX3_rhymeBetween_21 (by decide) ?_
  refine rg_iconst F (pc := 28) (v := nI 0) dX3_rhymeBetween_28 (by decide) ?_
  refine rg_goto F (pc := 29) (tgt := 37) dX3_rhymeBetween_29 (by decide) ?_
  exact rg_iret F (pc := 37) hrt9 (by decide) (by decide) dX3_rhymeBetween_37 ⟨by unfold zRh; rw [if_pos (by omega)], rfl⟩
set_option maxHeartbeats 4000000 in
set_option maxRecDepth 100000 in
theorem c_rb11 (l : Launch) (D : va_G) (M : rMem) (la : Nat) (x0 x1 x2 : Int32) (pt : Option Nat) (ro : Nat) (x5 : Int64) (x6 x7 x8 x9 x10 x11 : Int32) (x12 : Int64) (x13 x14 x15 x16 : Int32) (md : Int32) (bk : Nat) (g : Nat → Nat) (lb : Nat) (y0 y1 y2 : Int32) (pt2 : Option Nat) (rb : Nat) (y5 : Int64) (y6 y7 y8 y9 y10 y11 : Int32) (y12 : Int64) (y13 y14 y15 y16 : Int32) (md2 : Int32) (bk2 : Nat) (g2 : Nat → Nat) (P : Poem) (nW i k : Nat) (hm : M la = some (.inr (2, [.int (x0), .int (x1), .int (x2), va_rf (pt), .ref (ro), .long (x5), .int (x6), .int (x7), .int (x8), .int (x9), .int (x10), .int (x11), .long (x12), .int (x13), .int (x14), .int (x15), .int (x16)]))) (hL : isL D M ro md bk (zC P i) g) (hw : ∀ j, j < zC P i → M (g j) = some (.inr (3, wo P (zR P i j)))) (hm2 : M lb = some (.inr (2, [.int (y0), .int (y1), .int (y2), va_rf (pt2), .ref (rb), .long (y5), .int (y6), .int (y7), .int (y8), .int (y9), .int (y10), .int (y11), .long (y12), .int (y13), .int (y14), .int (y15), .int (y16)]))) (hL2 : isL D M rb md2 bk2 (zC P k) g2) (hw2 : ∀ j, j < zC P k → M (g2 j) = some (.inr (3, wo P (zR P k j)))) (hW : zWok P nW) (hi : zLok P nW i) (hk : zLok P nW k) (hc0 : zC P i = 0) (hc1 : zC P k = 0) : CMi l D yX3_rhymeBetween cX3_rhymeBetween 4 ((some .int)) 5 0 0 M [.ref (la), .ref (lb)] (fun r M' => r = nI (zRh P i k) ∧ M' = M) := by
  refine rM (lv0 := [some (.ref (la)), some (.ref (lb)), none, none]) (by decide) rfl rfl (Nat.le_of_ble_eq_true rfl) (fun P0 E0 S0 m0 as0 bl0 mt0 c0 A F hrt9 hnm => ?_)
  refine rg_aload_n F (pc := 0) dX3_rhymeBetween_0 rfl ?_
  refine rg_ifnull F (pc := 1) dX3_rhymeBetween_1 ?_
  refine rg_aload_n F (pc := 4) dX3_rhymeBetween_4 rfl ?_
  refine rg_ifnonnull F (pc := 5) (tgt := 10) dX3_rhymeBetween_5 (by decide) ?_
  refine rg_aload_n F (pc := 10) dX3_rhymeBetween_10 rfl ?_
  refine rg_callVq F (pc := 11) (As := []) (rest := []) (ci := 2) (c_last l D _ la x0 x1 x2 pt ro x5 x6 x7 x8 x9 x10 x11 x12 x13 x14 x15 x16 md bk g P i hm hL hw hi.2.2.2.2.1) q262 vq_X1_lastWord rfl hm rfl rfl (Nat.le_of_ble_eq_true rfl) (Nat.le_of_ble_eq_true rfl) (Nat.le_of_ble_eq_true rfl) ⟨(Nat.le_of_ble_eq_true rfl), (Nat.le_of_ble_eq_true rfl)⟩ dX3_rhymeBetween_11 (fun r9 M9 hp => ?_)
  refine rg_top (v2 := .null) (by rw [hp.1, hc0]; rfl) ?_
  refine rg_mem (M2 := M) hp.2 ?_
  refine rg_astore_nN F (pc := 14) (lv' := [some (.ref (la)), some (.ref (lb)), some (.null), none]) dX3_rhymeBetween_14 (Nat.le_of_ble_eq_true rfl) rfl ?_
  refine rg_aload_n F (pc := 15) dX3_rhymeBetween_15 rfl ?_
  refine rg_callVq F (pc := 16) (As := []) (rest := []) (ci := 2) (c_last l D _ lb y0 y1 y2 pt2 rb y5 y6 y7 y8 y9 y10 y11 y12 y13 y14 y15 y16 md2 bk2 g2 P k hm2 hL2 hw2 hk.2.2.2.2.1) q262 vq_X1_lastWord rfl hm2 rfl rfl (Nat.le_of_ble_eq_true rfl) (Nat.le_of_ble_eq_true rfl) (Nat.le_of_ble_eq_true rfl) ⟨(Nat.le_of_ble_eq_true rfl), (Nat.le_of_ble_eq_true rfl)⟩ dX3_rhymeBetween_16 (fun r9 M9 hp => ?_)
  refine rg_top (v2 := .null) (by rw [hp.1, hc1]; rfl) ?_
  refine rg_mem (M2 := M) hp.2 ?_
  refine rg_astore_nN F (pc := 19) (lv' := [some (.ref (la)), some (.ref (lb)), some (.null), some (.null)]) dX3_rhymeBetween_19 (Nat.le_of_ble_eq_true rfl) rfl ?_
  refine rg_aload_nN F (pc := 20) dX3_rhymeBetween_20 rfl ?_
  refine rg_ifnullN F (pc := 21) (tgt := 28) dX3_rhymeBetween_21 (by decide) ?_
  refine rg_iconst F (pc := 28) (v := nI 0) dX3_rhymeBetween_28 (by decide) ?_
  refine rg_goto F (pc := 29) (tgt := 37) dX3_rhymeBetween_29 (by decide) ?_
  exact rg_iret F (pc := 37) hrt9 (by decide) (by decide) dX3_rhymeBetween_37 ⟨by unfold zRh; rw [if_pos (by omega)], rfl⟩
theorem c_rb (l : Launch) (D : va_G) (M : rMem) (la : Nat) (x0 x1 x2 : Int32) (pt : Option Nat) (ro : Nat) (x5 : Int64) (x6 x7 x8 x9 x10 x11 : Int32) (x12 : Int64) (x13 x14 x15 x16 : Int32) (md : Int32) (bk : Nat) (g : Nat → Nat) (lb : Nat) (y0 y1 y2 : Int32) (pt2 : Option Nat) (rb : Nat) (y5 : Int64) (y6 y7 y8 y9 y10 y11 : Int32) (y12 : Int64) (y13 y14 y15 y16 : Int32) (md2 : Int32) (bk2 : Nat) (g2 : Nat → Nat) (P : Poem) (nW i k : Nat) (hm : M la = some (.inr (2, [.int (x0), .int (x1), .int (x2), va_rf (pt), .ref (ro), .long (x5), .int (x6), .int (x7), .int (x8), .int (x9), .int (x10), .int (x11), .long (x12), .int (x13), .int (x14), .int (x15), .int (x16)]))) (hL : isL D M ro md bk (zC P i) g) (hw : ∀ j, j < zC P i → M (g j) = some (.inr (3, wo P (zR P i j)))) (hm2 : M lb = some (.inr (2, [.int (y0), .int (y1), .int (y2), va_rf (pt2), .ref (rb), .long (y5), .int (y6), .int (y7), .int (y8), .int (y9), .int (y10), .int (y11), .long (y12), .int (y13), .int (y14), .int (y15), .int (y16)]))) (hL2 : isL D M rb md2 bk2 (zC P k) g2) (hw2 : ∀ j, j < zC P k → M (g2 j) = some (.inr (3, wo P (zR P k j)))) (hW : zWok P nW) (hi : zLok P nW i) (hk : zLok P nW k) : CMi l D yX3_rhymeBetween cX3_rhymeBetween 4 (some .int) 5 0 0 M [.ref (la), .ref (lb)] (fun r M' => r = nI (zRh P i k) ∧ M' = M) := by
  rcases Nat.eq_zero_or_pos (zC P i) with h0 | h0 <;> rcases Nat.eq_zero_or_pos (zC P k) with h1 | h1
  · exact c_rb11 l D M la x0 x1 x2 pt ro x5 x6 x7 x8 x9 x10 x11 x12 x13 x14 x15 x16 md bk g lb y0 y1 y2 pt2 rb y5 y6 y7 y8 y9 y10 y11 y12 y13 y14 y15 y16 md2 bk2 g2 P nW i k hm hL hw hm2 hL2 hw2 hW hi hk h0 h1
  · exact c_rb10 l D M la x0 x1 x2 pt ro x5 x6 x7 x8 x9 x10 x11 x12 x13 x14 x15 x16 md bk g lb y0 y1 y2 pt2 rb y5 y6 y7 y8 y9 y10 y11 y12 y13 y14 y15 y16 md2 bk2 g2 P nW i k hm hL hw hm2 hL2 hw2 hW hi hk h0 h1
  · exact c_rb01 l D M la x0 x1 x2 pt ro x5 x6 x7 x8 x9 x10 x11 x12 x13 x14 x15 x16 md bk g lb y0 y1 y2 pt2 rb y5 y6 y7 y8 y9 y10 y11 y12 y13 y14 y15 y16 md2 bk2 g2 P nW i k hm hL hw hm2 hL2 hw2 hW hi hk h0 h1
  · exact c_rb00 l D M la x0 x1 x2 pt ro x5 x6 x7 x8 x9 x10 x11 x12 x13 x14 x15 x16 md bk g lb y0 y1 y2 pt2 rb y5 y6 y7 y8 y9 y10 y11 y12 y13 y14 y15 y16 md2 bk2 g2 P nW i k hm hL hw hm2 hL2 hw2 hW hi hk h0 h1
set_option maxHeartbeats 4000000 in
set_option maxRecDepth 100000 in
theorem c_rbN (l : Launch) (D : va_G) (M : rMem) (la : Nat) : CMi l D yX3_rhymeBetween cX3_rhymeBetween 4 ((some .int)) 5 0 0 M [.ref (la), .null] (fun r M' => r = nI 0 ∧ M' = M) := by
  refine rM (lv0 := [some (.ref (la)), some (.null), none, none]) (by decide) rfl rfl (Nat.le_of_ble_eq_true rfl) (fun P0 E0 S0 m0 as0 bl0 mt0 c0 A F hrt9 hnm => ?_)
  refine rg_aload_n F (pc := 0) dX3_rhymeBetween_0 rfl ?_
  refine rg_ifnull F (pc := 1) dX3_rhymeBetween_1 ?_
  refine rg_aload_nN F (pc := 4) dX3_rhymeBetween_4 rfl ?_
  refine rg_ifnonnullN F (pc := 5) dX3_rhymeBetween_5 ?_
  refine rg_iconst F (pc := 8) (v := nI 0) dX3_rhymeBetween_8 (by decide) ?_
  exact rg_iret F (pc := 9) hrt9 (by decide) (by decide) dX3_rhymeBetween_9 ⟨rfl, rfl⟩
theorem rn_max0 (a b : Nat) (ha : a < 2 ^ 30) (hb : b < 2 ^ 30) : (if nI 0 < nI a - nI b then nI a - nI b else nI 0) = nI (a - b) := by
  by_cases h : b ≤ a
  · rw [pk_sub h]
    by_cases h2 : 0 < a - b
    · rw [if_pos ((nI_ltI (by decide) (by omega)).mpr h2)]
    · rw [show a - b = 0 by omega]
      rfl
  · rw [if_neg (fun z => ?_), show a - b = 0 by omega]
    have h2 := Int32.lt_iff_toInt_lt.mp z
    rw [pk_sub_toInt ha hb] at h2
    have e : (nI 0).toInt = 0 := by decide
    omega
set_option maxHeartbeats 4000000 in
set_option maxRecDepth 100000 in
theorem c_pay (l : Launch) (D : va_G) (M : rMem) (la : Nat) (x0 x1 x2 : Int32) (pt : Option Nat) (ro : Nat) (x5 : Int64) (x6 x7 x8 x9 x10 x11 : Int32) (x12 : Int64) (x13 x14 x15 x16 : Int32) (md : Int32) (bk : Nat) (g : Nat → Nat) (P : Poem) (nW i : Nat) (hm : M la = some (.inr (2, [.int (x0), .int (nI (zF P i)), .int (x2), va_rf (pt), .ref (ro), .long (x5), .int (x6), .int (x7), .int (x8), .int (x9), .int (x10), .int (x11), .long (lN (zBits P i)), .int (nI (zOff P i)), .int (nI (zLack P i)), .int (x15), .int (x16)]))) (hL : isL D M ro md bk (zC P i) g) (hW : zWok P nW) (hi : zLok P nW i) : CMv l D yX1_payRhyme cX1_payRhyme 2 6 0 0 M [.ref (la), .int (nI (zPaid P i))] (fun M' => M' = mset M la (.inr (2, [.int (x0), .int (nI (zF P i)), .int (x2), va_rf (pt), .ref (ro), .long (x5), .int (x6), .int (x7), .int (x8), .int (x9), .int (x10), .int (x11), .long (lN (zBits P i)), .int (nI (zOff P i)), .int (nI (zLack P i)), .int (nI (zPaid P i)), .int (nI (zTax P i))]))) := by
  have kp := zPaid_le P i
  have kt := pop_le 18 (zBits P i)
  have ko : zOff P i ≤ 18 := pop_le 18 _
  have kr := (zRm_le hi).1
  have kl : zLack P i ≤ 18 := by unfold zLack; omega
  have kb := zBits_lt hi
  have kc := hi.2.2.2.2.1
  refine rM (lv0 := [some (.ref (la)), some (.int (nI (zPaid P i)))]) (by decide) rfl rfl (Nat.le_of_ble_eq_true rfl) (fun P0 E0 S0 m0 as0 bl0 mt0 c0 A F hrt9 hnm => ?_)
  refine rg_aload_n F (pc := 0) dX1_payRhyme_0 rfl ?_
  refine rg_iload_n F (pc := 1) dX1_payRhyme_1 rfl ?_
  refine rg_put F (pc := 2) (ci := 2) (ty := tyX1 15) rfl inX1 tyX1 tyX1_ok nmX1 hm 15 (by decide) q288 (fun _ h9 => h9) rfl (tyX1_ok 15 (by decide)) rfl rfl (Nat.le_of_ble_eq_true rfl) dX1_payRhyme_2 ?_
  refine rg_mem (M2 := (mset M la (.inr (2, [.int (x0), .int (nI (zF P i)), .int (x2), va_rf (pt), .ref (ro), .long (x5), .int (x6), .int (x7), .int (x8), .int (x9), .int (x10), .int (x11), .long (lN (zBits P i)), .int (nI (zOff P i)), .int (nI (zLack P i)), .int (nI (zPaid P i)), .int (x16)])))) rfl ?_
  refine rg_aload_n F (pc := 5) dX1_payRhyme_5 rfl ?_
  refine rg_aload_n F (pc := 6) dX1_payRhyme_6 rfl ?_
  refine rg_get F (pc := 7) (ci := 2) rfl inX1 mset_eq 4 (by decide) q20 (fun _ h9 => h9) rfl dX1_payRhyme_7 ?_
  refine rg_callVi F (pc := 10) (As := []) (rest := [.ref (la)]) (ci := 0) (c_isEmpty l D _ ro md bk (zC P i) (mset_keep hL.1 (mne_ci hL.1 hm (by decide))) (by omega)) q291 vq_Jx4a65c_isEmpty_aae02 rfl (mset_keep hL.1 (mne_ci hL.1 hm (by decide))) rfl rfl (Nat.le_of_ble_eq_true rfl) (Nat.le_of_ble_eq_true rfl) (Nat.le_of_ble_eq_true rfl) ⟨(Nat.le_of_ble_eq_true rfl), (Nat.le_of_ble_eq_true rfl)⟩ dX1_payRhyme_10 (fun r9 M9 hp => ?_)
  refine rg_top (v2 := .int (nI ((decide (zC P i = 0)).toNat))) (by first | (rw [hp.1]; done) | (rw [hp.1]; rfl)) ?_
  refine rg_mem (M2 := (mset M la (.inr (2, [.int (x0), .int (nI (zF P i)), .int (x2), va_rf (pt), .ref (ro), .long (x5), .int (x6), .int (x7), .int (x8), .int (x9), .int (x10), .int (x11), .long (lN (zBits P i)), .int (nI (zOff P i)), .int (nI (zLack P i)), .int (nI (zPaid P i)), .int (x16)])))) hp.2 ?_
  refine rg_bif_eq F (pc := 13) (tgt := 23) dX1_payRhyme_13 (by decide) (fun c13 => ?_) (fun c13 => ?_)
  · refine rg_iconst F (pc := 23) (v := nI 0) dX1_payRhyme_23 (by decide) ?_
    refine rg_iconst F (pc := 24) (v := nI 2) dX1_payRhyme_24 (by decide) ?_
    refine rg_aload_n F (pc := 25) dX1_payRhyme_25 rfl ?_
    refine rg_get F (pc := 26) (ci := 2) rfl inX1 mset_eq 12 (by decide) q156 (fun _ h9 => h9) rfl dX1_payRhyme_26 ?_
    refine rg_callSi F (pc := 29) (As := [.long (lN (zBits P i))]) (rest := [.int (nI 2), .int (nI 0), .ref (la)]) (c_bitsL l D _ (zBits P i) kb) q184 sq_J13_bitCount_95d88 rfl rfl (Nat.le_of_ble_eq_true rfl) (Nat.le_of_ble_eq_true rfl) (Nat.le_of_ble_eq_true rfl) ⟨(Nat.le_of_ble_eq_true rfl), (Nat.le_of_ble_eq_true rfl)⟩ dX1_payRhyme_29 (fun r9 M9 hp => ?_)
    refine rg_top (v2 := .int (nI (pop 18 (zBits P i)))) (by first | (rw [hp.1]; done) | (rw [hp.1]; rfl)) ?_
    refine rg_mem (M2 := (mset M la (.inr (2, [.int (x0), .int (nI (zF P i)), .int (x2), va_rf (pt), .ref (ro), .long (x5), .int (x6), .int (x7), .int (x8), .int (x9), .int (x10), .int (x11), .long (lN (zBits P i)), .int (nI (zOff P i)), .int (nI (zLack P i)), .int (nI (zPaid P i)), .int (x16)])))) hp.2 ?_
    refine rg_imul F (pc := 32) (v := nI (2 * (pop 18 (zBits P i)))) dX1_payRhyme_32 (pk_mul _ _) ?_
    refine rg_iconst F (pc := 33) (v := nI 3) dX1_payRhyme_33 (by decide) ?_
    refine rg_aload_n F (pc := 34) dX1_payRhyme_34 rfl ?_
    refine rg_get F (pc := 35) (ci := 2) rfl inX1 mset_eq 13 (by decide) q157 (fun _ h9 => h9) rfl dX1_payRhyme_35 ?_
    refine rg_imul F (pc := 38) (v := nI (3 * (zOff P i))) dX1_payRhyme_38 (pk_mul _ _) ?_
    refine rg_iadd F (pc := 39) (v := nI ((2 * (pop 18 (zBits P i))) + (3 * (zOff P i)))) dX1_payRhyme_39 (nI_add _ _) ?_
    refine rg_iconst F (pc := 40) (v := nI 5) dX1_payRhyme_40 (by decide) ?_
    refine rg_aload_n F (pc := 41) dX1_payRhyme_41 rfl ?_
    refine rg_get F (pc := 42) (ci := 2) rfl inX1 mset_eq 14 (by decide) q158 (fun _ h9 => h9) rfl dX1_payRhyme_42 ?_
    refine rg_imul F (pc := 45) (v := nI (5 * (zLack P i))) dX1_payRhyme_45 (pk_mul _ _) ?_
    refine rg_iadd F (pc := 46) (v := nI (((2 * (pop 18 (zBits P i))) + (3 * (zOff P i))) + (5 * (zLack P i)))) dX1_payRhyme_46 (nI_add _ _) ?_
    refine rg_iconst F (pc := 47) (v := nI 4) dX1_payRhyme_47 (by decide) ?_
    refine rg_aload_n F (pc := 48) dX1_payRhyme_48 rfl ?_
    refine rg_get F (pc := 49) (ci := 2) rfl inX1 mset_eq 15 (by decide) q288 (fun _ h9 => h9) rfl dX1_payRhyme_49 ?_
    refine rg_imul F (pc := 52) (v := nI (4 * (zPaid P i))) dX1_payRhyme_52 (pk_mul _ _) ?_
    refine rg_isub F (pc := 53) (v := (nI (((2 * (pop 18 (zBits P i))) + (3 * (zOff P i))) + (5 * (zLack P i)))) - (nI (4 * (zPaid P i)))) dX1_payRhyme_53 rfl ?_
    refine rg_max F (pc := 54) (v := nI (2 * pop 18 (zBits P i) + 3 * zOff P i + 5 * zLack P i - 4 * zPaid P i)) q289 q64 q65 q66 (Nat.le_of_ble_eq_true rfl) (Nat.le_of_ble_eq_true rfl) ⟨(Nat.le_of_ble_eq_true rfl), (Nat.le_of_ble_eq_true rfl)⟩ (rn_max0 _ _ (by omega) (by omega)) dX1_payRhyme_54 ?_
    refine rg_top (v2 := .int (nI (zTax P i))) (by unfold zTax; rw [if_neg (of_decide_eq_false c13)]) ?_
    refine rg_put F (pc := 57) (ci := 2) (ty := tyX1 16) rfl inX1 tyX1 tyX1_ok nmX1 mset_eq 16 (by decide) q290 (fun _ h9 => h9) rfl (tyX1_ok 16 (by decide)) rfl rfl (Nat.le_of_ble_eq_true rfl) dX1_payRhyme_57 ?_
    refine rg_mem (M2 := (mset (mset M la (.inr (2, [.int (x0), .int (nI (zF P i)), .int (x2), va_rf (pt), .ref (ro), .long (x5), .int (x6), .int (x7), .int (x8), .int (x9), .int (x10), .int (x11), .long (lN (zBits P i)), .int (nI (zOff P i)), .int (nI (zLack P i)), .int (nI (zPaid P i)), .int (x16)]))) la (.inr (2, [.int (x0), .int (nI (zF P i)), .int (x2), va_rf (pt), .ref (ro), .long (x5), .int (x6), .int (x7), .int (x8), .int (x9), .int (x10), .int (x11), .long (lN (zBits P i)), .int (nI (zOff P i)), .int (nI (zLack P i)), .int (nI (zPaid P i)), .int (nI (zTax P i))])))) rfl ?_
    refine rg_mem (M2 := (mset M la (.inr (2, [.int (x0), .int (nI (zF P i)), .int (x2), va_rf (pt), .ref (ro), .long (x5), .int (x6), .int (x7), .int (x8), .int (x9), .int (x10), .int (x11), .long (lN (zBits P i)), .int (nI (zOff P i)), .int (nI (zLack P i)), .int (nI (zPaid P i)), .int (nI (zTax P i))])))) mset_mset ?_
    exact rg_vret F (pc := 60) hrt9 (by decide) (by decide) dX1_payRhyme_60 rfl
  · refine rg_aload_n F (pc := 16) dX1_payRhyme_16 rfl ?_
    refine rg_get F (pc := 17) (ci := 2) rfl inX1 mset_eq 1 (by decide) q14 (fun _ h9 => h9) rfl dX1_payRhyme_17 ?_
    refine rg_goto F (pc := 20) (tgt := 57) dX1_payRhyme_20 (by decide) ?_
    refine rg_top (v2 := .int (nI (zTax P i))) (by unfold zTax; rw [if_pos (of_decide_eq_true c13)]) ?_
    refine rg_put F (pc := 57) (ci := 2) (ty := tyX1 16) rfl inX1 tyX1 tyX1_ok nmX1 mset_eq 16 (by decide) q290 (fun _ h9 => h9) rfl (tyX1_ok 16 (by decide)) rfl rfl (Nat.le_of_ble_eq_true rfl) dX1_payRhyme_57 ?_
    refine rg_mem (M2 := (mset (mset M la (.inr (2, [.int (x0), .int (nI (zF P i)), .int (x2), va_rf (pt), .ref (ro), .long (x5), .int (x6), .int (x7), .int (x8), .int (x9), .int (x10), .int (x11), .long (lN (zBits P i)), .int (nI (zOff P i)), .int (nI (zLack P i)), .int (nI (zPaid P i)), .int (x16)]))) la (.inr (2, [.int (x0), .int (nI (zF P i)), .int (x2), va_rf (pt), .ref (ro), .long (x5), .int (x6), .int (x7), .int (x8), .int (x9), .int (x10), .int (x11), .long (lN (zBits P i)), .int (nI (zOff P i)), .int (nI (zLack P i)), .int (nI (zPaid P i)), .int (nI (zTax P i))])))) rfl ?_
    refine rg_mem (M2 := (mset M la (.inr (2, [.int (x0), .int (nI (zF P i)), .int (x2), va_rf (pt), .ref (ro), .long (x5), .int (x6), .int (x7), .int (x8), .int (x9), .int (x10), .int (x11), .long (lN (zBits P i)), .int (nI (zOff P i)), .int (nI (zLack P i)), .int (nI (zPaid P i)), .int (nI (zTax P i))])))) mset_mset ?_
    exact rg_vret F (pc := 60) hrt9 (by decide) (by decide) dX1_payRhyme_60 rfl
