theorem zWi_le (P : Poem) (nW nL i : Nat) (s : Nat × Int32) : ∀ p, (zWi P nW nL i s p).1 ≤ s.1
  | 0 => Nat.le_refl _
  | p + 1 => by
    have h := zWi_le P nW nL i s p
    show (zWs P nW nL i p (zWi P nW nL i s p)).1 ≤ s.1
    unfold zWs
    split
    · dsimp only
      omega
    · exact h
theorem zWo_le (P : Poem) (nW nL : Nat) : ∀ i, (zWo P nW nL i).1 ≤ zAll P nL
  | 0 => Nat.le_refl _
  | i + 1 => Nat.le_trans (zWi_le P nW nL i _ _) (zWo_le P nW nL i)
theorem zBest_lt {P : Poem} {nW nL i p : Nat} (hP : zOk P nW nL) (hi : i < nL) (hp : p < zC P i) : zBest P i p nL nW < nW := (zBst_le hP hi hp ((hP.2.2 i hi).2.2.2.2.2 p hp) nW (Nat.le_refl _)).2
def zScn (P : Poem) (nL i : Nat) : Nat → Nat × Nat
  | 0 => (zFlt P nL i 0, 0)
  | m + 1 => if zFlt P nL i (m + 1) < (zScn P nL i m).1 then (zFlt P nL i (m + 1), m + 1) else zScn P nL i m
theorem zScn_le {P : Poem} {nW nL i : Nat} (hi : zLok P nW i) : ∀ m, (zScn P nL i m).1 ≤ 40 ∧ (zScn P nL i m).2 ≤ m
  | 0 => ⟨zFlt_le hi nL 0, Nat.le_refl _⟩
  | m + 1 => by
    obtain ⟨h1, h2⟩ := zScn_le (nL := nL) hi m
    have h3 := zFlt_le hi nL (m + 1)
    unfold zScn
    split
    · exact ⟨h3, Nat.le_refl _⟩
    · exact ⟨h1, by omega⟩
set_option maxHeartbeats 4000000 in
set_option maxRecDepth 100000 in
theorem c_tries (l : Launch) (D : va_G) (M : rMem) (x : Nat) (P : Poem) (nW nL : Nat) (u : Nat → Nat → Nat) (i p w : Nat) (hV : cV D M x P nW nL u) (hi : i < nL) (hp9 : p < zC P i) (hw : w < nW) : CMi l D yX3_tries cX3_tries 5 ((some .int)) 10 0 0 M [.ref (x), .int (nI i), .int (nI p), .int (nI w)] (fun r M' => r = nI (zTry P i p w nL) ∧ cV D M' x P nW nL u) := by
  refine rM (lv0 := [some (.ref (x)), some (.int (nI i)), some (.int (nI p)), some (.int (nI w)), none]) (by decide) rfl rfl (Nat.le_of_ble_eq_true rfl) (fun P0 E0 S0 m0 as0 bl0 mt0 c0 A F hrt9 hnm => ?_)
  have hO := cV_see hV
  obtain ⟨mdw, hLw⟩ := hO.2.2.1
  obtain ⟨mdl, hLl⟩ := hO.2.2.2.1
  have hn30 := hO.1.1.1
  have hn10 := hO.1.2.1
  have hzr := (hO.1.2.2 i hi).2.2.2.2.2 p hp9
  refine rg_aload_n F (pc := 0) dX3_tries_0 rfl ?_
  refine rg_iload_n F (pc := 1) dX3_tries_1 rfl ?_
  refine rg_callVq F (pc := 2) (As := [.int (nI i)]) (rest := []) (ci := 4) (c_nlV l D _ x P nW nL u i hV (by omega)) q312 vq_X3_neededLine rfl hO.2.1 rfl rfl (Nat.le_of_ble_eq_true rfl) (Nat.le_of_ble_eq_true rfl) (Nat.le_of_ble_eq_true rfl) ⟨(Nat.le_of_ble_eq_true rfl), (Nat.le_of_ble_eq_true rfl)⟩ dX3_tries_2 (fun r9 M9 hp => ?_)
  refine rg_top (v2 := .ref (la u i)) (by rw [hp.1]; rfl) ?_
  refine rg_mem (M2 := M) hp.2 ?_
  refine rg_iload_n F (pc := 5) dX3_tries_5 rfl ?_
  refine rg_callSq F (pc := 6) (As := [.ref (la u i), .int (nI p)]) (rest := []) (c_nwoV l D _ x P nW nL u i p hV hi hp9) q327 sq_X3_neededWordOf rfl rfl (Nat.le_of_ble_eq_true rfl) (Nat.le_of_ble_eq_true rfl) (Nat.le_of_ble_eq_true rfl) ⟨(Nat.le_of_ble_eq_true rfl), (Nat.le_of_ble_eq_true rfl)⟩ dX3_tries_6 (fun r9 M9 hp => ?_)
  refine rg_top (v2 := .ref (wa u (zR P i p))) (by rw [hp.1]; rfl) ?_
  refine rg_mem (M2 := M) hp.2 ?_
  refine rg_astore F (pc := 9) (lv' := [some (.ref (x)), some (.int (nI i)), some (.int (nI p)), some (.int (nI w)), some (.ref (wa u (zR P i p)))]) dX3_tries_9 (Nat.le_of_ble_eq_true rfl) rfl ?_
  refine rg_aload_n F (pc := 11) dX3_tries_11 rfl ?_
  refine rg_iload_n F (pc := 12) dX3_tries_12 rfl ?_
  refine rg_iload_n F (pc := 13) dX3_tries_13 rfl ?_
  refine rg_aload_n F (pc := 14) dX3_tries_14 rfl ?_
  refine rg_iload_n F (pc := 15) dX3_tries_15 rfl ?_
  refine rg_callVq F (pc := 16) (As := [.int (nI w)]) (rest := [.int (nI p), .int (nI i), .ref (x)]) (ci := 4) (c_nwV l D _ x P nW nL u w hV (by omega)) q253 vq_X3_neededWord rfl hO.2.1 rfl rfl (Nat.le_of_ble_eq_true rfl) (Nat.le_of_ble_eq_true rfl) (Nat.le_of_ble_eq_true rfl) ⟨(Nat.le_of_ble_eq_true rfl), (Nat.le_of_ble_eq_true rfl)⟩ dX3_tries_16 (fun r9 M9 hp => ?_)
  refine rg_top (v2 := .ref (wa u w)) (by rw [hp.1]; rfl) ?_
  refine rg_mem (M2 := M) hp.2 ?_
  refine rg_aload F (pc := 19) dX3_tries_19 rfl ?_
  refine rg_callVi F (pc := 21) (As := [.int (nI i), .int (nI p), .ref (wa u w), .ref (wa u (zR P i p))]) (rest := []) (ci := 4) (c_tw l D _ x P nW nL u i p w hV hi hp9 hw) q364 vq_X3_taxesWith rfl hO.2.1 rfl rfl (Nat.le_of_ble_eq_true rfl) (Nat.le_of_ble_eq_true rfl) (Nat.le_of_ble_eq_true rfl) ⟨(Nat.le_of_ble_eq_true rfl), (Nat.le_of_ble_eq_true rfl)⟩ dX3_tries_21 (fun r9 M2 hp => ?_)
  refine rg_top (v2 := .int (nI (zTry P i p w nL))) (by rw [hp.1]) ?_
  exact rg_iret F (pc := 24) hrt9 (by decide) (by decide) dX3_tries_24 ⟨rfl, hp.2⟩
set_option maxHeartbeats 4000000 in
set_option maxRecDepth 100000 in
theorem c_best (l : Launch) (D : va_G) (M : rMem) (x : Nat) (P : Poem) (nW nL : Nat) (u : Nat → Nat → Nat) (i p : Nat) (hV : cV D M x P nW nL u) (hi : i < nL) (hp9 : p < zC P i) : CMi l D yX3_best cX3_best 4 ((some .int)) 10 0 0 M [.ref (x), .int (nI i), .int (nI p)] (fun r M' => r = nI (zBest P i p nL nW) ∧ cV D M' x P nW nL u) := by
  refine rM (lv0 := [some (.ref (x)), some (.int (nI i)), some (.int (nI p)), none]) (by decide) rfl rfl (Nat.le_of_ble_eq_true rfl) (fun P0 E0 S0 m0 as0 bl0 mt0 c0 A F hrt9 hnm => ?_)
  have hO := cV_see hV
  obtain ⟨mdw, hLw⟩ := hO.2.2.1
  obtain ⟨mdl, hLl⟩ := hO.2.2.2.1
  have hn30 := hO.1.1.1
  have hn10 := hO.1.2.1
  have hzr := (hO.1.2.2 i hi).2.2.2.2.2 p hp9
  refine rg_aload_n F (pc := 0) dX3_best_0 rfl ?_
  refine rg_iload_n F (pc := 1) dX3_best_1 rfl ?_
  refine rg_callVq F (pc := 2) (As := [.int (nI i)]) (rest := []) (ci := 4) (c_nlV l D _ x P nW nL u i hV (by omega)) q312 vq_X3_neededLine rfl hO.2.1 rfl rfl (Nat.le_of_ble_eq_true rfl) (Nat.le_of_ble_eq_true rfl) (Nat.le_of_ble_eq_true rfl) ⟨(Nat.le_of_ble_eq_true rfl), (Nat.le_of_ble_eq_true rfl)⟩ dX3_best_2 (fun r9 M9 hp => ?_)
  refine rg_top (v2 := .ref (la u i)) (by rw [hp.1]; rfl) ?_
  refine rg_mem (M2 := M) hp.2 ?_
  refine rg_iload_n F (pc := 5) dX3_best_5 rfl ?_
  refine rg_callSq F (pc := 6) (As := [.ref (la u i), .int (nI p)]) (rest := []) (c_nwoV l D _ x P nW nL u i p hV hi hp9) q327 sq_X3_neededWordOf rfl rfl (Nat.le_of_ble_eq_true rfl) (Nat.le_of_ble_eq_true rfl) (Nat.le_of_ble_eq_true rfl) ⟨(Nat.le_of_ble_eq_true rfl), (Nat.le_of_ble_eq_true rfl)⟩ dX3_best_6 (fun r9 M9 hp => ?_)
  refine rg_top (v2 := .ref (wa u (zR P i p))) (by rw [hp.1]; rfl) ?_
  refine rg_mem (M2 := M) hp.2 ?_
  refine rg_astore_n F (pc := 9) (lv' := [some (.ref (x)), some (.int (nI i)), some (.int (nI p)), some (.ref (wa u (zR P i p)))]) dX3_best_9 (Nat.le_of_ble_eq_true rfl) rfl ?_
  refine rg_aload_n F (pc := 10) dX3_best_10 rfl ?_
  refine rg_iload_n F (pc := 11) dX3_best_11 rfl ?_
  refine rg_iload_n F (pc := 12) dX3_best_12 rfl ?_
  refine rg_aload_n F (pc := 13) dX3_best_13 rfl ?_
  refine rg_callVq F (pc := 14) (As := [.int (nI i), .int (nI p), .ref (wa u (zR P i p))]) (rest := []) (ci := 4) (c_bw l D _ x P nW nL u i p hV hi hp9) q369 vq_X3_bestWord rfl hO.2.1 rfl rfl (Nat.le_of_ble_eq_true rfl) (Nat.le_of_ble_eq_true rfl) (Nat.le_of_ble_eq_true rfl) ⟨(Nat.le_of_ble_eq_true rfl), (Nat.le_of_ble_eq_true rfl)⟩ dX3_best_14 (fun r9 M2 hp => ?_)
  refine rg_top (v2 := .ref (wa u (zBest P i p nL nW))) (by rw [hp.1]; rfl) ?_
  have hO2 := cV_see hp.2
  obtain ⟨mdw2, hLw2⟩ := hO2.2.2.1
  obtain ⟨mdl2, hLl2⟩ := hO2.2.2.2.1
  have hn302 := hO2.1.1.1
  have hn102 := hO2.1.2.1
  refine rg_get F (pc := 17) (ci := 3) rfl inX2 (hO2.2.2.2.2.1 _ (zBest_lt hO.1 hi hp9)) 0 (by decide) q219 (fun _ h9 => h9) rfl dX3_best_17 ?_
  exact rg_iret F (pc := 20) hrt9 (by decide) (by decide) dX3_best_20 ⟨rfl, hp.2⟩
set_option maxHeartbeats 4000000 in
set_option maxRecDepth 100000 in
theorem c_worst (l : Launch) (D : va_G) (M : rMem) (x : Nat) (P : Poem) (nW nL : Nat) (u : Nat → Nat → Nat) (hV : cV D M x P nW nL u) : CMi l D yX3_worst cX3_worst 8 ((some .int)) 10 0 0 M [.ref (x)] (fun r M' => r = (zWo P nW nL nL).2 ∧ cV D M' x P nW nL u) := by
  refine rM (lv0 := [some (.ref (x)), none, none, none, none, none, none, none]) (by decide) rfl rfl (Nat.le_of_ble_eq_true rfl) (fun P0 E0 S0 m0 as0 bl0 mt0 c0 A F hrt9 hnm => ?_)
  have hO := cV_see hV
  obtain ⟨mdw, hLw⟩ := hO.2.2.1
  obtain ⟨mdl, hLl⟩ := hO.2.2.2.1
  have hn30 := hO.1.1.1
  have hn10 := hO.1.2.1
  have hal := zAll_le hO.1 nL (Nat.le_refl _)
  refine rg_iconst F (pc := 0) (v := (-1)) dX3_worst_0 (by decide) ?_
  refine rg_istore_n F (pc := 1) (lv' := [some (.ref (x)), some (.int ((-1))), none, none, none, none, none, none]) dX3_worst_1 (Nat.le_of_ble_eq_true rfl) rfl ?_
  refine rg_aload_n F (pc := 2) dX3_worst_2 rfl ?_
  refine rg_callVi F (pc := 3) (As := []) (rest := []) (ci := 4) (c_allV l D _ x P nW nL u hV) q352 vq_X3_allTaxes rfl hO.2.1 rfl rfl (Nat.le_of_ble_eq_true rfl) (Nat.le_of_ble_eq_true rfl) (Nat.le_of_ble_eq_true rfl) ⟨(Nat.le_of_ble_eq_true rfl), (Nat.le_of_ble_eq_true rfl)⟩ dX3_worst_3 (fun r9 M9 hp => ?_)
  refine rg_top (v2 := .int (nI (zAll P nL))) (by first | (rw [hp.1]; done) | (rw [hp.1]; rfl)) ?_
  refine rg_mem (M2 := M) hp.2 ?_
  refine rg_istore_n F (pc := 6) (lv' := [some (.ref (x)), some (.int ((-1))), some (.int (nI (zAll P nL))), none, none, none, none, none]) dX3_worst_6 (Nat.le_of_ble_eq_true rfl) rfl ?_
  refine rg_iconst F (pc := 7) (v := nI 0) dX3_worst_7 (by decide) ?_
  refine rg_istore_n F (pc := 8) (lv' := [some (.ref (x)), some (.int ((-1))), some (.int (nI (zAll P nL))), some (.int (nI 0)), none, none, none, none]) dX3_worst_8 (Nat.le_of_ble_eq_true rfl) rfl ?_
  refine rg_eq (lv2 := [some (.ref (x)), some (.int ((zWo P nW nL 0).2)), some (.int (nI ((zWo P nW nL 0).1))), some (.int (nI 0)), none, none, none, none]) (st2 := []) (pc2 := 9) rfl rfl rfl ?_
  suffices L0 : ∀ (d9 : Nat) (i : Nat) (M1 : rMem), nL - i < d9 → (i ≤ nL) → (cV D M1 x P nW nL u) → rG P0 l E0 (rR 10 0 0) S0 m0 as0 bl0 mt0 c0 D A 8 (MQ bl0 (va_Qi (fun r M' => r = (zWo P nW nL nL).2 ∧ cV D M' x P nW nL u) (cB D A) A) as0 S0 0 0 A) M1 0 0 [some (.ref (x)), some (.int ((zWo P nW nL i).2)), some (.int (nI ((zWo P nW nL i).1))), some (.int (nI i)), none, none, none, none] 9 [] from L0 _ 0 _ (Nat.lt_succ_self _) (Nat.zero_le _) hV
  intro d9
  induction d9 with
  | zero => intro i M1 hd9; exact absurd hd9 (Nat.not_lt_zero _)
  | succ d9 ih =>
    intro i M1 hd9 hi1 hV1
    have hO1 := cV_see hV1
    obtain ⟨mdw1, hLw1⟩ := hO1.2.2.1
    obtain ⟨mdl1, hLl1⟩ := hO1.2.2.2.1
    have hn301 := hO1.1.1.1
    have hn101 := hO1.1.2.1
    have hwo := zWo_le P nW nL i
    refine rg_iload_n F (pc := 9) dX3_worst_9 rfl ?_
    refine rg_aload_n F (pc := 10) dX3_worst_10 rfl ?_
    refine rg_get F (pc := 11) (ci := 4) rfl inX3 hO1.2.1 1 (by decide) q203 (fun _ h9 => h9) rfl dX3_worst_11 ?_
    refine rg_callVi F (pc := 14) (As := []) (rest := [.int (nI i)]) (ci := 0) (c_size l D _ (gl u) mdl1 (gbl u) nL hLl1.1) q221 vq_Jx4a65c_size_8abf5 rfl hLl1.1 rfl rfl (Nat.le_of_ble_eq_true rfl) (Nat.le_of_ble_eq_true rfl) (Nat.le_of_ble_eq_true rfl) ⟨(Nat.le_of_ble_eq_true rfl), (Nat.le_of_ble_eq_true rfl)⟩ dX3_worst_14 (fun r9 M9 hp => ?_)
    refine rg_top (v2 := .int (nI nL)) (by first | (rw [hp.1]; done) | (rw [hp.1]; rfl)) ?_
    refine rg_mem (M2 := M1) hp.2 ?_
    refine rg_ncmp_ge F (pc := 17) (tgt := 113) dX3_worst_17 (by decide) (by omega) (by omega) (fun c17 => ?_) (fun c17 => ?_)
    · refine rg_iload_n F (pc := 113) dX3_worst_113 rfl ?_
      have e9 : i = nL := by omega
      exact rg_iret F (pc := 114) hrt9 (by decide) (by decide) dX3_worst_114 ⟨by rw [e9], hV1⟩
    · refine rg_aload_n F (pc := 20) dX3_worst_20 rfl ?_
      refine rg_get F (pc := 21) (ci := 4) rfl inX3 hO1.2.1 1 (by decide) q203 (fun _ h9 => h9) rfl dX3_worst_21 ?_
      refine rg_iload_n F (pc := 24) dX3_worst_24 rfl ?_
      refine rg_callVq F (pc := 25) (As := [.int (nI i)]) (rest := []) (ci := 0) (c_lget l D _ (gl u) mdl1 (gbl u) nL (la u) i hLl1 (by omega)) q237 vq_Jx4a65c_get_915e3 rfl hLl1.1 rfl rfl (Nat.le_of_ble_eq_true rfl) (Nat.le_of_ble_eq_true rfl) (Nat.le_of_ble_eq_true rfl) ⟨(Nat.le_of_ble_eq_true rfl), (Nat.le_of_ble_eq_true rfl)⟩ dX3_worst_25 (fun r9 M9 hp => ?_)
      refine rg_top (v2 := .ref (la u i)) (by rw [hp.1]; rfl) ?_
      refine rg_mem (M2 := M1) hp.2 ?_
      refine rg_cast F (pc := 28) (ci := 2) rfl (hO1.2.2.2.2.2.2.1 i (by omega)) q295 dX3_worst_28 ?_
      refine rg_astore F (pc := 31) (lv' := [some (.ref (x)), some (.int ((zWo P nW nL i).2)), some (.int (nI ((zWo P nW nL i).1))), some (.int (nI i)), some (.ref (la u i)), none, none, none]) dX3_worst_31 (Nat.le_of_ble_eq_true rfl) rfl ?_
      refine rg_iconst F (pc := 33) (v := nI 0) dX3_worst_33 (by decide) ?_
      refine rg_istore F (pc := 34) (lv' := [some (.ref (x)), some (.int ((zWo P nW nL i).2)), some (.int (nI ((zWo P nW nL i).1))), some (.int (nI i)), some (.ref (la u i)), some (.int (nI 0)), none, none]) dX3_worst_34 (Nat.le_of_ble_eq_true rfl) rfl ?_
      refine rg_eq (lv2 := [some (.ref (x)), some (.int ((zWi P nW nL i (zWo P nW nL i) 0).2)), some (.int (nI ((zWi P nW nL i (zWo P nW nL i) 0).1))), some (.int (nI i)), some (.ref (la u i)), some (.int (nI 0)), none, none]) (st2 := []) (pc2 := 36) rfl rfl rfl ?_
      suffices L1 : ∀ (d9 : Nat) (p : Nat) (M2 : rMem), zC P i - p < d9 → (p ≤ zC P i) → (cV D M2 x P nW nL u) → rG P0 l E0 (rR 10 0 0) S0 m0 as0 bl0 mt0 c0 D A 8 (MQ bl0 (va_Qi (fun r M' => r = (zWo P nW nL nL).2 ∧ cV D M' x P nW nL u) (cB D A) A) as0 S0 0 0 A) M2 0 0 [some (.ref (x)), some (.int ((zWi P nW nL i (zWo P nW nL i) p).2)), some (.int (nI ((zWi P nW nL i (zWo P nW nL i) p).1))), some (.int (nI i)), some (.ref (la u i)), some (.int (nI p)), none, none] 36 [] from L1 _ 0 _ (Nat.lt_succ_self _) (Nat.zero_le _) hV1
      intro d9
      induction d9 with
      | zero => intro p M2 hd9; exact absurd hd9 (Nat.not_lt_zero _)
      | succ d9 ih2 =>
        intro p M2 hd9 hp1 hV2
        have hO2 := cV_see hV2
        obtain ⟨mdw2, hLw2⟩ := hO2.2.2.1
        obtain ⟨mdl2, hLl2⟩ := hO2.2.2.2.1
        have hn302 := hO2.1.1.1
        have hn102 := hO2.1.2.1
        have hi : i < nL := by omega
        obtain ⟨bkr, mdr, hrr⟩ := hO2.2.2.2.2.2.1 i (by omega)
        have hwi := zWi_le P nW nL i (zWo P nW nL i) p
        have hz8 := (hO.1.2.2 i hi).2.2.2.2.1
        refine rg_iload F (pc := 36) dX3_worst_36 rfl ?_
        refine rg_aload F (pc := 38) dX3_worst_38 rfl ?_
        refine rg_get F (pc := 40) (ci := 2) rfl inX1 (hO2.2.2.2.2.2.2.1 i (by omega)) 4 (by decide) q311 (fun _ h9 => h9) rfl dX3_worst_40 ?_
        refine rg_callVi F (pc := 43) (As := []) (rest := [.int (nI p)]) (ci := 0) (c_size l D _ (ra u i) mdr bkr (zC P i) hrr.1) q221 vq_Jx4a65c_size_8abf5 rfl hrr.1 rfl rfl (Nat.le_of_ble_eq_true rfl) (Nat.le_of_ble_eq_true rfl) (Nat.le_of_ble_eq_true rfl) ⟨(Nat.le_of_ble_eq_true rfl), (Nat.le_of_ble_eq_true rfl)⟩ dX3_worst_43 (fun r9 M9 hp => ?_)
        refine rg_top (v2 := .int (nI (zC P i))) (by first | (rw [hp.1]; done) | (rw [hp.1]; rfl)) ?_
        refine rg_mem (M2 := M2) hp.2 ?_
        refine rg_ncmp_ge F (pc := 46) (tgt := 107) dX3_worst_46 (by decide) (by omega) (by omega) (fun c46 => ?_) (fun c46 => ?_)
        · have e8 : p = zC P i := by omega
          subst e8
          refine rg_eq (lv2 := [some (.ref (x)), some (.int ((zWo P nW nL (i + 1)).2)), some (.int (nI ((zWo P nW nL (i + 1)).1))), some (.int (nI i)), some (.ref (la u i)), some (.int (nI (zC P i))), none, none]) (st2 := []) (pc2 := 107) rfl rfl rfl ?_
          refine rg_sub (lv' := [some (.ref (x)), some (.int ((zWo P nW nL (i + 1)).2)), some (.int (nI ((zWo P nW nL (i + 1)).1))), some (.int (nI i)), none, none, none, none]) (by repeat' constructor) ?_
          refine rg_iinc F (pc := 107) (v := nI (i + 1)) (lv' := [some (.ref (x)), some (.int ((zWo P nW nL (i + 1)).2)), some (.int (nI ((zWo P nW nL (i + 1)).1))), some (.int (nI (i + 1))), none, none, none, none]) dX3_worst_107 rfl (nI_add _ 1) (Nat.le_of_ble_eq_true rfl) rfl ?_
          refine rg_goto F (pc := 110) (tgt := 9) dX3_worst_110 (by decide) ?_
          exact ih (i + 1) _ (by omega) (by omega) hV2
        · refine rg_aload F (pc := 49) dX3_worst_49 rfl ?_
          refine rg_get F (pc := 51) (ci := 2) rfl inX1 (hO2.2.2.2.2.2.2.1 i (by omega)) 4 (by decide) q311 (fun _ h9 => h9) rfl dX3_worst_51 ?_
          refine rg_iload F (pc := 54) dX3_worst_54 rfl ?_
          refine rg_callVq F (pc := 56) (As := [.int (nI p)]) (rest := []) (ci := 0) (c_lget l D _ (ra u i) mdr bkr (zC P i) ((fun j => wa u (zR P i j))) p hrr (by omega)) q237 vq_Jx4a65c_get_915e3 rfl hrr.1 rfl rfl (Nat.le_of_ble_eq_true rfl) (Nat.le_of_ble_eq_true rfl) (Nat.le_of_ble_eq_true rfl) ⟨(Nat.le_of_ble_eq_true rfl), (Nat.le_of_ble_eq_true rfl)⟩ dX3_worst_56 (fun r9 M9 hp => ?_)
          refine rg_top (v2 := .ref ((fun j => wa u (zR P i j)) p)) (by rw [hp.1]; rfl) ?_
          refine rg_mem (M2 := M2) hp.2 ?_
          have hp9 : p < zC P i := by omega
          have hzr := (hO.1.2.2 i hi).2.2.2.2.2 p hp9
          refine rg_cast F (pc := 59) (ci := 3) rfl (hO2.2.2.2.2.1 _ hzr) q232 dX3_worst_59 ?_
          refine rg_astore F (pc := 62) (lv' := [some (.ref (x)), some (.int ((zWi P nW nL i (zWo P nW nL i) p).2)), some (.int (nI ((zWi P nW nL i (zWo P nW nL i) p).1))), some (.int (nI i)), some (.ref (la u i)), some (.int (nI p)), some (.ref ((fun j => wa u (zR P i j)) p)), none]) dX3_worst_62 (Nat.le_of_ble_eq_true rfl) rfl ?_
          refine rg_aload_n F (pc := 64) dX3_worst_64 rfl ?_
          refine rg_iload_n F (pc := 65) dX3_worst_65 rfl ?_
          refine rg_iload F (pc := 66) dX3_worst_66 rfl ?_
          refine rg_aload_n F (pc := 68) dX3_worst_68 rfl ?_
          refine rg_iload_n F (pc := 69) dX3_worst_69 rfl ?_
          refine rg_iload F (pc := 70) dX3_worst_70 rfl ?_
          refine rg_aload F (pc := 72) dX3_worst_72 rfl ?_
          refine rg_callVq F (pc := 74) (As := [.int (nI i), .int (nI p), .ref ((fun j => wa u (zR P i j)) p)]) (rest := [.int (nI p), .int (nI i), .ref (x)]) (ci := 4) (c_bw l D _ x P nW nL u i p hV2 hi hp9) q369 vq_X3_bestWord rfl hO2.2.1 rfl rfl (Nat.le_of_ble_eq_true rfl) (Nat.le_of_ble_eq_true rfl) (Nat.le_of_ble_eq_true rfl) ⟨(Nat.le_of_ble_eq_true rfl), (Nat.le_of_ble_eq_true rfl)⟩ dX3_worst_74 (fun r9 M3 hp => ?_)
          refine rg_top (v2 := .ref (wa u (zBest P i p nL nW))) (by rw [hp.1]; rfl) ?_
          have hO3 := cV_see hp.2
          obtain ⟨mdw3, hLw3⟩ := hO3.2.2.1
          obtain ⟨mdl3, hLl3⟩ := hO3.2.2.2.1
          have hn303 := hO3.1.1.1
          have hn103 := hO3.1.2.1
          refine rg_aload F (pc := 77) dX3_worst_77 rfl ?_
          refine rg_callVi F (pc := 79) (As := [.int (nI i), .int (nI p), .ref (wa u (zBest P i p nL nW)), .ref ((fun j => wa u (zR P i j)) p)]) (rest := []) (ci := 4) (c_tw l D _ x P nW nL u i p (zBest P i p nL nW) hp.2 hi hp9 (zBest_lt hO.1 hi hp9)) q364 vq_X3_taxesWith rfl hO3.2.1 rfl rfl (Nat.le_of_ble_eq_true rfl) (Nat.le_of_ble_eq_true rfl) (Nat.le_of_ble_eq_true rfl) ⟨(Nat.le_of_ble_eq_true rfl), (Nat.le_of_ble_eq_true rfl)⟩ dX3_worst_79 (fun r9 M4 hq => ?_)
          refine rg_top (v2 := .int (nI (zTry P i p (zBest P i p nL nW) nL))) (by rw [hq.1]) ?_
          have htr : zTry P i p (zBest P i p nL nW) nL ≤ 2000 := zTry_le hO.1 hi hp9 (zBest_lt hO.1 hi hp9)
          refine rg_istore F (pc := 82) (lv' := [some (.ref (x)), some (.int ((zWi P nW nL i (zWo P nW nL i) p).2)), some (.int (nI ((zWi P nW nL i (zWo P nW nL i) p).1))), some (.int (nI i)), some (.ref (la u i)), some (.int (nI p)), some (.ref ((fun j => wa u (zR P i j)) p)), some (.int (nI (zTry P i p (zBest P i p nL nW) nL)))]) dX3_worst_82 (Nat.le_of_ble_eq_true rfl) rfl ?_
          refine rg_iload F (pc := 84) dX3_worst_84 rfl ?_
          refine rg_iload_n F (pc := 86) dX3_worst_86 rfl ?_
          refine rg_ncmp_ge F (pc := 87) (tgt := 101) dX3_worst_87 (by decide) (by omega) (by omega) (fun c87 => ?_) (fun c87 => ?_)
          · have eb : (zWi P nW nL i (zWo P nW nL i) (p + 1)) = (zWi P nW nL i (zWo P nW nL i) p) := if_neg (by omega)
            refine rg_eq (lv2 := [some (.ref (x)), some (.int ((zWi P nW nL i (zWo P nW nL i) (p + 1)).2)), some (.int (nI ((zWi P nW nL i (zWo P nW nL i) (p + 1)).1))), some (.int (nI i)), some (.ref (la u i)), some (.int (nI p)), some (.ref ((fun j => wa u (zR P i j)) p)), some (.int (nI (zTry P i p (zBest P i p nL nW) nL)))]) (st2 := []) (pc2 := 101) (by rw [eb]) rfl rfl ?_
            refine rg_sub (lv' := [some (.ref (x)), some (.int ((zWi P nW nL i (zWo P nW nL i) (p + 1)).2)), some (.int (nI ((zWi P nW nL i (zWo P nW nL i) (p + 1)).1))), some (.int (nI i)), some (.ref (la u i)), some (.int (nI p)), none, none]) (by repeat' constructor) ?_
            refine rg_iinc F (pc := 101) (v := nI (p + 1)) (lv' := [some (.ref (x)), some (.int ((zWi P nW nL i (zWo P nW nL i) (p + 1)).2)), some (.int (nI ((zWi P nW nL i (zWo P nW nL i) (p + 1)).1))), some (.int (nI i)), some (.ref (la u i)), some (.int (nI (p + 1))), none, none]) dX3_worst_101 rfl (nI_add _ 1) (Nat.le_of_ble_eq_true rfl) rfl ?_
            refine rg_goto F (pc := 104) (tgt := 36) dX3_worst_104 (by decide) ?_
            exact ih2 (p + 1) _ (by omega) (by omega) hq.2
          · refine rg_iload F (pc := 90) dX3_worst_90 rfl ?_
            refine rg_istore_n F (pc := 92) (lv' := [some (.ref (x)), some (.int ((zWi P nW nL i (zWo P nW nL i) p).2)), some (.int (nI (zTry P i p (zBest P i p nL nW) nL))), some (.int (nI i)), some (.ref (la u i)), some (.int (nI p)), some (.ref ((fun j => wa u (zR P i j)) p)), some (.int (nI (zTry P i p (zBest P i p nL nW) nL)))]) dX3_worst_92 (Nat.le_of_ble_eq_true rfl) rfl ?_
            refine rg_bipush F (pc := 93) (v := nI 10) dX3_worst_93 (by decide) ?_
            refine rg_iload_n F (pc := 95) dX3_worst_95 rfl ?_
            refine rg_imul F (pc := 96) (v := nI (10 * i)) dX3_worst_96 (pk_mul _ _) ?_
            refine rg_iload F (pc := 97) dX3_worst_97 rfl ?_
            refine rg_iadd F (pc := 99) (v := nI ((10 * i) + p)) dX3_worst_99 (nI_add _ _) ?_
            refine rg_istore_n F (pc := 100) (lv' := [some (.ref (x)), some (.int (nI ((10 * i) + p))), some (.int (nI (zTry P i p (zBest P i p nL nW) nL))), some (.int (nI i)), some (.ref (la u i)), some (.int (nI p)), some (.ref ((fun j => wa u (zR P i j)) p)), some (.int (nI (zTry P i p (zBest P i p nL nW) nL)))]) dX3_worst_100 (Nat.le_of_ble_eq_true rfl) rfl ?_
            have eb : (zWi P nW nL i (zWo P nW nL i) (p + 1)) = (zTry P i p (zBest P i p nL nW) nL, nI (10 * i + p)) := if_pos (by omega)
            refine rg_eq (lv2 := [some (.ref (x)), some (.int ((zWi P nW nL i (zWo P nW nL i) (p + 1)).2)), some (.int (nI ((zWi P nW nL i (zWo P nW nL i) (p + 1)).1))), some (.int (nI i)), some (.ref (la u i)), some (.int (nI p)), some (.ref ((fun j => wa u (zR P i j)) p)), some (.int (nI (zTry P i p (zBest P i p nL nW) nL)))]) (st2 := []) (pc2 := 101) (by rw [eb]) rfl rfl ?_
            refine rg_sub (lv' := [some (.ref (x)), some (.int ((zWi P nW nL i (zWo P nW nL i) (p + 1)).2)), some (.int (nI ((zWi P nW nL i (zWo P nW nL i) (p + 1)).1))), some (.int (nI i)), some (.ref (la u i)), some (.int (nI p)), none, none]) (by repeat' constructor) ?_
            refine rg_iinc F (pc := 101) (v := nI (p + 1)) (lv' := [some (.ref (x)), some (.int ((zWi P nW nL i (zWo P nW nL i) (p + 1)).2)), some (.int (nI ((zWi P nW nL i (zWo P nW nL i) (p + 1)).1))), some (.int (nI i)), some (.ref (la u i)), some (.int (nI (p + 1))), none, none]) dX3_worst_101 rfl (nI_add _ 1) (Nat.le_of_ble_eq_true rfl) rfl ?_
            refine rg_goto F (pc := 104) (tgt := 36) dX3_worst_104 (by decide) ?_
            exact ih2 (p + 1) _ (by omega) (by omega) hq.2
set_option maxHeartbeats 4000000 in
set_option maxRecDepth 100000 in
theorem c_written (l : Launch) (D : va_G) (M : rMem) (x : Nat) (P : Poem) (nW nL : Nat) (u : Nat → Nat → Nat) (i p : Nat) (hV : cV D M x P nW nL u) (hi : i < nL) (hp9 : p < zC P i) : CMi l D yX3_written cX3_written 3 ((some .int)) 5 0 0 M [.ref (x), .int (nI i), .int (nI p)] (fun r M' => r = nI (zR P i p) ∧ M' = M) := by
  refine rM (lv0 := [some (.ref (x)), some (.int (nI i)), some (.int (nI p))]) (by decide) rfl rfl (Nat.le_of_ble_eq_true rfl) (fun P0 E0 S0 m0 as0 bl0 mt0 c0 A F hrt9 hnm => ?_)
  have hO := cV_see hV
  obtain ⟨mdw, hLw⟩ := hO.2.2.1
  obtain ⟨mdl, hLl⟩ := hO.2.2.2.1
  have hn30 := hO.1.1.1
  have hn10 := hO.1.2.1
  have hzr := (hO.1.2.2 i hi).2.2.2.2.2 p hp9
  refine rg_aload_n F (pc := 0) dX3_written_0 rfl ?_
  refine rg_iload_n F (pc := 1) dX3_written_1 rfl ?_
  refine rg_callVq F (pc := 2) (As := [.int (nI i)]) (rest := []) (ci := 4) (c_nlV l D _ x P nW nL u i hV (by omega)) q312 vq_X3_neededLine rfl hO.2.1 rfl rfl (Nat.le_of_ble_eq_true rfl) (Nat.le_of_ble_eq_true rfl) (Nat.le_of_ble_eq_true rfl) ⟨(Nat.le_of_ble_eq_true rfl), (Nat.le_of_ble_eq_true rfl)⟩ dX3_written_2 (fun r9 M9 hp => ?_)
  refine rg_top (v2 := .ref (la u i)) (by rw [hp.1]; rfl) ?_
  refine rg_mem (M2 := M) hp.2 ?_
  refine rg_iload_n F (pc := 5) dX3_written_5 rfl ?_
  refine rg_callSq F (pc := 6) (As := [.ref (la u i), .int (nI p)]) (rest := []) (c_nwoV l D _ x P nW nL u i p hV hi hp9) q327 sq_X3_neededWordOf rfl rfl (Nat.le_of_ble_eq_true rfl) (Nat.le_of_ble_eq_true rfl) (Nat.le_of_ble_eq_true rfl) ⟨(Nat.le_of_ble_eq_true rfl), (Nat.le_of_ble_eq_true rfl)⟩ dX3_written_6 (fun r9 M9 hp => ?_)
  refine rg_top (v2 := .ref (wa u (zR P i p))) (by rw [hp.1]; rfl) ?_
  refine rg_mem (M2 := M) hp.2 ?_
  refine rg_get F (pc := 9) (ci := 3) rfl inX2 (hO.2.2.2.2.1 _ hzr) 0 (by decide) q219 (fun _ h9 => h9) rfl dX3_written_9 ?_
  exact rg_iret F (pc := 12) hrt9 (by decide) (by decide) dX3_written_12 ⟨rfl, rfl⟩
set_option maxHeartbeats 4000000 in
set_option maxRecDepth 100000 in
theorem c_told (l : Launch) (D : va_G) (M : rMem) (x : Nat) (P : Poem) (nW nL : Nat) (u : Nat → Nat → Nat) (i what : Nat) (hV : cV D M x P nW nL u) (hi : i < nL) (hw : what < 12) : CMi l D yX3_told cX3_told 4 ((some .int)) 5 0 0 M [.ref (x), .int (nI i), .int (nI what)] (fun r M' => r = nI (zTold P i what) ∧ M' = M) := by
  refine rM (lv0 := [some (.ref (x)), some (.int (nI i)), some (.int (nI what)), none]) (by decide) rfl rfl (Nat.le_of_ble_eq_true rfl) (fun P0 E0 S0 m0 as0 bl0 mt0 c0 A F hrt9 hnm => ?_)
  have hO := cV_see hV
  obtain ⟨mdw, hLw⟩ := hO.2.2.1
  obtain ⟨mdl, hLl⟩ := hO.2.2.2.1
  have hn30 := hO.1.1.1
  have hn10 := hO.1.2.1
  refine rg_aload_n F (pc := 0) dX3_told_0 rfl ?_
  refine rg_iload_n F (pc := 1) dX3_told_1 rfl ?_
  refine rg_callVq F (pc := 2) (As := [.int (nI i)]) (rest := []) (ci := 4) (c_nlV l D _ x P nW nL u i hV (by omega)) q312 vq_X3_neededLine rfl hO.2.1 rfl rfl (Nat.le_of_ble_eq_true rfl) (Nat.le_of_ble_eq_true rfl) (Nat.le_of_ble_eq_true rfl) ⟨(Nat.le_of_ble_eq_true rfl), (Nat.le_of_ble_eq_true rfl)⟩ dX3_told_2 (fun r9 M9 hp => ?_)
  refine rg_top (v2 := .ref (la u i)) (by rw [hp.1]; rfl) ?_
  refine rg_mem (M2 := M) hp.2 ?_
  refine rg_astore_n F (pc := 5) (lv' := [some (.ref (x)), some (.int (nI i)), some (.int (nI what)), some (.ref (la u i))]) dX3_told_5 (Nat.le_of_ble_eq_true rfl) rfl ?_
  refine rg_iload_n F (pc := 6) dX3_told_6 rfl ?_
  refine rg_bipush F (pc := 7) (v := nI 12) dX3_told_7 (by decide) ?_
  refine rg_callSv F (pc := 9) (As := [.int (nI what), .int (nI 12)]) (rest := []) (c_ref l D _ what 12 (by omega) (by omega)) q233 sq_X3_refuseOutside rfl rfl (Nat.le_of_ble_eq_true rfl) (Nat.le_of_ble_eq_true rfl) (Nat.le_of_ble_eq_true rfl) ⟨(Nat.le_of_ble_eq_true rfl), (Nat.le_of_ble_eq_true rfl)⟩ dX3_told_9 (fun M9 hp => ?_)
  refine rg_mem (M2 := M) hp ?_
  refine rg_aload_n F (pc := 12) dX3_told_12 rfl ?_
  refine rg_iload_n F (pc := 13) dX3_told_13 rfl ?_
  refine rg_callVi F (pc := 14) (As := [.int (nI what)]) (rest := []) (ci := 2) (c_teV l D _ x P nW nL u i what hV hi (by omega)) q330 vq_X1_tells rfl (hO.2.2.2.2.2.2.1 i (by omega)) rfl rfl (Nat.le_of_ble_eq_true rfl) (Nat.le_of_ble_eq_true rfl) (Nat.le_of_ble_eq_true rfl) ⟨(Nat.le_of_ble_eq_true rfl), (Nat.le_of_ble_eq_true rfl)⟩ dX3_told_14 (fun r9 M9 hp => ?_)
  refine rg_top (v2 := .int (nI (zTold P i what))) (by first | (rw [hp.1]; done) | (rw [hp.1]; rfl)) ?_
  refine rg_mem (M2 := M) hp.2 ?_
  exact rg_iret F (pc := 17) hrt9 (by decide) (by decide) dX3_told_17 ⟨rfl, rfl⟩
set_option maxHeartbeats 4000000 in
set_option maxRecDepth 100000 in
theorem c_stress (l : Launch) (D : va_G) (M : rMem) (x : Nat) (P : Poem) (nW nL : Nat) (u : Nat → Nat → Nat) (i p : Nat) (hV : cV D M x P nW nL u) (hi : i < nL) (hp9 : p < zStay P i) : CMi l D yX3_stress cX3_stress 4 ((some .int)) 5 0 0 M [.ref (x), .int (nI i), .int (nI p)] (fun r M' => r = nI (zBits P i / 2 ^ p % 2) ∧ M' = M) := by
  refine rM (lv0 := [some (.ref (x)), some (.int (nI i)), some (.int (nI p)), none]) (by decide) rfl rfl (Nat.le_of_ble_eq_true rfl) (fun P0 E0 S0 m0 as0 bl0 mt0 c0 A F hrt9 hnm => ?_)
  have hO := cV_see hV
  obtain ⟨mdw, hLw⟩ := hO.2.2.1
  obtain ⟨mdl, hLl⟩ := hO.2.2.2.1
  have hn30 := hO.1.1.1
  have hn10 := hO.1.2.1
  have hst := zStay_le (hO.1.2.2 i hi)
  refine rg_aload_n F (pc := 0) dX3_stress_0 rfl ?_
  refine rg_iload_n F (pc := 1) dX3_stress_1 rfl ?_
  refine rg_callVq F (pc := 2) (As := [.int (nI i)]) (rest := []) (ci := 4) (c_nlV l D _ x P nW nL u i hV (by omega)) q312 vq_X3_neededLine rfl hO.2.1 rfl rfl (Nat.le_of_ble_eq_true rfl) (Nat.le_of_ble_eq_true rfl) (Nat.le_of_ble_eq_true rfl) ⟨(Nat.le_of_ble_eq_true rfl), (Nat.le_of_ble_eq_true rfl)⟩ dX3_stress_2 (fun r9 M9 hp => ?_)
  refine rg_top (v2 := .ref (la u i)) (by rw [hp.1]; rfl) ?_
  refine rg_mem (M2 := M) hp.2 ?_
  refine rg_astore_n F (pc := 5) (lv' := [some (.ref (x)), some (.int (nI i)), some (.int (nI p)), some (.ref (la u i))]) dX3_stress_5 (Nat.le_of_ble_eq_true rfl) rfl ?_
  refine rg_iload_n F (pc := 6) dX3_stress_6 rfl ?_
  refine rg_aload_n F (pc := 7) dX3_stress_7 rfl ?_
  refine rg_get F (pc := 8) (ci := 2) rfl inX1 (hO.2.2.2.2.2.2.1 i (by omega)) 10 (by decide) q273 (fun _ h9 => h9) rfl dX3_stress_8 ?_
  refine rg_callSv F (pc := 11) (As := [.int (nI p), .int (nI (zStay P i))]) (rest := []) (c_ref l D _ p (zStay P i) (by omega) (by omega)) q233 sq_X3_refuseOutside rfl rfl (Nat.le_of_ble_eq_true rfl) (Nat.le_of_ble_eq_true rfl) (Nat.le_of_ble_eq_true rfl) ⟨(Nat.le_of_ble_eq_true rfl), (Nat.le_of_ble_eq_true rfl)⟩ dX3_stress_11 (fun M9 hp => ?_)
  refine rg_mem (M2 := M) hp ?_
  refine rg_aload_n F (pc := 14) dX3_stress_14 rfl ?_
  refine rg_iload_n F (pc := 15) dX3_stress_15 rfl ?_
  refine rg_callVi F (pc := 16) (As := [.int (nI p)]) (rest := []) (ci := 2) (c_saV l D _ x P nW nL u i p hV hi (by omega)) q334 vq_X1_stressAt rfl (hO.2.2.2.2.2.2.1 i (by omega)) rfl rfl (Nat.le_of_ble_eq_true rfl) (Nat.le_of_ble_eq_true rfl) (Nat.le_of_ble_eq_true rfl) ⟨(Nat.le_of_ble_eq_true rfl), (Nat.le_of_ble_eq_true rfl)⟩ dX3_stress_16 (fun r9 M9 hp => ?_)
  refine rg_top (v2 := .int (nI (zBits P i / 2 ^ p % 2))) (by first | (rw [hp.1]; done) | (rw [hp.1]; rfl)) ?_
  refine rg_mem (M2 := M) hp.2 ?_
  exact rg_iret F (pc := 19) hrt9 (by decide) (by decide) dX3_stress_19 ⟨rfl, rfl⟩
set_option maxHeartbeats 4000000 in
set_option maxRecDepth 100000 in
theorem c_scans (l : Launch) (D : va_G) (M : rMem) (x : Nat) (P : Poem) (nW nL : Nat) (u : Nat → Nat → Nat) (i : Nat) (hV : cV D M x P nW nL u) (hi : i < nL) : CMi l D yX3_scans cX3_scans 7 ((some .int)) 5 0 0 M [.ref (x), .int (nI i)] (fun r M' => r = nI (zScn P nL i 3).2 ∧ M' = M) := by
  refine rM (lv0 := [some (.ref (x)), some (.int (nI i)), none, none, none, none, none]) (by decide) rfl rfl (Nat.le_of_ble_eq_true rfl) (fun P0 E0 S0 m0 as0 bl0 mt0 c0 A F hrt9 hnm => ?_)
  have hO := cV_see hV
  obtain ⟨mdw, hLw⟩ := hO.2.2.1
  obtain ⟨mdl, hLl⟩ := hO.2.2.2.1
  have hn30 := hO.1.1.1
  have hn10 := hO.1.2.1
  refine rg_aload_n F (pc := 0) dX3_scans_0 rfl ?_
  refine rg_iload_n F (pc := 1) dX3_scans_1 rfl ?_
  refine rg_callVq F (pc := 2) (As := [.int (nI i)]) (rest := []) (ci := 4) (c_nlV l D _ x P nW nL u i hV (by omega)) q312 vq_X3_neededLine rfl hO.2.1 rfl rfl (Nat.le_of_ble_eq_true rfl) (Nat.le_of_ble_eq_true rfl) (Nat.le_of_ble_eq_true rfl) ⟨(Nat.le_of_ble_eq_true rfl), (Nat.le_of_ble_eq_true rfl)⟩ dX3_scans_2 (fun r9 M9 hp => ?_)
  refine rg_top (v2 := .ref (la u i)) (by rw [hp.1]; rfl) ?_
  refine rg_mem (M2 := M) hp.2 ?_
  refine rg_astore_n F (pc := 5) (lv' := [some (.ref (x)), some (.int (nI i)), some (.ref (la u i)), none, none, none, none]) dX3_scans_5 (Nat.le_of_ble_eq_true rfl) rfl ?_
  refine rg_iconst F (pc := 6) (v := nI 0) dX3_scans_6 (by decide) ?_
  refine rg_istore_n F (pc := 7) (lv' := [some (.ref (x)), some (.int (nI i)), some (.ref (la u i)), some (.int (nI 0)), none, none, none]) dX3_scans_7 (Nat.le_of_ble_eq_true rfl) rfl ?_
  refine rg_aload_n F (pc := 8) dX3_scans_8 rfl ?_
  refine rg_iload_n F (pc := 9) dX3_scans_9 rfl ?_
  refine rg_aload_n F (pc := 10) dX3_scans_10 rfl ?_
  refine rg_get F (pc := 11) (ci := 4) rfl inX3 hO.2.1 2 (by decide) q206 (fun _ h9 => h9) rfl dX3_scans_11 ?_
  refine rg_callVi F (pc := 14) (As := [.int (nI 0), .ref (gf u)]) (rest := []) (ci := 2) (c_ftV l D _ x P nW nL u i 0 hV hi (by omega)) q338 vq_X1_faultsBy rfl (hO.2.2.2.2.2.2.1 i (by omega)) rfl rfl (Nat.le_of_ble_eq_true rfl) (Nat.le_of_ble_eq_true rfl) (Nat.le_of_ble_eq_true rfl) ⟨(Nat.le_of_ble_eq_true rfl), (Nat.le_of_ble_eq_true rfl)⟩ dX3_scans_14 (fun r9 M9 hp => ?_)
  refine rg_top (v2 := .int (nI (zFlt P nL i 0))) (by first | (rw [hp.1]; done) | (rw [hp.1]; rfl)) ?_
  refine rg_mem (M2 := M) hp.2 ?_
  refine rg_istore F (pc := 17) (lv' := [some (.ref (x)), some (.int (nI i)), some (.ref (la u i)), some (.int (nI 0)), some (.int (nI (zFlt P nL i 0))), none, none]) dX3_scans_17 (Nat.le_of_ble_eq_true rfl) rfl ?_
  refine rg_iconst F (pc := 19) (v := nI 1) dX3_scans_19 (by decide) ?_
  refine rg_istore F (pc := 20) (lv' := [some (.ref (x)), some (.int (nI i)), some (.ref (la u i)), some (.int (nI 0)), some (.int (nI (zFlt P nL i 0))), some (.int (nI 1)), none]) dX3_scans_20 (Nat.le_of_ble_eq_true rfl) rfl ?_
  refine rg_eq (lv2 := [some (.ref (x)), some (.int (nI i)), some (.ref (la u i)), some (.int (nI ((zScn P nL i 0).2))), some (.int (nI ((zScn P nL i 0).1))), some (.int (nI (0 + 1))), none]) (st2 := []) (pc2 := 22) rfl rfl rfl ?_
  suffices L0 : ∀ (d9 : Nat) (m : Nat), 3 - m < d9 → (m ≤ 3) → rG P0 l E0 (rR 5 0 0) S0 m0 as0 bl0 mt0 c0 D A 7 (MQ bl0 (va_Qi (fun r M' => r = nI (zScn P nL i 3).2 ∧ M' = M) (cB D A) A) as0 S0 0 0 A) M 0 0 [some (.ref (x)), some (.int (nI i)), some (.ref (la u i)), some (.int (nI ((zScn P nL i m).2))), some (.int (nI ((zScn P nL i m).1))), some (.int (nI (m + 1))), none] 22 [] from L0 _ 0 (Nat.lt_succ_self _) (by decide)
  intro d9
  induction d9 with
  | zero => intro m hd9; exact absurd hd9 (Nat.not_lt_zero _)
  | succ d9 ih =>
    intro m hd9 hm
    have hsc := zScn_le (nL := nL) (hO.1.2.2 i hi) m
    have hfl := zFlt_le (hO.1.2.2 i hi) nL (m + 1)
    refine rg_iload F (pc := 22) dX3_scans_22 rfl ?_
    refine rg_iconst F (pc := 24) (v := nI 4) dX3_scans_24 (by decide) ?_
    refine rg_ncmp_ge F (pc := 25) (tgt := 60) dX3_scans_25 (by decide) (by omega) (by omega) (fun c25 => ?_) (fun c25 => ?_)
    · refine rg_iload_n F (pc := 60) dX3_scans_60 rfl ?_
      have e9 : m = 3 := by omega
      exact rg_iret F (pc := 61) hrt9 (by decide) (by decide) dX3_scans_61 ⟨by rw [e9], rfl⟩
    · refine rg_aload_n F (pc := 28) dX3_scans_28 rfl ?_
      refine rg_iload F (pc := 29) dX3_scans_29 rfl ?_
      refine rg_aload_n F (pc := 31) dX3_scans_31 rfl ?_
      refine rg_get F (pc := 32) (ci := 4) rfl inX3 hO.2.1 2 (by decide) q206 (fun _ h9 => h9) rfl dX3_scans_32 ?_
      refine rg_callVi F (pc := 35) (As := [.int (nI (m + 1)), .ref (gf u)]) (rest := []) (ci := 2) (c_ftV l D _ x P nW nL u i (m + 1) hV hi (by omega)) q338 vq_X1_faultsBy rfl (hO.2.2.2.2.2.2.1 i (by omega)) rfl rfl (Nat.le_of_ble_eq_true rfl) (Nat.le_of_ble_eq_true rfl) (Nat.le_of_ble_eq_true rfl) ⟨(Nat.le_of_ble_eq_true rfl), (Nat.le_of_ble_eq_true rfl)⟩ dX3_scans_35 (fun r9 M9 hp => ?_)
      refine rg_top (v2 := .int (nI (zFlt P nL i (m + 1)))) (by first | (rw [hp.1]; done) | (rw [hp.1]; rfl)) ?_
      refine rg_mem (M2 := M) hp.2 ?_
      refine rg_istore F (pc := 38) (lv' := [some (.ref (x)), some (.int (nI i)), some (.ref (la u i)), some (.int (nI ((zScn P nL i m).2))), some (.int (nI ((zScn P nL i m).1))), some (.int (nI (m + 1))), some (.int (nI (zFlt P nL i (m + 1))))]) dX3_scans_38 (Nat.le_of_ble_eq_true rfl) rfl ?_
      refine rg_iload F (pc := 40) dX3_scans_40 rfl ?_
      refine rg_iload F (pc := 42) dX3_scans_42 rfl ?_
      refine rg_ncmp_ge F (pc := 44) (tgt := 54) dX3_scans_44 (by decide) (by omega) (by omega) (fun c44 => ?_) (fun c44 => ?_)
      · have eb : (zScn P nL i (m + 1)) = (zScn P nL i m) := if_neg (by omega)
        refine rg_eq (lv2 := [some (.ref (x)), some (.int (nI i)), some (.ref (la u i)), some (.int (nI ((zScn P nL i (m + 1)).2))), some (.int (nI ((zScn P nL i (m + 1)).1))), some (.int (nI (m + 1))), some (.int (nI (zFlt P nL i (m + 1))))]) (st2 := []) (pc2 := 54) (by rw [eb]) rfl rfl ?_
        refine rg_sub (lv' := [some (.ref (x)), some (.int (nI i)), some (.ref (la u i)), some (.int (nI ((zScn P nL i (m + 1)).2))), some (.int (nI ((zScn P nL i (m + 1)).1))), some (.int (nI (m + 1))), none]) (by repeat' constructor) ?_
        refine rg_iinc F (pc := 54) (v := nI (m + 1 + 1)) (lv' := [some (.ref (x)), some (.int (nI i)), some (.ref (la u i)), some (.int (nI ((zScn P nL i (m + 1)).2))), some (.int (nI ((zScn P nL i (m + 1)).1))), some (.int (nI (m + 1 + 1))), none]) dX3_scans_54 rfl (nI_add _ 1) (Nat.le_of_ble_eq_true rfl) rfl ?_
        refine rg_goto F (pc := 57) (tgt := 22) dX3_scans_57 (by decide) ?_
        exact ih (m + 1) (by omega) (by omega)
      · refine rg_iload F (pc := 47) dX3_scans_47 rfl ?_
        refine rg_istore F (pc := 49) (lv' := [some (.ref (x)), some (.int (nI i)), some (.ref (la u i)), some (.int (nI ((zScn P nL i m).2))), some (.int (nI (zFlt P nL i (m + 1)))), some (.int (nI (m + 1))), some (.int (nI (zFlt P nL i (m + 1))))]) dX3_scans_49 (Nat.le_of_ble_eq_true rfl) rfl ?_
        refine rg_iload F (pc := 51) dX3_scans_51 rfl ?_
        refine rg_istore_n F (pc := 53) (lv' := [some (.ref (x)), some (.int (nI i)), some (.ref (la u i)), some (.int (nI (m + 1))), some (.int (nI (zFlt P nL i (m + 1)))), some (.int (nI (m + 1))), some (.int (nI (zFlt P nL i (m + 1))))]) dX3_scans_53 (Nat.le_of_ble_eq_true rfl) rfl ?_
        have eb : (zScn P nL i (m + 1)) = (zFlt P nL i (m + 1), m + 1) := if_pos (by omega)
        refine rg_eq (lv2 := [some (.ref (x)), some (.int (nI i)), some (.ref (la u i)), some (.int (nI ((zScn P nL i (m + 1)).2))), some (.int (nI ((zScn P nL i (m + 1)).1))), some (.int (nI (m + 1))), some (.int (nI (zFlt P nL i (m + 1))))]) (st2 := []) (pc2 := 54) (by rw [eb]) rfl rfl ?_
        refine rg_sub (lv' := [some (.ref (x)), some (.int (nI i)), some (.ref (la u i)), some (.int (nI ((zScn P nL i (m + 1)).2))), some (.int (nI ((zScn P nL i (m + 1)).1))), some (.int (nI (m + 1))), none]) (by repeat' constructor) ?_
        refine rg_iinc F (pc := 54) (v := nI (m + 1 + 1)) (lv' := [some (.ref (x)), some (.int (nI i)), some (.ref (la u i)), some (.int (nI ((zScn P nL i (m + 1)).2))), some (.int (nI ((zScn P nL i (m + 1)).1))), some (.int (nI (m + 1 + 1))), none]) dX3_scans_54 rfl (nI_add _ 1) (Nat.le_of_ble_eq_true rfl) rfl ?_
        refine rg_goto F (pc := 57) (tgt := 22) dX3_scans_57 (by decide) ?_
        exact ih (m + 1) (by omega) (by omega)
