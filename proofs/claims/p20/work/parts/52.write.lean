theorem rm_neg {k : Nat} (hk : k < 2 ^ 31) (h : nI k - nI 1 < 0) : k = 0 := by
  rcases Nat.eq_zero_or_pos k with h0 | h0
  · exact h0
  · rw [pk_sub h0] at h
    exact absurd h (nI_pos (by omega))
theorem rm_0 : nI 0 - nI 1 < 0 := by decide
theorem rm_1 (x : Int32) : x + Int32.ofInt (-1) = x - nI 1 := by rw [Int32.sub_eq_add_neg]; rfl
set_option maxHeartbeats 4000000 in
set_option maxRecDepth 100000 in
theorem c_writeB (l : Launch) (D : va_G) (M : rMem) (x : Nat) (P : Poem) (nW nL : Nat) (u : Nat → Nat → Nat) (i p w : Nat) (hV : cV D M x P nW nL u) (hi : i < nL) (hw : w < nW) (hp9 : p < zC P i) : CMi l D yX3_write cX3_write 7 ((some .int)) 9 0 0 M [.ref (x), .int (nI i), .int (nI p), .int (nI w)] (fun r M' => r = nI (zC (zPut P i p w) i) ∧ cV D M' x (zPut P i p w) nW nL u) := by
  refine rM (lv0 := [some (.ref (x)), some (.int (nI i)), some (.int (nI p)), some (.int (nI w)), none, none, none]) (by decide) rfl rfl (Nat.le_of_ble_eq_true rfl) (fun P0 E0 S0 m0 as0 bl0 mt0 c0 A F hrt9 hnm => ?_)
  have hO := cV_see hV
  obtain ⟨mdw, hLw⟩ := hO.2.2.1
  obtain ⟨mdl, hLl⟩ := hO.2.2.2.1
  have hn30 := hO.1.1.1
  have hn10 := hO.1.2.1
  have hz8 := (hO.1.2.2 i hi).2.2.2.2.1
  obtain ⟨bkr, mdr, hrr⟩ := hO.2.2.2.2.2.1 i (by omega)
  refine rg_aload_n F (pc := 0) dX3_write_0 rfl ?_
  refine rg_iload_n F (pc := 1) dX3_write_1 rfl ?_
  refine rg_callVq F (pc := 2) (As := [.int (nI i)]) (rest := []) (ci := 4) (c_nlV l D _ x P nW nL u i hV (by omega)) q312 vq_X3_neededLine rfl hO.2.1 rfl rfl (Nat.le_of_ble_eq_true rfl) (Nat.le_of_ble_eq_true rfl) (Nat.le_of_ble_eq_true rfl) ⟨(Nat.le_of_ble_eq_true rfl), (Nat.le_of_ble_eq_true rfl)⟩ dX3_write_2 (fun r9 M9 hp => ?_)
  refine rg_top (v2 := .ref (la u i)) (by rw [hp.1]; rfl) ?_
  refine rg_mem (M2 := M) hp.2 ?_
  refine rg_astore F (pc := 5) (lv' := [some (.ref (x)), some (.int (nI i)), some (.int (nI p)), some (.int (nI w)), some (.ref (la u i)), none, none]) dX3_write_5 (Nat.le_of_ble_eq_true rfl) rfl ?_
  refine rg_aload F (pc := 7) dX3_write_7 rfl ?_
  refine rg_get F (pc := 9) (ci := 2) rfl inX1 (hO.2.2.2.2.2.2.1 i (by omega)) 4 (by decide) q311 (fun _ h9 => h9) rfl dX3_write_9 ?_
  refine rg_callVi F (pc := 12) (As := []) (rest := []) (ci := 0) (c_size l D _ (ra u i) mdr bkr (zC P i) hrr.1) q221 vq_Jx4a65c_size_8abf5 rfl hrr.1 rfl rfl (Nat.le_of_ble_eq_true rfl) (Nat.le_of_ble_eq_true rfl) (Nat.le_of_ble_eq_true rfl) ⟨(Nat.le_of_ble_eq_true rfl), (Nat.le_of_ble_eq_true rfl)⟩ dX3_write_12 (fun r9 M9 hp => ?_)
  refine rg_top (v2 := .int (nI (zC P i))) (by first | (rw [hp.1]; done) | (rw [hp.1]; rfl)) ?_
  refine rg_mem (M2 := M) hp.2 ?_
  refine rg_istore F (pc := 15) (lv' := [some (.ref (x)), some (.int (nI i)), some (.int (nI p)), some (.int (nI w)), some (.ref (la u i)), some (.int (nI (zC P i))), none]) dX3_write_15 (Nat.le_of_ble_eq_true rfl) rfl ?_
  refine rg_iload_n F (pc := 17) dX3_write_17 rfl ?_
  refine rg_iload F (pc := 18) dX3_write_18 rfl ?_
  refine rg_iconst F (pc := 20) (v := nI 1) dX3_write_20 (by decide) ?_
  refine rg_iadd F (pc := 21) (v := nI ((zC P i) + 1)) dX3_write_21 (nI_add _ _) ?_
  refine rg_callSv F (pc := 22) (As := [.int (nI p), .int (nI ((zC P i) + 1))]) (rest := []) (c_ref l D _ p ((zC P i) + 1) (by omega) (by omega)) q233 sq_X3_refuseOutside rfl rfl (Nat.le_of_ble_eq_true rfl) (Nat.le_of_ble_eq_true rfl) (Nat.le_of_ble_eq_true rfl) ⟨(Nat.le_of_ble_eq_true rfl), (Nat.le_of_ble_eq_true rfl)⟩ dX3_write_22 (fun M9 hp => ?_)
  refine rg_mem (M2 := M) hp ?_
  refine rg_aload_n F (pc := 25) dX3_write_25 rfl ?_
  refine rg_iload_n F (pc := 26) dX3_write_26 rfl ?_
  refine rg_callVq F (pc := 27) (As := [.int (nI w)]) (rest := []) (ci := 4) (c_nwV l D _ x P nW nL u w hV (by omega)) q253 vq_X3_neededWord rfl hO.2.1 rfl rfl (Nat.le_of_ble_eq_true rfl) (Nat.le_of_ble_eq_true rfl) (Nat.le_of_ble_eq_true rfl) ⟨(Nat.le_of_ble_eq_true rfl), (Nat.le_of_ble_eq_true rfl)⟩ dX3_write_27 (fun r9 M9 hp => ?_)
  refine rg_top (v2 := .ref (wa u w)) (by rw [hp.1]; rfl) ?_
  refine rg_mem (M2 := M) hp.2 ?_
  refine rg_astore F (pc := 30) (lv' := [some (.ref (x)), some (.int (nI i)), some (.int (nI p)), some (.int (nI w)), some (.ref (la u i)), some (.int (nI (zC P i))), some (.ref (wa u w))]) dX3_write_30 (Nat.le_of_ble_eq_true rfl) rfl ?_
  refine rg_iload_n F (pc := 32) dX3_write_32 rfl ?_
  refine rg_iload F (pc := 33) dX3_write_33 rfl ?_
  refine rg_ncmp_ge F (pc := 35) (tgt := 49) dX3_write_35 (by decide) (by omega) (by omega) (fun c35 => by exfalso; omega) (fun c35 => ?_)
  refine rg_aload_n F (pc := 38) dX3_write_38 rfl ?_
  refine rg_iload_n F (pc := 39) dX3_write_39 rfl ?_
  refine rg_iload_n F (pc := 40) dX3_write_40 rfl ?_
  refine rg_aload F (pc := 41) dX3_write_41 rfl ?_
  refine rg_callVv F (pc := 43) (As := [.int (nI i), .int (nI p), .ref (wa u w)]) (rest := []) (ci := 4) (c_pwBV l D _ x P nW nL u i p w hV hi hw hp9) q315 vq_X3_replaceWord rfl hO.2.1 rfl rfl (Nat.le_of_ble_eq_true rfl) (Nat.le_of_ble_eq_true rfl) (Nat.le_of_ble_eq_true rfl) ⟨(Nat.le_of_ble_eq_true rfl), (Nat.le_of_ble_eq_true rfl)⟩ dX3_write_43 (fun M2 hpw => ?_)
  refine rg_iload F (pc := 46) dX3_write_46 rfl ?_
  exact rg_iret F (pc := 48) hrt9 (by decide) (by decide) dX3_write_48 ⟨by rw [show zC (zPut P i p w) i = zC P i from zPut_b hp9], hpw⟩
theorem c_writeA (l : Launch) (D : va_G) (M : rMem) (x : Nat) (P : Poem) (nW nL : Nat) (u : Nat → Nat → Nat) (i w : Nat) (hV : cV D M x P nW nL u) (hi : i < nL) (hw : w < nW) (hp9 : zC P i < 8) : CMi l D yX3_write cX3_write 7 (some .int) 10 1 100 M [.ref x, .int (nI i), .int (nI (zC P i)), .int (nI w)] (fun r M' => r = nI (zC (zPut P i (zC P i) w) i) ∧ cV D M' x (zPut P i (zC P i) w) nW nL u) := by
  obtain ⟨u1, hu, hR⟩ := hV
  exact CMi_imp (c_writeAR l D M x P nW nL u1 i w hR hi hw hp9) (fun r M' h => by obtain ⟨h0, u2, h1, h2⟩ := h; exact ⟨h0, u2, hu.tr h1, h2⟩)
theorem zNear_s (P : Poem) (mk k : Nat) (h : 0 < k) : zNear P mk k = if zK P (k - 1) = mk then some (k - 1) else zNear P mk (k - 1) := by
  obtain ⟨j, rfl⟩ : ∃ j, k = j + 1 := ⟨k - 1, by omega⟩
  rfl
set_option maxHeartbeats 4000000 in
set_option maxRecDepth 100000 in
theorem c_lwm (l : Launch) (D : va_G) (M : rMem) (x : Nat) (P : Poem) (nW nL : Nat) (u : Nat → Nat → Nat) (mk : Nat) (hV : cV D M x P nW nL u) (hmk : mk < 6) : CMq l D yX3_lastWithMark cX3_lastWithMark 4 ((some (.object "RhymeTax$Line"))) 4 0 0 M [.ref (x), .int (nI mk)] (fun r M' => r = (zNear P mk nL).map (la u) ∧ M' = M) := by
  refine rM (lv0 := [some (.ref (x)), some (.int (nI mk)), none, none]) (by decide) rfl rfl (Nat.le_of_ble_eq_true rfl) (fun P0 E0 S0 m0 as0 bl0 mt0 c0 A F hrt9 hnm => ?_)
  have hO := cV_see hV
  obtain ⟨mdw, hLw⟩ := hO.2.2.1
  obtain ⟨mdl, hLl⟩ := hO.2.2.2.1
  have hn30 := hO.1.1.1
  have hn10 := hO.1.2.1
  have hmk5 := fun j (hj : j < nL) => (hO.1.2.2 j hj).2.2.2.1
  refine rg_aload_n F (pc := 0) dX3_lastWithMark_0 rfl ?_
  refine rg_get F (pc := 1) (ci := 4) rfl inX3 hO.2.1 1 (by decide) q203 (fun _ h9 => h9) rfl dX3_lastWithMark_1 ?_
  refine rg_callVi F (pc := 4) (As := []) (rest := []) (ci := 0) (c_size l D _ (gl u) mdl (gbl u) nL hLl.1) q221 vq_Jx4a65c_size_8abf5 rfl hLl.1 rfl rfl (Nat.le_of_ble_eq_true rfl) (Nat.le_of_ble_eq_true rfl) (Nat.le_of_ble_eq_true rfl) ⟨(Nat.le_of_ble_eq_true rfl), (Nat.le_of_ble_eq_true rfl)⟩ dX3_lastWithMark_4 (fun r9 M9 hp => ?_)
  refine rg_top (v2 := .int (nI nL)) (by first | (rw [hp.1]; done) | (rw [hp.1]; rfl)) ?_
  refine rg_mem (M2 := M) hp.2 ?_
  refine rg_iconst F (pc := 7) (v := nI 1) dX3_lastWithMark_7 (by decide) ?_
  refine rg_isub F (pc := 8) (v := nI nL - nI 1) dX3_lastWithMark_8 rfl ?_
  refine rg_istore_n F (pc := 9) (lv' := [some (.ref (x)), some (.int (nI mk)), some (.int (nI nL - nI 1)), none]) dX3_lastWithMark_9 (Nat.le_of_ble_eq_true rfl) rfl ?_
  suffices L0 : ∀ (d9 : Nat) (k : Nat), k < d9 → (k ≤ nL) → (zNear P mk nL = zNear P mk k) → rG P0 l E0 (rR 4 0 0) S0 m0 as0 bl0 mt0 c0 D A 4 (MQ bl0 (va_Qq (fun r M' => r = (zNear P mk nL).map (la u) ∧ M' = M) (cB D A) A) as0 S0 0 0 A) M 0 0 [some (.ref (x)), some (.int (nI mk)), some (.int (nI k - nI 1)), none] 10 [] from L0 _ nL (Nat.lt_succ_self _) (Nat.le_refl _) rfl
  intro d9
  induction d9 with
  | zero => intro k hd9; exact absurd hd9 (Nat.not_lt_zero _)
  | succ d9 ih =>
    intro k hd9 hk1 hn1
    refine rg_iload_n F (pc := 10) dX3_lastWithMark_10 rfl ?_
    refine rg_if_lt F (pc := 11) (tgt := 42) dX3_lastWithMark_11 (by decide) (fun c11 => ?_) (fun c11 => ?_)
    · refine rg_null F (pc := 42) dX3_lastWithMark_42 ?_
      have e0 := rm_neg (by omega) c11
      subst e0
      exact rg_aret F (pc := 43) none rfl hrt9 (Or.inl ⟨_, rfl⟩) (by decide) (by decide) dX3_lastWithMark_43 ⟨by rw [hn1]; rfl, rfl⟩
    · have hk0 : 0 < k := by rcases Nat.eq_zero_or_pos k with h | h; (subst h; exact absurd rm_0 c11); exact h
      refine rg_eq (lv2 := [some (.ref (x)), some (.int (nI mk)), some (.int (nI (k - 1))), none]) (st2 := []) (pc2 := 14) (by rw [pk_sub hk0]) rfl rfl ?_
      refine rg_aload_n F (pc := 14) dX3_lastWithMark_14 rfl ?_
      refine rg_get F (pc := 15) (ci := 4) rfl inX3 hO.2.1 1 (by decide) q203 (fun _ h9 => h9) rfl dX3_lastWithMark_15 ?_
      refine rg_iload_n F (pc := 18) dX3_lastWithMark_18 rfl ?_
      refine rg_callVq F (pc := 19) (As := [.int (nI (k - 1))]) (rest := []) (ci := 0) (c_lget l D _ (gl u) mdl (gbl u) nL (la u) (k - 1) hLl (by omega)) q237 vq_Jx4a65c_get_915e3 rfl hLl.1 rfl rfl (Nat.le_of_ble_eq_true rfl) (Nat.le_of_ble_eq_true rfl) (Nat.le_of_ble_eq_true rfl) ⟨(Nat.le_of_ble_eq_true rfl), (Nat.le_of_ble_eq_true rfl)⟩ dX3_lastWithMark_19 (fun r9 M9 hp => ?_)
      refine rg_top (v2 := .ref (la u (k - 1))) (by rw [hp.1]; rfl) ?_
      refine rg_mem (M2 := M) hp.2 ?_
      refine rg_cast F (pc := 22) (ci := 2) rfl (hO.2.2.2.2.2.2.1 (k - 1) (by omega)) q295 dX3_lastWithMark_22 ?_
      refine rg_astore_n F (pc := 25) (lv' := [some (.ref (x)), some (.int (nI mk)), some (.int (nI (k - 1))), some (.ref (la u (k - 1)))]) dX3_lastWithMark_25 (Nat.le_of_ble_eq_true rfl) rfl ?_
      refine rg_aload_n F (pc := 26) dX3_lastWithMark_26 rfl ?_
      refine rg_get F (pc := 27) (ci := 2) rfl inX1 (hO.2.2.2.2.2.2.1 (k - 1) (by omega)) 2 (by decide) q260 (fun _ h9 => h9) rfl dX3_lastWithMark_27 ?_
      refine rg_iload_n F (pc := 30) dX3_lastWithMark_30 rfl ?_
      have hzk := hmk5 (k - 1) (by omega)
      refine rg_ncmp_ne F (pc := 31) (tgt := 36) dX3_lastWithMark_31 (by decide) (by omega) (by omega) (fun c31 => ?_) (fun c31 => ?_)
      · refine rg_sub (lv' := [some (.ref (x)), some (.int (nI mk)), some (.int (nI (k - 1))), none]) (by repeat' constructor) ?_
        refine rg_iinc F (pc := 36) (v := nI (k - 1) - nI 1) (lv' := [some (.ref (x)), some (.int (nI mk)), some (.int (nI (k - 1) - nI 1)), none]) dX3_lastWithMark_36 rfl (rm_1 _) (Nat.le_of_ble_eq_true rfl) rfl ?_
        refine rg_goto F (pc := 39) (tgt := 10) dX3_lastWithMark_39 (by decide) ?_
        exact ih (k - 1) (by omega) (by omega) (by rw [hn1, zNear_s P mk k hk0, if_neg c31])
      · refine rg_aload_n F (pc := 34) dX3_lastWithMark_34 rfl ?_
        exact rg_aret F (pc := 35) (some (la u (k - 1))) rfl hrt9 (Or.inl ⟨_, rfl⟩) (by decide) (by decide) dX3_lastWithMark_35 ⟨by rw [hn1, zNear_s P mk k hk0, if_pos c31]; rfl, rfl⟩
