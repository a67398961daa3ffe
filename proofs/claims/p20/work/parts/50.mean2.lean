set_option maxHeartbeats 4000000 in
set_option maxRecDepth 100000 in
theorem c_mean (l : Launch) (D : va_G) (M : rMem) (x : Nat) (P : Poem) (nW nL : Nat) (u : Nat → Nat → Nat) (hV : cV D M x P nW nL u) : CMd l D yX3_mean cX3_mean 2 ((some .double)) 5 0 0 M [.ref (x)] (fun r M' => r = zMean P nL ∧ M' = M) := by
  refine rM (lv0 := [some (.ref (x)), none]) (by decide) rfl rfl (Nat.le_of_ble_eq_true rfl) (fun P0 E0 S0 m0 as0 bl0 mt0 c0 A F hrt9 hnm => ?_)
  have hO := cV_see hV
  obtain ⟨mdw, hLw⟩ := hO.2.2.1
  obtain ⟨mdl, hLl⟩ := hO.2.2.2.1
  have hn30 := hO.1.1.1
  have hn10 := hO.1.2.1
  have hal := zAll_le hO.1 nL (Nat.le_refl _)
  refine rg_aload_n F (pc := 0) dX3_mean_0 rfl ?_
  refine rg_get F (pc := 1) (ci := 4) rfl inX3 hO.2.1 1 (by decide) q203 (fun _ h9 => h9) rfl dX3_mean_1 ?_
  refine rg_callVi F (pc := 4) (As := []) (rest := []) (ci := 0) (c_size l D _ (gl u) mdl (gbl u) nL hLl.1) q221 vq_Jx4a65c_size_8abf5 rfl hLl.1 rfl rfl (Nat.le_of_ble_eq_true rfl) (Nat.le_of_ble_eq_true rfl) (Nat.le_of_ble_eq_true rfl) ⟨(Nat.le_of_ble_eq_true rfl), (Nat.le_of_ble_eq_true rfl)⟩ dX3_mean_4 (fun r9 M9 hp => ?_)
  refine rg_top (v2 := .int (nI nL)) (by first | (rw [hp.1]; done) | (rw [hp.1]; rfl)) ?_
  refine rg_mem (M2 := M) hp.2 ?_
  refine rg_istore_n F (pc := 7) (lv' := [some (.ref (x)), some (.int (nI nL))]) dX3_mean_7 (Nat.le_of_ble_eq_true rfl) rfl ?_
  refine rg_iload_n F (pc := 8) dX3_mean_8 rfl ?_
  refine rg_nif_le F (pc := 9) (tgt := 23) dX3_mean_9 (by decide) (by omega) (fun c9 => ?_) (fun c9 => ?_)
  · refine rg_dconst0 F (pc := 23) dX3_mean_23 ?_
    exact rg_dret F (pc := 24) hrt9 (by decide) (by decide) dX3_mean_24 ⟨by unfold zMean; rw [if_neg (by omega)]; rfl, rfl⟩
  · refine rg_aload_n F (pc := 12) dX3_mean_12 rfl ?_
    refine rg_callVi F (pc := 13) (As := []) (rest := []) (ci := 4) (c_allV l D _ x P nW nL u hV) q352 vq_X3_allTaxes rfl hO.2.1 rfl rfl (Nat.le_of_ble_eq_true rfl) (Nat.le_of_ble_eq_true rfl) (Nat.le_of_ble_eq_true rfl) ⟨(Nat.le_of_ble_eq_true rfl), (Nat.le_of_ble_eq_true rfl)⟩ dX3_mean_13 (fun r9 M9 hp => ?_)
    refine rg_top (v2 := .int (nI (zAll P nL))) (by first | (rw [hp.1]; done) | (rw [hp.1]; rfl)) ?_
    refine rg_mem (M2 := M) hp.2 ?_
    refine rg_i2d F (pc := 16) dX3_mean_16 ?_
    refine rg_iload_n F (pc := 17) dX3_mean_17 rfl ?_
    refine rg_i2d F (pc := 18) dX3_mean_18 ?_
    refine rg_ddiv F (pc := 19) dX3_mean_19 (dd_n (by omega) (by omega) (by omega)) ?_
    refine rg_goto F (pc := 20) (tgt := 24) dX3_mean_20 (by decide) ?_
    exact rg_dret F (pc := 24) hrt9 (by decide) (by decide) dX3_mean_24 ⟨by unfold zMean; rw [if_pos (by omega)], rfl⟩
