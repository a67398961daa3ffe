theorem cR_new {D : va_G} {M : rMem} {x : Nat} {P : Poem} {nW nL : Nat} {u : Nat → Nat → Nat} (h : cR D M x P nW nL u) {a : Nat} {e : va_E} (ha : M a = none) : cR D (mset M a e) x P nW nL u := by
  obtain ⟨⟨h0, hx, ⟨m3, h3⟩, ⟨m4, h4⟩, h5, h6, h7⟩, hl, ff, f1, f2, f3⟩ := h
  exact ⟨⟨h0, mset_in ha hx, ⟨m3, isL_new h3 ha⟩, ⟨m4, isL_new h4 ha⟩, fun w hw => mset_in ha (h5 w hw), fun i hi => by obtain ⟨m6, h6⟩ := h6 i hi; exact ⟨m6, isL_new h6 ha⟩, h7⟩, fun i hi => mset_in ha (hl i hi), ff, mset_in ha f1, mset_in ha f2, f3⟩
theorem cR_V {D : va_G} {M : rMem} {x : Nat} {P : Poem} {nW nL : Nat} {u : Nat → Nat → Nat} (h : cR D M x P nW nL u) : cV D M x P nW nL u := ⟨u, ueq.rf u, h⟩
theorem pw_16 {s : Nat} (h : s ≤ 4) : 2 ^ s ≤ 16 := (Nat.pow_le_pow_right (by decide) h : 2 ^ s ≤ 2 ^ 4)
set_option maxHeartbeats 4000000 in
set_option maxRecDepth 100000 in
theorem c_wordR (l : Launch) (D : va_G) (M : rMem) (x : Nat) (P : Poem) (nW nL : Nat) (u : Nat → Nat → Nat) (s t v e o : Nat) (hR : cR D M x P nW nL u) (hn : nW < 30) (hs1 : 1 ≤ s) (hs4 : s ≤ 4) (ht : t < 2 ^ s) (hv : v < 10) (he : e < 10) (ho : o < 2) : CMi l D yX3_word cX3_word 7 ((some .int)) 8 2 106 M [.ref (x), .int (nI s), .int (nI t), .int (nI v), .int (nI e), .int (nI o)] (fun r M' => r = nI nW ∧ ∃ u', cR D M' x (zNewW P nW s t v e o) (nW + 1) nL u') := by
  obtain ⟨hS, hl, ff, hf1, hf2, hf3⟩ := id hR
  obtain ⟨mdw, hLw⟩ := hS.2.2.1
  obtain ⟨mdl, hLl⟩ := hS.2.2.2.1
  have hn30 := hS.1.1.1
  have hn10 := hS.1.2.1
  refine rM (lv0 := [some (.ref (x)), some (.int (nI s)), some (.int (nI t)), some (.int (nI v)), some (.int (nI e)), some (.int (nI o)), none]) (by decide) rfl rfl (Nat.le_of_ble_eq_true rfl) (fun P0 E0 S0 m0 as0 bl0 mt0 c0 A F hrt9 hnm => ?_)
  have h16 := pw_16 hs4
  refine rg_iload_n F (pc := 0) dX3_word_0 rfl ?_
  refine rg_iconst F (pc := 1) (v := nI 1) dX3_word_1 (by decide) ?_
  refine rg_ncmp_lt F (pc := 2) (tgt := 21) dX3_word_2 (by decide) (by omega) (by omega) (fun c2 => by exfalso; omega) (fun c2 => ?_)
  refine rg_iload_n F (pc := 5) dX3_word_5 rfl ?_
  refine rg_iconst F (pc := 6) (v := nI 4) dX3_word_6 (by decide) ?_
  refine rg_ncmp_gt F (pc := 7) (tgt := 21) dX3_word_7 (by decide) (by omega) (by omega) (fun c7 => by exfalso; omega) (fun c7 => ?_)
  refine rg_iload_n F (pc := 10) dX3_word_10 rfl ?_
  refine rg_if_lt F (pc := 11) (tgt := 21) dX3_word_11 (by decide) (fun c9 => absurd c9 (nI_pos (by omega))) (fun _ => ?_)
  refine rg_iload_n F (pc := 14) dX3_word_14 rfl ?_
  refine rg_iconst F (pc := 15) (v := nI 1) dX3_word_15 (by decide) ?_
  refine rg_iload_n F (pc := 16) dX3_word_16 rfl ?_
  refine rg_ishl F (pc := 17) (v := nI (1 * 2 ^ s)) dX3_word_17 (rn_shl (by omega)) ?_
  refine rg_ncmp_lt F (pc := 18) (tgt := 31) dX3_word_18 (by decide) (by omega) (by omega) (fun c18 => ?_) (fun c18 => by exfalso; omega)
  refine rg_iload_n F (pc := 31) dX3_word_31 rfl ?_
  refine rg_bipush F (pc := 32) (v := nI 10) dX3_word_32 (by decide) ?_
  refine rg_callSi F (pc := 34) (As := [.int (nI v), .int (nI 10)]) (rest := []) (c_isBelow l D _ (nI v) 10 (by omega)) q220 sq_X3_isBelow rfl rfl (Nat.le_of_ble_eq_true rfl) (Nat.le_of_ble_eq_true rfl) (Nat.le_of_ble_eq_true rfl) ⟨(Nat.le_of_ble_eq_true rfl), (Nat.le_of_ble_eq_true rfl)⟩ dX3_word_34 (fun r9 M9 hp => ?_)
  refine rg_top (v2 := .int (nI (rBel (nI v) 10).toNat)) (by first | (rw [hp.1]; done) | (rw [hp.1]; rfl)) ?_
  refine rg_mem (M2 := M) hp.2 ?_
  refine rg_bif_eq F (pc := 37) (tgt := 50) dX3_word_37 (by decide) (fun c37 => absurd c37 (by rw [rBel_nI (by omega), decide_eq_true hv]; decide)) (fun c37 => ?_)
  refine rg_iload F (pc := 40) dX3_word_40 rfl ?_
  refine rg_bipush F (pc := 42) (v := nI 10) dX3_word_42 (by decide) ?_
  refine rg_callSi F (pc := 44) (As := [.int (nI e), .int (nI 10)]) (rest := []) (c_isBelow l D _ (nI e) 10 (by omega)) q220 sq_X3_isBelow rfl rfl (Nat.le_of_ble_eq_true rfl) (Nat.le_of_ble_eq_true rfl) (Nat.le_of_ble_eq_true rfl) ⟨(Nat.le_of_ble_eq_true rfl), (Nat.le_of_ble_eq_true rfl)⟩ dX3_word_44 (fun r9 M9 hp => ?_)
  refine rg_top (v2 := .int (nI (rBel (nI e) 10).toNat)) (by first | (rw [hp.1]; done) | (rw [hp.1]; rfl)) ?_
  refine rg_mem (M2 := M) hp.2 ?_
  refine rg_bif_ne F (pc := 47) (tgt := 60) dX3_word_47 (by decide) (fun c47 => ?_) (fun c47 => absurd c47 (by rw [rBel_nI (by omega), decide_eq_true he]; decide))
  refine rg_aload_n F (pc := 60) dX3_word_60 rfl ?_
  refine rg_get F (pc := 61) (ci := 4) rfl inX3 hS.2.1 0 (by decide) q202 (fun _ h9 => h9) rfl dX3_word_61 ?_
  refine rg_callVi F (pc := 64) (As := []) (rest := []) (ci := 0) (c_size l D _ (gw u) mdw (gbw u) nW hLw.1) q221 vq_Jx4a65c_size_8abf5 rfl hLw.1 rfl rfl (Nat.le_of_ble_eq_true rfl) (Nat.le_of_ble_eq_true rfl) (Nat.le_of_ble_eq_true rfl) ⟨(Nat.le_of_ble_eq_true rfl), (Nat.le_of_ble_eq_true rfl)⟩ dX3_word_64 (fun r9 M9 hp => ?_)
  refine rg_top (v2 := .int (nI nW)) (by first | (rw [hp.1]; done) | (rw [hp.1]; rfl)) ?_
  refine rg_mem (M2 := M) hp.2 ?_
  refine rg_bipush F (pc := 67) (v := nI 30) dX3_word_67 (by decide) ?_
  refine rg_ncmp_lt F (pc := 69) (tgt := 82) dX3_word_69 (by decide) (by omega) (by omega) (fun c69 => ?_) (fun c69 => by exfalso; omega)
  refine rg_new F (pc := 82) (ci := 3) (fs := [.int 0, .int 0, .int 0, .int 0, .int 0, .int 0]) rfl inX2 tyX2 tyX2_ok (fun j hj => by rcases (show j = 0 ∨ j = 1 ∨ j = 2 ∨ j = 3 ∨ j = 4 ∨ j = 5 by omega) with rfl | rfl | rfl | rfl | rfl | rfl <;> rfl) q232 q218 q117 (Nat.le_of_ble_eq_true rfl) (Nat.le_of_ble_eq_true rfl) dX3_word_82 (fun a82 ha82 => ?_)
  refine rg_widen (k2 := 1) (n2 := 6) (by decide) (by decide) ?_
  refine rg_mem (M2 := (mset M a82 (.inr (3, [.int (nI 0), .int (nI 0), .int (nI 0), .int (nI 0), .int (nI 0), .int (nI 0)])))) rfl ?_
  refine rg_dup F (pc := 85) dX3_word_85 rfl ?_
  refine rg_aload_n F (pc := 86) dX3_word_86 rfl ?_
  refine rg_get F (pc := 87) (ci := 4) rfl inX3 (mset_keep hS.2.1 (mne_none hS.2.1 ha82)) 0 (by decide) q202 (fun _ h9 => h9) rfl dX3_word_87 ?_
  refine rg_callVi F (pc := 90) (As := []) (rest := [.ref (a82), .ref (a82)]) (ci := 0) (c_size l D _ (gw u) mdw (gbw u) nW (mset_keep hLw.1 (mne_none hLw.1 ha82))) q221 vq_Jx4a65c_size_8abf5 rfl (mset_keep hLw.1 (mne_none hLw.1 ha82)) rfl rfl (Nat.le_of_ble_eq_true rfl) (Nat.le_of_ble_eq_true rfl) (Nat.le_of_ble_eq_true rfl) ⟨(Nat.le_of_ble_eq_true rfl), (Nat.le_of_ble_eq_true rfl)⟩ dX3_word_90 (fun r9 M9 hp => ?_)
  refine rg_top (v2 := .int (nI nW)) (by first | (rw [hp.1]; done) | (rw [hp.1]; rfl)) ?_
  refine rg_mem (M2 := (mset M a82 (.inr (3, [.int (nI 0), .int (nI 0), .int (nI 0), .int (nI 0), .int (nI 0), .int (nI 0)])))) hp.2 ?_
  refine rg_iload_n F (pc := 93) dX3_word_93 rfl ?_
  refine rg_iload_n F (pc := 94) dX3_word_94 rfl ?_
  refine rg_iload_n F (pc := 95) dX3_word_95 rfl ?_
  refine rg_iload F (pc := 96) dX3_word_96 rfl ?_
  refine rg_iload F (pc := 98) dX3_word_98 rfl ?_
  refine rg_callIv F (pc := 100) (As := [.int (nI nW), .int (nI s), .int (nI t), .int (nI v), .int (nI e), .int (nI o)]) (rest := [.ref (a82)]) (c_wordInit l D _ a82 nW s t v e o _ _ _ _ _ _ mset_eq ho) q222 iq_X2_init rfl rfl (Nat.le_of_ble_eq_true rfl) (Nat.le_of_ble_eq_true rfl) (Nat.le_of_ble_eq_true rfl) ⟨(Nat.le_of_ble_eq_true rfl), (Nat.le_of_ble_eq_true rfl)⟩ dX3_word_100 (fun M9 hp => ?_)
  refine rg_mem (M2 := (mset M a82 (.inr (3, [.int (nI nW), .int (nI s), .int (nI t), .int (nI v), .int (nI e), .int (nI o)])))) (hp.trans mset_mset) ?_
  refine rg_astore F (pc := 103) (lv' := [some (.ref (x)), some (.int (nI s)), some (.int (nI t)), some (.int (nI v)), some (.int (nI e)), some (.int (nI o)), some (.ref (a82))]) dX3_word_103 (Nat.le_of_ble_eq_true rfl) rfl ?_
  refine rg_aload_n F (pc := 105) dX3_word_105 rfl ?_
  refine rg_get F (pc := 106) (ci := 4) rfl inX3 (mset_keep hS.2.1 (mne_none hS.2.1 ha82)) 0 (by decide) q202 (fun _ h9 => h9) rfl dX3_word_106 ?_
  refine rg_aload F (pc := 109) dX3_word_109 rfl ?_
  refine rg_callVi F (pc := 111) (As := [.ref (a82)]) (rest := []) (ci := 0) (c_ladd l D _ (gw u) mdw (gbw u) nW (wa u) a82 (isL_new hLw ha82) (by omega) (fun i hi => isE_w (mset_in ha82 (hS.2.2.2.2.1 i hi))) (isE_w mset_eq)) q229 vq_Jx4a65c_add_9ea2d rfl (mset_keep hLw.1 (mne_none hLw.1 ha82)) rfl rfl (Nat.le_of_ble_eq_true rfl) (Nat.le_of_ble_eq_true rfl) (Nat.le_of_ble_eq_true rfl) ⟨(Nat.le_of_ble_eq_true rfl), (Nat.le_of_ble_eq_true rfl)⟩ dX3_word_111 (fun r9 M2 hp => ?_)
  refine rg_widen (k2 := 2) (n2 := 106) (by decide) (by decide) ?_
  refine rg_top (v2 := .int (nI 1)) (by rw [hp.1]) ?_
  obtain ⟨u', hR2⟩ := word_step (P' := (zNewW P nW s t v e o)) hR ha82 (zNewW_ok hS.1 hn hs1 hs4 ht hv he ho) (fun i hi => zNewW_sam hS.1 s t v e o hi) (fun f w hw => (zNewW_o P nW s t v e o (by omega) f).symm) (by obtain ⟨q1, q2, q3, q4, q5⟩ := zNewW_n P nW s t v e o; unfold wo; rw [q1, q2, q3, q4, q5]) hp.2
  have hwm := hp.2.2.1 _ _ mset_eq (Ne.symm (mne_none hLw.1 ha82))
  refine rg_pop F (pc := 114) dX3_word_114 rfl ?_
  refine rg_aload F (pc := 115) dX3_word_115 rfl ?_
  refine rg_get F (pc := 117) (ci := 3) rfl inX2 hwm 0 (by decide) q219 (fun _ h9 => h9) rfl dX3_word_117 ?_
  exact rg_iret F (pc := 120) hrt9 (by decide) (by decide) dX3_word_120 ⟨rfl, u', hR2⟩
theorem c_word (l : Launch) (D : va_G) (M : rMem) (x : Nat) (P : Poem) (nW nL : Nat) (u : Nat → Nat → Nat) (s t v e o : Nat) (hV : cV D M x P nW nL u) (hn : nW < 30) (hs1 : 1 ≤ s) (hs4 : s ≤ 4) (ht : t < 2 ^ s) (hv : v < 10) (he : e < 10) (ho : o < 2) : CMi l D yX3_word cX3_word 7 (some .int) 8 2 106 M [.ref x, .int (nI s), .int (nI t), .int (nI v), .int (nI e), .int (nI o)] (fun r M' => r = nI nW ∧ ∃ u', cV D M' x (zNewW P nW s t v e o) (nW + 1) nL u') := by
  obtain ⟨u1, hu, hR⟩ := hV
  exact CMi_imp (c_wordR l D M x P nW nL u1 s t v e o hR hn hs1 hs4 ht hv he ho) (fun r M' h => ⟨h.1, by obtain ⟨u', h⟩ := h.2; exact ⟨u', cR_V h⟩⟩)
set_option maxHeartbeats 4000000 in
set_option maxRecDepth 100000 in
theorem c_lineR (l : Launch) (D : va_G) (M : rMem) (x : Nat) (P : Poem) (nW nL : Nat) (u : Nat → Nat → Nat) (m f k : Nat) (hR : cR D M x P nW nL u) (hn : nL < 10) (hm4 : m < 4) (hfa : 1 ≤ f) (hf6 : f ≤ 6) (hk : k < 6) : CMi l D yX3_line cX3_line 5 ((some .int)) 8 3 120 M [.ref (x), .int (nI m), .int (nI f), .int (nI k)] (fun r M' => r = nI nL ∧ ∃ u', cR D M' x (zNewL P nL m f k) nW (nL + 1) u') := by
  obtain ⟨hS, hl, ff, hf1, hf2, hf3⟩ := id hR
  obtain ⟨mdw, hLw⟩ := hS.2.2.1
  obtain ⟨mdl, hLl⟩ := hS.2.2.2.1
  have hn30 := hS.1.1.1
  have hn10 := hS.1.2.1
  refine rM (lv0 := [some (.ref (x)), some (.int (nI m)), some (.int (nI f)), some (.int (nI k)), none]) (by decide) rfl rfl (Nat.le_of_ble_eq_true rfl) (fun P0 E0 S0 m0 as0 bl0 mt0 c0 A F hrt9 hnm => ?_)
  refine rg_iload_n F (pc := 0) dX3_line_0 rfl ?_
  refine rg_iconst F (pc := 1) (v := nI 4) dX3_line_1 (by decide) ?_
  refine rg_callSi F (pc := 2) (As := [.int (nI m), .int (nI 4)]) (rest := []) (c_isBelow l D _ (nI m) 4 (by omega)) q220 sq_X3_isBelow rfl rfl (Nat.le_of_ble_eq_true rfl) (Nat.le_of_ble_eq_true rfl) (Nat.le_of_ble_eq_true rfl) ⟨(Nat.le_of_ble_eq_true rfl), (Nat.le_of_ble_eq_true rfl)⟩ dX3_line_2 (fun r9 M9 hp => ?_)
  refine rg_top (v2 := .int (nI (rBel (nI m) 4).toNat)) (by first | (rw [hp.1]; done) | (rw [hp.1]; rfl)) ?_
  refine rg_mem (M2 := M) hp.2 ?_
  refine rg_bif_eq F (pc := 5) (tgt := 28) dX3_line_5 (by decide) (fun c5 => absurd c5 (by rw [rBel_nI (by omega), decide_eq_true hm4]; decide)) (fun c5 => ?_)
  refine rg_iload_n F (pc := 8) dX3_line_8 rfl ?_
  refine rg_iconst F (pc := 9) (v := nI 1) dX3_line_9 (by decide) ?_
  refine rg_ncmp_lt F (pc := 10) (tgt := 28) dX3_line_10 (by decide) (by omega) (by omega) (fun c10 => by exfalso; omega) (fun c10 => ?_)
  refine rg_iload_n F (pc := 13) dX3_line_13 rfl ?_
  refine rg_bipush F (pc := 14) (v := nI 6) dX3_line_14 (by decide) ?_
  refine rg_ncmp_gt F (pc := 16) (tgt := 28) dX3_line_16 (by decide) (by omega) (by omega) (fun c16 => by exfalso; omega) (fun c16 => ?_)
  refine rg_iload_n F (pc := 19) dX3_line_19 rfl ?_
  refine rg_bipush F (pc := 20) (v := nI 6) dX3_line_20 (by decide) ?_
  refine rg_callSi F (pc := 22) (As := [.int (nI k), .int (nI 6)]) (rest := []) (c_isBelow l D _ (nI k) 6 (by omega)) q220 sq_X3_isBelow rfl rfl (Nat.le_of_ble_eq_true rfl) (Nat.le_of_ble_eq_true rfl) (Nat.le_of_ble_eq_true rfl) ⟨(Nat.le_of_ble_eq_true rfl), (Nat.le_of_ble_eq_true rfl)⟩ dX3_line_22 (fun r9 M9 hp => ?_)
  refine rg_top (v2 := .int (nI (rBel (nI k) 6).toNat)) (by first | (rw [hp.1]; done) | (rw [hp.1]; rfl)) ?_
  refine rg_mem (M2 := M) hp.2 ?_
  refine rg_bif_ne F (pc := 25) (tgt := 38) dX3_line_25 (by decide) (fun c25 => ?_) (fun c25 => absurd c25 (by rw [rBel_nI (by omega), decide_eq_true hk]; decide))
  refine rg_aload_n F (pc := 38) dX3_line_38 rfl ?_
  refine rg_get F (pc := 39) (ci := 4) rfl inX3 hS.2.1 1 (by decide) q203 (fun _ h9 => h9) rfl dX3_line_39 ?_
  refine rg_callVi F (pc := 42) (As := []) (rest := []) (ci := 0) (c_size l D _ (gl u) mdl (gbl u) nL hLl.1) q221 vq_Jx4a65c_size_8abf5 rfl hLl.1 rfl rfl (Nat.le_of_ble_eq_true rfl) (Nat.le_of_ble_eq_true rfl) (Nat.le_of_ble_eq_true rfl) ⟨(Nat.le_of_ble_eq_true rfl), (Nat.le_of_ble_eq_true rfl)⟩ dX3_line_42 (fun r9 M9 hp => ?_)
  refine rg_top (v2 := .int (nI nL)) (by first | (rw [hp.1]; done) | (rw [hp.1]; rfl)) ?_
  refine rg_mem (M2 := M) hp.2 ?_
  refine rg_istore F (pc := 45) (lv' := [some (.ref (x)), some (.int (nI m)), some (.int (nI f)), some (.int (nI k)), some (.int (nI nL))]) dX3_line_45 (Nat.le_of_ble_eq_true rfl) rfl ?_
  refine rg_iload F (pc := 47) dX3_line_47 rfl ?_
  refine rg_bipush F (pc := 49) (v := nI 10) dX3_line_49 (by decide) ?_
  refine rg_ncmp_lt F (pc := 51) (tgt := 64) dX3_line_51 (by decide) (by omega) (by omega) (fun c51 => ?_) (fun c51 => by exfalso; omega)
  refine rg_aload_n F (pc := 64) dX3_line_64 rfl ?_
  refine rg_get F (pc := 65) (ci := 4) rfl inX3 hS.2.1 1 (by decide) q203 (fun _ h9 => h9) rfl dX3_line_65 ?_
  refine rg_new F (pc := 68) (ci := 2) (fs := [.int 0, .int 0, .int 0, .null, .null, .long 0, .int 0, .int 0, .int 0, .int 0, .int 0, .int 0, .long 0, .int 0, .int 0, .int 0, .int 0]) rfl inX1 tyX1 tyX1_ok (fun j hj => by rcases (show j = 0 ∨ j = 1 ∨ j = 2 ∨ j = 3 ∨ j = 4 ∨ j = 5 ∨ j = 6 ∨ j = 7 ∨ j = 8 ∨ j = 9 ∨ j = 10 ∨ j = 11 ∨ j = 12 ∨ j = 13 ∨ j = 14 ∨ j = 15 ∨ j = 16 by omega) with rfl | rfl | rfl | rfl | rfl | rfl | rfl | rfl | rfl | rfl | rfl | rfl | rfl | rfl | rfl | rfl | rfl <;> rfl) q295 q296 q127 (Nat.le_of_ble_eq_true rfl) (Nat.le_of_ble_eq_true rfl) dX3_line_68 (fun a68 ha68 => ?_)
  refine rg_widen (k2 := 1) (n2 := 17) (by decide) (by decide) ?_
  refine rg_mem (M2 := (mset M a68 (.inr (2, [.int (nI 0), .int (nI 0), .int (nI 0), .null, .null, .long (lN 0), .int (nI 0), .int (nI 0), .int (nI 0), .int (nI 0), .int (nI 0), .int (nI 0), .long (lN 0), .int (nI 0), .int (nI 0), .int (nI 0), .int (nI 0)])))) rfl ?_
  refine rg_dup F (pc := 71) dX3_line_71 rfl ?_
  refine rg_iload_n F (pc := 72) dX3_line_72 rfl ?_
  refine rg_iload_n F (pc := 73) dX3_line_73 rfl ?_
  refine rg_iload_n F (pc := 74) dX3_line_74 rfl ?_
  refine rg_aload_n F (pc := 75) dX3_line_75 rfl ?_
  refine rg_iload_n F (pc := 76) dX3_line_76 rfl ?_
  refine rg_callVq F (pc := 77) (As := [.int (nI k)]) (rest := [.int (nI k), .int (nI f), .int (nI m), .ref (a68), .ref (a68), .ref (gl u)]) (ci := 4) (c_lwm l D _ x P nW nL u k (cR_V (cR_new hR ha68)) hk) q297 vq_X3_lastWithMark rfl (mset_keep hS.2.1 (mne_none hS.2.1 ha68)) rfl rfl (Nat.le_of_ble_eq_true rfl) (Nat.le_of_ble_eq_true rfl) (Nat.le_of_ble_eq_true rfl) ⟨(Nat.le_of_ble_eq_true rfl), (Nat.le_of_ble_eq_true rfl)⟩ dX3_line_77 (fun r9 M9 hp => ?_)
  refine rg_top (v2 := va_rf ((zNear P k nL).map (la u))) (by rw [hp.1]) ?_
  refine rg_mem (M2 := (mset M a68 (.inr (2, [.int (nI 0), .int (nI 0), .int (nI 0), .null, .null, .long (lN 0), .int (nI 0), .int (nI 0), .int (nI 0), .int (nI 0), .int (nI 0), .int (nI 0), .long (lN 0), .int (nI 0), .int (nI 0), .int (nI 0), .int (nI 0)])))) hp.2 ?_
  rcases hz : zNear P k nL with _ | j9
  · refine rg_eq (lv2 := [some (.ref (x)), some (.int (nI m)), some (.int (nI f)), some (.int (nI k)), some (.int (nI nL))]) (st2 := [.null, .int (nI k), .int (nI f), .int (nI m), .ref (a68), .ref (a68), .ref (gl u)]) (pc2 := 80) rfl rfl rfl ?_
    refine rg_callIv F (pc := 80) (As := [.int (nI m), .int (nI f), .int (nI k), .null]) (rest := [.ref (a68), .ref (gl u)]) (c_lineInit0 l D _ a68 m f k _ _ _ none none _ _ _ _ _ _ _ _ _ _ _ _ mset_eq) q300 iq_X1_init rfl rfl (Nat.le_of_ble_eq_true rfl) (Nat.le_of_ble_eq_true rfl) (Nat.le_of_ble_eq_true rfl) ⟨(Nat.le_of_ble_eq_true rfl), (Nat.le_of_ble_eq_true rfl)⟩ dX3_line_80 (fun M9 hp => ?_)
    refine rg_widen (k2 := 2) (n2 := 20) (by decide) (by decide) ?_
    obtain ⟨q26, hq0, hM9⟩ := hp
    obtain ⟨hq26, hq68⟩ := mset_out hq0
    refine rg_mem (M2 := (mset (mset M a68 (.inr (2, [.int (nI m), .int (nI f), .int (nI k), .null, .ref (q26), .long (lN 0), .int (nI 0), .int (nI 0), .int (nI 0), .int (nI 0), .int (nI 0), .int (nI 0), .long (lN 0), .int (nI 0), .int (nI 0), .int (nI 0), .int (nI 0)]))) q26 (.inr (0, [.int (nI 0), .ref (rT0 D), .int (nI 0)])))) (hM9.trans (by rw [mset_mset])) ?_
    refine rg_callVi F (pc := 83) (As := [.ref (a68)]) (rest := []) (ci := 0) (c_ladd l D _ (gl u) mdl (gbl u) nL (la u) a68 (isL_new (isL_new hLl ha68) (show mset M a68 (.inr (2, [.int (nI m), .int (nI f), .int (nI k), .null, .ref (q26), .long (lN 0), .int (nI 0), .int (nI 0), .int (nI 0), .int (nI 0), .int (nI 0), .int (nI 0), .long (lN 0), .int (nI 0), .int (nI 0), .int (nI 0), .int (nI 0)])) q26 = none by unfold mset; rw [if_neg hq68]; exact hq26)) (by omega) (fun i hi => isE_l (mset_in (show mset M a68 (.inr (2, [.int (nI m), .int (nI f), .int (nI k), .null, .ref (q26), .long (lN 0), .int (nI 0), .int (nI 0), .int (nI 0), .int (nI 0), .int (nI 0), .int (nI 0), .long (lN 0), .int (nI 0), .int (nI 0), .int (nI 0), .int (nI 0)])) q26 = none by unfold mset; rw [if_neg hq68]; exact hq26) (mset_in ha68 (hl i hi)))) (isE_l (mset_keep mset_eq hq68.symm))) q229 vq_Jx4a65c_add_9ea2d rfl (mset_keep (mset_keep hLl.1 (mne_none hLl.1 ha68)) (mne_none hLl.1 hq26)) rfl rfl (Nat.le_of_ble_eq_true rfl) (Nat.le_of_ble_eq_true rfl) (Nat.le_of_ble_eq_true rfl) ⟨(Nat.le_of_ble_eq_true rfl), (Nat.le_of_ble_eq_true rfl)⟩ dX3_line_83 (fun r9 M2 hp => ?_)
    refine rg_widen (k2 := 3) (n2 := 120) (by decide) (by decide) ?_
    refine rg_top (v2 := .int (nI 1)) (by rw [hp.1]) ?_
    obtain ⟨n1, n2, n3, n4⟩ := zNewL_n P nL m f k
    have hcp : cpt (zNewL P nL m f k) u nL = none := by unfold cpt; rw [n3, ← zNear_ag (P := P) (P' := (zNewL P nL m f k)) (fun j hj => (zNewL_sam P nL m f k (show j ≠ nL by omega)).ln.2.2.1), hz]; rfl
    have hlu : ([.int (nI m), .int (nI f), .int (nI k), .null, .ref (q26), .long (lN 0), .int (nI 0), .int (nI 0), .int (nI 0), .int (nI 0), .int (nI 0), .int (nI 0), .long (lN 0), .int (nI 0), .int (nI 0), .int (nI 0), .int (nI 0)] : List Value) = lu (zNewL P nL m f k) nL (cpt (zNewL P nL m f k) u nL) q26 0 0 0 0 0 0 0 0 0 := by rw [hcp]; unfold lu zb zo; rw [n1, n2, n3, n4]; rfl
    obtain ⟨u', hS2, hl2, hU2, ⟨f4, g1, g2, g3⟩, hG⟩ := line_step (P' := (zNewL P nL m f k)) hR ha68 hq26 hq68.symm (zNewL_ok hS.1 hn hm4 hfa hf6 hk) (fun j hj => zNewL_sam P nL m f k hj) rfl n4 rfl ⟨0, 0, 0, 0, 0, 0, 0, 0, 0, hlu⟩ hp.2
    refine rg_pop F (pc := 86) dX3_line_86 rfl ?_
    refine rg_aload_n F (pc := 87) dX3_line_87 rfl ?_
    refine rg_iload F (pc := 88) dX3_line_88 rfl ?_
    refine rg_callVv F (pc := 90) (As := [.int (nI nL)]) (rest := []) (ci := 4) (c_scanFrom l D _ x (zNewL P nL m f k) nW (nL + 1) u' nL (zFl P nL) (zBg P nL) f4 hS2 (Nat.le_succ _) hl2 hU2 g1 g2 g3 hG) q302 vq_X3_scanFrom rfl hS2.2.1 rfl rfl (Nat.le_of_ble_eq_true rfl) (Nat.le_of_ble_eq_true rfl) (Nat.le_of_ble_eq_true rfl) ⟨(Nat.le_of_ble_eq_true rfl), (Nat.le_of_ble_eq_true rfl)⟩ dX3_line_90 (fun M3 hp => ?_)
    have hR3 : cR D M3 x (zNewL P nL m f k) nW (nL + 1) u' := ⟨hS2.keep hp.1, hp.2.1, hp.2.2.2⟩
    refine rg_iload F (pc := 93) dX3_line_93 rfl ?_
    exact rg_iret F (pc := 95) hrt9 (by decide) (by decide) dX3_line_95 ⟨rfl, u', hR3⟩
  · refine rg_eq (lv2 := [some (.ref (x)), some (.int (nI m)), some (.int (nI f)), some (.int (nI k)), some (.int (nI nL))]) (st2 := [.ref (la u j9), .int (nI k), .int (nI f), .int (nI m), .ref (a68), .ref (a68), .ref (gl u)]) (pc2 := 80) rfl rfl rfl ?_
    refine rg_callIv F (pc := 80) (As := [.int (nI m), .int (nI f), .int (nI k), .ref (la u j9)]) (rest := [.ref (a68), .ref (gl u)]) (c_lineInit1 l D _ a68 m f k (la u j9) _ _ _ none none _ _ _ _ _ _ _ _ _ _ _ _ mset_eq) q300 iq_X1_init rfl rfl (Nat.le_of_ble_eq_true rfl) (Nat.le_of_ble_eq_true rfl) (Nat.le_of_ble_eq_true rfl) ⟨(Nat.le_of_ble_eq_true rfl), (Nat.le_of_ble_eq_true rfl)⟩ dX3_line_80 (fun M9 hp => ?_)
    refine rg_widen (k2 := 2) (n2 := 20) (by decide) (by decide) ?_
    obtain ⟨q26, hq0, hM9⟩ := hp
    obtain ⟨hq26, hq68⟩ := mset_out hq0
    refine rg_mem (M2 := (mset (mset M a68 (.inr (2, [.int (nI m), .int (nI f), .int (nI k), .ref (la u j9), .ref (q26), .long (lN 0), .int (nI 0), .int (nI 0), .int (nI 0), .int (nI 0), .int (nI 0), .int (nI 0), .long (lN 0), .int (nI 0), .int (nI 0), .int (nI 0), .int (nI 0)]))) q26 (.inr (0, [.int (nI 0), .ref (rT0 D), .int (nI 0)])))) (hM9.trans (by rw [mset_mset])) ?_
    refine rg_callVi F (pc := 83) (As := [.ref (a68)]) (rest := []) (ci := 0) (c_ladd l D _ (gl u) mdl (gbl u) nL (la u) a68 (isL_new (isL_new hLl ha68) (show mset M a68 (.inr (2, [.int (nI m), .int (nI f), .int (nI k), .ref (la u j9), .ref (q26), .long (lN 0), .int (nI 0), .int (nI 0), .int (nI 0), .int (nI 0), .int (nI 0), .int (nI 0), .long (lN 0), .int (nI 0), .int (nI 0), .int (nI 0), .int (nI 0)])) q26 = none by unfold mset; rw [if_neg hq68]; exact hq26)) (by omega) (fun i hi => isE_l (mset_in (show mset M a68 (.inr (2, [.int (nI m), .int (nI f), .int (nI k), .ref (la u j9), .ref (q26), .long (lN 0), .int (nI 0), .int (nI 0), .int (nI 0), .int (nI 0), .int (nI 0), .int (nI 0), .long (lN 0), .int (nI 0), .int (nI 0), .int (nI 0), .int (nI 0)])) q26 = none by unfold mset; rw [if_neg hq68]; exact hq26) (mset_in ha68 (hl i hi)))) (isE_l (mset_keep mset_eq hq68.symm))) q229 vq_Jx4a65c_add_9ea2d rfl (mset_keep (mset_keep hLl.1 (mne_none hLl.1 ha68)) (mne_none hLl.1 hq26)) rfl rfl (Nat.le_of_ble_eq_true rfl) (Nat.le_of_ble_eq_true rfl) (Nat.le_of_ble_eq_true rfl) ⟨(Nat.le_of_ble_eq_true rfl), (Nat.le_of_ble_eq_true rfl)⟩ dX3_line_83 (fun r9 M2 hp => ?_)
    refine rg_widen (k2 := 3) (n2 := 120) (by decide) (by decide) ?_
    refine rg_top (v2 := .int (nI 1)) (by rw [hp.1]) ?_
    obtain ⟨n1, n2, n3, n4⟩ := zNewL_n P nL m f k
    have hcp : cpt (zNewL P nL m f k) u nL = some (la u j9) := by unfold cpt; rw [n3, ← zNear_ag (P := P) (P' := (zNewL P nL m f k)) (fun j hj => (zNewL_sam P nL m f k (show j ≠ nL by omega)).ln.2.2.1), hz]; rfl
    have hlu : ([.int (nI m), .int (nI f), .int (nI k), .ref (la u j9), .ref (q26), .long (lN 0), .int (nI 0), .int (nI 0), .int (nI 0), .int (nI 0), .int (nI 0), .int (nI 0), .long (lN 0), .int (nI 0), .int (nI 0), .int (nI 0), .int (nI 0)] : List Value) = lu (zNewL P nL m f k) nL (cpt (zNewL P nL m f k) u nL) q26 0 0 0 0 0 0 0 0 0 := by rw [hcp]; unfold lu zb zo; rw [n1, n2, n3, n4]; rfl
    obtain ⟨u', hS2, hl2, hU2, ⟨f4, g1, g2, g3⟩, hG⟩ := line_step (P' := (zNewL P nL m f k)) hR ha68 hq26 hq68.symm (zNewL_ok hS.1 hn hm4 hfa hf6 hk) (fun j hj => zNewL_sam P nL m f k hj) rfl n4 rfl ⟨0, 0, 0, 0, 0, 0, 0, 0, 0, hlu⟩ hp.2
    refine rg_pop F (pc := 86) dX3_line_86 rfl ?_
    refine rg_aload_n F (pc := 87) dX3_line_87 rfl ?_
    refine rg_iload F (pc := 88) dX3_line_88 rfl ?_
    refine rg_callVv F (pc := 90) (As := [.int (nI nL)]) (rest := []) (ci := 4) (c_scanFrom l D _ x (zNewL P nL m f k) nW (nL + 1) u' nL (zFl P nL) (zBg P nL) f4 hS2 (Nat.le_succ _) hl2 hU2 g1 g2 g3 hG) q302 vq_X3_scanFrom rfl hS2.2.1 rfl rfl (Nat.le_of_ble_eq_true rfl) (Nat.le_of_ble_eq_true rfl) (Nat.le_of_ble_eq_true rfl) ⟨(Nat.le_of_ble_eq_true rfl), (Nat.le_of_ble_eq_true rfl)⟩ dX3_line_90 (fun M3 hp => ?_)
    have hR3 : cR D M3 x (zNewL P nL m f k) nW (nL + 1) u' := ⟨hS2.keep hp.1, hp.2.1, hp.2.2.2⟩
    refine rg_iload F (pc := 93) dX3_line_93 rfl ?_
    exact rg_iret F (pc := 95) hrt9 (by decide) (by decide) dX3_line_95 ⟨rfl, u', hR3⟩
theorem c_line (l : Launch) (D : va_G) (M : rMem) (x : Nat) (P : Poem) (nW nL : Nat) (u : Nat → Nat → Nat) (m f k : Nat) (hV : cV D M x P nW nL u) (hn : nL < 10) (hm4 : m < 4) (hfa : 1 ≤ f) (hf6 : f ≤ 6) (hk : k < 6) : CMi l D yX3_line cX3_line 5 (some .int) 8 3 120 M [.ref x, .int (nI m), .int (nI f), .int (nI k)] (fun r M' => r = nI nL ∧ ∃ u', cV D M' x (zNewL P nL m f k) nW (nL + 1) u') := by
  obtain ⟨u1, hu, hR⟩ := hV
  exact CMi_imp (c_lineR l D M x P nW nL u1 m f k hR hn hm4 hfa hf6 hk) (fun r M' h => ⟨h.1, by obtain ⟨u', h⟩ := h.2; exact ⟨u', cR_V h⟩⟩)
