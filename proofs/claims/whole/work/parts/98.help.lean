theorem hq_word : rHq yL_word cL_word 8 [(0, 16, 19, 13), (0, 16, 23, 15)] 7 := ⟨q584, q585, q520, ⟨by decide +kernel, by decide +kernel, by decide +kernel⟩⟩
set_option maxHeartbeats 4000000 in
set_option maxRecDepth 100000 in
theorem h_word (l : Launch) (D : va_G) (M : rMem) (x o : Nat) (p0 p1 p2 p3 p4 : Int32) (v0 : Nat → Int64) (fs : List Value) (lev mc ms : Nat) (post : Int32 → rMem → Prop) (hrm : M x = some (.inr (4, fs))) (ho : M o = none) (hM : CMi l D yX3_word cX3_word 7 (some .int) lev mc ms M [.ref (x), .int (p0), .int (p1), .int (p2), .int (p3), .int (p4)] post) : CH l D yL_word cL_word 8 [(0, 16, 19, 13), (0, 16, 23, 15)] (lev + 1) mc ms (mjoin M (mone o (.inl (D.1 7, (1, .inr (.inl v0)))))) [.ref (x), .int (p0), .int (p1), .int (p2), .int (p3), .int (p4), .ref (o)] (fun r M' => r = nI 0 ∧ ∃ (r9 : Int32) (u : rMem), post r9 u ∧ u o = none ∧ M' = mjoin u (mone o (.inl (D.1 7, (1, .inr (.inl (vp_updL v0 0 r9.toInt64))))))) := by
  refine rMH (lv0 := [some (.ref (x)), some (.int (p0)), some (.int (p1)), some (.int (p2)), some (.int (p3)), some (.int (p4)), some (.ref (o)), none]) (by decide) rfl rfl (Nat.le_of_ble_eq_true rfl) (fun P0 E0 S0 m0 as0 bl0 mt0 c0 A F hrt9 htab hNc => ?_)
  refine rg_aload F (pc := 0) dL_word_0 rfl ?_
  refine rg_iconst F (pc := 2) (v := nI 0) dL_word_2 (by decide) ?_
  refine rg_aload_n F (pc := 3) dL_word_3 rfl ?_
  refine rg_iload_n F (pc := 4) dL_word_4 rfl ?_
  refine rg_iload_n F (pc := 5) dL_word_5 rfl ?_
  refine rg_iload_n F (pc := 6) dL_word_6 rfl ?_
  refine rg_iload F (pc := 7) dL_word_7 rfl ?_
  refine rg_iload F (pc := 9) dL_word_9 rfl ?_
  refine rg_fVi F (pc := 11) (M := M) (N := mone o (.inl (D.1 7, (1, .inr (.inl v0))))) (As := [.int (p0), .int (p1), .int (p2), .int (p3), .int (p4)]) (rest := [.int (nI 0), .ref (o)]) (ci := 4) hM q517 vq_X3_word rfl hrm rfl rfl (Nat.le_of_ble_eq_true rfl) (Nat.le_refl _) (by show 8 + (7 + 11) + 32 * lev ≤ 32 * (lev + 1); omega) ⟨by show 0 + mc ≤ mc; omega, by show 0 + ms ≤ ms; omega⟩ (mone_dis ho) dL_word_11 (fun r9 u hp hdis => ?_)
  refine rg_i2l F (pc := 14) (v := r9.toInt64) dL_word_14 rfl ?_
  refine rg_last F (pc := 15) (mj_in hdis mone_eq) (by decide) (by decide) dL_word_15 ?_
  refine rg_mem (mj_set (dis_mone hdis)) ?_
  refine rg_goto F (pc := 16) (tgt := 27) dL_word_16 (by decide) ?_
  refine rg_iconst F (pc := 27) (v := nI 0) dL_word_27 (by decide) ?_
  exact rg_iret F (pc := 28) hrt9 (by omega) (by omega) dL_word_28 ⟨rfl, r9, u, hp, dis_mone hdis, rfl⟩
set_option maxHeartbeats 4000000 in
set_option maxRecDepth 100000 in
theorem h_word_x1 (l : Launch) (D : va_G) (M : rMem) (x o : Nat) (p0 p1 p2 p3 p4 : Int32) (fs : List Value) (hrm : M x = some (.inr (4, fs))) (hM : CX l D yX3_word cX3_word 7 (some .int) 8 1 6 M [.ref (x), .int (p0), .int (p1), .int (p2), .int (p3), .int (p4)] "java/lang/IllegalArgumentException") : CH l D yL_word cL_word 8 [(0, 16, 19, 13), (0, 16, 23, 15)] 9 1 6 M [.ref (x), .int (p0), .int (p1), .int (p2), .int (p3), .int (p4), .ref (o)] (fun r M' => r = nI 1 ∧ M' = M) := by
  refine rMH (lv0 := [some (.ref (x)), some (.int (p0)), some (.int (p1)), some (.int (p2)), some (.int (p3)), some (.int (p4)), some (.ref (o)), none]) (by decide) rfl rfl (Nat.le_of_ble_eq_true rfl) (fun P0 E0 S0 m0 as0 bl0 mt0 c0 A F hrt9 htab hNc => ?_)
  refine rg_aload F (pc := 0) dL_word_0 rfl ?_
  refine rg_iconst F (pc := 2) (v := nI 0) dL_word_2 (by decide) ?_
  refine rg_aload_n F (pc := 3) dL_word_3 rfl ?_
  refine rg_iload_n F (pc := 4) dL_word_4 rfl ?_
  refine rg_iload_n F (pc := 5) dL_word_5 rfl ?_
  refine rg_iload_n F (pc := 6) dL_word_6 rfl ?_
  refine rg_iload F (pc := 7) dL_word_7 rfl ?_
  refine rg_iload F (pc := 9) dL_word_9 rfl ?_
  refine rg_xV F (pc := 11) [] ⟨0, 16, 19, 13⟩ [⟨0, 16, 23, 15⟩] (htab.trans rfl) (fun z hz => absurd hz List.not_mem_nil) (by decide) (by decide) q515 qn6 (As := [.int (p0), .int (p1), .int (p2), .int (p3), .int (p4)]) (rest := [.int (nI 0), .ref (o)]) (ci := 4) hM q517 vq_X3_word rfl hrm rfl rfl (Nat.le_of_ble_eq_true rfl) (by decide) (Nat.le_of_ble_eq_true rfl) ⟨by decide, by decide⟩ dL_word_11 (fun q9 => ?_)
  refine rg_astore F (pc := 19) (lv' := [some (.ref (x)), some (.int (p0)), some (.int (p1)), some (.int (p2)), some (.int (p3)), some (.int (p4)), some (.ref (o)), some (.ref (q9))]) dL_word_19 (Nat.le_of_ble_eq_true rfl) rfl ?_
  refine rg_iconst F (pc := 21) (v := nI 1) dL_word_21 (by decide) ?_
  exact rg_iret F (pc := 22) hrt9 (by decide) (by decide) dL_word_22 ⟨rfl, rfl⟩
set_option maxHeartbeats 4000000 in
set_option maxRecDepth 100000 in
theorem h_word_x2 (l : Launch) (D : va_G) (M : rMem) (x o : Nat) (p0 p1 p2 p3 p4 : Int32) (fs : List Value) (hrm : M x = some (.inr (4, fs))) (hM : CX l D yX3_word cX3_word 7 (some .int) 8 1 6 M [.ref (x), .int (p0), .int (p1), .int (p2), .int (p3), .int (p4)] "java/lang/IllegalStateException") : CH l D yL_word cL_word 8 [(0, 16, 19, 13), (0, 16, 23, 15)] 9 1 6 M [.ref (x), .int (p0), .int (p1), .int (p2), .int (p3), .int (p4), .ref (o)] (fun r M' => r = nI 2 ∧ M' = M) := by
  refine rMH (lv0 := [some (.ref (x)), some (.int (p0)), some (.int (p1)), some (.int (p2)), some (.int (p3)), some (.int (p4)), some (.ref (o)), none]) (by decide) rfl rfl (Nat.le_of_ble_eq_true rfl) (fun P0 E0 S0 m0 as0 bl0 mt0 c0 A F hrt9 htab hNc => ?_)
  refine rg_aload F (pc := 0) dL_word_0 rfl ?_
  refine rg_iconst F (pc := 2) (v := nI 0) dL_word_2 (by decide) ?_
  refine rg_aload_n F (pc := 3) dL_word_3 rfl ?_
  refine rg_iload_n F (pc := 4) dL_word_4 rfl ?_
  refine rg_iload_n F (pc := 5) dL_word_5 rfl ?_
  refine rg_iload_n F (pc := 6) dL_word_6 rfl ?_
  refine rg_iload F (pc := 7) dL_word_7 rfl ?_
  refine rg_iload F (pc := 9) dL_word_9 rfl ?_
  refine rg_xV F (pc := 11) [⟨0, 16, 19, 13⟩] ⟨0, 16, 23, 15⟩ [] (htab.trans rfl) (fun z hz => Or.inr (by rw [List.mem_singleton.mp hz]; exact ⟨by decide, _, F.2.2.2.2.1 _ q515, hNc.1⟩)) (by decide) (by decide) q516 qn13 (As := [.int (p0), .int (p1), .int (p2), .int (p3), .int (p4)]) (rest := [.int (nI 0), .ref (o)]) (ci := 4) hM q517 vq_X3_word rfl hrm rfl rfl (Nat.le_of_ble_eq_true rfl) (by decide) (Nat.le_of_ble_eq_true rfl) ⟨by decide, by decide⟩ dL_word_11 (fun q9 => ?_)
  refine rg_astore F (pc := 23) (lv' := [some (.ref (x)), some (.int (p0)), some (.int (p1)), some (.int (p2)), some (.int (p3)), some (.int (p4)), some (.ref (o)), some (.ref (q9))]) dL_word_23 (Nat.le_of_ble_eq_true rfl) rfl ?_
  refine rg_iconst F (pc := 25) (v := nI 2) dL_word_25 (by decide) ?_
  exact rg_iret F (pc := 26) hrt9 (by decide) (by decide) dL_word_26 ⟨rfl, rfl⟩
theorem hq_about : rHq yL_about cL_about 5 [(0, 10, 13, 21)] 4 := ⟨q593, q585, q525, ⟨by decide +kernel, by decide +kernel, by decide +kernel⟩⟩
set_option maxHeartbeats 4000000 in
set_option maxRecDepth 100000 in
theorem h_about (l : Launch) (D : va_G) (M : rMem) (x o : Nat) (p0 p1 : Int32) (v0 : Nat → Int64) (fs : List Value) (lev mc ms : Nat) (post : Int32 → rMem → Prop) (hrm : M x = some (.inr (4, fs))) (ho : M o = none) (hM : CMi l D yX3_about cX3_about 4 (some .int) lev mc ms M [.ref (x), .int (p0), .int (p1)] post) : CH l D yL_about cL_about 5 [(0, 10, 13, 21)] (lev + 1) mc ms (mjoin M (mone o (.inl (D.1 7, (1, .inr (.inl v0)))))) [.ref (x), .int (p0), .int (p1), .ref (o)] (fun r M' => r = nI 0 ∧ ∃ (r9 : Int32) (u : rMem), post r9 u ∧ u o = none ∧ M' = mjoin u (mone o (.inl (D.1 7, (1, .inr (.inl (vp_updL v0 0 r9.toInt64))))))) := by
  refine rMH (lv0 := [some (.ref (x)), some (.int (p0)), some (.int (p1)), some (.ref (o)), none]) (by decide) rfl rfl (Nat.le_of_ble_eq_true rfl) (fun P0 E0 S0 m0 as0 bl0 mt0 c0 A F hrt9 htab hNc => ?_)
  refine rg_aload_n F (pc := 0) dL_about_0 rfl ?_
  refine rg_iconst F (pc := 1) (v := nI 0) dL_about_1 (by decide) ?_
  refine rg_aload_n F (pc := 2) dL_about_2 rfl ?_
  refine rg_iload_n F (pc := 3) dL_about_3 rfl ?_
  refine rg_iload_n F (pc := 4) dL_about_4 rfl ?_
  refine rg_fVi F (pc := 5) (M := M) (N := mone o (.inl (D.1 7, (1, .inr (.inl v0))))) (As := [.int (p0), .int (p1)]) (rest := [.int (nI 0), .ref (o)]) (ci := 4) hM q522 vq_X3_about rfl hrm rfl rfl (Nat.le_of_ble_eq_true rfl) (Nat.le_refl _) (by show 8 + (4 + 11) + 32 * lev ≤ 32 * (lev + 1); omega) ⟨by show 0 + mc ≤ mc; omega, by show 0 + ms ≤ ms; omega⟩ (mone_dis ho) dL_about_5 (fun r9 u hp hdis => ?_)
  refine rg_i2l F (pc := 8) (v := r9.toInt64) dL_about_8 rfl ?_
  refine rg_last F (pc := 9) (mj_in hdis mone_eq) (by decide) (by decide) dL_about_9 ?_
  refine rg_mem (mj_set (dis_mone hdis)) ?_
  refine rg_goto F (pc := 10) (tgt := 17) dL_about_10 (by decide) ?_
  refine rg_iconst F (pc := 17) (v := nI 0) dL_about_17 (by decide) ?_
  exact rg_iret F (pc := 18) hrt9 (by omega) (by omega) dL_about_18 ⟨rfl, r9, u, hp, dis_mone hdis, rfl⟩
set_option maxHeartbeats 4000000 in
set_option maxRecDepth 100000 in
theorem h_about_x1 (l : Launch) (D : va_G) (M : rMem) (x o : Nat) (p0 p1 : Int32) (fs : List Value) (hrm : M x = some (.inr (4, fs))) (hM : CX l D yX3_about cX3_about 4 (some .int) 8 1 6 M [.ref (x), .int (p0), .int (p1)] "java/lang/IndexOutOfBoundsException") : CH l D yL_about cL_about 5 [(0, 10, 13, 21)] 9 1 6 M [.ref (x), .int (p0), .int (p1), .ref (o)] (fun r M' => r = nI 1 ∧ M' = M) := by
  refine rMH (lv0 := [some (.ref (x)), some (.int (p0)), some (.int (p1)), some (.ref (o)), none]) (by decide) rfl rfl (Nat.le_of_ble_eq_true rfl) (fun P0 E0 S0 m0 as0 bl0 mt0 c0 A F hrt9 htab hNc => ?_)
  refine rg_aload_n F (pc := 0) dL_about_0 rfl ?_
  refine rg_iconst F (pc := 1) (v := nI 0) dL_about_1 (by decide) ?_
  refine rg_aload_n F (pc := 2) dL_about_2 rfl ?_
  refine rg_iload_n F (pc := 3) dL_about_3 rfl ?_
  refine rg_iload_n F (pc := 4) dL_about_4 rfl ?_
  refine rg_xV F (pc := 5) [] ⟨0, 10, 13, 21⟩ [] (htab.trans rfl) (fun z hz => absurd hz List.not_mem_nil) (by decide) (by decide) q521 qn15 (As := [.int (p0), .int (p1)]) (rest := [.int (nI 0), .ref (o)]) (ci := 4) hM q522 vq_X3_about rfl hrm rfl rfl (Nat.le_of_ble_eq_true rfl) (by decide) (Nat.le_of_ble_eq_true rfl) ⟨by decide, by decide⟩ dL_about_5 (fun q9 => ?_)
  refine rg_astore F (pc := 13) (lv' := [some (.ref (x)), some (.int (p0)), some (.int (p1)), some (.ref (o)), some (.ref (q9))]) dL_about_13 (Nat.le_of_ble_eq_true rfl) rfl ?_
  refine rg_iconst F (pc := 15) (v := nI 1) dL_about_15 (by decide) ?_
  exact rg_iret F (pc := 16) hrt9 (by decide) (by decide) dL_about_16 ⟨rfl, rfl⟩
theorem hq_line : rHq yL_line cL_line 6 [(0, 12, 15, 13), (0, 12, 19, 15)] 5 := ⟨q598, q585, q529, ⟨by decide +kernel, by decide +kernel, by decide +kernel⟩⟩
set_option maxHeartbeats 4000000 in
set_option maxRecDepth 100000 in
theorem h_line (l : Launch) (D : va_G) (M : rMem) (x o : Nat) (p0 p1 p2 : Int32) (v0 : Nat → Int64) (fs : List Value) (lev mc ms : Nat) (post : Int32 → rMem → Prop) (hrm : M x = some (.inr (4, fs))) (ho : M o = none) (hM : CMi l D yX3_line cX3_line 5 (some .int) lev mc ms M [.ref (x), .int (p0), .int (p1), .int (p2)] post) : CH l D yL_line cL_line 6 [(0, 12, 15, 13), (0, 12, 19, 15)] (lev + 1) mc ms (mjoin M (mone o (.inl (D.1 7, (1, .inr (.inl v0)))))) [.ref (x), .int (p0), .int (p1), .int (p2), .ref (o)] (fun r M' => r = nI 0 ∧ ∃ (r9 : Int32) (u : rMem), post r9 u ∧ u o = none ∧ M' = mjoin u (mone o (.inl (D.1 7, (1, .inr (.inl (vp_updL v0 0 r9.toInt64))))))) := by
  refine rMH (lv0 := [some (.ref (x)), some (.int (p0)), some (.int (p1)), some (.int (p2)), some (.ref (o)), none]) (by decide) rfl rfl (Nat.le_of_ble_eq_true rfl) (fun P0 E0 S0 m0 as0 bl0 mt0 c0 A F hrt9 htab hNc => ?_)
  refine rg_aload F (pc := 0) dL_line_0 rfl ?_
  refine rg_iconst F (pc := 2) (v := nI 0) dL_line_2 (by decide) ?_
  refine rg_aload_n F (pc := 3) dL_line_3 rfl ?_
  refine rg_iload_n F (pc := 4) dL_line_4 rfl ?_
  refine rg_iload_n F (pc := 5) dL_line_5 rfl ?_
  refine rg_iload_n F (pc := 6) dL_line_6 rfl ?_
  refine rg_fVi F (pc := 7) (M := M) (N := mone o (.inl (D.1 7, (1, .inr (.inl v0))))) (As := [.int (p0), .int (p1), .int (p2)]) (rest := [.int (nI 0), .ref (o)]) (ci := 4) hM q526 vq_X3_line rfl hrm rfl rfl (Nat.le_of_ble_eq_true rfl) (Nat.le_refl _) (by show 8 + (5 + 11) + 32 * lev ≤ 32 * (lev + 1); omega) ⟨by show 0 + mc ≤ mc; omega, by show 0 + ms ≤ ms; omega⟩ (mone_dis ho) dL_line_7 (fun r9 u hp hdis => ?_)
  refine rg_i2l F (pc := 10) (v := r9.toInt64) dL_line_10 rfl ?_
  refine rg_last F (pc := 11) (mj_in hdis mone_eq) (by decide) (by decide) dL_line_11 ?_
  refine rg_mem (mj_set (dis_mone hdis)) ?_
  refine rg_goto F (pc := 12) (tgt := 23) dL_line_12 (by decide) ?_
  refine rg_iconst F (pc := 23) (v := nI 0) dL_line_23 (by decide) ?_
  exact rg_iret F (pc := 24) hrt9 (by omega) (by omega) dL_line_24 ⟨rfl, r9, u, hp, dis_mone hdis, rfl⟩
set_option maxHeartbeats 4000000 in
set_option maxRecDepth 100000 in
theorem h_line_x1 (l : Launch) (D : va_G) (M : rMem) (x o : Nat) (p0 p1 p2 : Int32) (fs : List Value) (hrm : M x = some (.inr (4, fs))) (hM : CX l D yX3_line cX3_line 5 (some .int) 8 1 6 M [.ref (x), .int (p0), .int (p1), .int (p2)] "java/lang/IllegalArgumentException") : CH l D yL_line cL_line 6 [(0, 12, 15, 13), (0, 12, 19, 15)] 9 1 6 M [.ref (x), .int (p0), .int (p1), .int (p2), .ref (o)] (fun r M' => r = nI 1 ∧ M' = M) := by
  refine rMH (lv0 := [some (.ref (x)), some (.int (p0)), some (.int (p1)), some (.int (p2)), some (.ref (o)), none]) (by decide) rfl rfl (Nat.le_of_ble_eq_true rfl) (fun P0 E0 S0 m0 as0 bl0 mt0 c0 A F hrt9 htab hNc => ?_)
  refine rg_aload F (pc := 0) dL_line_0 rfl ?_
  refine rg_iconst F (pc := 2) (v := nI 0) dL_line_2 (by decide) ?_
  refine rg_aload_n F (pc := 3) dL_line_3 rfl ?_
  refine rg_iload_n F (pc := 4) dL_line_4 rfl ?_
  refine rg_iload_n F (pc := 5) dL_line_5 rfl ?_
  refine rg_iload_n F (pc := 6) dL_line_6 rfl ?_
  refine rg_xV F (pc := 7) [] ⟨0, 12, 15, 13⟩ [⟨0, 12, 19, 15⟩] (htab.trans rfl) (fun z hz => absurd hz List.not_mem_nil) (by decide) (by decide) q515 qn6 (As := [.int (p0), .int (p1), .int (p2)]) (rest := [.int (nI 0), .ref (o)]) (ci := 4) hM q526 vq_X3_line rfl hrm rfl rfl (Nat.le_of_ble_eq_true rfl) (by decide) (Nat.le_of_ble_eq_true rfl) ⟨by decide, by decide⟩ dL_line_7 (fun q9 => ?_)
  refine rg_astore F (pc := 15) (lv' := [some (.ref (x)), some (.int (p0)), some (.int (p1)), some (.int (p2)), some (.ref (o)), some (.ref (q9))]) dL_line_15 (Nat.le_of_ble_eq_true rfl) rfl ?_
  refine rg_iconst F (pc := 17) (v := nI 1) dL_line_17 (by decide) ?_
  exact rg_iret F (pc := 18) hrt9 (by decide) (by decide) dL_line_18 ⟨rfl, rfl⟩
set_option maxHeartbeats 4000000 in
set_option maxRecDepth 100000 in
theorem h_line_x2 (l : Launch) (D : va_G) (M : rMem) (x o : Nat) (p0 p1 p2 : Int32) (fs : List Value) (hrm : M x = some (.inr (4, fs))) (hM : CX l D yX3_line cX3_line 5 (some .int) 8 1 6 M [.ref (x), .int (p0), .int (p1), .int (p2)] "java/lang/IllegalStateException") : CH l D yL_line cL_line 6 [(0, 12, 15, 13), (0, 12, 19, 15)] 9 1 6 M [.ref (x), .int (p0), .int (p1), .int (p2), .ref (o)] (fun r M' => r = nI 2 ∧ M' = M) := by
  refine rMH (lv0 := [some (.ref (x)), some (.int (p0)), some (.int (p1)), some (.int (p2)), some (.ref (o)), none]) (by decide) rfl rfl (Nat.le_of_ble_eq_true rfl) (fun P0 E0 S0 m0 as0 bl0 mt0 c0 A F hrt9 htab hNc => ?_)
  refine rg_aload F (pc := 0) dL_line_0 rfl ?_
  refine rg_iconst F (pc := 2) (v := nI 0) dL_line_2 (by decide) ?_
  refine rg_aload_n F (pc := 3) dL_line_3 rfl ?_
  refine rg_iload_n F (pc := 4) dL_line_4 rfl ?_
  refine rg_iload_n F (pc := 5) dL_line_5 rfl ?_
  refine rg_iload_n F (pc := 6) dL_line_6 rfl ?_
  refine rg_xV F (pc := 7) [⟨0, 12, 15, 13⟩] ⟨0, 12, 19, 15⟩ [] (htab.trans rfl) (fun z hz => Or.inr (by rw [List.mem_singleton.mp hz]; exact ⟨by decide, _, F.2.2.2.2.1 _ q515, hNc.1⟩)) (by decide) (by decide) q516 qn13 (As := [.int (p0), .int (p1), .int (p2)]) (rest := [.int (nI 0), .ref (o)]) (ci := 4) hM q526 vq_X3_line rfl hrm rfl rfl (Nat.le_of_ble_eq_true rfl) (by decide) (Nat.le_of_ble_eq_true rfl) ⟨by decide, by decide⟩ dL_line_7 (fun q9 => ?_)
  refine rg_astore F (pc := 19) (lv' := [some (.ref (x)), some (.int (p0)), some (.int (p1)), some (.int (p2)), some (.ref (o)), some (.ref (q9))]) dL_line_19 (Nat.le_of_ble_eq_true rfl) rfl ?_
  refine rg_iconst F (pc := 21) (v := nI 2) dL_line_21 (by decide) ?_
  exact rg_iret F (pc := 22) hrt9 (by decide) (by decide) dL_line_22 ⟨rfl, rfl⟩
theorem hq_write : rHq yL_write cL_write 6 [(0, 12, 15, 21), (0, 12, 19, 15)] 5 := ⟨q603, q585, q533, ⟨by decide +kernel, by decide +kernel, by decide +kernel⟩⟩
set_option maxHeartbeats 4000000 in
set_option maxRecDepth 100000 in
theorem h_write (l : Launch) (D : va_G) (M : rMem) (x o : Nat) (p0 p1 p2 : Int32) (v0 : Nat → Int64) (fs : List Value) (lev mc ms : Nat) (post : Int32 → rMem → Prop) (hrm : M x = some (.inr (4, fs))) (ho : M o = none) (hM : CMi l D yX3_write cX3_write 7 (some .int) lev mc ms M [.ref (x), .int (p0), .int (p1), .int (p2)] post) : CH l D yL_write cL_write 6 [(0, 12, 15, 21), (0, 12, 19, 15)] (lev + 1) mc ms (mjoin M (mone o (.inl (D.1 7, (1, .inr (.inl v0)))))) [.ref (x), .int (p0), .int (p1), .int (p2), .ref (o)] (fun r M' => r = nI 0 ∧ ∃ (r9 : Int32) (u : rMem), post r9 u ∧ u o = none ∧ M' = mjoin u (mone o (.inl (D.1 7, (1, .inr (.inl (vp_updL v0 0 r9.toInt64))))))) := by
  refine rMH (lv0 := [some (.ref (x)), some (.int (p0)), some (.int (p1)), some (.int (p2)), some (.ref (o)), none]) (by decide) rfl rfl (Nat.le_of_ble_eq_true rfl) (fun P0 E0 S0 m0 as0 bl0 mt0 c0 A F hrt9 htab hNc => ?_)
  refine rg_aload F (pc := 0) dL_write_0 rfl ?_
  refine rg_iconst F (pc := 2) (v := nI 0) dL_write_2 (by decide) ?_
  refine rg_aload_n F (pc := 3) dL_write_3 rfl ?_
  refine rg_iload_n F (pc := 4) dL_write_4 rfl ?_
  refine rg_iload_n F (pc := 5) dL_write_5 rfl ?_
  refine rg_iload_n F (pc := 6) dL_write_6 rfl ?_
  refine rg_fVi F (pc := 7) (M := M) (N := mone o (.inl (D.1 7, (1, .inr (.inl v0))))) (As := [.int (p0), .int (p1), .int (p2)]) (rest := [.int (nI 0), .ref (o)]) (ci := 4) hM q530 vq_X3_write rfl hrm rfl rfl (Nat.le_of_ble_eq_true rfl) (Nat.le_refl _) (by show 8 + (7 + 11) + 32 * lev ≤ 32 * (lev + 1); omega) ⟨by show 0 + mc ≤ mc; omega, by show 0 + ms ≤ ms; omega⟩ (mone_dis ho) dL_write_7 (fun r9 u hp hdis => ?_)
  refine rg_i2l F (pc := 10) (v := r9.toInt64) dL_write_10 rfl ?_
  refine rg_last F (pc := 11) (mj_in hdis mone_eq) (by decide) (by decide) dL_write_11 ?_
  refine rg_mem (mj_set (dis_mone hdis)) ?_
  refine rg_goto F (pc := 12) (tgt := 23) dL_write_12 (by decide) ?_
  refine rg_iconst F (pc := 23) (v := nI 0) dL_write_23 (by decide) ?_
  exact rg_iret F (pc := 24) hrt9 (by omega) (by omega) dL_write_24 ⟨rfl, r9, u, hp, dis_mone hdis, rfl⟩
set_option maxHeartbeats 4000000 in
set_option maxRecDepth 100000 in
theorem h_write_x1 (l : Launch) (D : va_G) (M : rMem) (x o : Nat) (p0 p1 p2 : Int32) (fs : List Value) (hrm : M x = some (.inr (4, fs))) (hM : CX l D yX3_write cX3_write 7 (some .int) 8 1 6 M [.ref (x), .int (p0), .int (p1), .int (p2)] "java/lang/IndexOutOfBoundsException") : CH l D yL_write cL_write 6 [(0, 12, 15, 21), (0, 12, 19, 15)] 9 1 6 M [.ref (x), .int (p0), .int (p1), .int (p2), .ref (o)] (fun r M' => r = nI 1 ∧ M' = M) := by
  refine rMH (lv0 := [some (.ref (x)), some (.int (p0)), some (.int (p1)), some (.int (p2)), some (.ref (o)), none]) (by decide) rfl rfl (Nat.le_of_ble_eq_true rfl) (fun P0 E0 S0 m0 as0 bl0 mt0 c0 A F hrt9 htab hNc => ?_)
  refine rg_aload F (pc := 0) dL_write_0 rfl ?_
  refine rg_iconst F (pc := 2) (v := nI 0) dL_write_2 (by decide) ?_
  refine rg_aload_n F (pc := 3) dL_write_3 rfl ?_
  refine rg_iload_n F (pc := 4) dL_write_4 rfl ?_
  refine rg_iload_n F (pc := 5) dL_write_5 rfl ?_
  refine rg_iload_n F (pc := 6) dL_write_6 rfl ?_
  refine rg_xV F (pc := 7) [] ⟨0, 12, 15, 21⟩ [⟨0, 12, 19, 15⟩] (htab.trans rfl) (fun z hz => absurd hz List.not_mem_nil) (by decide) (by decide) q521 qn15 (As := [.int (p0), .int (p1), .int (p2)]) (rest := [.int (nI 0), .ref (o)]) (ci := 4) hM q530 vq_X3_write rfl hrm rfl rfl (Nat.le_of_ble_eq_true rfl) (by decide) (Nat.le_of_ble_eq_true rfl) ⟨by decide, by decide⟩ dL_write_7 (fun q9 => ?_)
  refine rg_astore F (pc := 15) (lv' := [some (.ref (x)), some (.int (p0)), some (.int (p1)), some (.int (p2)), some (.ref (o)), some (.ref (q9))]) dL_write_15 (Nat.le_of_ble_eq_true rfl) rfl ?_
  refine rg_iconst F (pc := 17) (v := nI 1) dL_write_17 (by decide) ?_
  exact rg_iret F (pc := 18) hrt9 (by decide) (by decide) dL_write_18 ⟨rfl, rfl⟩
set_option maxHeartbeats 4000000 in
set_option maxRecDepth 100000 in
theorem h_write_x2 (l : Launch) (D : va_G) (M : rMem) (x o : Nat) (p0 p1 p2 : Int32) (fs : List Value) (hrm : M x = some (.inr (4, fs))) (hM : CX l D yX3_write cX3_write 7 (some .int) 8 1 6 M [.ref (x), .int (p0), .int (p1), .int (p2)] "java/lang/IllegalStateException") : CH l D yL_write cL_write 6 [(0, 12, 15, 21), (0, 12, 19, 15)] 9 1 6 M [.ref (x), .int (p0), .int (p1), .int (p2), .ref (o)] (fun r M' => r = nI 2 ∧ M' = M) := by
  refine rMH (lv0 := [some (.ref (x)), some (.int (p0)), some (.int (p1)), some (.int (p2)), some (.ref (o)), none]) (by decide) rfl rfl (Nat.le_of_ble_eq_true rfl) (fun P0 E0 S0 m0 as0 bl0 mt0 c0 A F hrt9 htab hNc => ?_)
  refine rg_aload F (pc := 0) dL_write_0 rfl ?_
  refine rg_iconst F (pc := 2) (v := nI 0) dL_write_2 (by decide) ?_
  refine rg_aload_n F (pc := 3) dL_write_3 rfl ?_
  refine rg_iload_n F (pc := 4) dL_write_4 rfl ?_
  refine rg_iload_n F (pc := 5) dL_write_5 rfl ?_
  refine rg_iload_n F (pc := 6) dL_write_6 rfl ?_
  refine rg_xV F (pc := 7) [⟨0, 12, 15, 21⟩] ⟨0, 12, 19, 15⟩ [] (htab.trans rfl) (fun z hz => Or.inr (by rw [List.mem_singleton.mp hz]; exact ⟨by decide, _, F.2.2.2.2.1 _ q521, hNc.2⟩)) (by decide) (by decide) q516 qn13 (As := [.int (p0), .int (p1), .int (p2)]) (rest := [.int (nI 0), .ref (o)]) (ci := 4) hM q530 vq_X3_write rfl hrm rfl rfl (Nat.le_of_ble_eq_true rfl) (by decide) (Nat.le_of_ble_eq_true rfl) ⟨by decide, by decide⟩ dL_write_7 (fun q9 => ?_)
  refine rg_astore F (pc := 19) (lv' := [some (.ref (x)), some (.int (p0)), some (.int (p1)), some (.int (p2)), some (.ref (o)), some (.ref (q9))]) dL_write_19 (Nat.le_of_ble_eq_true rfl) rfl ?_
  refine rg_iconst F (pc := 21) (v := nI 2) dL_write_21 (by decide) ?_
  exact rg_iret F (pc := 22) hrt9 (by decide) (by decide) dL_write_22 ⟨rfl, rfl⟩
theorem hq_strike : rHq yL_strike cL_strike 4 [(0, 9, 12, 21), (0, 9, 15, 15)] 3 := ⟨q608, q585, q537, ⟨by decide +kernel, by decide +kernel, by decide +kernel⟩⟩
set_option maxHeartbeats 4000000 in
set_option maxRecDepth 100000 in
theorem h_strike (l : Launch) (D : va_G) (M : rMem) (x o : Nat) (p0 : Int32) (v0 : Nat → Int64) (fs : List Value) (lev mc ms : Nat) (post : Int32 → rMem → Prop) (hrm : M x = some (.inr (4, fs))) (ho : M o = none) (hM : CMi l D yX3_strike cX3_strike 4 (some .int) lev mc ms M [.ref (x), .int (p0)] post) : CH l D yL_strike cL_strike 4 [(0, 9, 12, 21), (0, 9, 15, 15)] (lev + 1) mc ms (mjoin M (mone o (.inl (D.1 7, (1, .inr (.inl v0)))))) [.ref (x), .int (p0), .ref (o)] (fun r M' => r = nI 0 ∧ ∃ (r9 : Int32) (u : rMem), post r9 u ∧ u o = none ∧ M' = mjoin u (mone o (.inl (D.1 7, (1, .inr (.inl (vp_updL v0 0 r9.toInt64))))))) := by
  refine rMH (lv0 := [some (.ref (x)), some (.int (p0)), some (.ref (o)), none]) (by decide) rfl rfl (Nat.le_of_ble_eq_true rfl) (fun P0 E0 S0 m0 as0 bl0 mt0 c0 A F hrt9 htab hNc => ?_)
  refine rg_aload_n F (pc := 0) dL_strike_0 rfl ?_
  refine rg_iconst F (pc := 1) (v := nI 0) dL_strike_1 (by decide) ?_
  refine rg_aload_n F (pc := 2) dL_strike_2 rfl ?_
  refine rg_iload_n F (pc := 3) dL_strike_3 rfl ?_
  refine rg_fVi F (pc := 4) (M := M) (N := mone o (.inl (D.1 7, (1, .inr (.inl v0))))) (As := [.int (p0)]) (rest := [.int (nI 0), .ref (o)]) (ci := 4) hM q534 vq_X3_strike rfl hrm rfl rfl (Nat.le_of_ble_eq_true rfl) (Nat.le_refl _) (by show 8 + (4 + 11) + 32 * lev ≤ 32 * (lev + 1); omega) ⟨by show 0 + mc ≤ mc; omega, by show 0 + ms ≤ ms; omega⟩ (mone_dis ho) dL_strike_4 (fun r9 u hp hdis => ?_)
  refine rg_i2l F (pc := 7) (v := r9.toInt64) dL_strike_7 rfl ?_
  refine rg_last F (pc := 8) (mj_in hdis mone_eq) (by decide) (by decide) dL_strike_8 ?_
  refine rg_mem (mj_set (dis_mone hdis)) ?_
  refine rg_goto F (pc := 9) (tgt := 18) dL_strike_9 (by decide) ?_
  refine rg_iconst F (pc := 18) (v := nI 0) dL_strike_18 (by decide) ?_
  exact rg_iret F (pc := 19) hrt9 (by omega) (by omega) dL_strike_19 ⟨rfl, r9, u, hp, dis_mone hdis, rfl⟩
set_option maxHeartbeats 4000000 in
set_option maxRecDepth 100000 in
theorem h_strike_x1 (l : Launch) (D : va_G) (M : rMem) (x o : Nat) (p0 : Int32) (fs : List Value) (hrm : M x = some (.inr (4, fs))) (hM : CX l D yX3_strike cX3_strike 4 (some .int) 8 1 6 M [.ref (x), .int (p0)] "java/lang/IndexOutOfBoundsException") : CH l D yL_strike cL_strike 4 [(0, 9, 12, 21), (0, 9, 15, 15)] 9 1 6 M [.ref (x), .int (p0), .ref (o)] (fun r M' => r = nI 1 ∧ M' = M) := by
  refine rMH (lv0 := [some (.ref (x)), some (.int (p0)), some (.ref (o)), none]) (by decide) rfl rfl (Nat.le_of_ble_eq_true rfl) (fun P0 E0 S0 m0 as0 bl0 mt0 c0 A F hrt9 htab hNc => ?_)
  refine rg_aload_n F (pc := 0) dL_strike_0 rfl ?_
  refine rg_iconst F (pc := 1) (v := nI 0) dL_strike_1 (by decide) ?_
  refine rg_aload_n F (pc := 2) dL_strike_2 rfl ?_
  refine rg_iload_n F (pc := 3) dL_strike_3 rfl ?_
  refine rg_xV F (pc := 4) [] ⟨0, 9, 12, 21⟩ [⟨0, 9, 15, 15⟩] (htab.trans rfl) (fun z hz => absurd hz List.not_mem_nil) (by decide) (by decide) q521 qn15 (As := [.int (p0)]) (rest := [.int (nI 0), .ref (o)]) (ci := 4) hM q534 vq_X3_strike rfl hrm rfl rfl (Nat.le_of_ble_eq_true rfl) (by decide) (Nat.le_of_ble_eq_true rfl) ⟨by decide, by decide⟩ dL_strike_4 (fun q9 => ?_)
  refine rg_astore_n F (pc := 12) (lv' := [some (.ref (x)), some (.int (p0)), some (.ref (o)), some (.ref (q9))]) dL_strike_12 (Nat.le_of_ble_eq_true rfl) rfl ?_
  refine rg_iconst F (pc := 13) (v := nI 1) dL_strike_13 (by decide) ?_
  exact rg_iret F (pc := 14) hrt9 (by decide) (by decide) dL_strike_14 ⟨rfl, rfl⟩
set_option maxHeartbeats 4000000 in
set_option maxRecDepth 100000 in
theorem h_strike_x2 (l : Launch) (D : va_G) (M : rMem) (x o : Nat) (p0 : Int32) (fs : List Value) (hrm : M x = some (.inr (4, fs))) (hM : CX l D yX3_strike cX3_strike 4 (some .int) 8 1 6 M [.ref (x), .int (p0)] "java/lang/IllegalStateException") : CH l D yL_strike cL_strike 4 [(0, 9, 12, 21), (0, 9, 15, 15)] 9 1 6 M [.ref (x), .int (p0), .ref (o)] (fun r M' => r = nI 2 ∧ M' = M) := by
  refine rMH (lv0 := [some (.ref (x)), some (.int (p0)), some (.ref (o)), none]) (by decide) rfl rfl (Nat.le_of_ble_eq_true rfl) (fun P0 E0 S0 m0 as0 bl0 mt0 c0 A F hrt9 htab hNc => ?_)
  refine rg_aload_n F (pc := 0) dL_strike_0 rfl ?_
  refine rg_iconst F (pc := 1) (v := nI 0) dL_strike_1 (by decide) ?_
  refine rg_aload_n F (pc := 2) dL_strike_2 rfl ?_
  refine rg_iload_n F (pc := 3) dL_strike_3 rfl ?_
  refine rg_xV F (pc := 4) [⟨0, 9, 12, 21⟩] ⟨0, 9, 15, 15⟩ [] (htab.trans rfl) (fun z hz => Or.inr (by rw [List.mem_singleton.mp hz]; exact ⟨by decide, _, F.2.2.2.2.1 _ q521, hNc.2⟩)) (by decide) (by decide) q516 qn13 (As := [.int (p0)]) (rest := [.int (nI 0), .ref (o)]) (ci := 4) hM q534 vq_X3_strike rfl hrm rfl rfl (Nat.le_of_ble_eq_true rfl) (by decide) (Nat.le_of_ble_eq_true rfl) ⟨by decide, by decide⟩ dL_strike_4 (fun q9 => ?_)
  refine rg_astore_n F (pc := 15) (lv' := [some (.ref (x)), some (.int (p0)), some (.ref (o)), some (.ref (q9))]) dL_strike_15 (Nat.le_of_ble_eq_true rfl) rfl ?_
  refine rg_iconst F (pc := 16) (v := nI 2) dL_strike_16 (by decide) ?_
  exact rg_iret F (pc := 17) hrt9 (by decide) (by decide) dL_strike_17 ⟨rfl, rfl⟩
theorem hq_written : rHq yL_written cL_written 5 [(0, 10, 13, 21)] 4 := ⟨q613, q585, q541, ⟨by decide +kernel, by decide +kernel, by decide +kernel⟩⟩
set_option maxHeartbeats 4000000 in
set_option maxRecDepth 100000 in
theorem h_written (l : Launch) (D : va_G) (M : rMem) (x o : Nat) (p0 p1 : Int32) (v0 : Nat → Int64) (fs : List Value) (lev mc ms : Nat) (post : Int32 → rMem → Prop) (hrm : M x = some (.inr (4, fs))) (ho : M o = none) (hM : CMi l D yX3_written cX3_written 3 (some .int) lev mc ms M [.ref (x), .int (p0), .int (p1)] post) : CH l D yL_written cL_written 5 [(0, 10, 13, 21)] (lev + 1) mc ms (mjoin M (mone o (.inl (D.1 7, (1, .inr (.inl v0)))))) [.ref (x), .int (p0), .int (p1), .ref (o)] (fun r M' => r = nI 0 ∧ ∃ (r9 : Int32) (u : rMem), post r9 u ∧ u o = none ∧ M' = mjoin u (mone o (.inl (D.1 7, (1, .inr (.inl (vp_updL v0 0 r9.toInt64))))))) := by
  refine rMH (lv0 := [some (.ref (x)), some (.int (p0)), some (.int (p1)), some (.ref (o)), none]) (by decide) rfl rfl (Nat.le_of_ble_eq_true rfl) (fun P0 E0 S0 m0 as0 bl0 mt0 c0 A F hrt9 htab hNc => ?_)
  refine rg_aload_n F (pc := 0) dL_written_0 rfl ?_
  refine rg_iconst F (pc := 1) (v := nI 0) dL_written_1 (by decide) ?_
  refine rg_aload_n F (pc := 2) dL_written_2 rfl ?_
  refine rg_iload_n F (pc := 3) dL_written_3 rfl ?_
  refine rg_iload_n F (pc := 4) dL_written_4 rfl ?_
  refine rg_fVi F (pc := 5) (M := M) (N := mone o (.inl (D.1 7, (1, .inr (.inl v0))))) (As := [.int (p0), .int (p1)]) (rest := [.int (nI 0), .ref (o)]) (ci := 4) hM q538 vq_X3_written rfl hrm rfl rfl (Nat.le_of_ble_eq_true rfl) (Nat.le_refl _) (by show 8 + (3 + 11) + 32 * lev ≤ 32 * (lev + 1); omega) ⟨by show 0 + mc ≤ mc; omega, by show 0 + ms ≤ ms; omega⟩ (mone_dis ho) dL_written_5 (fun r9 u hp hdis => ?_)
  refine rg_i2l F (pc := 8) (v := r9.toInt64) dL_written_8 rfl ?_
  refine rg_last F (pc := 9) (mj_in hdis mone_eq) (by decide) (by decide) dL_written_9 ?_
  refine rg_mem (mj_set (dis_mone hdis)) ?_
  refine rg_goto F (pc := 10) (tgt := 17) dL_written_10 (by decide) ?_
  refine rg_iconst F (pc := 17) (v := nI 0) dL_written_17 (by decide) ?_
  exact rg_iret F (pc := 18) hrt9 (by omega) (by omega) dL_written_18 ⟨rfl, r9, u, hp, dis_mone hdis, rfl⟩
set_option maxHeartbeats 4000000 in
set_option maxRecDepth 100000 in
theorem h_written_x1 (l : Launch) (D : va_G) (M : rMem) (x o : Nat) (p0 p1 : Int32) (fs : List Value) (hrm : M x = some (.inr (4, fs))) (hM : CX l D yX3_written cX3_written 3 (some .int) 8 1 6 M [.ref (x), .int (p0), .int (p1)] "java/lang/IndexOutOfBoundsException") : CH l D yL_written cL_written 5 [(0, 10, 13, 21)] 9 1 6 M [.ref (x), .int (p0), .int (p1), .ref (o)] (fun r M' => r = nI 1 ∧ M' = M) := by
  refine rMH (lv0 := [some (.ref (x)), some (.int (p0)), some (.int (p1)), some (.ref (o)), none]) (by decide) rfl rfl (Nat.le_of_ble_eq_true rfl) (fun P0 E0 S0 m0 as0 bl0 mt0 c0 A F hrt9 htab hNc => ?_)
  refine rg_aload_n F (pc := 0) dL_written_0 rfl ?_
  refine rg_iconst F (pc := 1) (v := nI 0) dL_written_1 (by decide) ?_
  refine rg_aload_n F (pc := 2) dL_written_2 rfl ?_
  refine rg_iload_n F (pc := 3) dL_written_3 rfl ?_
  refine rg_iload_n F (pc := 4) dL_written_4 rfl ?_
  refine rg_xV F (pc := 5) [] ⟨0, 10, 13, 21⟩ [] (htab.trans rfl) (fun z hz => absurd hz List.not_mem_nil) (by decide) (by decide) q521 qn15 (As := [.int (p0), .int (p1)]) (rest := [.int (nI 0), .ref (o)]) (ci := 4) hM q538 vq_X3_written rfl hrm rfl rfl (Nat.le_of_ble_eq_true rfl) (by decide) (Nat.le_of_ble_eq_true rfl) ⟨by decide, by decide⟩ dL_written_5 (fun q9 => ?_)
  refine rg_astore F (pc := 13) (lv' := [some (.ref (x)), some (.int (p0)), some (.int (p1)), some (.ref (o)), some (.ref (q9))]) dL_written_13 (Nat.le_of_ble_eq_true rfl) rfl ?_
  refine rg_iconst F (pc := 15) (v := nI 1) dL_written_15 (by decide) ?_
  exact rg_iret F (pc := 16) hrt9 (by decide) (by decide) dL_written_16 ⟨rfl, rfl⟩
theorem hq_told : rHq yL_told cL_told 5 [(0, 10, 13, 21)] 4 := ⟨q618, q585, q545, ⟨by decide +kernel, by decide +kernel, by decide +kernel⟩⟩
set_option maxHeartbeats 4000000 in
set_option maxRecDepth 100000 in
theorem h_told (l : Launch) (D : va_G) (M : rMem) (x o : Nat) (p0 p1 : Int32) (v0 : Nat → Int64) (fs : List Value) (lev mc ms : Nat) (post : Int32 → rMem → Prop) (hrm : M x = some (.inr (4, fs))) (ho : M o = none) (hM : CMi l D yX3_told cX3_told 4 (some .int) lev mc ms M [.ref (x), .int (p0), .int (p1)] post) : CH l D yL_told cL_told 5 [(0, 10, 13, 21)] (lev + 1) mc ms (mjoin M (mone o (.inl (D.1 7, (1, .inr (.inl v0)))))) [.ref (x), .int (p0), .int (p1), .ref (o)] (fun r M' => r = nI 0 ∧ ∃ (r9 : Int32) (u : rMem), post r9 u ∧ u o = none ∧ M' = mjoin u (mone o (.inl (D.1 7, (1, .inr (.inl (vp_updL v0 0 r9.toInt64))))))) := by
  refine rMH (lv0 := [some (.ref (x)), some (.int (p0)), some (.int (p1)), some (.ref (o)), none]) (by decide) rfl rfl (Nat.le_of_ble_eq_true rfl) (fun P0 E0 S0 m0 as0 bl0 mt0 c0 A F hrt9 htab hNc => ?_)
  refine rg_aload_n F (pc := 0) dL_told_0 rfl ?_
  refine rg_iconst F (pc := 1) (v := nI 0) dL_told_1 (by decide) ?_
  refine rg_aload_n F (pc := 2) dL_told_2 rfl ?_
  refine rg_iload_n F (pc := 3) dL_told_3 rfl ?_
  refine rg_iload_n F (pc := 4) dL_told_4 rfl ?_
  refine rg_fVi F (pc := 5) (M := M) (N := mone o (.inl (D.1 7, (1, .inr (.inl v0))))) (As := [.int (p0), .int (p1)]) (rest := [.int (nI 0), .ref (o)]) (ci := 4) hM q542 vq_X3_told rfl hrm rfl rfl (Nat.le_of_ble_eq_true rfl) (Nat.le_refl _) (by show 8 + (4 + 11) + 32 * lev ≤ 32 * (lev + 1); omega) ⟨by show 0 + mc ≤ mc; omega, by show 0 + ms ≤ ms; omega⟩ (mone_dis ho) dL_told_5 (fun r9 u hp hdis => ?_)
  refine rg_i2l F (pc := 8) (v := r9.toInt64) dL_told_8 rfl ?_
  refine rg_last F (pc := 9) (mj_in hdis mone_eq) (by decide) (by decide) dL_told_9 ?_
  refine rg_mem (mj_set (dis_mone hdis)) ?_
  refine rg_goto F (pc := 10) (tgt := 17) dL_told_10 (by decide) ?_
  refine rg_iconst F (pc := 17) (v := nI 0) dL_told_17 (by decide) ?_
  exact rg_iret F (pc := 18) hrt9 (by omega) (by omega) dL_told_18 ⟨rfl, r9, u, hp, dis_mone hdis, rfl⟩
set_option maxHeartbeats 4000000 in
set_option maxRecDepth 100000 in
theorem h_told_x1 (l : Launch) (D : va_G) (M : rMem) (x o : Nat) (p0 p1 : Int32) (fs : List Value) (hrm : M x = some (.inr (4, fs))) (hM : CX l D yX3_told cX3_told 4 (some .int) 8 1 6 M [.ref (x), .int (p0), .int (p1)] "java/lang/IndexOutOfBoundsException") : CH l D yL_told cL_told 5 [(0, 10, 13, 21)] 9 1 6 M [.ref (x), .int (p0), .int (p1), .ref (o)] (fun r M' => r = nI 1 ∧ M' = M) := by
  refine rMH (lv0 := [some (.ref (x)), some (.int (p0)), some (.int (p1)), some (.ref (o)), none]) (by decide) rfl rfl (Nat.le_of_ble_eq_true rfl) (fun P0 E0 S0 m0 as0 bl0 mt0 c0 A F hrt9 htab hNc => ?_)
  refine rg_aload_n F (pc := 0) dL_told_0 rfl ?_
  refine rg_iconst F (pc := 1) (v := nI 0) dL_told_1 (by decide) ?_
  refine rg_aload_n F (pc := 2) dL_told_2 rfl ?_
  refine rg_iload_n F (pc := 3) dL_told_3 rfl ?_
  refine rg_iload_n F (pc := 4) dL_told_4 rfl ?_
  refine rg_xV F (pc := 5) [] ⟨0, 10, 13, 21⟩ [] (htab.trans rfl) (fun z hz => absurd hz List.not_mem_nil) (by decide) (by decide) q521 qn15 (As := [.int (p0), .int (p1)]) (rest := [.int (nI 0), .ref (o)]) (ci := 4) hM q542 vq_X3_told rfl hrm rfl rfl (Nat.le_of_ble_eq_true rfl) (by decide) (Nat.le_of_ble_eq_true rfl) ⟨by decide, by decide⟩ dL_told_5 (fun q9 => ?_)
  refine rg_astore F (pc := 13) (lv' := [some (.ref (x)), some (.int (p0)), some (.int (p1)), some (.ref (o)), some (.ref (q9))]) dL_told_13 (Nat.le_of_ble_eq_true rfl) rfl ?_
  refine rg_iconst F (pc := 15) (v := nI 1) dL_told_15 (by decide) ?_
  exact rg_iret F (pc := 16) hrt9 (by decide) (by decide) dL_told_16 ⟨rfl, rfl⟩
theorem hq_stress : rHq yL_stress cL_stress 5 [(0, 10, 13, 21)] 4 := ⟨q623, q585, q549, ⟨by decide +kernel, by decide +kernel, by decide +kernel⟩⟩
set_option maxHeartbeats 4000000 in
set_option maxRecDepth 100000 in
theorem h_stress (l : Launch) (D : va_G) (M : rMem) (x o : Nat) (p0 p1 : Int32) (v0 : Nat → Int64) (fs : List Value) (lev mc ms : Nat) (post : Int32 → rMem → Prop) (hrm : M x = some (.inr (4, fs))) (ho : M o = none) (hM : CMi l D yX3_stress cX3_stress 4 (some .int) lev mc ms M [.ref (x), .int (p0), .int (p1)] post) : CH l D yL_stress cL_stress 5 [(0, 10, 13, 21)] (lev + 1) mc ms (mjoin M (mone o (.inl (D.1 7, (1, .inr (.inl v0)))))) [.ref (x), .int (p0), .int (p1), .ref (o)] (fun r M' => r = nI 0 ∧ ∃ (r9 : Int32) (u : rMem), post r9 u ∧ u o = none ∧ M' = mjoin u (mone o (.inl (D.1 7, (1, .inr (.inl (vp_updL v0 0 r9.toInt64))))))) := by
  refine rMH (lv0 := [some (.ref (x)), some (.int (p0)), some (.int (p1)), some (.ref (o)), none]) (by decide) rfl rfl (Nat.le_of_ble_eq_true rfl) (fun P0 E0 S0 m0 as0 bl0 mt0 c0 A F hrt9 htab hNc => ?_)
  refine rg_aload_n F (pc := 0) dL_stress_0 rfl ?_
  refine rg_iconst F (pc := 1) (v := nI 0) dL_stress_1 (by decide) ?_
  refine rg_aload_n F (pc := 2) dL_stress_2 rfl ?_
  refine rg_iload_n F (pc := 3) dL_stress_3 rfl ?_
  refine rg_iload_n F (pc := 4) dL_stress_4 rfl ?_
  refine rg_fVi F (pc := 5) (M := M) (N := mone o (.inl (D.1 7, (1, .inr (.inl v0))))) (As := [.int (p0), .int (p1)]) (rest := [.int (nI 0), .ref (o)]) (ci := 4) hM q546 vq_X3_stress rfl hrm rfl rfl (Nat.le_of_ble_eq_true rfl) (Nat.le_refl _) (by show 8 + (4 + 11) + 32 * lev ≤ 32 * (lev + 1); omega) ⟨by show 0 + mc ≤ mc; omega, by show 0 + ms ≤ ms; omega⟩ (mone_dis ho) dL_stress_5 (fun r9 u hp hdis => ?_)
  refine rg_i2l F (pc := 8) (v := r9.toInt64) dL_stress_8 rfl ?_
  refine rg_last F (pc := 9) (mj_in hdis mone_eq) (by decide) (by decide) dL_stress_9 ?_
  refine rg_mem (mj_set (dis_mone hdis)) ?_
  refine rg_goto F (pc := 10) (tgt := 17) dL_stress_10 (by decide) ?_
  refine rg_iconst F (pc := 17) (v := nI 0) dL_stress_17 (by decide) ?_
  exact rg_iret F (pc := 18) hrt9 (by omega) (by omega) dL_stress_18 ⟨rfl, r9, u, hp, dis_mone hdis, rfl⟩
set_option maxHeartbeats 4000000 in
set_option maxRecDepth 100000 in
theorem h_stress_x1 (l : Launch) (D : va_G) (M : rMem) (x o : Nat) (p0 p1 : Int32) (fs : List Value) (hrm : M x = some (.inr (4, fs))) (hM : CX l D yX3_stress cX3_stress 4 (some .int) 8 1 6 M [.ref (x), .int (p0), .int (p1)] "java/lang/IndexOutOfBoundsException") : CH l D yL_stress cL_stress 5 [(0, 10, 13, 21)] 9 1 6 M [.ref (x), .int (p0), .int (p1), .ref (o)] (fun r M' => r = nI 1 ∧ M' = M) := by
  refine rMH (lv0 := [some (.ref (x)), some (.int (p0)), some (.int (p1)), some (.ref (o)), none]) (by decide) rfl rfl (Nat.le_of_ble_eq_true rfl) (fun P0 E0 S0 m0 as0 bl0 mt0 c0 A F hrt9 htab hNc => ?_)
  refine rg_aload_n F (pc := 0) dL_stress_0 rfl ?_
  refine rg_iconst F (pc := 1) (v := nI 0) dL_stress_1 (by decide) ?_
  refine rg_aload_n F (pc := 2) dL_stress_2 rfl ?_
  refine rg_iload_n F (pc := 3) dL_stress_3 rfl ?_
  refine rg_iload_n F (pc := 4) dL_stress_4 rfl ?_
  refine rg_xV F (pc := 5) [] ⟨0, 10, 13, 21⟩ [] (htab.trans rfl) (fun z hz => absurd hz List.not_mem_nil) (by decide) (by decide) q521 qn15 (As := [.int (p0), .int (p1)]) (rest := [.int (nI 0), .ref (o)]) (ci := 4) hM q546 vq_X3_stress rfl hrm rfl rfl (Nat.le_of_ble_eq_true rfl) (by decide) (Nat.le_of_ble_eq_true rfl) ⟨by decide, by decide⟩ dL_stress_5 (fun q9 => ?_)
  refine rg_astore F (pc := 13) (lv' := [some (.ref (x)), some (.int (p0)), some (.int (p1)), some (.ref (o)), some (.ref (q9))]) dL_stress_13 (Nat.le_of_ble_eq_true rfl) rfl ?_
  refine rg_iconst F (pc := 15) (v := nI 1) dL_stress_15 (by decide) ?_
  exact rg_iret F (pc := 16) hrt9 (by decide) (by decide) dL_stress_16 ⟨rfl, rfl⟩
theorem hq_melted : rHq yL_melted cL_melted 4 [(0, 9, 12, 21)] 3 := ⟨q628, q585, q553, ⟨by decide +kernel, by decide +kernel, by decide +kernel⟩⟩
set_option maxHeartbeats 4000000 in
set_option maxRecDepth 100000 in
theorem h_melted (l : Launch) (D : va_G) (M : rMem) (x o : Nat) (p0 : Int32) (v0 : Nat → Int64) (fs : List Value) (lev mc ms : Nat) (post : Int32 → rMem → Prop) (hrm : M x = some (.inr (4, fs))) (ho : M o = none) (hM : CMi l D yX3_melted cX3_melted 2 (some .int) lev mc ms M [.ref (x), .int (p0)] post) : CH l D yL_melted cL_melted 4 [(0, 9, 12, 21)] (lev + 1) mc ms (mjoin M (mone o (.inl (D.1 7, (1, .inr (.inl v0)))))) [.ref (x), .int (p0), .ref (o)] (fun r M' => r = nI 0 ∧ ∃ (r9 : Int32) (u : rMem), post r9 u ∧ u o = none ∧ M' = mjoin u (mone o (.inl (D.1 7, (1, .inr (.inl (vp_updL v0 0 r9.toInt64))))))) := by
  refine rMH (lv0 := [some (.ref (x)), some (.int (p0)), some (.ref (o)), none]) (by decide) rfl rfl (Nat.le_of_ble_eq_true rfl) (fun P0 E0 S0 m0 as0 bl0 mt0 c0 A F hrt9 htab hNc => ?_)
  refine rg_aload_n F (pc := 0) dL_melted_0 rfl ?_
  refine rg_iconst F (pc := 1) (v := nI 0) dL_melted_1 (by decide) ?_
  refine rg_aload_n F (pc := 2) dL_melted_2 rfl ?_
  refine rg_iload_n F (pc := 3) dL_melted_3 rfl ?_
  refine rg_fVi F (pc := 4) (M := M) (N := mone o (.inl (D.1 7, (1, .inr (.inl v0))))) (As := [.int (p0)]) (rest := [.int (nI 0), .ref (o)]) (ci := 4) hM q550 vq_X3_melted rfl hrm rfl rfl (Nat.le_of_ble_eq_true rfl) (Nat.le_refl _) (by show 8 + (2 + 11) + 32 * lev ≤ 32 * (lev + 1); omega) ⟨by show 0 + mc ≤ mc; omega, by show 0 + ms ≤ ms; omega⟩ (mone_dis ho) dL_melted_4 (fun r9 u hp hdis => ?_)
  refine rg_i2l F (pc := 7) (v := r9.toInt64) dL_melted_7 rfl ?_
  refine rg_last F (pc := 8) (mj_in hdis mone_eq) (by decide) (by decide) dL_melted_8 ?_
  refine rg_mem (mj_set (dis_mone hdis)) ?_
  refine rg_goto F (pc := 9) (tgt := 15) dL_melted_9 (by decide) ?_
  refine rg_iconst F (pc := 15) (v := nI 0) dL_melted_15 (by decide) ?_
  exact rg_iret F (pc := 16) hrt9 (by omega) (by omega) dL_melted_16 ⟨rfl, r9, u, hp, dis_mone hdis, rfl⟩
set_option maxHeartbeats 4000000 in
set_option maxRecDepth 100000 in
theorem h_melted_x1 (l : Launch) (D : va_G) (M : rMem) (x o : Nat) (p0 : Int32) (fs : List Value) (hrm : M x = some (.inr (4, fs))) (hM : CX l D yX3_melted cX3_melted 2 (some .int) 8 1 6 M [.ref (x), .int (p0)] "java/lang/IndexOutOfBoundsException") : CH l D yL_melted cL_melted 4 [(0, 9, 12, 21)] 9 1 6 M [.ref (x), .int (p0), .ref (o)] (fun r M' => r = nI 1 ∧ M' = M) := by
  refine rMH (lv0 := [some (.ref (x)), some (.int (p0)), some (.ref (o)), none]) (by decide) rfl rfl (Nat.le_of_ble_eq_true rfl) (fun P0 E0 S0 m0 as0 bl0 mt0 c0 A F hrt9 htab hNc => ?_)
  refine rg_aload_n F (pc := 0) dL_melted_0 rfl ?_
  refine rg_iconst F (pc := 1) (v := nI 0) dL_melted_1 (by decide) ?_
  refine rg_aload_n F (pc := 2) dL_melted_2 rfl ?_
  refine rg_iload_n F (pc := 3) dL_melted_3 rfl ?_
  refine rg_xV F (pc := 4) [] ⟨0, 9, 12, 21⟩ [] (htab.trans rfl) (fun z hz => absurd hz List.not_mem_nil) (by decide) (by decide) q521 qn15 (As := [.int (p0)]) (rest := [.int (nI 0), .ref (o)]) (ci := 4) hM q550 vq_X3_melted rfl hrm rfl rfl (Nat.le_of_ble_eq_true rfl) (by decide) (Nat.le_of_ble_eq_true rfl) ⟨by decide, by decide⟩ dL_melted_4 (fun q9 => ?_)
  refine rg_astore_n F (pc := 12) (lv' := [some (.ref (x)), some (.int (p0)), some (.ref (o)), some (.ref (q9))]) dL_melted_12 (Nat.le_of_ble_eq_true rfl) rfl ?_
  refine rg_iconst F (pc := 13) (v := nI 1) dL_melted_13 (by decide) ?_
  exact rg_iret F (pc := 14) hrt9 (by decide) (by decide) dL_melted_14 ⟨rfl, rfl⟩
theorem hq_rhyme : rHq yL_rhyme cL_rhyme 5 [(0, 10, 13, 21)] 4 := ⟨q633, q585, q557, ⟨by decide +kernel, by decide +kernel, by decide +kernel⟩⟩
set_option maxHeartbeats 4000000 in
set_option maxRecDepth 100000 in
theorem h_rhyme (l : Launch) (D : va_G) (M : rMem) (x o : Nat) (p0 p1 : Int32) (v0 : Nat → Int64) (fs : List Value) (lev mc ms : Nat) (post : Int32 → rMem → Prop) (hrm : M x = some (.inr (4, fs))) (ho : M o = none) (hM : CMi l D yX3_rhyme cX3_rhyme 3 (some .int) lev mc ms M [.ref (x), .int (p0), .int (p1)] post) : CH l D yL_rhyme cL_rhyme 5 [(0, 10, 13, 21)] (lev + 1) mc ms (mjoin M (mone o (.inl (D.1 7, (1, .inr (.inl v0)))))) [.ref (x), .int (p0), .int (p1), .ref (o)] (fun r M' => r = nI 0 ∧ ∃ (r9 : Int32) (u : rMem), post r9 u ∧ u o = none ∧ M' = mjoin u (mone o (.inl (D.1 7, (1, .inr (.inl (vp_updL v0 0 r9.toInt64))))))) := by
  refine rMH (lv0 := [some (.ref (x)), some (.int (p0)), some (.int (p1)), some (.ref (o)), none]) (by decide) rfl rfl (Nat.le_of_ble_eq_true rfl) (fun P0 E0 S0 m0 as0 bl0 mt0 c0 A F hrt9 htab hNc => ?_)
  refine rg_aload_n F (pc := 0) dL_rhyme_0 rfl ?_
  refine rg_iconst F (pc := 1) (v := nI 0) dL_rhyme_1 (by decide) ?_
  refine rg_aload_n F (pc := 2) dL_rhyme_2 rfl ?_
  refine rg_iload_n F (pc := 3) dL_rhyme_3 rfl ?_
  refine rg_iload_n F (pc := 4) dL_rhyme_4 rfl ?_
  refine rg_fVi F (pc := 5) (M := M) (N := mone o (.inl (D.1 7, (1, .inr (.inl v0))))) (As := [.int (p0), .int (p1)]) (rest := [.int (nI 0), .ref (o)]) (ci := 4) hM q554 vq_X3_rhyme rfl hrm rfl rfl (Nat.le_of_ble_eq_true rfl) (Nat.le_refl _) (by show 8 + (3 + 11) + 32 * lev ≤ 32 * (lev + 1); omega) ⟨by show 0 + mc ≤ mc; omega, by show 0 + ms ≤ ms; omega⟩ (mone_dis ho) dL_rhyme_5 (fun r9 u hp hdis => ?_)
  refine rg_i2l F (pc := 8) (v := r9.toInt64) dL_rhyme_8 rfl ?_
  refine rg_last F (pc := 9) (mj_in hdis mone_eq) (by decide) (by decide) dL_rhyme_9 ?_
  refine rg_mem (mj_set (dis_mone hdis)) ?_
  refine rg_goto F (pc := 10) (tgt := 17) dL_rhyme_10 (by decide) ?_
  refine rg_iconst F (pc := 17) (v := nI 0) dL_rhyme_17 (by decide) ?_
  exact rg_iret F (pc := 18) hrt9 (by omega) (by omega) dL_rhyme_18 ⟨rfl, r9, u, hp, dis_mone hdis, rfl⟩
set_option maxHeartbeats 4000000 in
set_option maxRecDepth 100000 in
theorem h_rhyme_x1 (l : Launch) (D : va_G) (M : rMem) (x o : Nat) (p0 p1 : Int32) (fs : List Value) (hrm : M x = some (.inr (4, fs))) (hM : CX l D yX3_rhyme cX3_rhyme 3 (some .int) 8 1 6 M [.ref (x), .int (p0), .int (p1)] "java/lang/IndexOutOfBoundsException") : CH l D yL_rhyme cL_rhyme 5 [(0, 10, 13, 21)] 9 1 6 M [.ref (x), .int (p0), .int (p1), .ref (o)] (fun r M' => r = nI 1 ∧ M' = M) := by
  refine rMH (lv0 := [some (.ref (x)), some (.int (p0)), some (.int (p1)), some (.ref (o)), none]) (by decide) rfl rfl (Nat.le_of_ble_eq_true rfl) (fun P0 E0 S0 m0 as0 bl0 mt0 c0 A F hrt9 htab hNc => ?_)
  refine rg_aload_n F (pc := 0) dL_rhyme_0 rfl ?_
  refine rg_iconst F (pc := 1) (v := nI 0) dL_rhyme_1 (by decide) ?_
  refine rg_aload_n F (pc := 2) dL_rhyme_2 rfl ?_
  refine rg_iload_n F (pc := 3) dL_rhyme_3 rfl ?_
  refine rg_iload_n F (pc := 4) dL_rhyme_4 rfl ?_
  refine rg_xV F (pc := 5) [] ⟨0, 10, 13, 21⟩ [] (htab.trans rfl) (fun z hz => absurd hz List.not_mem_nil) (by decide) (by decide) q521 qn15 (As := [.int (p0), .int (p1)]) (rest := [.int (nI 0), .ref (o)]) (ci := 4) hM q554 vq_X3_rhyme rfl hrm rfl rfl (Nat.le_of_ble_eq_true rfl) (by decide) (Nat.le_of_ble_eq_true rfl) ⟨by decide, by decide⟩ dL_rhyme_5 (fun q9 => ?_)
  refine rg_astore F (pc := 13) (lv' := [some (.ref (x)), some (.int (p0)), some (.int (p1)), some (.ref (o)), some (.ref (q9))]) dL_rhyme_13 (Nat.le_of_ble_eq_true rfl) rfl ?_
  refine rg_iconst F (pc := 15) (v := nI 1) dL_rhyme_15 (by decide) ?_
  exact rg_iret F (pc := 16) hrt9 (by decide) (by decide) dL_rhyme_16 ⟨rfl, rfl⟩
theorem hq_scans : rHq yL_scans cL_scans 4 [(0, 9, 12, 21)] 3 := ⟨q638, q585, q561, ⟨by decide +kernel, by decide +kernel, by decide +kernel⟩⟩
set_option maxHeartbeats 4000000 in
set_option maxRecDepth 100000 in
theorem h_scans (l : Launch) (D : va_G) (M : rMem) (x o : Nat) (p0 : Int32) (v0 : Nat → Int64) (fs : List Value) (lev mc ms : Nat) (post : Int32 → rMem → Prop) (hrm : M x = some (.inr (4, fs))) (ho : M o = none) (hM : CMi l D yX3_scans cX3_scans 7 (some .int) lev mc ms M [.ref (x), .int (p0)] post) : CH l D yL_scans cL_scans 4 [(0, 9, 12, 21)] (lev + 1) mc ms (mjoin M (mone o (.inl (D.1 7, (1, .inr (.inl v0)))))) [.ref (x), .int (p0), .ref (o)] (fun r M' => r = nI 0 ∧ ∃ (r9 : Int32) (u : rMem), post r9 u ∧ u o = none ∧ M' = mjoin u (mone o (.inl (D.1 7, (1, .inr (.inl (vp_updL v0 0 r9.toInt64))))))) := by
  refine rMH (lv0 := [some (.ref (x)), some (.int (p0)), some (.ref (o)), none]) (by decide) rfl rfl (Nat.le_of_ble_eq_true rfl) (fun P0 E0 S0 m0 as0 bl0 mt0 c0 A F hrt9 htab hNc => ?_)
  refine rg_aload_n F (pc := 0) dL_scans_0 rfl ?_
  refine rg_iconst F (pc := 1) (v := nI 0) dL_scans_1 (by decide) ?_
  refine rg_aload_n F (pc := 2) dL_scans_2 rfl ?_
  refine rg_iload_n F (pc := 3) dL_scans_3 rfl ?_
  refine rg_fVi F (pc := 4) (M := M) (N := mone o (.inl (D.1 7, (1, .inr (.inl v0))))) (As := [.int (p0)]) (rest := [.int (nI 0), .ref (o)]) (ci := 4) hM q558 vq_X3_scans rfl hrm rfl rfl (Nat.le_of_ble_eq_true rfl) (Nat.le_refl _) (by show 8 + (7 + 11) + 32 * lev ≤ 32 * (lev + 1); omega) ⟨by show 0 + mc ≤ mc; omega, by show 0 + ms ≤ ms; omega⟩ (mone_dis ho) dL_scans_4 (fun r9 u hp hdis => ?_)
  refine rg_i2l F (pc := 7) (v := r9.toInt64) dL_scans_7 rfl ?_
  refine rg_last F (pc := 8) (mj_in hdis mone_eq) (by decide) (by decide) dL_scans_8 ?_
  refine rg_mem (mj_set (dis_mone hdis)) ?_
  refine rg_goto F (pc := 9) (tgt := 15) dL_scans_9 (by decide) ?_
  refine rg_iconst F (pc := 15) (v := nI 0) dL_scans_15 (by decide) ?_
  exact rg_iret F (pc := 16) hrt9 (by omega) (by omega) dL_scans_16 ⟨rfl, r9, u, hp, dis_mone hdis, rfl⟩
set_option maxHeartbeats 4000000 in
set_option maxRecDepth 100000 in
theorem h_scans_x1 (l : Launch) (D : va_G) (M : rMem) (x o : Nat) (p0 : Int32) (fs : List Value) (hrm : M x = some (.inr (4, fs))) (hM : CX l D yX3_scans cX3_scans 7 (some .int) 8 1 6 M [.ref (x), .int (p0)] "java/lang/IndexOutOfBoundsException") : CH l D yL_scans cL_scans 4 [(0, 9, 12, 21)] 9 1 6 M [.ref (x), .int (p0), .ref (o)] (fun r M' => r = nI 1 ∧ M' = M) := by
  refine rMH (lv0 := [some (.ref (x)), some (.int (p0)), some (.ref (o)), none]) (by decide) rfl rfl (Nat.le_of_ble_eq_true rfl) (fun P0 E0 S0 m0 as0 bl0 mt0 c0 A F hrt9 htab hNc => ?_)
  refine rg_aload_n F (pc := 0) dL_scans_0 rfl ?_
  refine rg_iconst F (pc := 1) (v := nI 0) dL_scans_1 (by decide) ?_
  refine rg_aload_n F (pc := 2) dL_scans_2 rfl ?_
  refine rg_iload_n F (pc := 3) dL_scans_3 rfl ?_
  refine rg_xV F (pc := 4) [] ⟨0, 9, 12, 21⟩ [] (htab.trans rfl) (fun z hz => absurd hz List.not_mem_nil) (by decide) (by decide) q521 qn15 (As := [.int (p0)]) (rest := [.int (nI 0), .ref (o)]) (ci := 4) hM q558 vq_X3_scans rfl hrm rfl rfl (Nat.le_of_ble_eq_true rfl) (by decide) (Nat.le_of_ble_eq_true rfl) ⟨by decide, by decide⟩ dL_scans_4 (fun q9 => ?_)
  refine rg_astore_n F (pc := 12) (lv' := [some (.ref (x)), some (.int (p0)), some (.ref (o)), some (.ref (q9))]) dL_scans_12 (Nat.le_of_ble_eq_true rfl) rfl ?_
  refine rg_iconst F (pc := 13) (v := nI 1) dL_scans_13 (by decide) ?_
  exact rg_iret F (pc := 14) hrt9 (by decide) (by decide) dL_scans_14 ⟨rfl, rfl⟩
theorem hq_count : rHq yL_count cL_count 4 [(0, 9, 12, 21)] 3 := ⟨q643, q585, q565, ⟨by decide +kernel, by decide +kernel, by decide +kernel⟩⟩
set_option maxHeartbeats 4000000 in
set_option maxRecDepth 100000 in
theorem h_count (l : Launch) (D : va_G) (M : rMem) (x o : Nat) (p0 : Int32) (v0 : Nat → Int64) (fs : List Value) (lev mc ms : Nat) (post : Int32 → rMem → Prop) (hrm : M x = some (.inr (4, fs))) (ho : M o = none) (hM : CMi l D yX3_count cX3_count 2 (some .int) lev mc ms M [.ref (x), .int (p0)] post) : CH l D yL_count cL_count 4 [(0, 9, 12, 21)] (lev + 1) mc ms (mjoin M (mone o (.inl (D.1 7, (1, .inr (.inl v0)))))) [.ref (x), .int (p0), .ref (o)] (fun r M' => r = nI 0 ∧ ∃ (r9 : Int32) (u : rMem), post r9 u ∧ u o = none ∧ M' = mjoin u (mone o (.inl (D.1 7, (1, .inr (.inl (vp_updL v0 0 r9.toInt64))))))) := by
  refine rMH (lv0 := [some (.ref (x)), some (.int (p0)), some (.ref (o)), none]) (by decide) rfl rfl (Nat.le_of_ble_eq_true rfl) (fun P0 E0 S0 m0 as0 bl0 mt0 c0 A F hrt9 htab hNc => ?_)
  refine rg_aload_n F (pc := 0) dL_count_0 rfl ?_
  refine rg_iconst F (pc := 1) (v := nI 0) dL_count_1 (by decide) ?_
  refine rg_aload_n F (pc := 2) dL_count_2 rfl ?_
  refine rg_iload_n F (pc := 3) dL_count_3 rfl ?_
  refine rg_fVi F (pc := 4) (M := M) (N := mone o (.inl (D.1 7, (1, .inr (.inl v0))))) (As := [.int (p0)]) (rest := [.int (nI 0), .ref (o)]) (ci := 4) hM q562 vq_X3_count rfl hrm rfl rfl (Nat.le_of_ble_eq_true rfl) (Nat.le_refl _) (by show 8 + (2 + 11) + 32 * lev ≤ 32 * (lev + 1); omega) ⟨by show 0 + mc ≤ mc; omega, by show 0 + ms ≤ ms; omega⟩ (mone_dis ho) dL_count_4 (fun r9 u hp hdis => ?_)
  refine rg_i2l F (pc := 7) (v := r9.toInt64) dL_count_7 rfl ?_
  refine rg_last F (pc := 8) (mj_in hdis mone_eq) (by decide) (by decide) dL_count_8 ?_
  refine rg_mem (mj_set (dis_mone hdis)) ?_
  refine rg_goto F (pc := 9) (tgt := 15) dL_count_9 (by decide) ?_
  refine rg_iconst F (pc := 15) (v := nI 0) dL_count_15 (by decide) ?_
  exact rg_iret F (pc := 16) hrt9 (by omega) (by omega) dL_count_16 ⟨rfl, r9, u, hp, dis_mone hdis, rfl⟩
set_option maxHeartbeats 4000000 in
set_option maxRecDepth 100000 in
theorem h_count_x1 (l : Launch) (D : va_G) (M : rMem) (x o : Nat) (p0 : Int32) (fs : List Value) (hrm : M x = some (.inr (4, fs))) (hM : CX l D yX3_count cX3_count 2 (some .int) 8 1 6 M [.ref (x), .int (p0)] "java/lang/IndexOutOfBoundsException") : CH l D yL_count cL_count 4 [(0, 9, 12, 21)] 9 1 6 M [.ref (x), .int (p0), .ref (o)] (fun r M' => r = nI 1 ∧ M' = M) := by
  refine rMH (lv0 := [some (.ref (x)), some (.int (p0)), some (.ref (o)), none]) (by decide) rfl rfl (Nat.le_of_ble_eq_true rfl) (fun P0 E0 S0 m0 as0 bl0 mt0 c0 A F hrt9 htab hNc => ?_)
  refine rg_aload_n F (pc := 0) dL_count_0 rfl ?_
  refine rg_iconst F (pc := 1) (v := nI 0) dL_count_1 (by decide) ?_
  refine rg_aload_n F (pc := 2) dL_count_2 rfl ?_
  refine rg_iload_n F (pc := 3) dL_count_3 rfl ?_
  refine rg_xV F (pc := 4) [] ⟨0, 9, 12, 21⟩ [] (htab.trans rfl) (fun z hz => absurd hz List.not_mem_nil) (by decide) (by decide) q521 qn15 (As := [.int (p0)]) (rest := [.int (nI 0), .ref (o)]) (ci := 4) hM q562 vq_X3_count rfl hrm rfl rfl (Nat.le_of_ble_eq_true rfl) (by decide) (Nat.le_of_ble_eq_true rfl) ⟨by decide, by decide⟩ dL_count_4 (fun q9 => ?_)
  refine rg_astore_n F (pc := 12) (lv' := [some (.ref (x)), some (.int (p0)), some (.ref (o)), some (.ref (q9))]) dL_count_12 (Nat.le_of_ble_eq_true rfl) rfl ?_
  refine rg_iconst F (pc := 13) (v := nI 1) dL_count_13 (by decide) ?_
  exact rg_iret F (pc := 14) hrt9 (by decide) (by decide) dL_count_14 ⟨rfl, rfl⟩
theorem hq_tries : rHq yL_tries cL_tries 6 [(0, 12, 15, 21)] 5 := ⟨q648, q585, q569, ⟨by decide +kernel, by decide +kernel, by decide +kernel⟩⟩
set_option maxHeartbeats 4000000 in
set_option maxRecDepth 100000 in
theorem h_tries (l : Launch) (D : va_G) (M : rMem) (x o : Nat) (p0 p1 p2 : Int32) (v0 : Nat → Int64) (fs : List Value) (lev mc ms : Nat) (post : Int32 → rMem → Prop) (hrm : M x = some (.inr (4, fs))) (ho : M o = none) (hM : CMi l D yX3_tries cX3_tries 5 (some .int) lev mc ms M [.ref (x), .int (p0), .int (p1), .int (p2)] post) : CH l D yL_tries cL_tries 6 [(0, 12, 15, 21)] (lev + 1) mc ms (mjoin M (mone o (.inl (D.1 7, (1, .inr (.inl v0)))))) [.ref (x), .int (p0), .int (p1), .int (p2), .ref (o)] (fun r M' => r = nI 0 ∧ ∃ (r9 : Int32) (u : rMem), post r9 u ∧ u o = none ∧ M' = mjoin u (mone o (.inl (D.1 7, (1, .inr (.inl (vp_updL v0 0 r9.toInt64))))))) := by
  refine rMH (lv0 := [some (.ref (x)), some (.int (p0)), some (.int (p1)), some (.int (p2)), some (.ref (o)), none]) (by decide) rfl rfl (Nat.le_of_ble_eq_true rfl) (fun P0 E0 S0 m0 as0 bl0 mt0 c0 A F hrt9 htab hNc => ?_)
  refine rg_aload F (pc := 0) dL_tries_0 rfl ?_
  refine rg_iconst F (pc := 2) (v := nI 0) dL_tries_2 (by decide) ?_
  refine rg_aload_n F (pc := 3) dL_tries_3 rfl ?_
  refine rg_iload_n F (pc := 4) dL_tries_4 rfl ?_
  refine rg_iload_n F (pc := 5) dL_tries_5 rfl ?_
  refine rg_iload_n F (pc := 6) dL_tries_6 rfl ?_
  refine rg_fVi F (pc := 7) (M := M) (N := mone o (.inl (D.1 7, (1, .inr (.inl v0))))) (As := [.int (p0), .int (p1), .int (p2)]) (rest := [.int (nI 0), .ref (o)]) (ci := 4) hM q566 vq_X3_tries rfl hrm rfl rfl (Nat.le_of_ble_eq_true rfl) (Nat.le_refl _) (by show 8 + (5 + 11) + 32 * lev ≤ 32 * (lev + 1); omega) ⟨by show 0 + mc ≤ mc; omega, by show 0 + ms ≤ ms; omega⟩ (mone_dis ho) dL_tries_7 (fun r9 u hp hdis => ?_)
  refine rg_i2l F (pc := 10) (v := r9.toInt64) dL_tries_10 rfl ?_
  refine rg_last F (pc := 11) (mj_in hdis mone_eq) (by decide) (by decide) dL_tries_11 ?_
  refine rg_mem (mj_set (dis_mone hdis)) ?_
  refine rg_goto F (pc := 12) (tgt := 19) dL_tries_12 (by decide) ?_
  refine rg_iconst F (pc := 19) (v := nI 0) dL_tries_19 (by decide) ?_
  exact rg_iret F (pc := 20) hrt9 (by omega) (by omega) dL_tries_20 ⟨rfl, r9, u, hp, dis_mone hdis, rfl⟩
set_option maxHeartbeats 4000000 in
set_option maxRecDepth 100000 in
theorem h_tries_x1 (l : Launch) (D : va_G) (M : rMem) (x o : Nat) (p0 p1 p2 : Int32) (fs : List Value) (hrm : M x = some (.inr (4, fs))) (hM : CX l D yX3_tries cX3_tries 5 (some .int) 8 1 6 M [.ref (x), .int (p0), .int (p1), .int (p2)] "java/lang/IndexOutOfBoundsException") : CH l D yL_tries cL_tries 6 [(0, 12, 15, 21)] 9 1 6 M [.ref (x), .int (p0), .int (p1), .int (p2), .ref (o)] (fun r M' => r = nI 1 ∧ M' = M) := by
  refine rMH (lv0 := [some (.ref (x)), some (.int (p0)), some (.int (p1)), some (.int (p2)), some (.ref (o)), none]) (by decide) rfl rfl (Nat.le_of_ble_eq_true rfl) (fun P0 E0 S0 m0 as0 bl0 mt0 c0 A F hrt9 htab hNc => ?_)
  refine rg_aload F (pc := 0) dL_tries_0 rfl ?_
  refine rg_iconst F (pc := 2) (v := nI 0) dL_tries_2 (by decide) ?_
  refine rg_aload_n F (pc := 3) dL_tries_3 rfl ?_
  refine rg_iload_n F (pc := 4) dL_tries_4 rfl ?_
  refine rg_iload_n F (pc := 5) dL_tries_5 rfl ?_
  refine rg_iload_n F (pc := 6) dL_tries_6 rfl ?_
  refine rg_xV F (pc := 7) [] ⟨0, 12, 15, 21⟩ [] (htab.trans rfl) (fun z hz => absurd hz List.not_mem_nil) (by decide) (by decide) q521 qn15 (As := [.int (p0), .int (p1), .int (p2)]) (rest := [.int (nI 0), .ref (o)]) (ci := 4) hM q566 vq_X3_tries rfl hrm rfl rfl (Nat.le_of_ble_eq_true rfl) (by decide) (Nat.le_of_ble_eq_true rfl) ⟨by decide, by decide⟩ dL_tries_7 (fun q9 => ?_)
  refine rg_astore F (pc := 15) (lv' := [some (.ref (x)), some (.int (p0)), some (.int (p1)), some (.int (p2)), some (.ref (o)), some (.ref (q9))]) dL_tries_15 (Nat.le_of_ble_eq_true rfl) rfl ?_
  refine rg_iconst F (pc := 17) (v := nI 1) dL_tries_17 (by decide) ?_
  exact rg_iret F (pc := 18) hrt9 (by decide) (by decide) dL_tries_18 ⟨rfl, rfl⟩
theorem hq_best : rHq yL_best cL_best 5 [(0, 10, 13, 21)] 4 := ⟨q653, q585, q573, ⟨by decide +kernel, by decide +kernel, by decide +kernel⟩⟩
set_option maxHeartbeats 4000000 in
set_option maxRecDepth 100000 in
theorem h_best (l : Launch) (D : va_G) (M : rMem) (x o : Nat) (p0 p1 : Int32) (v0 : Nat → Int64) (fs : List Value) (lev mc ms : Nat) (post : Int32 → rMem → Prop) (hrm : M x = some (.inr (4, fs))) (ho : M o = none) (hM : CMi l D yX3_best cX3_best 4 (some .int) lev mc ms M [.ref (x), .int (p0), .int (p1)] post) : CH l D yL_best cL_best 5 [(0, 10, 13, 21)] (lev + 1) mc ms (mjoin M (mone o (.inl (D.1 7, (1, .inr (.inl v0)))))) [.ref (x), .int (p0), .int (p1), .ref (o)] (fun r M' => r = nI 0 ∧ ∃ (r9 : Int32) (u : rMem), post r9 u ∧ u o = none ∧ M' = mjoin u (mone o (.inl (D.1 7, (1, .inr (.inl (vp_updL v0 0 r9.toInt64))))))) := by
  refine rMH (lv0 := [some (.ref (x)), some (.int (p0)), some (.int (p1)), some (.ref (o)), none]) (by decide) rfl rfl (Nat.le_of_ble_eq_true rfl) (fun P0 E0 S0 m0 as0 bl0 mt0 c0 A F hrt9 htab hNc => ?_)
  refine rg_aload_n F (pc := 0) dL_best_0 rfl ?_
  refine rg_iconst F (pc := 1) (v := nI 0) dL_best_1 (by decide) ?_
  refine rg_aload_n F (pc := 2) dL_best_2 rfl ?_
  refine rg_iload_n F (pc := 3) dL_best_3 rfl ?_
  refine rg_iload_n F (pc := 4) dL_best_4 rfl ?_
  refine rg_fVi F (pc := 5) (M := M) (N := mone o (.inl (D.1 7, (1, .inr (.inl v0))))) (As := [.int (p0), .int (p1)]) (rest := [.int (nI 0), .ref (o)]) (ci := 4) hM q570 vq_X3_best rfl hrm rfl rfl (Nat.le_of_ble_eq_true rfl) (Nat.le_refl _) (by show 8 + (4 + 11) + 32 * lev ≤ 32 * (lev + 1); omega) ⟨by show 0 + mc ≤ mc; omega, by show 0 + ms ≤ ms; omega⟩ (mone_dis ho) dL_best_5 (fun r9 u hp hdis => ?_)
  refine rg_i2l F (pc := 8) (v := r9.toInt64) dL_best_8 rfl ?_
  refine rg_last F (pc := 9) (mj_in hdis mone_eq) (by decide) (by decide) dL_best_9 ?_
  refine rg_mem (mj_set (dis_mone hdis)) ?_
  refine rg_goto F (pc := 10) (tgt := 17) dL_best_10 (by decide) ?_
  refine rg_iconst F (pc := 17) (v := nI 0) dL_best_17 (by decide) ?_
  exact rg_iret F (pc := 18) hrt9 (by omega) (by omega) dL_best_18 ⟨rfl, r9, u, hp, dis_mone hdis, rfl⟩
set_option maxHeartbeats 4000000 in
set_option maxRecDepth 100000 in
theorem h_best_x1 (l : Launch) (D : va_G) (M : rMem) (x o : Nat) (p0 p1 : Int32) (fs : List Value) (hrm : M x = some (.inr (4, fs))) (hM : CX l D yX3_best cX3_best 4 (some .int) 8 1 6 M [.ref (x), .int (p0), .int (p1)] "java/lang/IndexOutOfBoundsException") : CH l D yL_best cL_best 5 [(0, 10, 13, 21)] 9 1 6 M [.ref (x), .int (p0), .int (p1), .ref (o)] (fun r M' => r = nI 1 ∧ M' = M) := by
  refine rMH (lv0 := [some (.ref (x)), some (.int (p0)), some (.int (p1)), some (.ref (o)), none]) (by decide) rfl rfl (Nat.le_of_ble_eq_true rfl) (fun P0 E0 S0 m0 as0 bl0 mt0 c0 A F hrt9 htab hNc => ?_)
  refine rg_aload_n F (pc := 0) dL_best_0 rfl ?_
  refine rg_iconst F (pc := 1) (v := nI 0) dL_best_1 (by decide) ?_
  refine rg_aload_n F (pc := 2) dL_best_2 rfl ?_
  refine rg_iload_n F (pc := 3) dL_best_3 rfl ?_
  refine rg_iload_n F (pc := 4) dL_best_4 rfl ?_
  refine rg_xV F (pc := 5) [] ⟨0, 10, 13, 21⟩ [] (htab.trans rfl) (fun z hz => absurd hz List.not_mem_nil) (by decide) (by decide) q521 qn15 (As := [.int (p0), .int (p1)]) (rest := [.int (nI 0), .ref (o)]) (ci := 4) hM q570 vq_X3_best rfl hrm rfl rfl (Nat.le_of_ble_eq_true rfl) (by decide) (Nat.le_of_ble_eq_true rfl) ⟨by decide, by decide⟩ dL_best_5 (fun q9 => ?_)
  refine rg_astore F (pc := 13) (lv' := [some (.ref (x)), some (.int (p0)), some (.int (p1)), some (.ref (o)), some (.ref (q9))]) dL_best_13 (Nat.le_of_ble_eq_true rfl) rfl ?_
  refine rg_iconst F (pc := 15) (v := nI 1) dL_best_15 (by decide) ?_
  exact rg_iret F (pc := 16) hrt9 (by decide) (by decide) dL_best_16 ⟨rfl, rfl⟩
