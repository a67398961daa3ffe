set_option maxHeartbeats 4000000 in
set_option maxRecDepth 100000 in
theorem t_ref (l : Launch) (D : va_G) (M : rMem) (hl9 : l.stackTraces = false) (j : Int32) (b : Nat) (hb2 : b < 2 ^ 31) (hb : rBel j b = false) : CX l D yX3_refuseOutside cX3_refuseOutside 2 none 6 1 6 M [.int (j), .int (nI b)] "java/lang/IndexOutOfBoundsException" := by
  refine rX (lv0 := [some (.int (j)), some (.int (nI b))]) (by decide) rfl rfl (Nat.le_of_ble_eq_true rfl) (fun P0 E0 S0 m0 as0 bl0 mt0 c0 A F ht9 => ?_)
  refine rg_iload_n F (pc := 0) dX3_refuseOutside_0 rfl ?_
  refine rg_iload_n F (pc := 1) dX3_refuseOutside_1 rfl ?_
  refine rg_callSi F (pc := 2) (As := [.int (j), .int (nI b)]) (rest := []) (c_isBelow l D _ j b (by omega)) q220 sq_X3_isBelow rfl rfl (Nat.le_of_ble_eq_true rfl) (Nat.le_of_ble_eq_true rfl) (Nat.le_of_ble_eq_true rfl) ⟨(Nat.le_of_ble_eq_true rfl), (Nat.le_of_ble_eq_true rfl)⟩ dX3_refuseOutside_2 (fun r9 M9 hp => ?_)
  refine rg_top (v2 := .int (nI (rBel j b).toNat)) (by first | (rw [hp.1]; done) | (rw [hp.1]; rfl)) ?_
  refine rg_mem (M2 := M) hp.2 ?_
  refine rg_bif_ne F (pc := 5) (tgt := 18) dX3_refuseOutside_5 (by decide) (fun c5 => absurd c5 (by rw [hb]; decide)) (fun c5 => ?_)
  exact rg_thr hl9 F (pc := 8) (text := _) xr_i (List.mem_of_getElem? (i := 3) rfl) ht9 dX3_refuseOutside_8 dX3_refuseOutside_11 dX3_refuseOutside_12 dX3_refuseOutside_14 dX3_refuseOutside_17 (Nat.le_of_ble_eq_true rfl) (Nat.le_of_ble_eq_true rfl) (Nat.le_of_ble_eq_true rfl) (Nat.le_of_ble_eq_true rfl) (Nat.le_of_ble_eq_true rfl) (Nat.le_of_ble_eq_true rfl)
set_option maxHeartbeats 4000000 in
set_option maxRecDepth 100000 in
theorem t_nl (l : Launch) (D : va_G) (M : rMem) (hl9 : l.stackTraces = false) (x : Nat) (P : Poem) (nW nL : Nat) (u : Nat → Nat → Nat) (j : Int32) (hV : cV D M x P nW nL u) (hb : rBel j nL = false) : CX l D yX3_neededLine cX3_neededLine 2 ((some (.object "RhymeTax$Line"))) 7 1 6 M [.ref (x), .int (j)] "java/lang/IndexOutOfBoundsException" := by
  refine rX (lv0 := [some (.ref (x)), some (.int (j))]) (by decide) rfl rfl (Nat.le_of_ble_eq_true rfl) (fun P0 E0 S0 m0 as0 bl0 mt0 c0 A F ht9 => ?_)
  have hO := cV_see hV
  obtain ⟨mdw, hLw⟩ := hO.2.2.1
  obtain ⟨mdl, hLl⟩ := hO.2.2.2.1
  have hn30 := hO.1.1.1
  have hn10 := hO.1.2.1
  refine rg_iload_n F (pc := 0) dX3_neededLine_0 rfl ?_
  refine rg_aload_n F (pc := 1) dX3_neededLine_1 rfl ?_
  refine rg_get F (pc := 2) (ci := 4) rfl inX3 hO.2.1 1 (by decide) q203 (fun _ h9 => h9) rfl dX3_neededLine_2 ?_
  refine rg_callVi F (pc := 5) (As := []) (rest := [.int (j)]) (ci := 0) (c_size l D _ (gl u) mdl (gbl u) nL hLl.1) q221 vq_Jx4a65c_size_8abf5 rfl hLl.1 rfl rfl (Nat.le_of_ble_eq_true rfl) (Nat.le_of_ble_eq_true rfl) (Nat.le_of_ble_eq_true rfl) ⟨(Nat.le_of_ble_eq_true rfl), (Nat.le_of_ble_eq_true rfl)⟩ dX3_neededLine_5 (fun r9 M9 hp => ?_)
  refine rg_top (v2 := .int (nI nL)) (by first | (rw [hp.1]; done) | (rw [hp.1]; rfl)) ?_
  refine rg_mem (M2 := M) hp.2 ?_
  exact rg_outS F ht9 (pc := 8) (As := [.int (j), .int (nI nL)]) (rest := []) (t_ref l D _ hl9 j nL (by omega) hb) q233 sq_X3_refuseOutside rfl rfl (Nat.le_of_ble_eq_true rfl) (Nat.le_of_ble_eq_true rfl) (Nat.le_of_ble_eq_true rfl) ⟨(Nat.le_of_ble_eq_true rfl), (Nat.le_of_ble_eq_true rfl)⟩ (Nat.le_of_ble_eq_true rfl) (Nat.le_of_ble_eq_true rfl) dX3_neededLine_8
set_option maxHeartbeats 4000000 in
set_option maxRecDepth 100000 in
theorem t_nw (l : Launch) (D : va_G) (M : rMem) (hl9 : l.stackTraces = false) (x : Nat) (P : Poem) (nW nL : Nat) (u : Nat → Nat → Nat) (j : Int32) (hV : cV D M x P nW nL u) (hb : rBel j nW = false) : CX l D yX3_neededWord cX3_neededWord 2 ((some (.object "RhymeTax$Word"))) 7 1 6 M [.ref (x), .int (j)] "java/lang/IndexOutOfBoundsException" := by
  refine rX (lv0 := [some (.ref (x)), some (.int (j))]) (by decide) rfl rfl (Nat.le_of_ble_eq_true rfl) (fun P0 E0 S0 m0 as0 bl0 mt0 c0 A F ht9 => ?_)
  have hO := cV_see hV
  obtain ⟨mdw, hLw⟩ := hO.2.2.1
  obtain ⟨mdl, hLl⟩ := hO.2.2.2.1
  have hn30 := hO.1.1.1
  have hn10 := hO.1.2.1
  refine rg_iload_n F (pc := 0) dX3_neededWord_0 rfl ?_
  refine rg_aload_n F (pc := 1) dX3_neededWord_1 rfl ?_
  refine rg_get F (pc := 2) (ci := 4) rfl inX3 hO.2.1 0 (by decide) q202 (fun _ h9 => h9) rfl dX3_neededWord_2 ?_
  refine rg_callVi F (pc := 5) (As := []) (rest := [.int (j)]) (ci := 0) (c_size l D _ (gw u) mdw (gbw u) nW hLw.1) q221 vq_Jx4a65c_size_8abf5 rfl hLw.1 rfl rfl (Nat.le_of_ble_eq_true rfl) (Nat.le_of_ble_eq_true rfl) (Nat.le_of_ble_eq_true rfl) ⟨(Nat.le_of_ble_eq_true rfl), (Nat.le_of_ble_eq_true rfl)⟩ dX3_neededWord_5 (fun r9 M9 hp => ?_)
  refine rg_top (v2 := .int (nI nW)) (by first | (rw [hp.1]; done) | (rw [hp.1]; rfl)) ?_
  refine rg_mem (M2 := M) hp.2 ?_
  exact rg_outS F ht9 (pc := 8) (As := [.int (j), .int (nI nW)]) (rest := []) (t_ref l D _ hl9 j nW (by omega) hb) q233 sq_X3_refuseOutside rfl rfl (Nat.le_of_ble_eq_true rfl) (Nat.le_of_ble_eq_true rfl) (Nat.le_of_ble_eq_true rfl) ⟨(Nat.le_of_ble_eq_true rfl), (Nat.le_of_ble_eq_true rfl)⟩ (Nat.le_of_ble_eq_true rfl) (Nat.le_of_ble_eq_true rfl) dX3_neededWord_8
set_option maxHeartbeats 4000000 in
set_option maxRecDepth 100000 in
theorem t_nwo (l : Launch) (D : va_G) (M : rMem) (hl9 : l.stackTraces = false) (x : Nat) (P : Poem) (nW nL : Nat) (u : Nat → Nat → Nat) (i : Nat) (j : Int32) (hV : cV D M x P nW nL u) (hi : i < nL) (hb : rBel j (zC P i) = false) : CX l D yX3_neededWordOf cX3_neededWordOf 2 ((some (.object "RhymeTax$Word"))) 7 1 6 M [.ref (la u i), .int (j)] "java/lang/IndexOutOfBoundsException" := by
  refine rX (lv0 := [some (.ref (la u i)), some (.int (j))]) (by decide) rfl rfl (Nat.le_of_ble_eq_true rfl) (fun P0 E0 S0 m0 as0 bl0 mt0 c0 A F ht9 => ?_)
  have hO := cV_see hV
  obtain ⟨mdw, hLw⟩ := hO.2.2.1
  obtain ⟨mdl, hLl⟩ := hO.2.2.2.1
  have hn30 := hO.1.1.1
  have hn10 := hO.1.2.1
  have hz8 := (hO.1.2.2 i hi).2.2.2.2.1
  obtain ⟨bkr, mdr, hrr⟩ := hO.2.2.2.2.2.1 i (by omega)
  refine rg_iload_n F (pc := 0) dX3_neededWordOf_0 rfl ?_
  refine rg_aload_n F (pc := 1) dX3_neededWordOf_1 rfl ?_
  refine rg_get F (pc := 2) (ci := 2) rfl inX1 (hO.2.2.2.2.2.2.1 i (by omega)) 4 (by decide) q311 (fun _ h9 => h9) rfl dX3_neededWordOf_2 ?_
  refine rg_callVi F (pc := 5) (As := []) (rest := [.int (j)]) (ci := 0) (c_size l D _ (ra u i) mdr bkr (zC P i) hrr.1) q221 vq_Jx4a65c_size_8abf5 rfl hrr.1 rfl rfl (Nat.le_of_ble_eq_true rfl) (Nat.le_of_ble_eq_true rfl) (Nat.le_of_ble_eq_true rfl) ⟨(Nat.le_of_ble_eq_true rfl), (Nat.le_of_ble_eq_true rfl)⟩ dX3_neededWordOf_5 (fun r9 M9 hp => ?_)
  refine rg_top (v2 := .int (nI (zC P i))) (by first | (rw [hp.1]; done) | (rw [hp.1]; rfl)) ?_
  refine rg_mem (M2 := M) hp.2 ?_
  exact rg_outS F ht9 (pc := 8) (As := [.int (j), .int (nI (zC P i))]) (rest := []) (t_ref l D _ hl9 j (zC P i) (by omega) hb) q233 sq_X3_refuseOutside rfl rfl (Nat.le_of_ble_eq_true rfl) (Nat.le_of_ble_eq_true rfl) (Nat.le_of_ble_eq_true rfl) ⟨(Nat.le_of_ble_eq_true rfl), (Nat.le_of_ble_eq_true rfl)⟩ (Nat.le_of_ble_eq_true rfl) (Nat.le_of_ble_eq_true rfl) dX3_neededWordOf_8
set_option maxHeartbeats 4000000 in
set_option maxRecDepth 100000 in
theorem t_write1 (l : Launch) (D : va_G) (M : rMem) (hl9 : l.stackTraces = false) (x : Nat) (P : Poem) (nW nL : Nat) (u : Nat → Nat → Nat) (j p q : Int32) (hV : cV D M x P nW nL u) (hb : rBel j nL = false) : CX l D yX3_write cX3_write 7 ((some .int)) 8 1 6 M [.ref (x), .int (j), .int (p), .int (q)] "java/lang/IndexOutOfBoundsException" := by
  refine rX (lv0 := [some (.ref (x)), some (.int (j)), some (.int (p)), some (.int (q)), none, none, none]) (by decide) rfl rfl (Nat.le_of_ble_eq_true rfl) (fun P0 E0 S0 m0 as0 bl0 mt0 c0 A F ht9 => ?_)
  have hO := cV_see hV
  obtain ⟨mdw, hLw⟩ := hO.2.2.1
  obtain ⟨mdl, hLl⟩ := hO.2.2.2.1
  have hn30 := hO.1.1.1
  have hn10 := hO.1.2.1
  refine rg_aload_n F (pc := 0) dX3_write_0 rfl ?_
  refine rg_iload_n F (pc := 1) dX3_write_1 rfl ?_
  exact rg_outV F ht9 (pc := 2) (As := [.int (j)]) (rest := []) (ci := 4) (t_nl l D _ hl9 x P nW nL u j hV hb) q312 vq_X3_neededLine rfl hO.2.1 rfl rfl (Nat.le_of_ble_eq_true rfl) (Nat.le_of_ble_eq_true rfl) (Nat.le_of_ble_eq_true rfl) ⟨(Nat.le_of_ble_eq_true rfl), (Nat.le_of_ble_eq_true rfl)⟩ (Nat.le_of_ble_eq_true rfl) (Nat.le_of_ble_eq_true rfl) dX3_write_2
set_option maxHeartbeats 4000000 in
set_option maxRecDepth 100000 in
theorem t_strike1 (l : Launch) (D : va_G) (M : rMem) (hl9 : l.stackTraces = false) (x : Nat) (P : Poem) (nW nL : Nat) (u : Nat → Nat → Nat) (j  : Int32) (hV : cV D M x P nW nL u) (hb : rBel j nL = false) : CX l D yX3_strike cX3_strike 4 ((some .int)) 8 1 6 M [.ref (x), .int (j)] "java/lang/IndexOutOfBoundsException" := by
  refine rX (lv0 := [some (.ref (x)), some (.int (j)), none, none]) (by decide) rfl rfl (Nat.le_of_ble_eq_true rfl) (fun P0 E0 S0 m0 as0 bl0 mt0 c0 A F ht9 => ?_)
  have hO := cV_see hV
  obtain ⟨mdw, hLw⟩ := hO.2.2.1
  obtain ⟨mdl, hLl⟩ := hO.2.2.2.1
  have hn30 := hO.1.1.1
  have hn10 := hO.1.2.1
  refine rg_aload_n F (pc := 0) dX3_strike_0 rfl ?_
  refine rg_iload_n F (pc := 1) dX3_strike_1 rfl ?_
  exact rg_outV F ht9 (pc := 2) (As := [.int (j)]) (rest := []) (ci := 4) (t_nl l D _ hl9 x P nW nL u j hV hb) q312 vq_X3_neededLine rfl hO.2.1 rfl rfl (Nat.le_of_ble_eq_true rfl) (Nat.le_of_ble_eq_true rfl) (Nat.le_of_ble_eq_true rfl) ⟨(Nat.le_of_ble_eq_true rfl), (Nat.le_of_ble_eq_true rfl)⟩ (Nat.le_of_ble_eq_true rfl) (Nat.le_of_ble_eq_true rfl) dX3_strike_2
set_option maxHeartbeats 4000000 in
set_option maxRecDepth 100000 in
theorem t_written1 (l : Launch) (D : va_G) (M : rMem) (hl9 : l.stackTraces = false) (x : Nat) (P : Poem) (nW nL : Nat) (u : Nat → Nat → Nat) (j p : Int32) (hV : cV D M x P nW nL u) (hb : rBel j nL = false) : CX l D yX3_written cX3_written 3 ((some .int)) 8 1 6 M [.ref (x), .int (j), .int (p)] "java/lang/IndexOutOfBoundsException" := by
  refine rX (lv0 := [some (.ref (x)), some (.int (j)), some (.int (p))]) (by decide) rfl rfl (Nat.le_of_ble_eq_true rfl) (fun P0 E0 S0 m0 as0 bl0 mt0 c0 A F ht9 => ?_)
  have hO := cV_see hV
  obtain ⟨mdw, hLw⟩ := hO.2.2.1
  obtain ⟨mdl, hLl⟩ := hO.2.2.2.1
  have hn30 := hO.1.1.1
  have hn10 := hO.1.2.1
  refine rg_aload_n F (pc := 0) dX3_written_0 rfl ?_
  refine rg_iload_n F (pc := 1) dX3_written_1 rfl ?_
  exact rg_outV F ht9 (pc := 2) (As := [.int (j)]) (rest := []) (ci := 4) (t_nl l D _ hl9 x P nW nL u j hV hb) q312 vq_X3_neededLine rfl hO.2.1 rfl rfl (Nat.le_of_ble_eq_true rfl) (Nat.le_of_ble_eq_true rfl) (Nat.le_of_ble_eq_true rfl) ⟨(Nat.le_of_ble_eq_true rfl), (Nat.le_of_ble_eq_true rfl)⟩ (Nat.le_of_ble_eq_true rfl) (Nat.le_of_ble_eq_true rfl) dX3_written_2
set_option maxHeartbeats 4000000 in
set_option maxRecDepth 100000 in
theorem t_told1 (l : Launch) (D : va_G) (M : rMem) (hl9 : l.stackTraces = false) (x : Nat) (P : Poem) (nW nL : Nat) (u : Nat → Nat → Nat) (j p : Int32) (hV : cV D M x P nW nL u) (hb : rBel j nL = false) : CX l D yX3_told cX3_told 4 ((some .int)) 8 1 6 M [.ref (x), .int (j), .int (p)] "java/lang/IndexOutOfBoundsException" := by
  refine rX (lv0 := [some (.ref (x)), some (.int (j)), some (.int (p)), none]) (by decide) rfl rfl (Nat.le_of_ble_eq_true rfl) (fun P0 E0 S0 m0 as0 bl0 mt0 c0 A F ht9 => ?_)
  have hO := cV_see hV
  obtain ⟨mdw, hLw⟩ := hO.2.2.1
  obtain ⟨mdl, hLl⟩ := hO.2.2.2.1
  have hn30 := hO.1.1.1
  have hn10 := hO.1.2.1
  refine rg_aload_n F (pc := 0) dX3_told_0 rfl ?_
  refine rg_iload_n F (pc := 1) dX3_told_1 rfl ?_
  exact rg_outV F ht9 (pc := 2) (As := [.int (j)]) (rest := []) (ci := 4) (t_nl l D _ hl9 x P nW nL u j hV hb) q312 vq_X3_neededLine rfl hO.2.1 rfl rfl (Nat.le_of_ble_eq_true rfl) (Nat.le_of_ble_eq_true rfl) (Nat.le_of_ble_eq_true rfl) ⟨(Nat.le_of_ble_eq_true rfl), (Nat.le_of_ble_eq_true rfl)⟩ (Nat.le_of_ble_eq_true rfl) (Nat.le_of_ble_eq_true rfl) dX3_told_2
set_option maxHeartbeats 4000000 in
set_option maxRecDepth 100000 in
theorem t_stress1 (l : Launch) (D : va_G) (M : rMem) (hl9 : l.stackTraces = false) (x : Nat) (P : Poem) (nW nL : Nat) (u : Nat → Nat → Nat) (j p : Int32) (hV : cV D M x P nW nL u) (hb : rBel j nL = false) : CX l D yX3_stress cX3_stress 4 ((some .int)) 8 1 6 M [.ref (x), .int (j), .int (p)] "java/lang/IndexOutOfBoundsException" := by
  refine rX (lv0 := [some (.ref (x)), some (.int (j)), some (.int (p)), none]) (by decide) rfl rfl (Nat.le_of_ble_eq_true rfl) (fun P0 E0 S0 m0 as0 bl0 mt0 c0 A F ht9 => ?_)
  have hO := cV_see hV
  obtain ⟨mdw, hLw⟩ := hO.2.2.1
  obtain ⟨mdl, hLl⟩ := hO.2.2.2.1
  have hn30 := hO.1.1.1
  have hn10 := hO.1.2.1
  refine rg_aload_n F (pc := 0) dX3_stress_0 rfl ?_
  refine rg_iload_n F (pc := 1) dX3_stress_1 rfl ?_
  exact rg_outV F ht9 (pc := 2) (As := [.int (j)]) (rest := []) (ci := 4) (t_nl l D _ hl9 x P nW nL u j hV hb) q312 vq_X3_neededLine rfl hO.2.1 rfl rfl (Nat.le_of_ble_eq_true rfl) (Nat.le_of_ble_eq_true rfl) (Nat.le_of_ble_eq_true rfl) ⟨(Nat.le_of_ble_eq_true rfl), (Nat.le_of_ble_eq_true rfl)⟩ (Nat.le_of_ble_eq_true rfl) (Nat.le_of_ble_eq_true rfl) dX3_stress_2
set_option maxHeartbeats 4000000 in
set_option maxRecDepth 100000 in
theorem t_melted1 (l : Launch) (D : va_G) (M : rMem) (hl9 : l.stackTraces = false) (x : Nat) (P : Poem) (nW nL : Nat) (u : Nat → Nat → Nat) (j  : Int32) (hV : cV D M x P nW nL u) (hb : rBel j nL = false) : CX l D yX3_melted cX3_melted 2 ((some .int)) 8 1 6 M [.ref (x), .int (j)] "java/lang/IndexOutOfBoundsException" := by
  refine rX (lv0 := [some (.ref (x)), some (.int (j))]) (by decide) rfl rfl (Nat.le_of_ble_eq_true rfl) (fun P0 E0 S0 m0 as0 bl0 mt0 c0 A F ht9 => ?_)
  have hO := cV_see hV
  obtain ⟨mdw, hLw⟩ := hO.2.2.1
  obtain ⟨mdl, hLl⟩ := hO.2.2.2.1
  have hn30 := hO.1.1.1
  have hn10 := hO.1.2.1
  refine rg_aload_n F (pc := 0) dX3_melted_0 rfl ?_
  refine rg_iload_n F (pc := 1) dX3_melted_1 rfl ?_
  exact rg_outV F ht9 (pc := 2) (As := [.int (j)]) (rest := []) (ci := 4) (t_nl l D _ hl9 x P nW nL u j hV hb) q312 vq_X3_neededLine rfl hO.2.1 rfl rfl (Nat.le_of_ble_eq_true rfl) (Nat.le_of_ble_eq_true rfl) (Nat.le_of_ble_eq_true rfl) ⟨(Nat.le_of_ble_eq_true rfl), (Nat.le_of_ble_eq_true rfl)⟩ (Nat.le_of_ble_eq_true rfl) (Nat.le_of_ble_eq_true rfl) dX3_melted_2
set_option maxHeartbeats 4000000 in
set_option maxRecDepth 100000 in
theorem t_scans1 (l : Launch) (D : va_G) (M : rMem) (hl9 : l.stackTraces = false) (x : Nat) (P : Poem) (nW nL : Nat) (u : Nat → Nat → Nat) (j  : Int32) (hV : cV D M x P nW nL u) (hb : rBel j nL = false) : CX l D yX3_scans cX3_scans 7 ((some .int)) 8 1 6 M [.ref (x), .int (j)] "java/lang/IndexOutOfBoundsException" := by
  refine rX (lv0 := [some (.ref (x)), some (.int (j)), none, none, none, none, none]) (by decide) rfl rfl (Nat.le_of_ble_eq_true rfl) (fun P0 E0 S0 m0 as0 bl0 mt0 c0 A F ht9 => ?_)
  have hO := cV_see hV
  obtain ⟨mdw, hLw⟩ := hO.2.2.1
  obtain ⟨mdl, hLl⟩ := hO.2.2.2.1
  have hn30 := hO.1.1.1
  have hn10 := hO.1.2.1
  refine rg_aload_n F (pc := 0) dX3_scans_0 rfl ?_
  refine rg_iload_n F (pc := 1) dX3_scans_1 rfl ?_
  exact rg_outV F ht9 (pc := 2) (As := [.int (j)]) (rest := []) (ci := 4) (t_nl l D _ hl9 x P nW nL u j hV hb) q312 vq_X3_neededLine rfl hO.2.1 rfl rfl (Nat.le_of_ble_eq_true rfl) (Nat.le_of_ble_eq_true rfl) (Nat.le_of_ble_eq_true rfl) ⟨(Nat.le_of_ble_eq_true rfl), (Nat.le_of_ble_eq_true rfl)⟩ (Nat.le_of_ble_eq_true rfl) (Nat.le_of_ble_eq_true rfl) dX3_scans_2
set_option maxHeartbeats 4000000 in
set_option maxRecDepth 100000 in
theorem t_tries1 (l : Launch) (D : va_G) (M : rMem) (hl9 : l.stackTraces = false) (x : Nat) (P : Poem) (nW nL : Nat) (u : Nat → Nat → Nat) (j p q : Int32) (hV : cV D M x P nW nL u) (hb : rBel j nL = false) : CX l D yX3_tries cX3_tries 5 ((some .int)) 8 1 6 M [.ref (x), .int (j), .int (p), .int (q)] "java/lang/IndexOutOfBoundsException" := by
  refine rX (lv0 := [some (.ref (x)), some (.int (j)), some (.int (p)), some (.int (q)), none]) (by decide) rfl rfl (Nat.le_of_ble_eq_true rfl) (fun P0 E0 S0 m0 as0 bl0 mt0 c0 A F ht9 => ?_)
  have hO := cV_see hV
  obtain ⟨mdw, hLw⟩ := hO.2.2.1
  obtain ⟨mdl, hLl⟩ := hO.2.2.2.1
  have hn30 := hO.1.1.1
  have hn10 := hO.1.2.1
  refine rg_aload_n F (pc := 0) dX3_tries_0 rfl ?_
  refine rg_iload_n F (pc := 1) dX3_tries_1 rfl ?_
  exact rg_outV F ht9 (pc := 2) (As := [.int (j)]) (rest := []) (ci := 4) (t_nl l D _ hl9 x P nW nL u j hV hb) q312 vq_X3_neededLine rfl hO.2.1 rfl rfl (Nat.le_of_ble_eq_true rfl) (Nat.le_of_ble_eq_true rfl) (Nat.le_of_ble_eq_true rfl) ⟨(Nat.le_of_ble_eq_true rfl), (Nat.le_of_ble_eq_true rfl)⟩ (Nat.le_of_ble_eq_true rfl) (Nat.le_of_ble_eq_true rfl) dX3_tries_2
set_option maxHeartbeats 4000000 in
set_option maxRecDepth 100000 in
theorem t_best1 (l : Launch) (D : va_G) (M : rMem) (hl9 : l.stackTraces = false) (x : Nat) (P : Poem) (nW nL : Nat) (u : Nat → Nat → Nat) (j p : Int32) (hV : cV D M x P nW nL u) (hb : rBel j nL = false) : CX l D yX3_best cX3_best 4 ((some .int)) 8 1 6 M [.ref (x), .int (j), .int (p)] "java/lang/IndexOutOfBoundsException" := by
  refine rX (lv0 := [some (.ref (x)), some (.int (j)), some (.int (p)), none]) (by decide) rfl rfl (Nat.le_of_ble_eq_true rfl) (fun P0 E0 S0 m0 as0 bl0 mt0 c0 A F ht9 => ?_)
  have hO := cV_see hV
  obtain ⟨mdw, hLw⟩ := hO.2.2.1
  obtain ⟨mdl, hLl⟩ := hO.2.2.2.1
  have hn30 := hO.1.1.1
  have hn10 := hO.1.2.1
  refine rg_aload_n F (pc := 0) dX3_best_0 rfl ?_
  refine rg_iload_n F (pc := 1) dX3_best_1 rfl ?_
  exact rg_outV F ht9 (pc := 2) (As := [.int (j)]) (rest := []) (ci := 4) (t_nl l D _ hl9 x P nW nL u j hV hb) q312 vq_X3_neededLine rfl hO.2.1 rfl rfl (Nat.le_of_ble_eq_true rfl) (Nat.le_of_ble_eq_true rfl) (Nat.le_of_ble_eq_true rfl) ⟨(Nat.le_of_ble_eq_true rfl), (Nat.le_of_ble_eq_true rfl)⟩ (Nat.le_of_ble_eq_true rfl) (Nat.le_of_ble_eq_true rfl) dX3_best_2
set_option maxHeartbeats 4000000 in
set_option maxRecDepth 100000 in
theorem t_rhyme1 (l : Launch) (D : va_G) (M : rMem) (hl9 : l.stackTraces = false) (x : Nat) (P : Poem) (nW nL : Nat) (u : Nat → Nat → Nat) (j p : Int32) (hV : cV D M x P nW nL u) (hb : rBel j nL = false) : CX l D yX3_rhyme cX3_rhyme 3 ((some .int)) 8 1 6 M [.ref (x), .int (j), .int (p)] "java/lang/IndexOutOfBoundsException" := by
  refine rX (lv0 := [some (.ref (x)), some (.int (j)), some (.int (p))]) (by decide) rfl rfl (Nat.le_of_ble_eq_true rfl) (fun P0 E0 S0 m0 as0 bl0 mt0 c0 A F ht9 => ?_)
  have hO := cV_see hV
  obtain ⟨mdw, hLw⟩ := hO.2.2.1
  obtain ⟨mdl, hLl⟩ := hO.2.2.2.1
  have hn30 := hO.1.1.1
  have hn10 := hO.1.2.1
  refine rg_aload_n F (pc := 0) dX3_rhyme_0 rfl ?_
  refine rg_iload_n F (pc := 1) dX3_rhyme_1 rfl ?_
  exact rg_outV F ht9 (pc := 2) (As := [.int (j)]) (rest := []) (ci := 4) (t_nl l D _ hl9 x P nW nL u j hV hb) q312 vq_X3_neededLine rfl hO.2.1 rfl rfl (Nat.le_of_ble_eq_true rfl) (Nat.le_of_ble_eq_true rfl) (Nat.le_of_ble_eq_true rfl) ⟨(Nat.le_of_ble_eq_true rfl), (Nat.le_of_ble_eq_true rfl)⟩ (Nat.le_of_ble_eq_true rfl) (Nat.le_of_ble_eq_true rfl) dX3_rhyme_2
set_option maxHeartbeats 4000000 in
set_option maxRecDepth 100000 in
theorem t_rhyme2 (l : Launch) (D : va_G) (M : rMem) (hl9 : l.stackTraces = false) (x : Nat) (P : Poem) (nW nL : Nat) (u : Nat → Nat → Nat) (i : Nat) (j : Int32) (hV : cV D M x P nW nL u) (hi : i < nL) (hb : rBel j nL = false) : CX l D yX3_rhyme cX3_rhyme 3 ((some .int)) 8 1 6 M [.ref (x), .int (nI i), .int (j)] "java/lang/IndexOutOfBoundsException" := by
  refine rX (lv0 := [some (.ref (x)), some (.int (nI i)), some (.int (j))]) (by decide) rfl rfl (Nat.le_of_ble_eq_true rfl) (fun P0 E0 S0 m0 as0 bl0 mt0 c0 A F ht9 => ?_)
  have hO := cV_see hV
  obtain ⟨mdw, hLw⟩ := hO.2.2.1
  obtain ⟨mdl, hLl⟩ := hO.2.2.2.1
  have hn30 := hO.1.1.1
  have hn10 := hO.1.2.1
  refine rg_aload_n F (pc := 0) dX3_rhyme_0 rfl ?_
  refine rg_iload_n F (pc := 1) dX3_rhyme_1 rfl ?_
  refine rg_callVq F (pc := 2) (As := [.int (nI i)]) (rest := []) (ci := 4) (c_nlV l D _ x P nW nL u i hV (by omega)) q312 vq_X3_neededLine rfl hO.2.1 rfl rfl (Nat.le_of_ble_eq_true rfl) (Nat.le_of_ble_eq_true rfl) (Nat.le_of_ble_eq_true rfl) ⟨(Nat.le_of_ble_eq_true rfl), (Nat.le_of_ble_eq_true rfl)⟩ dX3_rhyme_2 (fun r9 M9 hp => ?_)
  refine rg_top (v2 := .ref (la u i)) (by rw [hp.1]; rfl) ?_
  refine rg_mem (M2 := M) hp.2 ?_
  refine rg_aload_n F (pc := 5) dX3_rhyme_5 rfl ?_
  refine rg_iload_n F (pc := 6) dX3_rhyme_6 rfl ?_
  exact rg_outV F ht9 (pc := 7) (As := [.int (j)]) (rest := [.ref (la u i)]) (ci := 4) (t_nl l D _ hl9 x P nW nL u j hV hb) q312 vq_X3_neededLine rfl hO.2.1 rfl rfl (Nat.le_of_ble_eq_true rfl) (Nat.le_of_ble_eq_true rfl) (Nat.le_of_ble_eq_true rfl) ⟨(Nat.le_of_ble_eq_true rfl), (Nat.le_of_ble_eq_true rfl)⟩ (Nat.le_of_ble_eq_true rfl) (Nat.le_of_ble_eq_true rfl) dX3_rhyme_7
set_option maxHeartbeats 4000000 in
set_option maxRecDepth 100000 in
theorem t_written2 (l : Launch) (D : va_G) (M : rMem) (hl9 : l.stackTraces = false) (x : Nat) (P : Poem) (nW nL : Nat) (u : Nat → Nat → Nat) (i : Nat) (j  : Int32) (hV : cV D M x P nW nL u) (hi : i < nL) (hb : rBel j (zC P i) = false) : CX l D yX3_written cX3_written 3 ((some .int)) 8 1 6 M [.ref (x), .int (nI i), .int (j)] "java/lang/IndexOutOfBoundsException" := by
  refine rX (lv0 := [some (.ref (x)), some (.int (nI i)), some (.int (j))]) (by decide) rfl rfl (Nat.le_of_ble_eq_true rfl) (fun P0 E0 S0 m0 as0 bl0 mt0 c0 A F ht9 => ?_)
  have hO := cV_see hV
  obtain ⟨mdw, hLw⟩ := hO.2.2.1
  obtain ⟨mdl, hLl⟩ := hO.2.2.2.1
  have hn30 := hO.1.1.1
  have hn10 := hO.1.2.1
  refine rg_aload_n F (pc := 0) dX3_written_0 rfl ?_
  refine rg_iload_n F (pc := 1) dX3_written_1 rfl ?_
  refine rg_callVq F (pc := 2) (As := [.int (nI i)]) (rest := []) (ci := 4) (c_nlV l D _ x P nW nL u i hV (by omega)) q312 vq_X3_neededLine rfl hO.2.1 rfl rfl (Nat.le_of_ble_eq_true rfl) (Nat.le_of_ble_eq_true rfl) (Nat.le_of_ble_eq_true rfl) ⟨(Nat.le_of_ble_eq_true rfl), (Nat.le_of_ble_eq_true rfl)⟩ dX3_written_2 (fun r9 M9 hp => ?_)
  refine rg_top (v2 := .ref (la u i)) (by rw [hp.1]; rfl) ?_
  refine rg_mem (M2 := M) hp.2 ?_
  refine rg_iload_n F (pc := 5) dX3_written_5 rfl ?_
  exact rg_outS F ht9 (pc := 6) (As := [.ref (la u i), .int (j)]) (rest := []) (t_nwo l D _ hl9 x P nW nL u i j hV hi hb) q327 sq_X3_neededWordOf rfl rfl (Nat.le_of_ble_eq_true rfl) (Nat.le_of_ble_eq_true rfl) (Nat.le_of_ble_eq_true rfl) ⟨(Nat.le_of_ble_eq_true rfl), (Nat.le_of_ble_eq_true rfl)⟩ (Nat.le_of_ble_eq_true rfl) (Nat.le_of_ble_eq_true rfl) dX3_written_6
set_option maxHeartbeats 4000000 in
set_option maxRecDepth 100000 in
theorem t_tries2 (l : Launch) (D : va_G) (M : rMem) (hl9 : l.stackTraces = false) (x : Nat) (P : Poem) (nW nL : Nat) (u : Nat → Nat → Nat) (i : Nat) (j q : Int32) (hV : cV D M x P nW nL u) (hi : i < nL) (hb : rBel j (zC P i) = false) : CX l D yX3_tries cX3_tries 5 ((some .int)) 8 1 6 M [.ref (x), .int (nI i), .int (j), .int (q)] "java/lang/IndexOutOfBoundsException" := by
  refine rX (lv0 := [some (.ref (x)), some (.int (nI i)), some (.int (j)), some (.int (q)), none]) (by decide) rfl rfl (Nat.le_of_ble_eq_true rfl) (fun P0 E0 S0 m0 as0 bl0 mt0 c0 A F ht9 => ?_)
  have hO := cV_see hV
  obtain ⟨mdw, hLw⟩ := hO.2.2.1
  obtain ⟨mdl, hLl⟩ := hO.2.2.2.1
  have hn30 := hO.1.1.1
  have hn10 := hO.1.2.1
  refine rg_aload_n F (pc := 0) dX3_tries_0 rfl ?_
  refine rg_iload_n F (pc := 1) dX3_tries_1 rfl ?_
  refine rg_callVq F (pc := 2) (As := [.int (nI i)]) (rest := []) (ci := 4) (c_nlV l D _ x P nW nL u i hV (by omega)) q312 vq_X3_neededLine rfl hO.2.1 rfl rfl (Nat.le_of_ble_eq_true rfl) (Nat.le_of_ble_eq_true rfl) (Nat.le_of_ble_eq_true rfl) ⟨(Nat.le_of_ble_eq_true rfl), (Nat.le_of_ble_eq_true rfl)⟩ dX3_tries_2 (fun r9 M9 hp => ?_)
  refine rg_top (v2 := .ref (la u i)) (by rw [hp.1]; rfl) ?_
  refine rg_mem (M2 := M) hp.2 ?_
  refine rg_iload_n F (pc := 5) dX3_tries_5 rfl ?_
  exact rg_outS F ht9 (pc := 6) (As := [.ref (la u i), .int (j)]) (rest := []) (t_nwo l D _ hl9 x P nW nL u i j hV hi hb) q327 sq_X3_neededWordOf rfl rfl (Nat.le_of_ble_eq_true rfl) (Nat.le_of_ble_eq_true rfl) (Nat.le_of_ble_eq_true rfl) ⟨(Nat.le_of_ble_eq_true rfl), (Nat.le_of_ble_eq_true rfl)⟩ (Nat.le_of_ble_eq_true rfl) (Nat.le_of_ble_eq_true rfl) dX3_tries_6
set_option maxHeartbeats 4000000 in
set_option maxRecDepth 100000 in
theorem t_best2 (l : Launch) (D : va_G) (M : rMem) (hl9 : l.stackTraces = false) (x : Nat) (P : Poem) (nW nL : Nat) (u : Nat → Nat → Nat) (i : Nat) (j  : Int32) (hV : cV D M x P nW nL u) (hi : i < nL) (hb : rBel j (zC P i) = false) : CX l D yX3_best cX3_best 4 ((some .int)) 8 1 6 M [.ref (x), .int (nI i), .int (j)] "java/lang/IndexOutOfBoundsException" := by
  refine rX (lv0 := [some (.ref (x)), some (.int (nI i)), some (.int (j)), none]) (by decide) rfl rfl (Nat.le_of_ble_eq_true rfl) (fun P0 E0 S0 m0 as0 bl0 mt0 c0 A F ht9 => ?_)
  have hO := cV_see hV
  obtain ⟨mdw, hLw⟩ := hO.2.2.1
  obtain ⟨mdl, hLl⟩ := hO.2.2.2.1
  have hn30 := hO.1.1.1
  have hn10 := hO.1.2.1
  refine rg_aload_n F (pc := 0) dX3_best_0 rfl ?_
  refine rg_iload_n F (pc := 1) dX3_best_1 rfl ?_
  refine rg_callVq F (pc := 2) (As := [.int (nI i)]) (rest := []) (ci := 4) (c_nlV l D _ x P nW nL u i hV (by omega)) q312 vq_X3_neededLine rfl hO.2.1 rfl rfl (Nat.le_of_ble_eq_true rfl) (Nat.le_of_ble_eq_true rfl) (Nat.le_of_ble_eq_true rfl) ⟨(Nat.le_of_ble_eq_true rfl), (Nat.le_of_ble_eq_true rfl)⟩ dX3_best_2 (fun r9 M9 hp => ?_)
  refine rg_top (v2 := .ref (la u i)) (by rw [hp.1]; rfl) ?_
  refine rg_mem (M2 := M) hp.2 ?_
  refine rg_iload_n F (pc := 5) dX3_best_5 rfl ?_
  exact rg_outS F ht9 (pc := 6) (As := [.ref (la u i), .int (j)]) (rest := []) (t_nwo l D _ hl9 x P nW nL u i j hV hi hb) q327 sq_X3_neededWordOf rfl rfl (Nat.le_of_ble_eq_true rfl) (Nat.le_of_ble_eq_true rfl) (Nat.le_of_ble_eq_true rfl) ⟨(Nat.le_of_ble_eq_true rfl), (Nat.le_of_ble_eq_true rfl)⟩ (Nat.le_of_ble_eq_true rfl) (Nat.le_of_ble_eq_true rfl) dX3_best_6
set_option maxHeartbeats 4000000 in
set_option maxRecDepth 100000 in
theorem t_tries3 (l : Launch) (D : va_G) (M : rMem) (hl9 : l.stackTraces = false) (x : Nat) (P : Poem) (nW nL : Nat) (u : Nat → Nat → Nat) (i p : Nat) (j : Int32) (hV : cV D M x P nW nL u) (hi : i < nL) (hp9 : p < zC P i) (hb : rBel j nW = false) : CX l D yX3_tries cX3_tries 5 ((some .int)) 8 1 6 M [.ref (x), .int (nI i), .int (nI p), .int (j)] "java/lang/IndexOutOfBoundsException" := by
  refine rX (lv0 := [some (.ref (x)), some (.int (nI i)), some (.int (nI p)), some (.int (j)), none]) (by decide) rfl rfl (Nat.le_of_ble_eq_true rfl) (fun P0 E0 S0 m0 as0 bl0 mt0 c0 A F ht9 => ?_)
  have hO := cV_see hV
  obtain ⟨mdw, hLw⟩ := hO.2.2.1
  obtain ⟨mdl, hLl⟩ := hO.2.2.2.1
  have hn30 := hO.1.1.1
  have hn10 := hO.1.2.1
  have hzr := (hO.1.2.2 i hi).2.2.2.2.2 p hp9
  refine rg_aload_n F (pc := 0) dX3_tries_0 rfl ?_
  refine rg_iload_n F (pc := 1) dX3_tries_1 rfl ?_
  refine rg_callVq F (pc := 2) (As := [.int (nI i)]) (rest := []) (ci := 4) (c_nlV l D _ x P nW nL u i hV (by omega)) q312 vq_X3_neededLine rfl hO.2.1 rfl rfl (Nat.le_of_ble_eq_true rfl) (Nat.le_of_ble_eq_true rfl) (Nat.le_of_ble_eq_true rfl) ⟨(Nat.le_of_ble_eq_true rfl), (Nat.le_of_ble_eq_true rfl)⟩ dX3_tries_2 (fun r9 M9 hp => ?_)
  refine rg_top (v2 := .ref (la u i)) (by rw [hp.1]; rfl) ?_
  refine rg_mem (M2 := M) hp.2 ?_
  refine rg_iload_n F (pc := 5) dX3_tries_5 rfl ?_
  refine rg_callSq F (pc := 6) (As := [.ref (la u i), .int (nI p)]) (rest := []) (c_nwoV l D _ x P nW nL u i p hV hi hp9) q327 sq_X3_neededWordOf rfl rfl (Nat.le_of_ble_eq_true rfl) (Nat.le_of_ble_eq_true rfl) (Nat.le_of_ble_eq_true rfl) ⟨(Nat.le_of_ble_eq_true rfl), (Nat.le_of_ble_eq_true rfl)⟩ dX3_tries_6 (fun r9 M9 hp => ?_)
  refine rg_top (v2 := .ref (wa u (zR P i p))) (by rw [hp.1]; rfl) ?_
  refine rg_mem (M2 := M) hp.2 ?_
  refine rg_astore F (pc := 9) (lv' := [some (.ref (x)), some (.int (nI i)), some (.int (nI p)), some (.int (j)), some (.ref (wa u (zR P i p)))]) dX3_tries_9 (Nat.le_of_ble_eq_true rfl) rfl ?_
  refine rg_aload_n F (pc := 11) dX3_tries_11 rfl ?_
  refine rg_iload_n F (pc := 12) dX3_tries_12 rfl ?_
  refine rg_iload_n F (pc := 13) dX3_tries_13 rfl ?_
  refine rg_aload_n F (pc := 14) dX3_tries_14 rfl ?_
  refine rg_iload_n F (pc := 15) dX3_tries_15 rfl ?_
  exact rg_outV F ht9 (pc := 16) (As := [.int (j)]) (rest := [.int (nI p), .int (nI i), .ref (x)]) (ci := 4) (t_nw l D _ hl9 x P nW nL u j hV hb) q253 vq_X3_neededWord rfl hO.2.1 rfl rfl (Nat.le_of_ble_eq_true rfl) (Nat.le_of_ble_eq_true rfl) (Nat.le_of_ble_eq_true rfl) ⟨(Nat.le_of_ble_eq_true rfl), (Nat.le_of_ble_eq_true rfl)⟩ (Nat.le_of_ble_eq_true rfl) (Nat.le_of_ble_eq_true rfl) dX3_tries_16
set_option maxHeartbeats 4000000 in
set_option maxRecDepth 100000 in
theorem t_told2 (l : Launch) (D : va_G) (M : rMem) (hl9 : l.stackTraces = false) (x : Nat) (P : Poem) (nW nL : Nat) (u : Nat → Nat → Nat) (i : Nat) (j : Int32) (hV : cV D M x P nW nL u) (hi : i < nL) (hb : rBel j 12 = false) : CX l D yX3_told cX3_told 4 ((some .int)) 8 1 6 M [.ref (x), .int (nI i), .int (j)] "java/lang/IndexOutOfBoundsException" := by
  refine rX (lv0 := [some (.ref (x)), some (.int (nI i)), some (.int (j)), none]) (by decide) rfl rfl (Nat.le_of_ble_eq_true rfl) (fun P0 E0 S0 m0 as0 bl0 mt0 c0 A F ht9 => ?_)
  have hO := cV_see hV
  obtain ⟨mdw, hLw⟩ := hO.2.2.1
  obtain ⟨mdl, hLl⟩ := hO.2.2.2.1
  have hn30 := hO.1.1.1
  have hn10 := hO.1.2.1
  refine rg_aload_n F (pc := 0) dX3_told_0 rfl ?_
  refine rg_iload_n F (pc := 1) dX3_told_1 rfl ?_
  refine rg_callVq F (pc := 2) (As := [.int (nI i)]) (rest := []) (ci := 4) (c_nlV l D _ x P nW nL u i hV (by omega)) q312 vq_X3_neededLine rfl hO.2.1 rfl rfl (Nat.le_of_ble_eq_true rfl) (Nat.le_of_ble_eq_true rfl) (Nat.le_of_ble_eq_true rfl) ⟨(Nat.le_of_ble_eq_true rfl), (Nat.le_of_ble_eq_true rfl)⟩ dX3_told_2 (fun r9 M9 hp => ?_)
  refine rg_top (v2 := .ref (la u i)) (by rw [hp.1]; rfl) ?_
  refine rg_mem (M2 := M) hp.2 ?_
  refine rg_astore_n F (pc := 5) (lv' := [some (.ref (x)), some (.int (nI i)), some (.int (j)), some (.ref (la u i))]) dX3_told_5 (Nat.le_of_ble_eq_true rfl) rfl ?_
  refine rg_iload_n F (pc := 6) dX3_told_6 rfl ?_
  refine rg_bipush F (pc := 7) (v := nI 12) dX3_told_7 (by decide) ?_
  exact rg_outS F ht9 (pc := 9) (As := [.int (j), .int (nI 12)]) (rest := []) (t_ref l D _ hl9 j 12 (by decide) hb) q233 sq_X3_refuseOutside rfl rfl (Nat.le_of_ble_eq_true rfl) (Nat.le_of_ble_eq_true rfl) (Nat.le_of_ble_eq_true rfl) ⟨(Nat.le_of_ble_eq_true rfl), (Nat.le_of_ble_eq_true rfl)⟩ (Nat.le_of_ble_eq_true rfl) (Nat.le_of_ble_eq_true rfl) dX3_told_9
set_option maxHeartbeats 4000000 in
set_option maxRecDepth 100000 in
theorem t_stress2 (l : Launch) (D : va_G) (M : rMem) (hl9 : l.stackTraces = false) (x : Nat) (P : Poem) (nW nL : Nat) (u : Nat → Nat → Nat) (i : Nat) (j : Int32) (hV : cV D M x P nW nL u) (hi : i < nL) (hb : rBel j (zStay P i) = false) : CX l D yX3_stress cX3_stress 4 ((some .int)) 8 1 6 M [.ref (x), .int (nI i), .int (j)] "java/lang/IndexOutOfBoundsException" := by
  refine rX (lv0 := [some (.ref (x)), some (.int (nI i)), some (.int (j)), none]) (by decide) rfl rfl (Nat.le_of_ble_eq_true rfl) (fun P0 E0 S0 m0 as0 bl0 mt0 c0 A F ht9 => ?_)
  have hO := cV_see hV
  obtain ⟨mdw, hLw⟩ := hO.2.2.1
  obtain ⟨mdl, hLl⟩ := hO.2.2.2.1
  have hn30 := hO.1.1.1
  have hn10 := hO.1.2.1
  have hst := zStay_le (hO.1.2.2 i hi)
  refine rg_aload_n F (pc := 0) dX3_stress_0 rfl ?_
  refine rg_iload_n F (pc := 1) dX3_stress_1 rfl ?_
  refine rg_callVq F (pc := 2) (As := [.int (nI i)]) (rest := []) (ci := 4) (c_nlV l D _ x P nW nL u i hV (by omega)) q312 vq_X3_neededLine rfl hO.2.1 rfl rfl (Nat.le_of_ble_eq_true rfl) (Nat.le_of_ble_eq_true rfl) (Nat.le_of_ble_eq_true rfl) ⟨(Nat.le_of_ble_eq_true rfl), (Nat.le_of_ble_eq_true rfl)⟩ dX3_stress_2 (fun r9 M9 hp => ?_)
  refine rg_top (v2 := .ref (la u i)) (by rw [hp.1]; rfl) ?_
  refine rg_mem (M2 := M) hp.2 ?_
  refine rg_astore_n F (pc := 5) (lv' := [some (.ref (x)), some (.int (nI i)), some (.int (j)), some (.ref (la u i))]) dX3_stress_5 (Nat.le_of_ble_eq_true rfl) rfl ?_
  refine rg_iload_n F (pc := 6) dX3_stress_6 rfl ?_
  refine rg_aload_n F (pc := 7) dX3_stress_7 rfl ?_
  refine rg_get F (pc := 8) (ci := 2) rfl inX1 (hO.2.2.2.2.2.2.1 i (by omega)) 10 (by decide) q273 (fun _ h9 => h9) rfl dX3_stress_8 ?_
  exact rg_outS F ht9 (pc := 11) (As := [.int (j), .int (nI (zStay P i))]) (rest := []) (t_ref l D _ hl9 j (zStay P i) (by omega) hb) q233 sq_X3_refuseOutside rfl rfl (Nat.le_of_ble_eq_true rfl) (Nat.le_of_ble_eq_true rfl) (Nat.le_of_ble_eq_true rfl) ⟨(Nat.le_of_ble_eq_true rfl), (Nat.le_of_ble_eq_true rfl)⟩ (Nat.le_of_ble_eq_true rfl) (Nat.le_of_ble_eq_true rfl) dX3_stress_11
set_option maxHeartbeats 4000000 in
set_option maxRecDepth 100000 in
theorem t_count (l : Launch) (D : va_G) (M : rMem) (hl9 : l.stackTraces = false) (x : Nat) (P : Poem) (nW nL : Nat) (u : Nat → Nat → Nat) (j : Int32) (hb : rBel j 7 = false) : CX l D yX3_count cX3_count 2 ((some .int)) 8 1 6 M [.ref (x), .int (j)] "java/lang/IndexOutOfBoundsException" := by
  refine rX (lv0 := [some (.ref (x)), some (.int (j))]) (by decide) rfl rfl (Nat.le_of_ble_eq_true rfl) (fun P0 E0 S0 m0 as0 bl0 mt0 c0 A F ht9 => ?_)
  refine rg_iload_n F (pc := 0) dX3_count_0 rfl ?_
  refine rg_bipush F (pc := 1) (v := nI 7) dX3_count_1 (by decide) ?_
  exact rg_outS F ht9 (pc := 3) (As := [.int (j), .int (nI 7)]) (rest := []) (t_ref l D _ hl9 j 7 (by decide) hb) q233 sq_X3_refuseOutside rfl rfl (Nat.le_of_ble_eq_true rfl) (Nat.le_of_ble_eq_true rfl) (Nat.le_of_ble_eq_true rfl) ⟨(Nat.le_of_ble_eq_true rfl), (Nat.le_of_ble_eq_true rfl)⟩ (Nat.le_of_ble_eq_true rfl) (Nat.le_of_ble_eq_true rfl) dX3_count_3
set_option maxHeartbeats 4000000 in
set_option maxRecDepth 100000 in
theorem t_about1 (l : Launch) (D : va_G) (M : rMem) (hl9 : l.stackTraces = false) (x : Nat) (P : Poem) (nW nL : Nat) (u : Nat → Nat → Nat) (j q : Int32) (hV : cV D M x P nW nL u) (hb : rBel j nW = false) : CX l D yX3_about cX3_about 4 ((some .int)) 8 1 6 M [.ref (x), .int (j), .int (q)] "java/lang/IndexOutOfBoundsException" := by
  refine rX (lv0 := [some (.ref (x)), some (.int (j)), some (.int (q)), none]) (by decide) rfl rfl (Nat.le_of_ble_eq_true rfl) (fun P0 E0 S0 m0 as0 bl0 mt0 c0 A F ht9 => ?_)
  have hO := cV_see hV
  obtain ⟨mdw, hLw⟩ := hO.2.2.1
  obtain ⟨mdl, hLl⟩ := hO.2.2.2.1
  have hn30 := hO.1.1.1
  have hn10 := hO.1.2.1
  refine rg_aload_n F (pc := 0) dX3_about_0 rfl ?_
  refine rg_iload_n F (pc := 1) dX3_about_1 rfl ?_
  exact rg_outV F ht9 (pc := 2) (As := [.int (j)]) (rest := []) (ci := 4) (t_nw l D _ hl9 x P nW nL u j hV hb) q253 vq_X3_neededWord rfl hO.2.1 rfl rfl (Nat.le_of_ble_eq_true rfl) (Nat.le_of_ble_eq_true rfl) (Nat.le_of_ble_eq_true rfl) ⟨(Nat.le_of_ble_eq_true rfl), (Nat.le_of_ble_eq_true rfl)⟩ (Nat.le_of_ble_eq_true rfl) (Nat.le_of_ble_eq_true rfl) dX3_about_2
set_option maxHeartbeats 4000000 in
set_option maxRecDepth 100000 in
theorem t_about2 (l : Launch) (D : va_G) (M : rMem) (hl9 : l.stackTraces = false) (x : Nat) (P : Poem) (nW nL : Nat) (u : Nat → Nat → Nat) (w : Nat) (j : Int32) (hV : cV D M x P nW nL u) (hw : w < nW) (hb : rBel j 6 = false) : CX l D yX3_about cX3_about 4 ((some .int)) 8 1 6 M [.ref (x), .int (nI w), .int (j)] "java/lang/IndexOutOfBoundsException" := by
  refine rX (lv0 := [some (.ref (x)), some (.int (nI w)), some (.int (j)), none]) (by decide) rfl rfl (Nat.le_of_ble_eq_true rfl) (fun P0 E0 S0 m0 as0 bl0 mt0 c0 A F ht9 => ?_)
  have hO := cV_see hV
  obtain ⟨mdw, hLw⟩ := hO.2.2.1
  obtain ⟨mdl, hLl⟩ := hO.2.2.2.1
  have hn30 := hO.1.1.1
  have hn10 := hO.1.2.1
  refine rg_aload_n F (pc := 0) dX3_about_0 rfl ?_
  refine rg_iload_n F (pc := 1) dX3_about_1 rfl ?_
  refine rg_callVq F (pc := 2) (As := [.int (nI w)]) (rest := []) (ci := 4) (c_nwV l D _ x P nW nL u w hV (by omega)) q253 vq_X3_neededWord rfl hO.2.1 rfl rfl (Nat.le_of_ble_eq_true rfl) (Nat.le_of_ble_eq_true rfl) (Nat.le_of_ble_eq_true rfl) ⟨(Nat.le_of_ble_eq_true rfl), (Nat.le_of_ble_eq_true rfl)⟩ dX3_about_2 (fun r9 M9 hp => ?_)
  refine rg_top (v2 := .ref (wa u w)) (by rw [hp.1]; rfl) ?_
  refine rg_mem (M2 := M) hp.2 ?_
  refine rg_astore_n F (pc := 5) (lv' := [some (.ref (x)), some (.int (nI w)), some (.int (j)), some (.ref (wa u w))]) dX3_about_5 (Nat.le_of_ble_eq_true rfl) rfl ?_
  refine rg_iload_n F (pc := 6) dX3_about_6 rfl ?_
  refine rg_bipush F (pc := 7) (v := nI 6) dX3_about_7 (by decide) ?_
  exact rg_outS F ht9 (pc := 9) (As := [.int (j), .int (nI 6)]) (rest := []) (t_ref l D _ hl9 j 6 (by decide) hb) q233 sq_X3_refuseOutside rfl rfl (Nat.le_of_ble_eq_true rfl) (Nat.le_of_ble_eq_true rfl) (Nat.le_of_ble_eq_true rfl) ⟨(Nat.le_of_ble_eq_true rfl), (Nat.le_of_ble_eq_true rfl)⟩ (Nat.le_of_ble_eq_true rfl) (Nat.le_of_ble_eq_true rfl) dX3_about_9
set_option maxHeartbeats 4000000 in
set_option maxRecDepth 100000 in
theorem t_write2 (l : Launch) (D : va_G) (M : rMem) (hl9 : l.stackTraces = false) (x : Nat) (P : Poem) (nW nL : Nat) (u : Nat → Nat → Nat) (i : Nat) (j q : Int32) (hV : cV D M x P nW nL u) (hi : i < nL) (hb : rBel j (zC P i + 1) = false) : CX l D yX3_write cX3_write 7 ((some .int)) 8 1 6 M [.ref (x), .int (nI i), .int (j), .int (q)] "java/lang/IndexOutOfBoundsException" := by
  refine rX (lv0 := [some (.ref (x)), some (.int (nI i)), some (.int (j)), some (.int (q)), none, none, none]) (by decide) rfl rfl (Nat.le_of_ble_eq_true rfl) (fun P0 E0 S0 m0 as0 bl0 mt0 c0 A F ht9 => ?_)
  have hO := cV_see hV
  obtain ⟨mdw, hLw⟩ := hO.2.2.1
  obtain ⟨mdl, hLl⟩ := hO.2.2.2.1
  have hn30 := hO.1.1.1
  have hn10 := hO.1.2.1
  have hz8 := (hO.1.2.2 i hi).2.2.2.2.1
  obtain ⟨bkr, mdr, hrr⟩ := hO.2.2.2.2.2.1 i (by omega)
  refine rg_aload_n F (pc := 0) dX3_write_0 rfl ?_
  refine rg_iload_n F (pc := 1) dX3_write_1 rfl ?_
  refine rg_callVq F (pc := 2) (As := [.int (nI i)]) (rest := []) (ci := 4) (c_nlV l D _ x P nW nL u i hV (by omega)) q312 vq_X3_neededLine rfl hO.2.1 rfl rfl (Nat.le_of_ble_eq_true rfl) (Nat.le_of_ble_eq_true rfl) (Nat.le_of_ble_eq_true rfl) ⟨(Nat.le_of_ble_eq_true rfl), (Nat.le_of_ble_eq_true rfl)⟩ dX3_write_2 (fun r9 M9 hp => ?_)
  refine rg_top (v2 := .ref (la u i)) (by rw [hp.1]; rfl) ?_
  refine rg_mem (M2 := M) hp.2 ?_
  refine rg_astore F (pc := 5) (lv' := [some (.ref (x)), some (.int (nI i)), some (.int (j)), some (.int (q)), some (.ref (la u i)), none, none]) dX3_write_5 (Nat.le_of_ble_eq_true rfl) rfl ?_
  refine rg_aload F (pc := 7) dX3_write_7 rfl ?_
  refine rg_get F (pc := 9) (ci := 2) rfl inX1 (hO.2.2.2.2.2.2.1 i (by omega)) 4 (by decide) q311 (fun _ h9 => h9) rfl dX3_write_9 ?_
  refine rg_callVi F (pc := 12) (As := []) (rest := []) (ci := 0) (c_size l D _ (ra u i) mdr bkr (zC P i) hrr.1) q221 vq_Jx4a65c_size_8abf5 rfl hrr.1 rfl rfl (Nat.le_of_ble_eq_true rfl) (Nat.le_of_ble_eq_true rfl) (Nat.le_of_ble_eq_true rfl) ⟨(Nat.le_of_ble_eq_true rfl), (Nat.le_of_ble_eq_true rfl)⟩ dX3_write_12 (fun r9 M9 hp => ?_)
  refine rg_top (v2 := .int (nI (zC P i))) (by first | (rw [hp.1]; done) | (rw [hp.1]; rfl)) ?_
  refine rg_mem (M2 := M) hp.2 ?_
  refine rg_istore F (pc := 15) (lv' := [some (.ref (x)), some (.int (nI i)), some (.int (j)), some (.int (q)), some (.ref (la u i)), some (.int (nI (zC P i))), none]) dX3_write_15 (Nat.le_of_ble_eq_true rfl) rfl ?_
  refine rg_iload_n F (pc := 17) dX3_write_17 rfl ?_
  refine rg_iload F (pc := 18) dX3_write_18 rfl ?_
  refine rg_iconst F (pc := 20) (v := nI 1) dX3_write_20 (by decide) ?_
  refine rg_iadd F (pc := 21) (v := nI ((zC P i) + 1)) dX3_write_21 (nI_add _ _) ?_
  exact rg_outS F ht9 (pc := 22) (As := [.int (j), .int (nI ((zC P i) + 1))]) (rest := []) (t_ref l D _ hl9 j (zC P i + 1) (by omega) hb) q233 sq_X3_refuseOutside rfl rfl (Nat.le_of_ble_eq_true rfl) (Nat.le_of_ble_eq_true rfl) (Nat.le_of_ble_eq_true rfl) ⟨(Nat.le_of_ble_eq_true rfl), (Nat.le_of_ble_eq_true rfl)⟩ (Nat.le_of_ble_eq_true rfl) (Nat.le_of_ble_eq_true rfl) dX3_write_22
set_option maxHeartbeats 4000000 in
set_option maxRecDepth 100000 in
theorem t_write3 (l : Launch) (D : va_G) (M : rMem) (hl9 : l.stackTraces = false) (x : Nat) (P : Poem) (nW nL : Nat) (u : Nat → Nat → Nat) (i p : Nat) (j : Int32) (hV : cV D M x P nW nL u) (hi : i < nL) (hp9 : p < zC P i + 1) (hb : rBel j nW = false) : CX l D yX3_write cX3_write 7 ((some .int)) 8 1 6 M [.ref (x), .int (nI i), .int (nI p), .int (j)] "java/lang/IndexOutOfBoundsException" := by
  refine rX (lv0 := [some (.ref (x)), some (.int (nI i)), some (.int (nI p)), some (.int (j)), none, none, none]) (by decide) rfl rfl (Nat.le_of_ble_eq_true rfl) (fun P0 E0 S0 m0 as0 bl0 mt0 c0 A F ht9 => ?_)
  have hO := cV_see hV
  obtain ⟨mdw, hLw⟩ := hO.2.2.1
  obtain ⟨mdl, hLl⟩ := hO.2.2.2.1
  have hn30 := hO.1.1.1
  have hn10 := hO.1.2.1
  have hz8 := (hO.1.2.2 i hi).2.2.2.2.1
  obtain ⟨bkr, mdr, hrr⟩ := hO.2.2.2.2.2.1 i (by omega)
  refine rg_aload_n F (pc := 0) dX3_write_0 rfl ?_
  refine rg_iload_n F (pc := 1) dX3_write_1 rfl ?_
  refine rg_callVq F (pc := 2) (As := [.int (nI i)]) (rest := []) (ci := 4) (c_nlV l D _ x P nW nL u i hV (by omega)) q312 vq_X3_neededLine rfl hO.2.1 rfl rfl (Nat.le_of_ble_eq_true rfl) (Nat.le_of_ble_eq_true rfl) (Nat.le_of_ble_eq_true rfl) ⟨(Nat.le_of_ble_eq_true rfl), (Nat.le_of_ble_eq_true rfl)⟩ dX3_write_2 (fun r9 M9 hp => ?_)
  refine rg_top (v2 := .ref (la u i)) (by rw [hp.1]; rfl) ?_
  refine rg_mem (M2 := M) hp.2 ?_
  refine rg_astore F (pc := 5) (lv' := [some (.ref (x)), some (.int (nI i)), some (.int (nI p)), some (.int (j)), some (.ref (la u i)), none, none]) dX3_write_5 (Nat.le_of_ble_eq_true rfl) rfl ?_
  refine rg_aload F (pc := 7) dX3_write_7 rfl ?_
  refine rg_get F (pc := 9) (ci := 2) rfl inX1 (hO.2.2.2.2.2.2.1 i (by omega)) 4 (by decide) q311 (fun _ h9 => h9) rfl dX3_write_9 ?_
  refine rg_callVi F (pc := 12) (As := []) (rest := []) (ci := 0) (c_size l D _ (ra u i) mdr bkr (zC P i) hrr.1) q221 vq_Jx4a65c_size_8abf5 rfl hrr.1 rfl rfl (Nat.le_of_ble_eq_true rfl) (Nat.le_of_ble_eq_true rfl) (Nat.le_of_ble_eq_true rfl) ⟨(Nat.le_of_ble_eq_true rfl), (Nat.le_of_ble_eq_true rfl)⟩ dX3_write_12 (fun r9 M9 hp => ?_)
  refine rg_top (v2 := .int (nI (zC P i))) (by first | (rw [hp.1]; done) | (rw [hp.1]; rfl)) ?_
  refine rg_mem (M2 := M) hp.2 ?_
  refine rg_istore F (pc := 15) (lv' := [some (.ref (x)), some (.int (nI i)), some (.int (nI p)), some (.int (j)), some (.ref (la u i)), some (.int (nI (zC P i))), none]) dX3_write_15 (Nat.le_of_ble_eq_true rfl) rfl ?_
  refine rg_iload_n F (pc := 17) dX3_write_17 rfl ?_
  refine rg_iload F (pc := 18) dX3_write_18 rfl ?_
  refine rg_iconst F (pc := 20) (v := nI 1) dX3_write_20 (by decide) ?_
  refine rg_iadd F (pc := 21) (v := nI ((zC P i) + 1)) dX3_write_21 (nI_add _ _) ?_
  refine rg_callSv F (pc := 22) (As := [.int (nI p), .int (nI ((zC P i) + 1))]) (rest := []) (c_ref l D _ p ((zC P i) + 1) (by omega) (by omega)) q233 sq_X3_refuseOutside rfl rfl (Nat.le_of_ble_eq_true rfl) (Nat.le_of_ble_eq_true rfl) (Nat.le_of_ble_eq_true rfl) ⟨(Nat.le_of_ble_eq_true rfl), (Nat.le_of_ble_eq_true rfl)⟩ dX3_write_22 (fun M9 hp => ?_)
  refine rg_mem (M2 := M) hp ?_
  refine rg_aload_n F (pc := 25) dX3_write_25 rfl ?_
  refine rg_iload_n F (pc := 26) dX3_write_26 rfl ?_
  exact rg_outV F ht9 (pc := 27) (As := [.int (j)]) (rest := []) (ci := 4) (t_nw l D _ hl9 x P nW nL u j hV hb) q253 vq_X3_neededWord rfl hO.2.1 rfl rfl (Nat.le_of_ble_eq_true rfl) (Nat.le_of_ble_eq_true rfl) (Nat.le_of_ble_eq_true rfl) ⟨(Nat.le_of_ble_eq_true rfl), (Nat.le_of_ble_eq_true rfl)⟩ (Nat.le_of_ble_eq_true rfl) (Nat.le_of_ble_eq_true rfl) dX3_write_27
set_option maxHeartbeats 4000000 in
set_option maxRecDepth 100000 in
theorem t_write4 (l : Launch) (D : va_G) (M : rMem) (hl9 : l.stackTraces = false) (x : Nat) (P : Poem) (nW nL : Nat) (u : Nat → Nat → Nat) (i w : Nat) (hV : cV D M x P nW nL u) (hi : i < nL) (hw : w < nW) (h8 : zC P i = 8) : CX l D yX3_write cX3_write 7 ((some .int)) 8 1 6 M [.ref (x), .int (nI i), .int (nI (zC P i)), .int (nI w)] "java/lang/IllegalStateException" := by
  refine rX (lv0 := [some (.ref (x)), some (.int (nI i)), some (.int (nI (zC P i))), some (.int (nI w)), none, none, none]) (by decide) rfl rfl (Nat.le_of_ble_eq_true rfl) (fun P0 E0 S0 m0 as0 bl0 mt0 c0 A F ht9 => ?_)
  have hO := cV_see hV
  obtain ⟨mdw, hLw⟩ := hO.2.2.1
  obtain ⟨mdl, hLl⟩ := hO.2.2.2.1
  have hn30 := hO.1.1.1
  have hn10 := hO.1.2.1
  have hz8 := (hO.1.2.2 i hi).2.2.2.2.1
  obtain ⟨bkr, mdr, hrr⟩ := hO.2.2.2.2.2.1 i (by omega)
  refine rg_aload_n F (pc := 0) dX3_write_0 rfl ?_
  refine rg_iload_n F (pc := 1) dX3_write_1 rfl ?_
  refine rg_callVq F (pc := 2) (As := [.int (nI i)]) (rest := []) (ci := 4) (c_nlV l D _ x P nW nL u i hV (by omega)) q312 vq_X3_neededLine rfl hO.2.1 rfl rfl (Nat.le_of_ble_eq_true rfl) (Nat.le_of_ble_eq_true rfl) (Nat.le_of_ble_eq_true rfl) ⟨(Nat.le_of_ble_eq_true rfl), (Nat.le_of_ble_eq_true rfl)⟩ dX3_write_2 (fun r9 M9 hp => ?_)
  refine rg_top (v2 := .ref (la u i)) (by rw [hp.1]; rfl) ?_
  refine rg_mem (M2 := M) hp.2 ?_
  refine rg_astore F (pc := 5) (lv' := [some (.ref (x)), some (.int (nI i)), some (.int (nI (zC P i))), some (.int (nI w)), some (.ref (la u i)), none, none]) dX3_write_5 (Nat.le_of_ble_eq_true rfl) rfl ?_
  refine rg_aload F (pc := 7) dX3_write_7 rfl ?_
  refine rg_get F (pc := 9) (ci := 2) rfl inX1 (hO.2.2.2.2.2.2.1 i (by omega)) 4 (by decide) q311 (fun _ h9 => h9) rfl dX3_write_9 ?_
  refine rg_callVi F (pc := 12) (As := []) (rest := []) (ci := 0) (c_size l D _ (ra u i) mdr bkr (zC P i) hrr.1) q221 vq_Jx4a65c_size_8abf5 rfl hrr.1 rfl rfl (Nat.le_of_ble_eq_true rfl) (Nat.le_of_ble_eq_true rfl) (Nat.le_of_ble_eq_true rfl) ⟨(Nat.le_of_ble_eq_true rfl), (Nat.le_of_ble_eq_true rfl)⟩ dX3_write_12 (fun r9 M9 hp => ?_)
  refine rg_top (v2 := .int (nI (zC P i))) (by first | (rw [hp.1]; done) | (rw [hp.1]; rfl)) ?_
  refine rg_mem (M2 := M) hp.2 ?_
  refine rg_istore F (pc := 15) (lv' := [some (.ref (x)), some (.int (nI i)), some (.int (nI (zC P i))), some (.int (nI w)), some (.ref (la u i)), some (.int (nI (zC P i))), none]) dX3_write_15 (Nat.le_of_ble_eq_true rfl) rfl ?_
  refine rg_iload_n F (pc := 17) dX3_write_17 rfl ?_
  refine rg_iload F (pc := 18) dX3_write_18 rfl ?_
  refine rg_iconst F (pc := 20) (v := nI 1) dX3_write_20 (by decide) ?_
  refine rg_iadd F (pc := 21) (v := nI ((zC P i) + 1)) dX3_write_21 (nI_add _ _) ?_
  refine rg_callSv F (pc := 22) (As := [.int (nI (zC P i)), .int (nI ((zC P i) + 1))]) (rest := []) (c_ref l D _ (zC P i) ((zC P i) + 1) (by omega) (by omega)) q233 sq_X3_refuseOutside rfl rfl (Nat.le_of_ble_eq_true rfl) (Nat.le_of_ble_eq_true rfl) (Nat.le_of_ble_eq_true rfl) ⟨(Nat.le_of_ble_eq_true rfl), (Nat.le_of_ble_eq_true rfl)⟩ dX3_write_22 (fun M9 hp => ?_)
  refine rg_mem (M2 := M) hp ?_
  refine rg_aload_n F (pc := 25) dX3_write_25 rfl ?_
  refine rg_iload_n F (pc := 26) dX3_write_26 rfl ?_
  refine rg_callVq F (pc := 27) (As := [.int (nI w)]) (rest := []) (ci := 4) (c_nwV l D _ x P nW nL u w hV (by omega)) q253 vq_X3_neededWord rfl hO.2.1 rfl rfl (Nat.le_of_ble_eq_true rfl) (Nat.le_of_ble_eq_true rfl) (Nat.le_of_ble_eq_true rfl) ⟨(Nat.le_of_ble_eq_true rfl), (Nat.le_of_ble_eq_true rfl)⟩ dX3_write_27 (fun r9 M9 hp => ?_)
  refine rg_top (v2 := .ref (wa u w)) (by rw [hp.1]; rfl) ?_
  refine rg_mem (M2 := M) hp.2 ?_
  refine rg_astore F (pc := 30) (lv' := [some (.ref (x)), some (.int (nI i)), some (.int (nI (zC P i))), some (.int (nI w)), some (.ref (la u i)), some (.int (nI (zC P i))), some (.ref (wa u w))]) dX3_write_30 (Nat.le_of_ble_eq_true rfl) rfl ?_
  refine rg_iload_n F (pc := 32) dX3_write_32 rfl ?_
  refine rg_iload F (pc := 33) dX3_write_33 rfl ?_
  refine rg_ncmp_ge F (pc := 35) (tgt := 49) dX3_write_35 (by decide) (by omega) (by omega) (fun c35 => ?_) (fun c35 => by exfalso; omega)
  refine rg_iload F (pc := 49) dX3_write_49 rfl ?_
  refine rg_bipush F (pc := 51) (v := nI 8) dX3_write_51 (by decide) ?_
  refine rg_ncmp_lt F (pc := 53) (tgt := 66) dX3_write_53 (by decide) (by omega) (by omega) (fun c53 => by exfalso; omega) (fun c53 => ?_)
  exact rg_thr hl9 F (pc := 56) (text := _) xr_s (List.mem_of_getElem? (i := 6) rfl) ht9 dX3_write_56 dX3_write_59 dX3_write_60 dX3_write_62 dX3_write_65 (Nat.le_of_ble_eq_true rfl) (Nat.le_of_ble_eq_true rfl) (Nat.le_of_ble_eq_true rfl) (Nat.le_of_ble_eq_true rfl) (Nat.le_of_ble_eq_true rfl) (Nat.le_of_ble_eq_true rfl)
set_option maxHeartbeats 4000000 in
set_option maxRecDepth 100000 in
theorem t_strike2 (l : Launch) (D : va_G) (M : rMem) (hl9 : l.stackTraces = false) (x : Nat) (P : Poem) (nW nL : Nat) (u : Nat → Nat → Nat) (i : Nat) (hV : cV D M x P nW nL u) (hi : i < nL) (h0 : zC P i = 0) : CX l D yX3_strike cX3_strike 4 ((some .int)) 8 1 6 M [.ref (x), .int (nI i)] "java/lang/IllegalStateException" := by
  refine rX (lv0 := [some (.ref (x)), some (.int (nI i)), none, none]) (by decide) rfl rfl (Nat.le_of_ble_eq_true rfl) (fun P0 E0 S0 m0 as0 bl0 mt0 c0 A F ht9 => ?_)
  have hO := cV_see hV
  obtain ⟨mdw, hLw⟩ := hO.2.2.1
  obtain ⟨mdl, hLl⟩ := hO.2.2.2.1
  have hn30 := hO.1.1.1
  have hn10 := hO.1.2.1
  have hz8 := (hO.1.2.2 i hi).2.2.2.2.1
  obtain ⟨bkr, mdr, hrr⟩ := hO.2.2.2.2.2.1 i (by omega)
  refine rg_aload_n F (pc := 0) dX3_strike_0 rfl ?_
  refine rg_iload_n F (pc := 1) dX3_strike_1 rfl ?_
  refine rg_callVq F (pc := 2) (As := [.int (nI i)]) (rest := []) (ci := 4) (c_nlV l D _ x P nW nL u i hV (by omega)) q312 vq_X3_neededLine rfl hO.2.1 rfl rfl (Nat.le_of_ble_eq_true rfl) (Nat.le_of_ble_eq_true rfl) (Nat.le_of_ble_eq_true rfl) ⟨(Nat.le_of_ble_eq_true rfl), (Nat.le_of_ble_eq_true rfl)⟩ dX3_strike_2 (fun r9 M9 hp => ?_)
  refine rg_top (v2 := .ref (la u i)) (by rw [hp.1]; rfl) ?_
  refine rg_mem (M2 := M) hp.2 ?_
  refine rg_astore_n F (pc := 5) (lv' := [some (.ref (x)), some (.int (nI i)), some (.ref (la u i)), none]) dX3_strike_5 (Nat.le_of_ble_eq_true rfl) rfl ?_
  refine rg_aload_n F (pc := 6) dX3_strike_6 rfl ?_
  refine rg_callVq F (pc := 7) (As := []) (rest := []) (ci := 2) (c_last l D _ (la u i) _ _ _ _ (ra u i) _ _ _ _ _ _ _ _ _ _ _ _ mdr bkr (fun j => wa u (zR P i j)) P i (hO.2.2.2.2.2.2.1 i hi) hrr (fun j hj => hO.2.2.2.2.1 _ ((hO.1.2.2 i hi).2.2.2.2.2 j hj)) hz8) q262 vq_X1_lastWord rfl (hO.2.2.2.2.2.2.1 i (by omega)) rfl rfl (Nat.le_of_ble_eq_true rfl) (Nat.le_of_ble_eq_true rfl) (Nat.le_of_ble_eq_true rfl) ⟨(Nat.le_of_ble_eq_true rfl), (Nat.le_of_ble_eq_true rfl)⟩ dX3_strike_7 (fun r9 M9 hp => ?_)
  refine rg_top (v2 := .null) (by rw [hp.1, h0]; rfl) ?_
  refine rg_mem (M2 := M) hp.2 ?_
  refine rg_astore_nN F (pc := 10) (lv' := [some (.ref (x)), some (.int (nI i)), some (.ref (la u i)), some (.null)]) dX3_strike_10 (Nat.le_of_ble_eq_true rfl) rfl ?_
  refine rg_aload_nN F (pc := 11) dX3_strike_11 rfl ?_
  refine rg_ifnonnullN F (pc := 12) dX3_strike_12 ?_
  exact rg_thr hl9 F (pc := 15) (text := _) xr_s (List.mem_of_getElem? (i := 7) rfl) ht9 dX3_strike_15 dX3_strike_18 dX3_strike_19 dX3_strike_21 dX3_strike_24 (Nat.le_of_ble_eq_true rfl) (Nat.le_of_ble_eq_true rfl) (Nat.le_of_ble_eq_true rfl) (Nat.le_of_ble_eq_true rfl) (Nat.le_of_ble_eq_true rfl) (Nat.le_of_ble_eq_true rfl)
set_option maxHeartbeats 4000000 in
set_option maxRecDepth 100000 in
theorem t_word1 (l : Launch) (D : va_G) (M : rMem) (hl9 : l.stackTraces = false) (x : Nat) (s t v e : Int32) (o : Nat) (hn9 : ¬ (¬ s < nI 1 ∧ ¬ nI 4 < s ∧ ¬ t < 0 ∧ t < nI 1 <<< (s &&& 31) ∧ rBel v 10 = true ∧ rBel e 10 = true)) : CX l D yX3_word cX3_word 7 ((some .int)) 8 1 6 M [.ref (x), .int (s), .int (t), .int (v), .int (e), .int (nI o)] "java/lang/IllegalArgumentException" := by
  refine rX (lv0 := [some (.ref (x)), some (.int (s)), some (.int (t)), some (.int (v)), some (.int (e)), some (.int (nI o)), none]) (by decide) rfl rfl (Nat.le_of_ble_eq_true rfl) (fun P0 E0 S0 m0 as0 bl0 mt0 c0 A F ht9 => ?_)
  refine rg_iload_n F (pc := 0) dX3_word_0 rfl ?_
  refine rg_iconst F (pc := 1) (v := nI 1) dX3_word_1 (by decide) ?_
  refine rg_icmp_lt F (pc := 2) (tgt := 21) dX3_word_2 (by decide) (fun c2 => ?_) (fun c2 => ?_)
  · exact rg_thr hl9 F (pc := 21) (text := _) xr_a (List.mem_of_getElem? (i := 0) rfl) ht9 dX3_word_21 dX3_word_24 dX3_word_25 dX3_word_27 dX3_word_30 (Nat.le_of_ble_eq_true rfl) (Nat.le_of_ble_eq_true rfl) (Nat.le_of_ble_eq_true rfl) (Nat.le_of_ble_eq_true rfl) (Nat.le_of_ble_eq_true rfl) (Nat.le_of_ble_eq_true rfl)
  · refine rg_iload_n F (pc := 5) dX3_word_5 rfl ?_
    refine rg_iconst F (pc := 6) (v := nI 4) dX3_word_6 (by decide) ?_
    refine rg_icmp_gt F (pc := 7) (tgt := 21) dX3_word_7 (by decide) (fun c7 => ?_) (fun c7 => ?_)
    · exact rg_thr hl9 F (pc := 21) (text := _) xr_a (List.mem_of_getElem? (i := 0) rfl) ht9 dX3_word_21 dX3_word_24 dX3_word_25 dX3_word_27 dX3_word_30 (Nat.le_of_ble_eq_true rfl) (Nat.le_of_ble_eq_true rfl) (Nat.le_of_ble_eq_true rfl) (Nat.le_of_ble_eq_true rfl) (Nat.le_of_ble_eq_true rfl) (Nat.le_of_ble_eq_true rfl)
    · refine rg_iload_n F (pc := 10) dX3_word_10 rfl ?_
      refine rg_if_lt F (pc := 11) (tgt := 21) dX3_word_11 (by decide) (fun c11 => ?_) (fun c11 => ?_)
      · exact rg_thr hl9 F (pc := 21) (text := _) xr_a (List.mem_of_getElem? (i := 0) rfl) ht9 dX3_word_21 dX3_word_24 dX3_word_25 dX3_word_27 dX3_word_30 (Nat.le_of_ble_eq_true rfl) (Nat.le_of_ble_eq_true rfl) (Nat.le_of_ble_eq_true rfl) (Nat.le_of_ble_eq_true rfl) (Nat.le_of_ble_eq_true rfl) (Nat.le_of_ble_eq_true rfl)
      · refine rg_iload_n F (pc := 14) dX3_word_14 rfl ?_
        refine rg_iconst F (pc := 15) (v := nI 1) dX3_word_15 (by decide) ?_
        refine rg_iload_n F (pc := 16) dX3_word_16 rfl ?_
        refine rg_ishl F (pc := 17) (v := (nI 1) <<< (s &&& 31)) dX3_word_17 rfl ?_
        refine rg_icmp_lt F (pc := 18) (tgt := 31) dX3_word_18 (by decide) (fun c18 => ?_) (fun c18 => ?_)
        · refine rg_iload_n F (pc := 31) dX3_word_31 rfl ?_
          refine rg_bipush F (pc := 32) (v := nI 10) dX3_word_32 (by decide) ?_
          refine rg_callSi F (pc := 34) (As := [.int (v), .int (nI 10)]) (rest := []) (c_isBelow l D _ v 10 (by omega)) q220 sq_X3_isBelow rfl rfl (Nat.le_of_ble_eq_true rfl) (Nat.le_of_ble_eq_true rfl) (Nat.le_of_ble_eq_true rfl) ⟨(Nat.le_of_ble_eq_true rfl), (Nat.le_of_ble_eq_true rfl)⟩ dX3_word_34 (fun r9 M9 hp => ?_)
          refine rg_top (v2 := .int (nI (rBel v 10).toNat)) (by first | (rw [hp.1]; done) | (rw [hp.1]; rfl)) ?_
          refine rg_mem (M2 := M) hp.2 ?_
          refine rg_bif_eq F (pc := 37) (tgt := 50) dX3_word_37 (by decide) (fun c37 => ?_) (fun c37 => ?_)
          · exact rg_thr hl9 F (pc := 50) (text := _) xr_a (List.mem_of_getElem? (i := 1) rfl) ht9 dX3_word_50 dX3_word_53 dX3_word_54 dX3_word_56 dX3_word_59 (Nat.le_of_ble_eq_true rfl) (Nat.le_of_ble_eq_true rfl) (Nat.le_of_ble_eq_true rfl) (Nat.le_of_ble_eq_true rfl) (Nat.le_of_ble_eq_true rfl) (Nat.le_of_ble_eq_true rfl)
          · refine rg_iload F (pc := 40) dX3_word_40 rfl ?_
            refine rg_bipush F (pc := 42) (v := nI 10) dX3_word_42 (by decide) ?_
            refine rg_callSi F (pc := 44) (As := [.int (e), .int (nI 10)]) (rest := []) (c_isBelow l D _ e 10 (by omega)) q220 sq_X3_isBelow rfl rfl (Nat.le_of_ble_eq_true rfl) (Nat.le_of_ble_eq_true rfl) (Nat.le_of_ble_eq_true rfl) ⟨(Nat.le_of_ble_eq_true rfl), (Nat.le_of_ble_eq_true rfl)⟩ dX3_word_44 (fun r9 M9 hp => ?_)
            refine rg_top (v2 := .int (nI (rBel e 10).toNat)) (by first | (rw [hp.1]; done) | (rw [hp.1]; rfl)) ?_
            refine rg_mem (M2 := M) hp.2 ?_
            refine rg_bif_ne F (pc := 47) (tgt := 60) dX3_word_47 (by decide) (fun c47 => ?_) (fun c47 => ?_)
            · exact absurd ⟨c2, c7, c11, c18, (by simpa using c37), (by simpa using c47)⟩ hn9
            · exact rg_thr hl9 F (pc := 50) (text := _) xr_a (List.mem_of_getElem? (i := 1) rfl) ht9 dX3_word_50 dX3_word_53 dX3_word_54 dX3_word_56 dX3_word_59 (Nat.le_of_ble_eq_true rfl) (Nat.le_of_ble_eq_true rfl) (Nat.le_of_ble_eq_true rfl) (Nat.le_of_ble_eq_true rfl) (Nat.le_of_ble_eq_true rfl) (Nat.le_of_ble_eq_true rfl)
        · exact rg_thr hl9 F (pc := 21) (text := _) xr_a (List.mem_of_getElem? (i := 0) rfl) ht9 dX3_word_21 dX3_word_24 dX3_word_25 dX3_word_27 dX3_word_30 (Nat.le_of_ble_eq_true rfl) (Nat.le_of_ble_eq_true rfl) (Nat.le_of_ble_eq_true rfl) (Nat.le_of_ble_eq_true rfl) (Nat.le_of_ble_eq_true rfl) (Nat.le_of_ble_eq_true rfl)
set_option maxHeartbeats 4000000 in
set_option maxRecDepth 100000 in
theorem t_word2 (l : Launch) (D : va_G) (M : rMem) (hl9 : l.stackTraces = false) (x : Nat) (P : Poem) (nL : Nat) (u : Nat → Nat → Nat) (s t v e o : Nat) (hV : cV D M x P 30 nL u) (hs1 : 1 ≤ s) (hs4 : s ≤ 4) (ht : t < 2 ^ s) (hv : v < 10) (he : e < 10) (ho : o < 2) : CX l D yX3_word cX3_word 7 ((some .int)) 8 1 6 M [.ref (x), .int (nI s), .int (nI t), .int (nI v), .int (nI e), .int (nI o)] "java/lang/IllegalStateException" := by
  refine rX (lv0 := [some (.ref (x)), some (.int (nI s)), some (.int (nI t)), some (.int (nI v)), some (.int (nI e)), some (.int (nI o)), none]) (by decide) rfl rfl (Nat.le_of_ble_eq_true rfl) (fun P0 E0 S0 m0 as0 bl0 mt0 c0 A F ht9 => ?_)
  have hO := cV_see hV
  obtain ⟨mdw, hLw⟩ := hO.2.2.1
  obtain ⟨mdl, hLl⟩ := hO.2.2.2.1
  have hn30 := hO.1.1.1
  have hn10 := hO.1.2.1
  have h16 := pw_16 hs4
  refine rg_iload_n F (pc := 0) dX3_word_0 rfl ?_
  refine rg_iconst F (pc := 1) (v := nI 1) dX3_word_1 (by decide) ?_
  refine rg_ncmp_lt F (pc := 2) (tgt := 21) dX3_word_2 (by decide) (by omega) (by omega) (fun c2 => by exfalso; omega) (fun c2 => ?_)
  refine rg_iload_n F (pc := 5) dX3_word_5 rfl ?_
  refine rg_iconst F (pc := 6) (v := nI 4) dX3_word_6 (by decide) ?_
  refine rg_ncmp_gt F (pc := 7) (tgt := 21) dX3_word_7 (by decide) (by omega) (by omega) (fun c7 => by exfalso; omega) (fun c7 => ?_)
  refine rg_iload_n F (pc := 10) dX3_word_10 rfl ?_
  refine rg_if_lt F (pc := 11) (tgt := 21) dX3_word_11 (by decide) (fun c9 => absurd c9 (nI_pos (by omega))) (fun _ => ?_)
  refine rg_iload_n F (pc := 14) dX3_word_14 rfl ?_
  refine rg_iconst F (pc := 15) (v := nI 1) dX3_word_15 (by decide) ?_
  refine rg_iload_n F (pc := 16) dX3_word_16 rfl ?_
  refine rg_ishl F (pc := 17) (v := nI (1 * 2 ^ s)) dX3_word_17 (rn_shl (by omega)) ?_
  refine rg_ncmp_lt F (pc := 18) (tgt := 31) dX3_word_18 (by decide) (by omega) (by omega) (fun c18 => ?_) (fun c18 => by exfalso; omega)
  refine rg_iload_n F (pc := 31) dX3_word_31 rfl ?_
  refine rg_bipush F (pc := 32) (v := nI 10) dX3_word_32 (by decide) ?_
  refine rg_callSi F (pc := 34) (As := [.int (nI v), .int (nI 10)]) (rest := []) (c_isBelow l D _ (nI v) 10 (by omega)) q220 sq_X3_isBelow rfl rfl (Nat.le_of_ble_eq_true rfl) (Nat.le_of_ble_eq_true rfl) (Nat.le_of_ble_eq_true rfl) ⟨(Nat.le_of_ble_eq_true rfl), (Nat.le_of_ble_eq_true rfl)⟩ dX3_word_34 (fun r9 M9 hp => ?_)
  refine rg_top (v2 := .int (nI (rBel (nI v) 10).toNat)) (by first | (rw [hp.1]; done) | (rw [hp.1]; rfl)) ?_
  refine rg_mem (M2 := M) hp.2 ?_
  refine rg_bif_eq F (pc := 37) (tgt := 50) dX3_word_37 (by decide) (fun c37 => absurd c37 (by rw [rBel_nI (by omega), decide_eq_true hv]; decide)) (fun c37 => ?_)
  refine rg_iload F (pc := 40) dX3_word_40 rfl ?_
  refine rg_bipush F (pc := 42) (v := nI 10) dX3_word_42 (by decide) ?_
  refine rg_callSi F (pc := 44) (As := [.int (nI e), .int (nI 10)]) (rest := []) (c_isBelow l D _ (nI e) 10 (by omega)) q220 sq_X3_isBelow rfl rfl (Nat.le_of_ble_eq_true rfl) (Nat.le_of_ble_eq_true rfl) (Nat.le_of_ble_eq_true rfl) ⟨(Nat.le_of_ble_eq_true rfl), (Nat.le_of_ble_eq_true rfl)⟩ dX3_word_44 (fun r9 M9 hp => ?_)
  refine rg_top (v2 := .int (nI (rBel (nI e) 10).toNat)) (by first | (rw [hp.1]; done) | (rw [hp.1]; rfl)) ?_
  refine rg_mem (M2 := M) hp.2 ?_
  refine rg_bif_ne F (pc := 47) (tgt := 60) dX3_word_47 (by decide) (fun c47 => ?_) (fun c47 => absurd c47 (by rw [rBel_nI (by omega), decide_eq_true he]; decide))
  refine rg_aload_n F (pc := 60) dX3_word_60 rfl ?_
  refine rg_get F (pc := 61) (ci := 4) rfl inX3 hO.2.1 0 (by decide) q202 (fun _ h9 => h9) rfl dX3_word_61 ?_
  refine rg_callVi F (pc := 64) (As := []) (rest := []) (ci := 0) (c_size l D _ (gw u) mdw (gbw u) 30 hLw.1) q221 vq_Jx4a65c_size_8abf5 rfl hLw.1 rfl rfl (Nat.le_of_ble_eq_true rfl) (Nat.le_of_ble_eq_true rfl) (Nat.le_of_ble_eq_true rfl) ⟨(Nat.le_of_ble_eq_true rfl), (Nat.le_of_ble_eq_true rfl)⟩ dX3_word_64 (fun r9 M9 hp => ?_)
  refine rg_top (v2 := .int (nI 30)) (by first | (rw [hp.1]; done) | (rw [hp.1]; rfl)) ?_
  refine rg_mem (M2 := M) hp.2 ?_
  refine rg_bipush F (pc := 67) (v := nI 30) dX3_word_67 (by decide) ?_
  refine rg_ncmp_lt F (pc := 69) (tgt := 82) dX3_word_69 (by decide) (by omega) (by omega) (fun c69 => by exfalso; omega) (fun c69 => ?_)
  exact rg_thr hl9 F (pc := 72) (text := _) xr_s (List.mem_of_getElem? (i := 2) rfl) ht9 dX3_word_72 dX3_word_75 dX3_word_76 dX3_word_78 dX3_word_81 (Nat.le_of_ble_eq_true rfl) (Nat.le_of_ble_eq_true rfl) (Nat.le_of_ble_eq_true rfl) (Nat.le_of_ble_eq_true rfl) (Nat.le_of_ble_eq_true rfl) (Nat.le_of_ble_eq_true rfl)
set_option maxHeartbeats 4000000 in
set_option maxRecDepth 100000 in
theorem t_line1 (l : Launch) (D : va_G) (M : rMem) (hl9 : l.stackTraces = false) (x : Nat) (m f k : Int32) (hn9 : ¬ (rBel m 4 = true ∧ ¬ f < nI 1 ∧ ¬ nI 6 < f ∧ rBel k 6 = true)) : CX l D yX3_line cX3_line 5 ((some .int)) 8 1 6 M [.ref (x), .int (m), .int (f), .int (k)] "java/lang/IllegalArgumentException" := by
  refine rX (lv0 := [some (.ref (x)), some (.int (m)), some (.int (f)), some (.int (k)), none]) (by decide) rfl rfl (Nat.le_of_ble_eq_true rfl) (fun P0 E0 S0 m0 as0 bl0 mt0 c0 A F ht9 => ?_)
  refine rg_iload_n F (pc := 0) dX3_line_0 rfl ?_
  refine rg_iconst F (pc := 1) (v := nI 4) dX3_line_1 (by decide) ?_
  refine rg_callSi F (pc := 2) (As := [.int (m), .int (nI 4)]) (rest := []) (c_isBelow l D _ m 4 (by omega)) q220 sq_X3_isBelow rfl rfl (Nat.le_of_ble_eq_true rfl) (Nat.le_of_ble_eq_true rfl) (Nat.le_of_ble_eq_true rfl) ⟨(Nat.le_of_ble_eq_true rfl), (Nat.le_of_ble_eq_true rfl)⟩ dX3_line_2 (fun r9 M9 hp => ?_)
  refine rg_top (v2 := .int (nI (rBel m 4).toNat)) (by first | (rw [hp.1]; done) | (rw [hp.1]; rfl)) ?_
  refine rg_mem (M2 := M) hp.2 ?_
  refine rg_bif_eq F (pc := 5) (tgt := 28) dX3_line_5 (by decide) (fun c5 => ?_) (fun c5 => ?_)
  · exact rg_thr hl9 F (pc := 28) (text := _) xr_a (List.mem_of_getElem? (i := 4) rfl) ht9 dX3_line_28 dX3_line_31 dX3_line_32 dX3_line_34 dX3_line_37 (Nat.le_of_ble_eq_true rfl) (Nat.le_of_ble_eq_true rfl) (Nat.le_of_ble_eq_true rfl) (Nat.le_of_ble_eq_true rfl) (Nat.le_of_ble_eq_true rfl) (Nat.le_of_ble_eq_true rfl)
  · refine rg_iload_n F (pc := 8) dX3_line_8 rfl ?_
    refine rg_iconst F (pc := 9) (v := nI 1) dX3_line_9 (by decide) ?_
    refine rg_icmp_lt F (pc := 10) (tgt := 28) dX3_line_10 (by decide) (fun c10 => ?_) (fun c10 => ?_)
    · exact rg_thr hl9 F (pc := 28) (text := _) xr_a (List.mem_of_getElem? (i := 4) rfl) ht9 dX3_line_28 dX3_line_31 dX3_line_32 dX3_line_34 dX3_line_37 (Nat.le_of_ble_eq_true rfl) (Nat.le_of_ble_eq_true rfl) (Nat.le_of_ble_eq_true rfl) (Nat.le_of_ble_eq_true rfl) (Nat.le_of_ble_eq_true rfl) (Nat.le_of_ble_eq_true rfl)
    · refine rg_iload_n F (pc := 13) dX3_line_13 rfl ?_
      refine rg_bipush F (pc := 14) (v := nI 6) dX3_line_14 (by decide) ?_
      refine rg_icmp_gt F (pc := 16) (tgt := 28) dX3_line_16 (by decide) (fun c16 => ?_) (fun c16 => ?_)
      · exact rg_thr hl9 F (pc := 28) (text := _) xr_a (List.mem_of_getElem? (i := 4) rfl) ht9 dX3_line_28 dX3_line_31 dX3_line_32 dX3_line_34 dX3_line_37 (Nat.le_of_ble_eq_true rfl) (Nat.le_of_ble_eq_true rfl) (Nat.le_of_ble_eq_true rfl) (Nat.le_of_ble_eq_true rfl) (Nat.le_of_ble_eq_true rfl) (Nat.le_of_ble_eq_true rfl)
      · refine rg_iload_n F (pc := 19) dX3_line_19 rfl ?_
        refine rg_bipush F (pc := 20) (v := nI 6) dX3_line_20 (by decide) ?_
        refine rg_callSi F (pc := 22) (As := [.int (k), .int (nI 6)]) (rest := []) (c_isBelow l D _ k 6 (by omega)) q220 sq_X3_isBelow rfl rfl (Nat.le_of_ble_eq_true rfl) (Nat.le_of_ble_eq_true rfl) (Nat.le_of_ble_eq_true rfl) ⟨(Nat.le_of_ble_eq_true rfl), (Nat.le_of_ble_eq_true rfl)⟩ dX3_line_22 (fun r9 M9 hp => ?_)
        refine rg_top (v2 := .int (nI (rBel k 6).toNat)) (by first | (rw [hp.1]; done) | (rw [hp.1]; rfl)) ?_
        refine rg_mem (M2 := M) hp.2 ?_
        refine rg_bif_ne F (pc := 25) (tgt := 38) dX3_line_25 (by decide) (fun c25 => ?_) (fun c25 => ?_)
        · exact absurd ⟨(by simpa using c5), c10, c16, (by simpa using c25)⟩ hn9
        · exact rg_thr hl9 F (pc := 28) (text := _) xr_a (List.mem_of_getElem? (i := 4) rfl) ht9 dX3_line_28 dX3_line_31 dX3_line_32 dX3_line_34 dX3_line_37 (Nat.le_of_ble_eq_true rfl) (Nat.le_of_ble_eq_true rfl) (Nat.le_of_ble_eq_true rfl) (Nat.le_of_ble_eq_true rfl) (Nat.le_of_ble_eq_true rfl) (Nat.le_of_ble_eq_true rfl)
set_option maxHeartbeats 4000000 in
set_option maxRecDepth 100000 in
theorem t_line2 (l : Launch) (D : va_G) (M : rMem) (hl9 : l.stackTraces = false) (x : Nat) (P : Poem) (nW : Nat) (u : Nat → Nat → Nat) (m f k : Nat) (hV : cV D M x P nW 10 u) (hm4 : m < 4) (hf1 : 1 ≤ f) (hf6 : f ≤ 6) (hk : k < 6) : CX l D yX3_line cX3_line 5 ((some .int)) 8 1 6 M [.ref (x), .int (nI m), .int (nI f), .int (nI k)] "java/lang/IllegalStateException" := by
  refine rX (lv0 := [some (.ref (x)), some (.int (nI m)), some (.int (nI f)), some (.int (nI k)), none]) (by decide) rfl rfl (Nat.le_of_ble_eq_true rfl) (fun P0 E0 S0 m0 as0 bl0 mt0 c0 A F ht9 => ?_)
  have hO := cV_see hV
  obtain ⟨mdw, hLw⟩ := hO.2.2.1
  obtain ⟨mdl, hLl⟩ := hO.2.2.2.1
  have hn30 := hO.1.1.1
  have hn10 := hO.1.2.1
  refine rg_iload_n F (pc := 0) dX3_line_0 rfl ?_
  refine rg_iconst F (pc := 1) (v := nI 4) dX3_line_1 (by decide) ?_
  refine rg_callSi F (pc := 2) (As := [.int (nI m), .int (nI 4)]) (rest := []) (c_isBelow l D _ (nI m) 4 (by omega)) q220 sq_X3_isBelow rfl rfl (Nat.le_of_ble_eq_true rfl) (Nat.le_of_ble_eq_true rfl) (Nat.le_of_ble_eq_true rfl) ⟨(Nat.le_of_ble_eq_true rfl), (Nat.le_of_ble_eq_true rfl)⟩ dX3_line_2 (fun r9 M9 hp => ?_)
  refine rg_top (v2 := .int (nI (rBel (nI m) 4).toNat)) (by first | (rw [hp.1]; done) | (rw [hp.1]; rfl)) ?_
  refine rg_mem (M2 := M) hp.2 ?_
  refine rg_bif_eq F (pc := 5) (tgt := 28) dX3_line_5 (by decide) (fun c5 => absurd c5 (by rw [rBel_nI (by omega), decide_eq_true hm4]; decide)) (fun c5 => ?_)
  refine rg_iload_n F (pc := 8) dX3_line_8 rfl ?_
  refine rg_iconst F (pc := 9) (v := nI 1) dX3_line_9 (by decide) ?_
  refine rg_ncmp_lt F (pc := 10) (tgt := 28) dX3_line_10 (by decide) (by omega) (by omega) (fun c10 => by exfalso; omega) (fun c10 => ?_)
  refine rg_iload_n F (pc := 13) dX3_line_13 rfl ?_
  refine rg_bipush F (pc := 14) (v := nI 6) dX3_line_14 (by decide) ?_
  refine rg_ncmp_gt F (pc := 16) (tgt := 28) dX3_line_16 (by decide) (by omega) (by omega) (fun c16 => by exfalso; omega) (fun c16 => ?_)
  refine rg_iload_n F (pc := 19) dX3_line_19 rfl ?_
  refine rg_bipush F (pc := 20) (v := nI 6) dX3_line_20 (by decide) ?_
  refine rg_callSi F (pc := 22) (As := [.int (nI k), .int (nI 6)]) (rest := []) (c_isBelow l D _ (nI k) 6 (by omega)) q220 sq_X3_isBelow rfl rfl (Nat.le_of_ble_eq_true rfl) (Nat.le_of_ble_eq_true rfl) (Nat.le_of_ble_eq_true rfl) ⟨(Nat.le_of_ble_eq_true rfl), (Nat.le_of_ble_eq_true rfl)⟩ dX3_line_22 (fun r9 M9 hp => ?_)
  refine rg_top (v2 := .int (nI (rBel (nI k) 6).toNat)) (by first | (rw [hp.1]; done) | (rw [hp.1]; rfl)) ?_
  refine rg_mem (M2 := M) hp.2 ?_
  refine rg_bif_ne F (pc := 25) (tgt := 38) dX3_line_25 (by decide) (fun c25 => ?_) (fun c25 => absurd c25 (by rw [rBel_nI (by omega), decide_eq_true hk]; decide))
  refine rg_aload_n F (pc := 38) dX3_line_38 rfl ?_
  refine rg_get F (pc := 39) (ci := 4) rfl inX3 hO.2.1 1 (by decide) q203 (fun _ h9 => h9) rfl dX3_line_39 ?_
  refine rg_callVi F (pc := 42) (As := []) (rest := []) (ci := 0) (c_size l D _ (gl u) mdl (gbl u) 10 hLl.1) q221 vq_Jx4a65c_size_8abf5 rfl hLl.1 rfl rfl (Nat.le_of_ble_eq_true rfl) (Nat.le_of_ble_eq_true rfl) (Nat.le_of_ble_eq_true rfl) ⟨(Nat.le_of_ble_eq_true rfl), (Nat.le_of_ble_eq_true rfl)⟩ dX3_line_42 (fun r9 M9 hp => ?_)
  refine rg_top (v2 := .int (nI 10)) (by first | (rw [hp.1]; done) | (rw [hp.1]; rfl)) ?_
  refine rg_mem (M2 := M) hp.2 ?_
  refine rg_istore F (pc := 45) (lv' := [some (.ref (x)), some (.int (nI m)), some (.int (nI f)), some (.int (nI k)), some (.int (nI 10))]) dX3_line_45 (Nat.le_of_ble_eq_true rfl) rfl ?_
  refine rg_iload F (pc := 47) dX3_line_47 rfl ?_
  refine rg_bipush F (pc := 49) (v := nI 10) dX3_line_49 (by decide) ?_
  refine rg_ncmp_lt F (pc := 51) (tgt := 64) dX3_line_51 (by decide) (by omega) (by omega) (fun c51 => by exfalso; omega) (fun c51 => ?_)
  exact rg_thr hl9 F (pc := 54) (text := _) xr_s (List.mem_of_getElem? (i := 5) rfl) ht9 dX3_line_54 dX3_line_57 dX3_line_58 dX3_line_60 dX3_line_63 (Nat.le_of_ble_eq_true rfl) (Nat.le_of_ble_eq_true rfl) (Nat.le_of_ble_eq_true rfl) (Nat.le_of_ble_eq_true rfl) (Nat.le_of_ble_eq_true rfl) (Nat.le_of_ble_eq_true rfl)
