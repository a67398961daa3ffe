/-! the class and the reference side by side -/
theorem b_no {b : Bool} (h : ¬ b = true) : b = false := by
  cases b
  · rfl
  · exact absurd rfl h
theorem isL_in2 {D : va_G} {M M2 : rMem} (h : ∀ a e, M a = some e → M2 a = some e) {a bk n : Nat} {g : Nat → Nat} (hL : isL2 D M a bk n g) : isL2 D M2 a bk n g := by
  obtain ⟨md, h1, h2⟩ := hL
  refine ⟨md, h _ _ h1, ?_⟩
  rcases h2 with h2 | ⟨cap, f, h3, h4⟩
  · exact Or.inl h2
  · exact Or.inr ⟨cap, f, h _ _ h3, h4⟩
/-- the class's part of a larger memory -/
theorem cV_in {D : va_G} {M M2 : rMem} {x : Nat} {P : Poem} {nW nL : Nat} {u : Nat → Nat → Nat} (h : ∀ a e, M a = some e → M2 a = some e) (hV : cV D M x P nW nL u) : cV D M2 x P nW nL u := by
  obtain ⟨u1, hu, ⟨h1, h2, h3, h4, h5, h6, h7⟩, h8, f, f1, f2, f3⟩ := hV
  exact ⟨u1, hu, ⟨h1, h _ _ h2, isL_in2 h h3, isL_in2 h h4, fun w hw => h _ _ (h5 w hw), fun i hi => isL_in2 h (h6 i hi), h7⟩, fun i hi => h _ _ (h8 i hi), f, h _ _ f1, h _ _ f2, f3⟩
theorem CH_imp {l : Launch} {D : va_G} {y : MethodName} {cc : ByteArray} {maxL : Nat} {hh : List (Nat × Nat × Nat × Nat)} {lev mc ms : Nat} {M : rMem} {av : List Value} {post post2 : Int32 → rMem → Prop} (h : CH l D y cc maxL hh lev mc ms M av post) (hp : ∀ r M', post r M' → post2 r M') : CH l D y cc maxL hh lev mc ms M av post2 := fun sz =>
  MetFree.mono (h sz) (fun _ _ h => h) (fun _ _ _ _ _ h => h) (fun _ _ o t _ h => ⟨by obtain ⟨⟨r, u, h1, h2, h3⟩, h4⟩ := h.1; exact ⟨⟨r, u, h1, hp r u h2, h3⟩, h4⟩, h.2⟩)
abbrev oV (D : va_G) (v0 : Nat → Int64) : va_E := .inl (D.1 7, (1, .inr (.inl v0)))
abbrev xV (D : va_G) (M : rMem) (x : Nat) (P : Poem) (nW nL : Nat) : Prop := ∃ u, cV D M x P nW nL u
abbrev yV (D : va_G) (M : rMem) (m : Nat) (P : Poem) (nW nL : Nat) (t : Int32) : Prop := ∃ ad F lo, mV D M m P nW nL ad F t lo
def OP (l : Launch) (D : va_G) (x o mo : Nat) (yL : MethodName) (cL : ByteArray) (mL : Nat) (hh : List (Nat × Nat × Nat × Nat)) (yM : MethodName) (cM : ByteArray) (mM : Nat) (av : List Value) (M0 MR : rMem) : Prop :=
  ∃ (kk : Nat) (val : Int32) (P : Poem) (nW nL lev mc ms lev2 mc2 ms2 : Nat), kk < 3 ∧ (lev ≤ 11 ∧ mc ≤ 200 ∧ ms ≤ 3000) ∧ (lev2 ≤ 11 ∧ mc2 ≤ 399 ∧ ms2 ≤ 4000) ∧
  CH l D yL cL mL hh lev mc ms M0 (.ref x :: (av ++ [.ref o])) (fun r M' => r = nI kk ∧ ∃ (u : rMem) (v1 : Nat → Int64), M' = mjoin u (mone o (oV D v1)) ∧ u o = none ∧ xV D u x P nW nL ∧ (kk = 0 → v1 0 = val.toInt64)) ∧
  CMi l D yM cM mM (some .int) lev2 mc2 ms2 MR (.ref mo :: av) (fun r M' => yV D M' mo P nW nL (nI kk) ∧ (kk = 0 → r = val))
section OPS
variable {l : Launch} {D : va_G} {x o mo : Nat} {yL : MethodName} {cL : ByteArray} {mL : Nat} {hh : List (Nat × Nat × Nat × Nat)} {yM : MethodName} {cM : ByteArray} {mM : Nat} {av avH : List Value} {MC MR : rMem} {v0 : Nat → Int64} {P : Poem} {nW nL lev mc ms lev2 mc2 ms2 : Nat} {post postR : Int32 → rMem → Prop}
theorem op_ok (val : Int32) (hH : CH l D yL cL mL hh (lev + 1) mc ms (mjoin MC (mone o (oV D v0))) avH (fun r M' => r = nI 0 ∧ ∃ (r9 : Int32) (u : rMem), post r9 u ∧ u o = none ∧ M' = mjoin u (mone o (.inl (D.1 7, (1, .inr (.inl (vp_updL v0 0 r9.toInt64)))))))) (hp : ∀ r M', post r M' → r = val ∧ xV D M' x P nW nL) (hR : CMi l D yM cM mM (some .int) lev2 mc2 ms2 MR (.ref mo :: av) postR) (hr : ∀ r M', postR r M' → r = val ∧ yV D M' mo P nW nL (nI 0)) (hb : lev + 1 ≤ 11 ∧ mc ≤ 200 ∧ ms ≤ 3000) (hb2 : lev2 ≤ 11 ∧ mc2 ≤ 399 ∧ ms2 ≤ 4000) (hav : avH = .ref x :: (av ++ [.ref o])) : OP l D x o mo yL cL mL hh yM cM mM av (mjoin MC (mone o (oV D v0))) MR := by
  subst hav
  refine ⟨0, val, P, nW, nL, lev + 1, mc, ms, lev2, mc2, ms2, by decide, hb, hb2, CH_imp hH (fun r M' h => ?_), CMi_imp hR (fun r M' h => ⟨(hr r M' h).2, fun _ => (hr r M' h).1⟩)⟩
  obtain ⟨h1, r9, u, h2, h3, h4⟩ := h
  obtain ⟨h5, h6⟩ := hp r9 u h2
  refine ⟨h1, u, vp_updL v0 0 r9.toInt64, h4, h3, h6, fun _ => ?_⟩
  rw [← h5]
  exact if_pos rfl
theorem op_x (kk : Nat) (hk : kk < 3) (h0 : kk ≠ 0) (hH : CH l D yL cL mL hh 9 1 6 (mjoin MC (mone o (oV D v0))) avH (fun r M' => r = nI kk ∧ M' = mjoin MC (mone o (oV D v0)))) (ho : MC o = none) (hc : xV D MC x P nW nL) (hR : CMi l D yM cM mM (some .int) lev2 mc2 ms2 MR (.ref mo :: av) postR) (hr : ∀ r M', postR r M' → yV D M' mo P nW nL (nI kk)) (hb2 : lev2 ≤ 11 ∧ mc2 ≤ 399 ∧ ms2 ≤ 4000) (hav : avH = .ref x :: (av ++ [.ref o])) : OP l D x o mo yL cL mL hh yM cM mM av (mjoin MC (mone o (oV D v0))) MR := by
  subst hav
  exact ⟨kk, 0, P, nW, nL, 9, 1, 6, lev2, mc2, ms2, hk, ⟨by decide, by decide, by decide⟩, hb2, CH_imp hH (fun r M' h => ⟨h.1, MC, v0, h.2, ho, hc, fun z => absurd z h0⟩), CMi_imp hR (fun r M' h => ⟨hr r M' h, fun z => absurd z h0⟩)⟩
end OPS
theorem mIn_ex {v : Int32} {a b : Nat} (hb : b < 2 ^ 30) (ha : a < 2 ^ 31) (h : mIn v (nI a) (nI b) = true) : ∃ k, a ≤ k ∧ k ≤ b ∧ v = nI k := by
  have h := of_decide_eq_true h
  have h1 := Int32.le_iff_toInt_le.mp h.1
  have h2 := Int32.le_iff_toInt_le.mp h.2
  rw [nI_toI ha] at h1
  rw [nI_toI (by omega)] at h2
  obtain ⟨k, hk, rfl⟩ := rBel_of (x := v) (b := b + 1) (by omega) (decide_eq_true ⟨by omega, by omega⟩)
  rw [nI_toI (by omega)] at h1
  exact ⟨k, by omega, by omega, rfl⟩

set_option maxHeartbeats 4000000 in
theorem op_about (l : Launch) (D : va_G) (x o mo : Nat) (p0 p1 : Int32) (MC MR : rMem) (v0 : Nat → Int64) (P : Poem) (nW nL : Nat) (u : Nat → Nat → Nat) (ad : Nat → Nat) (F : Nat → Nat → Int32) (t lo : Int32) (hl9 : l.stackTraces = false) (hc : cV D MC x P nW nL u) (ho : MC o = none) (hm : mV D MR mo P nW nL ad F t lo) : OP l D x o mo yL_about cL_about 5 [(0, 10, 13, 21)] yX4_about cX4_about 3 [.int p0, .int p1] (mjoin MC (mone o (oV D v0))) MR := by
  have hP := hm.1
  have hn30 := hP.1.1
  have hn10 := hP.2.1
  obtain ⟨fs, hx⟩ : ∃ fs, MC x = some (.inr (4, fs)) := ⟨_, (cV_see hc).2.1⟩
  have hxM := mj_l (N := mone o (oV D v0)) hx
  have hcM := cV_in (M2 := mjoin MC (mone o (oV D v0))) (fun a e h => mj_l h) hc
  by_cases g2 : rBel p0 (nW) = true
  · obtain ⟨w, hw, rfl⟩ := rBel_of (by omega) g2
    by_cases g1 : rBel p1 (6) = true
    · obtain ⟨q, hq, rfl⟩ := rBel_of (by omega) g1
      exact op_ok (nI (zAbout P nL w q)) (h_about l D MC x o _ _ v0 fs _ _ _ _ hx ho (c_about l D MC x P nW nL u w q hc hw hq)) (fun r M' h => ⟨h.1, by first | exact ⟨_, h.2⟩ | exact h.2 | (rw [h.2]; exact ⟨_, hc⟩)⟩) (r_about l D MR mo P nW nL ad F t lo w q hm hw hq) (fun r M' h => ⟨h.1, by first | exact ⟨_, _, _, h.2⟩ | (obtain ⟨F2, lo2, h2⟩ := h.2; exact ⟨_, _, _, h2⟩) | (obtain ⟨F2, h2⟩ := h.2; exact ⟨_, _, _, h2⟩)⟩) ⟨by decide, by decide, by decide⟩ ⟨by decide, by decide, by decide⟩ rfl
    · replace g1 := b_no g1
      exact op_x 1 (by decide) (by decide) (h_about_x1 l D _ x o _ _ fs hxM (t_about2 l D _ hl9 x P nW nL u w _ hcM hw g1)) ho ⟨u, hc⟩ (r_about2 l D MR mo P _ _ ad F t lo w _ hm hw g1) (fun r M' h => by first | exact ⟨_, _, _, h⟩ | (obtain ⟨F2, lo2, h2⟩ := h; exact ⟨_, _, _, h2⟩)) ⟨by decide, by decide, by decide⟩ rfl
  · replace g2 := b_no g2
    exact op_x 1 (by decide) (by decide) (h_about_x1 l D _ x o _ _ fs hxM (t_about1 l D _ hl9 x P nW nL u _ _ hcM g2)) ho ⟨u, hc⟩ (r_about1 l D MR mo P _ _ ad F t lo _ _ hm g2) (fun r M' h => by first | exact ⟨_, _, _, h⟩ | (obtain ⟨F2, lo2, h2⟩ := h; exact ⟨_, _, _, h2⟩)) ⟨by decide, by decide, by decide⟩ rfl
set_option maxHeartbeats 4000000 in
theorem op_written (l : Launch) (D : va_G) (x o mo : Nat) (p0 p1 : Int32) (MC MR : rMem) (v0 : Nat → Int64) (P : Poem) (nW nL : Nat) (u : Nat → Nat → Nat) (ad : Nat → Nat) (F : Nat → Nat → Int32) (t lo : Int32) (hl9 : l.stackTraces = false) (hc : cV D MC x P nW nL u) (ho : MC o = none) (hm : mV D MR mo P nW nL ad F t lo) : OP l D x o mo yL_written cL_written 5 [(0, 10, 13, 21)] yX4_written cX4_written 3 [.int p0, .int p1] (mjoin MC (mone o (oV D v0))) MR := by
  have hP := hm.1
  have hn30 := hP.1.1
  have hn10 := hP.2.1
  obtain ⟨fs, hx⟩ : ∃ fs, MC x = some (.inr (4, fs)) := ⟨_, (cV_see hc).2.1⟩
  have hxM := mj_l (N := mone o (oV D v0)) hx
  have hcM := cV_in (M2 := mjoin MC (mone o (oV D v0))) (fun a e h => mj_l h) hc
  by_cases g4 : rBel p0 (nL) = true
  · obtain ⟨i, hi, rfl⟩ := rBel_of (by omega) g4
    have hz8 := (hP.2.2 i hi).2.2.2.2.1
    by_cases g3 : rBel p1 (zC P i) = true
    · obtain ⟨q, hq, rfl⟩ := rBel_of (by omega) g3
      exact op_ok (nI (zR P i q)) (h_written l D MC x o _ _ v0 fs _ _ _ _ hx ho (c_written l D MC x P nW nL u i q hc hi hq)) (fun r M' h => ⟨h.1, by first | exact ⟨_, h.2⟩ | exact h.2 | (rw [h.2]; exact ⟨_, hc⟩)⟩) (r_written l D MR mo P nW nL ad F t lo i q hm hi hq) (fun r M' h => ⟨h.1, by first | exact ⟨_, _, _, h.2⟩ | (obtain ⟨F2, lo2, h2⟩ := h.2; exact ⟨_, _, _, h2⟩) | (obtain ⟨F2, h2⟩ := h.2; exact ⟨_, _, _, h2⟩)⟩) ⟨by decide, by decide, by decide⟩ ⟨by decide, by decide, by decide⟩ rfl
    · replace g3 := b_no g3
      exact op_x 1 (by decide) (by decide) (h_written_x1 l D _ x o _ _ fs hxM (t_written2 l D _ hl9 x P nW nL u i _ hcM hi g3)) ho ⟨u, hc⟩ (r_written2 l D MR mo P _ _ ad F t lo i _ hm hi g3) (fun r M' h => by first | exact ⟨_, _, _, h⟩ | (obtain ⟨F2, lo2, h2⟩ := h; exact ⟨_, _, _, h2⟩)) ⟨by decide, by decide, by decide⟩ rfl
  · replace g4 := b_no g4
    exact op_x 1 (by decide) (by decide) (h_written_x1 l D _ x o _ _ fs hxM (t_written1 l D _ hl9 x P nW nL u _ _ hcM g4)) ho ⟨u, hc⟩ (r_written1 l D MR mo P _ _ ad F t lo _ _ hm g4) (fun r M' h => by first | exact ⟨_, _, _, h⟩ | (obtain ⟨F2, lo2, h2⟩ := h; exact ⟨_, _, _, h2⟩)) ⟨by decide, by decide, by decide⟩ rfl
set_option maxHeartbeats 4000000 in
theorem op_told (l : Launch) (D : va_G) (x o mo : Nat) (p0 p1 : Int32) (MC MR : rMem) (v0 : Nat → Int64) (P : Poem) (nW nL : Nat) (u : Nat → Nat → Nat) (ad : Nat → Nat) (F : Nat → Nat → Int32) (t lo : Int32) (hl9 : l.stackTraces = false) (hc : cV D MC x P nW nL u) (ho : MC o = none) (hm : mV D MR mo P nW nL ad F t lo) : OP l D x o mo yL_told cL_told 5 [(0, 10, 13, 21)] yX4_told cX4_told 3 [.int p0, .int p1] (mjoin MC (mone o (oV D v0))) MR := by
  have hP := hm.1
  have hn30 := hP.1.1
  have hn10 := hP.2.1
  obtain ⟨fs, hx⟩ : ∃ fs, MC x = some (.inr (4, fs)) := ⟨_, (cV_see hc).2.1⟩
  have hxM := mj_l (N := mone o (oV D v0)) hx
  have hcM := cV_in (M2 := mjoin MC (mone o (oV D v0))) (fun a e h => mj_l h) hc
  by_cases g6 : rBel p0 (nL) = true
  · obtain ⟨i, hi, rfl⟩ := rBel_of (by omega) g6
    by_cases g5 : rBel p1 (12) = true
    · obtain ⟨q, hq, rfl⟩ := rBel_of (by omega) g5
      exact op_ok (nI (zTold P i q)) (h_told l D MC x o _ _ v0 fs _ _ _ _ hx ho (c_told l D MC x P nW nL u i q hc hi hq)) (fun r M' h => ⟨h.1, by first | exact ⟨_, h.2⟩ | exact h.2 | (rw [h.2]; exact ⟨_, hc⟩)⟩) (r_told l D MR mo P nW nL ad F t lo i q hm hi hq) (fun r M' h => ⟨h.1, by first | exact ⟨_, _, _, h.2⟩ | (obtain ⟨F2, lo2, h2⟩ := h.2; exact ⟨_, _, _, h2⟩) | (obtain ⟨F2, h2⟩ := h.2; exact ⟨_, _, _, h2⟩)⟩) ⟨by decide, by decide, by decide⟩ ⟨by decide, by decide, by decide⟩ rfl
    · replace g5 := b_no g5
      exact op_x 1 (by decide) (by decide) (h_told_x1 l D _ x o _ _ fs hxM (t_told2 l D _ hl9 x P nW nL u i _ hcM hi g5)) ho ⟨u, hc⟩ (r_told2 l D MR mo P _ _ ad F t lo i _ hm hi g5) (fun r M' h => by first | exact ⟨_, _, _, h⟩ | (obtain ⟨F2, lo2, h2⟩ := h; exact ⟨_, _, _, h2⟩)) ⟨by decide, by decide, by decide⟩ rfl
  · replace g6 := b_no g6
    exact op_x 1 (by decide) (by decide) (h_told_x1 l D _ x o _ _ fs hxM (t_told1 l D _ hl9 x P nW nL u _ _ hcM g6)) ho ⟨u, hc⟩ (r_told1 l D MR mo P _ _ ad F t lo _ _ hm g6) (fun r M' h => by first | exact ⟨_, _, _, h⟩ | (obtain ⟨F2, lo2, h2⟩ := h; exact ⟨_, _, _, h2⟩)) ⟨by decide, by decide, by decide⟩ rfl
set_option maxHeartbeats 4000000 in
theorem op_stress (l : Launch) (D : va_G) (x o mo : Nat) (p0 p1 : Int32) (MC MR : rMem) (v0 : Nat → Int64) (P : Poem) (nW nL : Nat) (u : Nat → Nat → Nat) (ad : Nat → Nat) (F : Nat → Nat → Int32) (t lo : Int32) (hl9 : l.stackTraces = false) (hc : cV D MC x P nW nL u) (ho : MC o = none) (hm : mV D MR mo P nW nL ad F t lo) : OP l D x o mo yL_stress cL_stress 5 [(0, 10, 13, 21)] yX4_stress cX4_stress 3 [.int p0, .int p1] (mjoin MC (mone o (oV D v0))) MR := by
  have hP := hm.1
  have hn30 := hP.1.1
  have hn10 := hP.2.1
  obtain ⟨fs, hx⟩ : ∃ fs, MC x = some (.inr (4, fs)) := ⟨_, (cV_see hc).2.1⟩
  have hxM := mj_l (N := mone o (oV D v0)) hx
  have hcM := cV_in (M2 := mjoin MC (mone o (oV D v0))) (fun a e h => mj_l h) hc
  by_cases g8 : rBel p0 (nL) = true
  · obtain ⟨i, hi, rfl⟩ := rBel_of (by omega) g8
    have hst := zStay_le (hP.2.2 i hi)
    by_cases g7 : rBel p1 (zStay P i) = true
    · obtain ⟨q, hq, rfl⟩ := rBel_of (by omega) g7
      exact op_ok (nI (zBits P i / 2 ^ q % 2)) (h_stress l D MC x o _ _ v0 fs _ _ _ _ hx ho (c_stress l D MC x P nW nL u i q hc hi hq)) (fun r M' h => ⟨h.1, by first | exact ⟨_, h.2⟩ | exact h.2 | (rw [h.2]; exact ⟨_, hc⟩)⟩) (r_stress l D MR mo P nW nL ad F t lo i q hm hi hq) (fun r M' h => ⟨h.1, by first | exact ⟨_, _, _, h.2⟩ | (obtain ⟨F2, lo2, h2⟩ := h.2; exact ⟨_, _, _, h2⟩) | (obtain ⟨F2, h2⟩ := h.2; exact ⟨_, _, _, h2⟩)⟩) ⟨by decide, by decide, by decide⟩ ⟨by decide, by decide, by decide⟩ rfl
    · replace g7 := b_no g7
      exact op_x 1 (by decide) (by decide) (h_stress_x1 l D _ x o _ _ fs hxM (t_stress2 l D _ hl9 x P nW nL u i _ hcM hi g7)) ho ⟨u, hc⟩ (r_stress2 l D MR mo P _ _ ad F t lo i _ hm hi g7) (fun r M' h => by first | exact ⟨_, _, _, h⟩ | (obtain ⟨F2, lo2, h2⟩ := h; exact ⟨_, _, _, h2⟩)) ⟨by decide, by decide, by decide⟩ rfl
  · replace g8 := b_no g8
    exact op_x 1 (by decide) (by decide) (h_stress_x1 l D _ x o _ _ fs hxM (t_stress1 l D _ hl9 x P nW nL u _ _ hcM g8)) ho ⟨u, hc⟩ (r_stress1 l D MR mo P _ _ ad F t lo _ _ hm g8) (fun r M' h => by first | exact ⟨_, _, _, h⟩ | (obtain ⟨F2, lo2, h2⟩ := h; exact ⟨_, _, _, h2⟩)) ⟨by decide, by decide, by decide⟩ rfl
set_option maxHeartbeats 4000000 in
theorem op_melted (l : Launch) (D : va_G) (x o mo : Nat) (p0 : Int32) (MC MR : rMem) (v0 : Nat → Int64) (P : Poem) (nW nL : Nat) (u : Nat → Nat → Nat) (ad : Nat → Nat) (F : Nat → Nat → Int32) (t lo : Int32) (hl9 : l.stackTraces = false) (hc : cV D MC x P nW nL u) (ho : MC o = none) (hm : mV D MR mo P nW nL ad F t lo) : OP l D x o mo yL_melted cL_melted 4 [(0, 9, 12, 21)] yX4_melted cX4_melted 4 [.int p0] (mjoin MC (mone o (oV D v0))) MR := by
  have hP := hm.1
  have hn30 := hP.1.1
  have hn10 := hP.2.1
  obtain ⟨fs, hx⟩ : ∃ fs, MC x = some (.inr (4, fs)) := ⟨_, (cV_see hc).2.1⟩
  have hxM := mj_l (N := mone o (oV D v0)) hx
  have hcM := cV_in (M2 := mjoin MC (mone o (oV D v0))) (fun a e h => mj_l h) hc
  by_cases g9 : rBel p0 (nL) = true
  · obtain ⟨i, hi, rfl⟩ := rBel_of (by omega) g9
    exact op_ok (nI (zOM P i (zC P i))) (h_melted l D MC x o _ v0 fs _ _ _ _ hx ho (c_melted l D MC x P nW nL u i hc hi)) (fun r M' h => ⟨h.1, by first | exact ⟨_, h.2⟩ | exact h.2 | (rw [h.2]; exact ⟨_, hc⟩)⟩) (r_melted l D MR mo P nW nL ad F t lo i hm hi) (fun r M' h => ⟨h.1, by first | exact ⟨_, _, _, h.2⟩ | (obtain ⟨F2, lo2, h2⟩ := h.2; exact ⟨_, _, _, h2⟩) | (obtain ⟨F2, h2⟩ := h.2; exact ⟨_, _, _, h2⟩)⟩) ⟨by decide, by decide, by decide⟩ ⟨by decide, by decide, by decide⟩ rfl
  · replace g9 := b_no g9
    exact op_x 1 (by decide) (by decide) (h_melted_x1 l D _ x o _ fs hxM (t_melted1 l D _ hl9 x P nW nL u _ hcM g9)) ho ⟨u, hc⟩ (r_melted1 l D MR mo P _ _ ad F t lo _ hm g9) (fun r M' h => by first | exact ⟨_, _, _, h⟩ | (obtain ⟨F2, lo2, h2⟩ := h; exact ⟨_, _, _, h2⟩)) ⟨by decide, by decide, by decide⟩ rfl
set_option maxHeartbeats 4000000 in
theorem op_scans (l : Launch) (D : va_G) (x o mo : Nat) (p0 : Int32) (MC MR : rMem) (v0 : Nat → Int64) (P : Poem) (nW nL : Nat) (u : Nat → Nat → Nat) (ad : Nat → Nat) (F : Nat → Nat → Int32) (t lo : Int32) (hl9 : l.stackTraces = false) (hc : cV D MC x P nW nL u) (ho : MC o = none) (hm : mV D MR mo P nW nL ad F t lo) : OP l D x o mo yL_scans cL_scans 4 [(0, 9, 12, 21)] yX4_scans cX4_scans 6 [.int p0] (mjoin MC (mone o (oV D v0))) MR := by
  have hP := hm.1
  have hn30 := hP.1.1
  have hn10 := hP.2.1
  obtain ⟨fs, hx⟩ : ∃ fs, MC x = some (.inr (4, fs)) := ⟨_, (cV_see hc).2.1⟩
  have hxM := mj_l (N := mone o (oV D v0)) hx
  have hcM := cV_in (M2 := mjoin MC (mone o (oV D v0))) (fun a e h => mj_l h) hc
  by_cases g10 : rBel p0 (nL) = true
  · obtain ⟨i, hi, rfl⟩ := rBel_of (by omega) g10
    exact op_ok (nI (zScn P nL i 3).2) (h_scans l D MC x o _ v0 fs _ _ _ _ hx ho (c_scans l D MC x P nW nL u i hc hi)) (fun r M' h => ⟨h.1, by first | exact ⟨_, h.2⟩ | exact h.2 | (rw [h.2]; exact ⟨_, hc⟩)⟩) (r_scans l D MR mo P nW nL ad F t lo i hm hi) (fun r M' h => ⟨h.1, by first | exact ⟨_, _, _, h.2⟩ | (obtain ⟨F2, lo2, h2⟩ := h.2; exact ⟨_, _, _, h2⟩) | (obtain ⟨F2, h2⟩ := h.2; exact ⟨_, _, _, h2⟩)⟩) ⟨by decide, by decide, by decide⟩ ⟨by decide, by decide, by decide⟩ rfl
  · replace g10 := b_no g10
    exact op_x 1 (by decide) (by decide) (h_scans_x1 l D _ x o _ fs hxM (t_scans1 l D _ hl9 x P nW nL u _ hcM g10)) ho ⟨u, hc⟩ (r_scans1 l D MR mo P _ _ ad F t lo _ hm g10) (fun r M' h => by first | exact ⟨_, _, _, h⟩ | (obtain ⟨F2, lo2, h2⟩ := h; exact ⟨_, _, _, h2⟩)) ⟨by decide, by decide, by decide⟩ rfl
set_option maxHeartbeats 4000000 in
theorem op_count (l : Launch) (D : va_G) (x o mo : Nat) (p0 : Int32) (MC MR : rMem) (v0 : Nat → Int64) (P : Poem) (nW nL : Nat) (u : Nat → Nat → Nat) (ad : Nat → Nat) (F : Nat → Nat → Int32) (t lo : Int32) (hl9 : l.stackTraces = false) (hc : cV D MC x P nW nL u) (ho : MC o = none) (hm : mV D MR mo P nW nL ad F t lo) : OP l D x o mo yL_count cL_count 4 [(0, 9, 12, 21)] yX4_count cX4_count 2 [.int p0] (mjoin MC (mone o (oV D v0))) MR := by
  have hP := hm.1
  have hn30 := hP.1.1
  have hn10 := hP.2.1
  obtain ⟨fs, hx⟩ : ∃ fs, MC x = some (.inr (4, fs)) := ⟨_, (cV_see hc).2.1⟩
  have hxM := mj_l (N := mone o (oV D v0)) hx
  have hcM := cV_in (M2 := mjoin MC (mone o (oV D v0))) (fun a e h => mj_l h) hc
  by_cases g11 : rBel p0 (7) = true
  · obtain ⟨q, hq, rfl⟩ := rBel_of (by omega) g11
    exact op_ok (nI (zCnt P nW nL q)) (h_count l D MC x o _ v0 fs _ _ _ _ hx ho (c_count l D MC x P nW nL u q hc hq)) (fun r M' h => ⟨h.1, by first | exact ⟨_, h.2⟩ | exact h.2 | (rw [h.2]; exact ⟨_, hc⟩)⟩) (r_count l D MR mo P nW nL ad F t lo q hm hq) (fun r M' h => ⟨h.1, by first | exact ⟨_, _, _, h.2⟩ | (obtain ⟨F2, lo2, h2⟩ := h.2; exact ⟨_, _, _, h2⟩) | (obtain ⟨F2, h2⟩ := h.2; exact ⟨_, _, _, h2⟩)⟩) ⟨by decide, by decide, by decide⟩ ⟨by decide, by decide, by decide⟩ rfl
  · replace g11 := b_no g11
    exact op_x 1 (by decide) (by decide) (h_count_x1 l D _ x o _ fs hxM (t_count l D _ hl9 x P nW nL u _ g11)) ho ⟨u, hc⟩ (r_count1 l D MR mo P _ _ ad F t lo _ hm g11) (fun r M' h => by first | exact ⟨_, _, _, h⟩ | (obtain ⟨F2, lo2, h2⟩ := h; exact ⟨_, _, _, h2⟩)) ⟨by decide, by decide, by decide⟩ rfl
set_option maxHeartbeats 4000000 in
theorem op_rhyme (l : Launch) (D : va_G) (x o mo : Nat) (p0 p1 : Int32) (MC MR : rMem) (v0 : Nat → Int64) (P : Poem) (nW nL : Nat) (u : Nat → Nat → Nat) (ad : Nat → Nat) (F : Nat → Nat → Int32) (t lo : Int32) (hl9 : l.stackTraces = false) (hc : cV D MC x P nW nL u) (ho : MC o = none) (hm : mV D MR mo P nW nL ad F t lo) : OP l D x o mo yL_rhyme cL_rhyme 5 [(0, 10, 13, 21)] yX4_rhyme cX4_rhyme 3 [.int p0, .int p1] (mjoin MC (mone o (oV D v0))) MR := by
  have hP := hm.1
  have hn30 := hP.1.1
  have hn10 := hP.2.1
  obtain ⟨fs, hx⟩ : ∃ fs, MC x = some (.inr (4, fs)) := ⟨_, (cV_see hc).2.1⟩
  have hxM := mj_l (N := mone o (oV D v0)) hx
  have hcM := cV_in (M2 := mjoin MC (mone o (oV D v0))) (fun a e h => mj_l h) hc
  by_cases g13 : rBel p0 (nL) = true
  · obtain ⟨i, hi, rfl⟩ := rBel_of (by omega) g13
    by_cases g12 : rBel p1 (nL) = true
    · obtain ⟨k, hk, rfl⟩ := rBel_of (by omega) g12
      exact op_ok (nI (zRh P i k)) (h_rhyme l D MC x o _ _ v0 fs _ _ _ _ hx ho (c_rhyme l D MC x P nW nL u i k hc hi hk)) (fun r M' h => ⟨h.1, by first | exact ⟨_, h.2⟩ | exact h.2 | (rw [h.2]; exact ⟨_, hc⟩)⟩) (r_rhyme l D MR mo P nW nL ad F t lo i k hm hi hk) (fun r M' h => ⟨h.1, by first | exact ⟨_, _, _, h.2⟩ | (obtain ⟨F2, lo2, h2⟩ := h.2; exact ⟨_, _, _, h2⟩) | (obtain ⟨F2, h2⟩ := h.2; exact ⟨_, _, _, h2⟩)⟩) ⟨by decide, by decide, by decide⟩ ⟨by decide, by decide, by decide⟩ rfl
    · replace g12 := b_no g12
      exact op_x 1 (by decide) (by decide) (h_rhyme_x1 l D _ x o _ _ fs hxM (t_rhyme2 l D _ hl9 x P nW nL u i _ hcM hi g12)) ho ⟨u, hc⟩ (r_rhyme2 l D MR mo P _ _ ad F t lo i _ hm hi g12) (fun r M' h => by first | exact ⟨_, _, _, h⟩ | (obtain ⟨F2, lo2, h2⟩ := h; exact ⟨_, _, _, h2⟩)) ⟨by decide, by decide, by decide⟩ rfl
  · replace g13 := b_no g13
    exact op_x 1 (by decide) (by decide) (h_rhyme_x1 l D _ x o _ _ fs hxM (t_rhyme1 l D _ hl9 x P nW nL u _ _ hcM g13)) ho ⟨u, hc⟩ (r_rhyme1 l D MR mo P _ _ ad F t lo _ _ hm g13) (fun r M' h => by first | exact ⟨_, _, _, h⟩ | (obtain ⟨F2, lo2, h2⟩ := h; exact ⟨_, _, _, h2⟩)) ⟨by decide, by decide, by decide⟩ rfl
set_option maxHeartbeats 4000000 in
theorem op_tries (l : Launch) (D : va_G) (x o mo : Nat) (p0 p1 p2 : Int32) (MC MR : rMem) (v0 : Nat → Int64) (P : Poem) (nW nL : Nat) (u : Nat → Nat → Nat) (ad : Nat → Nat) (F : Nat → Nat → Int32) (t lo : Int32) (hl9 : l.stackTraces = false) (hc : cV D MC x P nW nL u) (ho : MC o = none) (hm : mV D MR mo P nW nL ad F t lo) : OP l D x o mo yL_tries cL_tries 6 [(0, 12, 15, 21)] yX4_tries cX4_tries 4 [.int p0, .int p1, .int p2] (mjoin MC (mone o (oV D v0))) MR := by
  have hP := hm.1
  have hn30 := hP.1.1
  have hn10 := hP.2.1
  obtain ⟨fs, hx⟩ : ∃ fs, MC x = some (.inr (4, fs)) := ⟨_, (cV_see hc).2.1⟩
  have hxM := mj_l (N := mone o (oV D v0)) hx
  have hcM := cV_in (M2 := mjoin MC (mone o (oV D v0))) (fun a e h => mj_l h) hc
  by_cases g16 : rBel p0 (nL) = true
  · obtain ⟨i, hi, rfl⟩ := rBel_of (by omega) g16
    have hz8 := (hP.2.2 i hi).2.2.2.2.1
    by_cases g15 : rBel p1 (zC P i) = true
    · obtain ⟨q, hq, rfl⟩ := rBel_of (by omega) g15
      by_cases g14 : rBel p2 (nW) = true
      · obtain ⟨w, hw, rfl⟩ := rBel_of (by omega) g14
        exact op_ok (nI (zTry P i q w nL)) (h_tries l D MC x o _ _ _ v0 fs _ _ _ _ hx ho (c_tries l D MC x P nW nL u i q w hc hi hq hw)) (fun r M' h => ⟨h.1, by first | exact ⟨_, h.2⟩ | exact h.2 | (rw [h.2]; exact ⟨_, hc⟩)⟩) (r_tries l D MR mo P nW nL ad F t lo i q w hm hi hq hw) (fun r M' h => ⟨h.1, by first | exact ⟨_, _, _, h.2⟩ | (obtain ⟨F2, lo2, h2⟩ := h.2; exact ⟨_, _, _, h2⟩) | (obtain ⟨F2, h2⟩ := h.2; exact ⟨_, _, _, h2⟩)⟩) ⟨by decide, by decide, by decide⟩ ⟨by decide, by decide, by decide⟩ rfl
      · replace g14 := b_no g14
        exact op_x 1 (by decide) (by decide) (h_tries_x1 l D _ x o _ _ _ fs hxM (t_tries3 l D _ hl9 x P nW nL u i q _ hcM hi hq g14)) ho ⟨u, hc⟩ (r_tries3 l D MR mo P _ _ ad F t lo i q _ hm hi hq g14) (fun r M' h => by first | exact ⟨_, _, _, h⟩ | (obtain ⟨F2, lo2, h2⟩ := h; exact ⟨_, _, _, h2⟩)) ⟨by decide, by decide, by decide⟩ rfl
    · replace g15 := b_no g15
      exact op_x 1 (by decide) (by decide) (h_tries_x1 l D _ x o _ _ _ fs hxM (t_tries2 l D _ hl9 x P nW nL u i _ _ hcM hi g15)) ho ⟨u, hc⟩ (r_tries2 l D MR mo P _ _ ad F t lo i _ _ hm hi g15) (fun r M' h => by first | exact ⟨_, _, _, h⟩ | (obtain ⟨F2, lo2, h2⟩ := h; exact ⟨_, _, _, h2⟩)) ⟨by decide, by decide, by decide⟩ rfl
  · replace g16 := b_no g16
    exact op_x 1 (by decide) (by decide) (h_tries_x1 l D _ x o _ _ _ fs hxM (t_tries1 l D _ hl9 x P nW nL u _ _ _ hcM g16)) ho ⟨u, hc⟩ (r_tries1 l D MR mo P _ _ ad F t lo _ _ _ hm g16) (fun r M' h => by first | exact ⟨_, _, _, h⟩ | (obtain ⟨F2, lo2, h2⟩ := h; exact ⟨_, _, _, h2⟩)) ⟨by decide, by decide, by decide⟩ rfl
set_option maxHeartbeats 4000000 in
theorem op_best (l : Launch) (D : va_G) (x o mo : Nat) (p0 p1 : Int32) (MC MR : rMem) (v0 : Nat → Int64) (P : Poem) (nW nL : Nat) (u : Nat → Nat → Nat) (ad : Nat → Nat) (F : Nat → Nat → Int32) (t lo : Int32) (hl9 : l.stackTraces = false) (hc : cV D MC x P nW nL u) (ho : MC o = none) (hm : mV D MR mo P nW nL ad F t lo) : OP l D x o mo yL_best cL_best 5 [(0, 10, 13, 21)] yX4_best cX4_best 7 [.int p0, .int p1] (mjoin MC (mone o (oV D v0))) MR := by
  have hP := hm.1
  have hn30 := hP.1.1
  have hn10 := hP.2.1
  obtain ⟨fs, hx⟩ : ∃ fs, MC x = some (.inr (4, fs)) := ⟨_, (cV_see hc).2.1⟩
  have hxM := mj_l (N := mone o (oV D v0)) hx
  have hcM := cV_in (M2 := mjoin MC (mone o (oV D v0))) (fun a e h => mj_l h) hc
  by_cases g18 : rBel p0 (nL) = true
  · obtain ⟨i, hi, rfl⟩ := rBel_of (by omega) g18
    have hz8 := (hP.2.2 i hi).2.2.2.2.1
    by_cases g17 : rBel p1 (zC P i) = true
    · obtain ⟨q, hq, rfl⟩ := rBel_of (by omega) g17
      exact op_ok (nI (zBest P i q nL nW)) (h_best l D MC x o _ _ v0 fs _ _ _ _ hx ho (c_best l D MC x P nW nL u i q hc hi hq)) (fun r M' h => ⟨h.1, by first | exact ⟨_, h.2⟩ | exact h.2 | (rw [h.2]; exact ⟨_, hc⟩)⟩) (r_best l D MR mo P nW nL ad F t lo i q hm hi hq) (fun r M' h => ⟨h.1, by first | exact ⟨_, _, _, h.2⟩ | (obtain ⟨F2, lo2, h2⟩ := h.2; exact ⟨_, _, _, h2⟩) | (obtain ⟨F2, h2⟩ := h.2; exact ⟨_, _, _, h2⟩)⟩) ⟨by decide, by decide, by decide⟩ ⟨by decide, by decide, by decide⟩ rfl
    · replace g17 := b_no g17
      exact op_x 1 (by decide) (by decide) (h_best_x1 l D _ x o _ _ fs hxM (t_best2 l D _ hl9 x P nW nL u i _ hcM hi g17)) ho ⟨u, hc⟩ (r_best2 l D MR mo P _ _ ad F t lo i _ hm hi g17) (fun r M' h => by first | exact ⟨_, _, _, h⟩ | (obtain ⟨F2, lo2, h2⟩ := h; exact ⟨_, _, _, h2⟩)) ⟨by decide, by decide, by decide⟩ rfl
  · replace g18 := b_no g18
    exact op_x 1 (by decide) (by decide) (h_best_x1 l D _ x o _ _ fs hxM (t_best1 l D _ hl9 x P nW nL u _ _ hcM g18)) ho ⟨u, hc⟩ (r_best1 l D MR mo P _ _ ad F t lo _ _ hm g18) (fun r M' h => by first | exact ⟨_, _, _, h⟩ | (obtain ⟨F2, lo2, h2⟩ := h; exact ⟨_, _, _, h2⟩)) ⟨by decide, by decide, by decide⟩ rfl
set_option maxHeartbeats 4000000 in
theorem op_strike (l : Launch) (D : va_G) (x o mo : Nat) (p0 : Int32) (MC MR : rMem) (v0 : Nat → Int64) (P : Poem) (nW nL : Nat) (u : Nat → Nat → Nat) (ad : Nat → Nat) (F : Nat → Nat → Int32) (t lo : Int32) (hl9 : l.stackTraces = false) (hc : cV D MC x P nW nL u) (ho : MC o = none) (hm : mV D MR mo P nW nL ad F t lo) : OP l D x o mo yL_strike cL_strike 4 [(0, 9, 12, 21), (0, 9, 15, 15)] yX4_strike cX4_strike 2 [.int p0] (mjoin MC (mone o (oV D v0))) MR := by
  have hP := hm.1
  have hn30 := hP.1.1
  have hn10 := hP.2.1
  obtain ⟨fs, hx⟩ : ∃ fs, MC x = some (.inr (4, fs)) := ⟨_, (cV_see hc).2.1⟩
  have hxM := mj_l (N := mone o (oV D v0)) hx
  have hcM := cV_in (M2 := mjoin MC (mone o (oV D v0))) (fun a e h => mj_l h) hc
  by_cases g19 : rBel p0 (nL) = true
  · obtain ⟨i, hi, rfl⟩ := rBel_of (by omega) g19
    by_cases h0 : 0 < zC P i
    · exact op_ok (nI (zR P i (zC P i - 1))) (h_strike l D MC x o _ v0 fs _ _ _ _ hx ho (c_strike l D MC x P nW nL u i hc hi h0)) (fun r M' h => ⟨h.1, by first | exact ⟨_, h.2⟩ | exact h.2 | (rw [h.2]; exact ⟨_, hc⟩)⟩) (r_strike l D MR mo P nW nL ad F t lo i hm hi h0) (fun r M' h => ⟨h.1, by first | exact ⟨_, _, _, h.2⟩ | (obtain ⟨F2, lo2, h2⟩ := h.2; exact ⟨_, _, _, h2⟩) | (obtain ⟨F2, h2⟩ := h.2; exact ⟨_, _, _, h2⟩)⟩) ⟨by decide, by decide, by decide⟩ ⟨by decide, by decide, by decide⟩ rfl
    · exact op_x 2 (by decide) (by decide) (h_strike_x2 l D _ x o _ fs hxM (t_strike2 l D _ hl9 x P nW nL u i hcM hi (by omega))) ho ⟨u, hc⟩ (r_strike2 l D MR mo P _ _ ad F t lo i hm hi (by omega)) (fun r M' h => by first | exact ⟨_, _, _, h⟩ | (obtain ⟨F2, lo2, h2⟩ := h; exact ⟨_, _, _, h2⟩)) ⟨by decide, by decide, by decide⟩ rfl
  · replace g19 := b_no g19
    exact op_x 1 (by decide) (by decide) (h_strike_x1 l D _ x o _ fs hxM (t_strike1 l D _ hl9 x P nW nL u _ hcM g19)) ho ⟨u, hc⟩ (r_strike1 l D MR mo P _ _ ad F t lo _ hm g19) (fun r M' h => by first | exact ⟨_, _, _, h⟩ | (obtain ⟨F2, lo2, h2⟩ := h; exact ⟨_, _, _, h2⟩)) ⟨by decide, by decide, by decide⟩ rfl
set_option maxHeartbeats 4000000 in
theorem op_write (l : Launch) (D : va_G) (x o mo : Nat) (p0 p1 p2 : Int32) (MC MR : rMem) (v0 : Nat → Int64) (P : Poem) (nW nL : Nat) (u : Nat → Nat → Nat) (ad : Nat → Nat) (F : Nat → Nat → Int32) (t lo : Int32) (hl9 : l.stackTraces = false) (hc : cV D MC x P nW nL u) (ho : MC o = none) (hm : mV D MR mo P nW nL ad F t lo) : OP l D x o mo yL_write cL_write 6 [(0, 12, 15, 21), (0, 12, 19, 15)] yX4_write cX4_write 4 [.int p0, .int p1, .int p2] (mjoin MC (mone o (oV D v0))) MR := by
  have hP := hm.1
  have hn30 := hP.1.1
  have hn10 := hP.2.1
  obtain ⟨fs, hx⟩ : ∃ fs, MC x = some (.inr (4, fs)) := ⟨_, (cV_see hc).2.1⟩
  have hxM := mj_l (N := mone o (oV D v0)) hx
  have hcM := cV_in (M2 := mjoin MC (mone o (oV D v0))) (fun a e h => mj_l h) hc
  by_cases g22 : rBel p0 (nL) = true
  · obtain ⟨i, hi, rfl⟩ := rBel_of (by omega) g22
    have hz8 := (hP.2.2 i hi).2.2.2.2.1
    by_cases g21 : rBel p1 (zC P i + 1) = true
    · obtain ⟨q, hq, rfl⟩ := rBel_of (by omega) g21
      by_cases g20 : rBel p2 (nW) = true
      · obtain ⟨w, hw, rfl⟩ := rBel_of (by omega) g20
        by_cases h0 : q < zC P i
        · exact op_ok (nI (zC (zPut P i q w) i)) (h_write l D MC x o _ _ _ v0 fs _ _ _ _ hx ho (c_writeB l D MC x P nW nL u i q w hc hi hw h0)) (fun r M' h => ⟨h.1, by first | exact ⟨_, h.2⟩ | exact h.2 | (rw [h.2]; exact ⟨_, hc⟩)⟩) (r_writeB l D MR mo P nW nL ad F t lo i q w hm hi h0 hw) (fun r M' h => ⟨h.1, by first | exact ⟨_, _, _, h.2⟩ | (obtain ⟨F2, lo2, h2⟩ := h.2; exact ⟨_, _, _, h2⟩) | (obtain ⟨F2, h2⟩ := h.2; exact ⟨_, _, _, h2⟩)⟩) ⟨by decide, by decide, by decide⟩ ⟨by decide, by decide, by decide⟩ rfl
        · obtain rfl : q = zC P i := by omega
          by_cases h8 : zC P i < 8
          · exact op_ok (nI (zC (zPut P i (zC P i) w) i)) (h_write l D MC x o _ _ _ v0 fs _ _ _ _ hx ho (c_writeA l D MC x P nW nL u i w hc hi hw h8)) (fun r M' h => ⟨h.1, by first | exact ⟨_, h.2⟩ | exact h.2 | (rw [h.2]; exact ⟨_, hc⟩)⟩) (r_writeA l D MR mo P nW nL ad F t lo i w hm hi h8 hw) (fun r M' h => ⟨h.1, by first | exact ⟨_, _, _, h.2⟩ | (obtain ⟨F2, lo2, h2⟩ := h.2; exact ⟨_, _, _, h2⟩) | (obtain ⟨F2, h2⟩ := h.2; exact ⟨_, _, _, h2⟩)⟩) ⟨by decide, by decide, by decide⟩ ⟨by decide, by decide, by decide⟩ rfl
          · exact op_x 2 (by decide) (by decide) (h_write_x2 l D _ x o _ _ _ fs hxM (t_write4 l D _ hl9 x P nW nL u i w hcM hi hw (by omega))) ho ⟨u, hc⟩ (r_write4 l D MR mo P _ _ ad F t lo i w hm hi (by omega) hw) (fun r M' h => by first | exact ⟨_, _, _, h⟩ | (obtain ⟨F2, lo2, h2⟩ := h; exact ⟨_, _, _, h2⟩)) ⟨by decide, by decide, by decide⟩ rfl
      · replace g20 := b_no g20
        exact op_x 1 (by decide) (by decide) (h_write_x1 l D _ x o _ _ _ fs hxM (t_write3 l D _ hl9 x P nW nL u i q _ hcM hi hq g20)) ho ⟨u, hc⟩ (r_write3 l D MR mo P _ _ ad F t lo i q _ hm hi hq g20) (fun r M' h => by first | exact ⟨_, _, _, h⟩ | (obtain ⟨F2, lo2, h2⟩ := h; exact ⟨_, _, _, h2⟩)) ⟨by decide, by decide, by decide⟩ rfl
    · replace g21 := b_no g21
      exact op_x 1 (by decide) (by decide) (h_write_x1 l D _ x o _ _ _ fs hxM (t_write2 l D _ hl9 x P nW nL u i _ _ hcM hi g21)) ho ⟨u, hc⟩ (r_write2 l D MR mo P _ _ ad F t lo i _ _ hm hi g21) (fun r M' h => by first | exact ⟨_, _, _, h⟩ | (obtain ⟨F2, lo2, h2⟩ := h; exact ⟨_, _, _, h2⟩)) ⟨by decide, by decide, by decide⟩ rfl
  · replace g22 := b_no g22
    exact op_x 1 (by decide) (by decide) (h_write_x1 l D _ x o _ _ _ fs hxM (t_write1 l D _ hl9 x P nW nL u _ _ _ hcM g22)) ho ⟨u, hc⟩ (r_write1 l D MR mo P _ _ ad F t lo _ _ _ hm g22) (fun r M' h => by first | exact ⟨_, _, _, h⟩ | (obtain ⟨F2, lo2, h2⟩ := h; exact ⟨_, _, _, h2⟩)) ⟨by decide, by decide, by decide⟩ rfl
set_option maxHeartbeats 4000000 in
theorem op_line (l : Launch) (D : va_G) (x o mo : Nat) (p0 p1 p2 : Int32) (MC MR : rMem) (v0 : Nat → Int64) (P : Poem) (nW nL : Nat) (u : Nat → Nat → Nat) (ad : Nat → Nat) (F : Nat → Nat → Int32) (t lo : Int32) (hl9 : l.stackTraces = false) (hc : cV D MC x P nW nL u) (ho : MC o = none) (hm : mV D MR mo P nW nL ad F t lo) : OP l D x o mo yL_line cL_line 6 [(0, 12, 15, 13), (0, 12, 19, 15)] yX4_line cX4_line 4 [.int p0, .int p1, .int p2] (mjoin MC (mone o (oV D v0))) MR := by
  have hP := hm.1
  have hn30 := hP.1.1
  have hn10 := hP.2.1
  obtain ⟨fs, hx⟩ : ∃ fs, MC x = some (.inr (4, fs)) := ⟨_, (cV_see hc).2.1⟩
  have hxM := mj_l (N := mone o (oV D v0)) hx
  have hcM := cV_in (M2 := mjoin MC (mone o (oV D v0))) (fun a e h => mj_l h) hc
  by_cases g1 : mIn p0 (nI 0) (nI 3) = true ∧ mIn p1 (nI 1) (nI 6) = true ∧ mIn p2 (nI 0) (nI 5) = true
  · obtain ⟨a, -, ha, rfl⟩ := mIn_ex (by decide) (by decide) g1.1
    obtain ⟨f, hf1, hf6, rfl⟩ := mIn_ex (by decide) (by decide) g1.2.1
    obtain ⟨k, -, hk, rfl⟩ := mIn_ex (by decide) (by decide) g1.2.2
    by_cases h10 : nL < 10
    · exact op_ok (nI nL) (h_line l D MC x o _ _ _ v0 fs _ _ _ _ hx ho (c_line l D MC x P nW nL u a f k hc h10 (by omega) hf1 hf6 (by omega))) (fun r M' h => ⟨h.1, by first | exact ⟨_, h.2⟩ | exact h.2 | (rw [h.2]; exact ⟨_, hc⟩)⟩) (r_line l D MR mo P nW nL ad F t lo a f k hm h10 (by omega) hf1 hf6 (by omega)) (fun r M' h => ⟨h.1, by first | exact ⟨_, _, _, h.2⟩ | (obtain ⟨F2, lo2, h2⟩ := h.2; exact ⟨_, _, _, h2⟩) | (obtain ⟨F2, h2⟩ := h.2; exact ⟨_, _, _, h2⟩)⟩) ⟨by decide, by decide, by decide⟩ ⟨by decide, by decide, by decide⟩ rfl
    · obtain rfl : nL = 10 := by omega
      exact op_x 2 (by decide) (by decide) (h_line_x2 l D _ x o _ _ _ fs hxM (t_line2 l D _ hl9 x P nW u a f k hcM (by omega) hf1 hf6 (by omega))) ho ⟨u, hc⟩ (r_line2 l D MR mo P _ _ ad F t lo a f k hm rfl (by omega) hf1 hf6 (by omega)) (fun r M' h => by first | exact ⟨_, _, _, h⟩ | (obtain ⟨F2, lo2, h2⟩ := h; exact ⟨_, _, _, h2⟩)) ⟨by decide, by decide, by decide⟩ rfl
  · exact op_x 1 (by decide) (by decide) (h_line_x1 l D _ x o _ _ _ fs hxM (t_line1 l D _ hl9 x _ _ _ (fun z => g1 ⟨(mIn_bel2 (n := 3) (by decide)).trans z.1, mIn_in z.2.1 z.2.2.1, (mIn_bel2 (n := 5) (by decide)).trans z.2.2.2⟩))) ho ⟨u, hc⟩ (r_line1 l D MR mo P _ _ ad F t lo _ _ _ hm g1) (fun r M' h => by first | exact ⟨_, _, _, h⟩ | (obtain ⟨F2, lo2, h2⟩ := h; exact ⟨_, _, _, h2⟩)) ⟨by decide, by decide, by decide⟩ rfl
theorem sh_in {s t : Int32} (h1 : ¬ s < nI 1) (h2 : ¬ nI 4 < s) (h3 : ¬ t < 0) (h4 : t < nI 1 <<< (s &&& 31)) : mIn t (nI 0) ((nI 1) <<< (s &&& 31) - (nI 1)) = true := by
  obtain ⟨k, h5, h6, rfl⟩ := mIn_ex (by decide) (by decide) (mIn_in h1 h2)
  have h16 := pw_16 (s := k) (by omega)
  have h17 : 0 < 2 ^ k := Nat.two_pow_pos k
  rw [rn_shl (by omega)] at h4 ⊢
  rw [pk_sub (by omega)]
  refine mIn_in h3 (fun z => ?_)
  have a := Int32.lt_iff_toInt_lt.mp h4
  have b := Int32.lt_iff_toInt_lt.mp z
  rw [nI_toI (by omega)] at a b
  omega
set_option maxHeartbeats 4000000 in
theorem op_word (l : Launch) (D : va_G) (x o mo : Nat) (p0 p1 p2 p3 p4 : Int32) (MC MR : rMem) (v0 : Nat → Int64) (P : Poem) (nW nL : Nat) (u : Nat → Nat → Nat) (ad : Nat → Nat) (F : Nat → Nat → Int32) (t lo : Int32) (hl9 : l.stackTraces = false) (hc : cV D MC x P nW nL u) (ho : MC o = none) (hm : mV D MR mo P nW nL ad F t lo) (hb4 : ∃ q, q < 2 ∧ p4 = nI q) : OP l D x o mo yL_word cL_word 8 [(0, 16, 19, 13), (0, 16, 23, 15)] yX4_word cX4_word 6 [.int p0, .int p1, .int p2, .int p3, .int p4] (mjoin MC (mone o (oV D v0))) MR := by
  have hP := hm.1
  have hn30 := hP.1.1
  have hn10 := hP.2.1
  obtain ⟨fs, hx⟩ : ∃ fs, MC x = some (.inr (4, fs)) := ⟨_, (cV_see hc).2.1⟩
  have hxM := mj_l (N := mone o (oV D v0)) hx
  have hcM := cV_in (M2 := mjoin MC (mone o (oV D v0))) (fun a e h => mj_l h) hc
  by_cases g1 : mIn p0 (nI 1) (nI 4) = true ∧ mIn p1 (nI 0) (((nI 1) <<< (p0 &&& 31)) - (nI 1)) = true ∧ mIn p2 (nI 0) (nI 9) = true ∧ mIn p3 (nI 0) (nI 9) = true
  · obtain ⟨s, hs1, hs4, rfl⟩ := mIn_ex (by decide) (by decide) g1.1
    have h16 := pw_16 (s := s) hs4
    have h17 : 0 < 2 ^ s := Nat.two_pow_pos s
    have g2 := g1.2.1
    rw [rn_shl (by omega), pk_sub (by omega)] at g2
    obtain ⟨st, -, hst, rfl⟩ := mIn_ex (by omega) (by decide) g2
    obtain ⟨v, -, hv, rfl⟩ := mIn_ex (by decide) (by decide) g1.2.2.1
    obtain ⟨e, -, he, rfl⟩ := mIn_ex (by decide) (by decide) g1.2.2.2
    obtain ⟨o9, ho9, rfl⟩ := hb4
    by_cases h30 : nW < 30
    · exact op_ok (nI nW) (h_word l D MC x o _ _ _ _ _ v0 fs _ _ _ _ hx ho (c_word l D MC x P nW nL u s st v e o9 hc h30 hs1 hs4 (by omega) (by omega) (by omega) ho9)) (fun r M' h => ⟨h.1, by first | exact ⟨_, h.2⟩ | exact h.2 | (rw [h.2]; exact ⟨_, hc⟩)⟩) (r_word l D MR mo P nW nL ad F t lo s st v e o9 hm h30 hs1 hs4 (by omega) (by omega) (by omega) ho9) (fun r M' h => ⟨h.1, by first | exact ⟨_, _, _, h.2⟩ | (obtain ⟨F2, lo2, h2⟩ := h.2; exact ⟨_, _, _, h2⟩) | (obtain ⟨F2, h2⟩ := h.2; exact ⟨_, _, _, h2⟩)⟩) ⟨by decide, by decide, by decide⟩ ⟨by decide, by decide, by decide⟩ rfl
    · obtain rfl : nW = 30 := by omega
      exact op_x 2 (by decide) (by decide) (h_word_x2 l D _ x o _ _ _ _ _ fs hxM (t_word2 l D _ hl9 x P nL u s st v e o9 hcM hs1 hs4 (by omega) (by omega) (by omega) ho9)) ho ⟨u, hc⟩ (r_word2 l D MR mo P _ _ ad F t lo s st v e o9 hm rfl hs1 hs4 (by omega) (by omega) (by omega) ho9) (fun r M' h => by first | exact ⟨_, _, _, h⟩ | (obtain ⟨F2, lo2, h2⟩ := h; exact ⟨_, _, _, h2⟩)) ⟨by decide, by decide, by decide⟩ rfl
  · obtain ⟨o9, ho9, rfl⟩ := hb4
    exact op_x 1 (by decide) (by decide) (h_word_x1 l D _ x o _ _ _ _ _ fs hxM (t_word1 l D _ hl9 x _ _ _ _ o9 (fun z => g1 ⟨mIn_in z.1 z.2.1, sh_in z.1 z.2.1 z.2.2.1 z.2.2.2.1, (mIn_bel2 (n := 9) (by decide)).trans z.2.2.2.2.1, (mIn_bel2 (n := 9) (by decide)).trans z.2.2.2.2.2⟩))) ho ⟨u, hc⟩ (r_word1 l D MR mo P _ _ ad F t lo _ _ _ _ _ hm g1) (fun r M' h => by first | exact ⟨_, _, _, h⟩ | (obtain ⟨F2, lo2, h2⟩ := h; exact ⟨_, _, _, h2⟩)) ⟨by decide, by decide, by decide⟩ rfl
