/-! no words, no lines -/
abbrev zP0 : Poem := (fun _ _ => 0, fun _ _ => 0, fun _ _ => 0)
theorem zP0_ok : zOk zP0 0 0 := ⟨⟨Nat.zero_le _, fun w h => absurd h (Nat.not_lt_zero _)⟩, Nat.zero_le _, fun i h => absurd h (Nat.not_lt_zero _)⟩
/-! two poems that agree on a line below its count, and on the first words -/
def zSaw (n : Nat) (P P' : Poem) (i : Nat) : Prop := (∀ f w, w < n → P.1 f w = P'.1 f w) ∧ (∀ f, P.2.1 f i = P'.2.1 f i) ∧ (∀ q, q < zC P i → P.2.2 i q = P'.2.2 i q) ∧ ∀ q, q < zC P i → zR P i q < n
theorem zOL_agw {n : Nat} {P P' : Poem} {i : Nat} (h : zSaw n P P' i) : ∀ j, j ≤ zC P i → zOL P i j = zOL P' i j ∧ zOB P i j = zOB P' i j ∧ zOM P i j = zOM P' i j
  | 0, _ => ⟨rfl, rfl, rfl⟩
  | j + 1, hj => by
    obtain ⟨h1, h2, h3⟩ := zOL_agw h j (by omega)
    have hr : ∀ q, q < zC P i → zR P i q = zR P' i q := h.2.2.1
    have b1 := h.2.2.2 j (by omega)
    have b2 := h.2.2.2 (j - 1) (by omega)
    have hm : zMelt P i j = zMelt P' i j := by
      unfold zMelt
      rw [(zW_agn h.1 b2).2.2.2.1, (zW_agn h.1 b1).2.2.2.2, hr (j - 1) (by omega), hr j (by omega)]
    obtain ⟨w1, w2, -⟩ := zW_agn h.1 b1
    refine ⟨?_, ?_, ?_⟩
    · rw [zOLs, zOLs, h1, hm, w1, hr j (by omega)]
    · rw [zOBs, zOBs, h1, h2, hm, w2, hr j (by omega)]
    · rw [zOMs, zOMs, h3, hm]
theorem zSaw.ln {n : Nat} {P P' : Poem} {i : Nat} (h : zSaw n P P' i) : zM P i = zM P' i ∧ zF P i = zF P' i ∧ zK P i = zK P' i ∧ zC P i = zC P' i ∧ zo P i = zo P' i ∧ zb P i = zb P' i ∧ zOM P i (zC P i) = zOM P' i (zC P' i) ∧ zRm P i = zRm P' i := by
  have h0 : zM P i = zM P' i := h.2.1 0
  have h1 : zF P i = zF P' i := h.2.1 1
  have h2 : zK P i = zK P' i := h.2.1 2
  have h3 : zC P i = zC P' i := h.2.1 3
  obtain ⟨a1, a2, a3⟩ := zOL_agw h (zC P i) (Nat.le_refl _)
  refine ⟨h0, h1, h2, h3, ?_, ?_, ?_, ?_⟩
  · unfold zo; rw [a1, h3]
  · unfold zb; rw [a2, h3]
  · rw [a3, h3]
  · unfold zRm; rw [h0, h1]
theorem zPrew {n : Nat} {P P' : Poem} : ∀ {i : Nat}, (∀ j, j < i → zSaw n P P' j) → zBg P i = zBg P' i ∧ zFl P i = zFl P' i ∧ zSt P i = zSt P' i
  | 0, _ => ⟨rfl, rfl, rfl⟩
  | i + 1, h => by
    obtain ⟨h1, h2, h3⟩ := zPrew (i := i) (fun j hj => h j (by omega))
    obtain ⟨-, -, -, -, e1, e2, -, e3⟩ := (h i (by omega)).ln
    refine ⟨?_, ?_, ?_⟩
    · show zBg P i + zo P i = zBg P' i + zo P' i
      rw [h1, e1]
    · show (zFl P i ||| zb P i * 2 ^ zBg P i) = (zFl P' i ||| zb P' i * 2 ^ zBg P' i)
      rw [h1, h2, e2]
    · show zSt P i + min (zBg P i - zSt P i + zo P i) (zRm P i) = zSt P' i + min (zBg P' i - zSt P' i + zo P' i) (zRm P' i)
      rw [h1, h3, e1, e3]
theorem zRh_agw {n : Nat} {P P' : Poem} {i k : Nat} (hi : zSaw n P P' i) (hk : zSaw n P P' k) : zRh P i k = zRh P' i k := by
  have h1 := hi.ln.2.2.2.1
  have h2 := hk.ln.2.2.2.1
  have h3 : ∀ q, q < zC P i → zR P i q = zR P' i q := hi.2.2.1
  have h4 : ∀ q, q < zC P k → zR P k q = zR P' k q := hk.2.2.1
  unfold zRh
  rw [← h1, ← h2]
  by_cases h0 : zC P i = 0 ∨ zC P k = 0
  · rw [if_pos h0, if_pos h0]
  · rw [if_neg h0, if_neg h0]
    obtain ⟨a1, a2, a3, a4, a5⟩ := zW_agn hi.1 (hi.2.2.2 (zC P i - 1) (by omega))
    obtain ⟨b1, b2, b3, b4, b5⟩ := zW_agn hi.1 (hk.2.2.2 (zC P k - 1) (by omega))
    unfold zRhW
    rw [a1, a2, a3, a4, b1, b2, b3, b4, h3 (zC P i - 1) (by omega), h4 (zC P k - 1) (by omega)]
theorem zScan_agw {n : Nat} {P P' : Poem} {i : Nat} (h : ∀ j, j ≤ i → zSaw n P P' j) : zSt P i = zSt P' i ∧ zCa P i = zCa P' i ∧ zStay P i = zStay P' i ∧ zOv P i = zOv P' i ∧ zBits P i = zBits P' i ∧ zOff P i = zOff P' i ∧ zLack P i = zLack P' i ∧ zPaid P i = zPaid P' i ∧ zTax P i = zTax P' i := by
  obtain ⟨h1, h2, h3⟩ := zPrew (n := n) (i := i) (fun j hj => h j (by omega))
  obtain ⟨-, h5, -⟩ := zPrew (n := n) (i := i + 1) (fun j hj => h j (by omega))
  obtain ⟨m0, m1, m2, m3, e1, e2, -, e3⟩ := (h i (Nat.le_refl _)).ln
  have c1 : zCa P i = zCa P' i := by unfold zCa; rw [h1, h3]
  have c2 : zStay P i = zStay P' i := by unfold zStay; rw [c1, e1, e3]
  have c3 : zOv P i = zOv P' i := by unfold zOv; rw [c1, c2, e1]
  have c4 : zBits P i = zBits P' i := by unfold zBits; rw [h5, h3, c2]
  have c5 : zOff P i = zOff P' i := by unfold zOff; rw [m0, c4, c2]
  have c6 : zLack P i = zLack P' i := by unfold zLack; rw [e3, c2]
  have c7 : zPaid P i = zPaid P' i := by
    have hn : zNear P (zK P i) i = zNear P' (zK P' i) i := by rw [m2]; exact zNear_ag (fun j hj => (h j (by omega)).ln.2.2.1)
    unfold zPaid
    rw [← hn]
    cases hz : zNear P (zK P i) i with
    | none => rfl
    | some k => exact zRh_agw (h i (Nat.le_refl _)) (h k (by have := (zNear_lt hz).1; omega))
  refine ⟨h3, c1, c2, c3, c4, c5, c6, c7, ?_⟩
  unfold zTax
  rw [m3, m1, c4, c5, c6, c7]
theorem lo_agw {n : Nat} {P P' : Poem} {i : Nat} (h : ∀ j, j ≤ i → zSaw n P P' j) (pt : Option Nat) (ro : Nat) : lo P i pt ro = lo P' i pt ro := by
  obtain ⟨a1, a2, a3, a4, a5, a6, a7, a8, a9⟩ := zScan_agw h
  obtain ⟨m0, m1, m2, m3, e1, e2, e4, e3⟩ := (h i (Nat.le_refl _)).ln
  unfold lo
  rw [a1, a2, a3, a4, a5, a6, a7, a8, a9, m0, m1, m2, e1, e2, e4]
theorem cV_saw {D : va_G} {M : rMem} {x : Nat} {P P' : Poem} {nW nL : Nat} {u : Nat → Nat → Nat} (h : cV D M x P nW nL u) (hb : ∀ f w, w < nW → P.1 f w = P'.1 f w) (hs : ∀ i, i < nL → zSaw nW P P' i) (hP : zOk P' nW nL) : cV D M x P' nW nL u := by
  obtain ⟨u1, hu, ⟨hS, hl, f, hf1, hf2, hf3⟩⟩ := h
  obtain ⟨hok, hx, hgw, hgl, hwo, hrow, hcL⟩ := hS
  obtain ⟨q1, q2, -⟩ := zPrew (n := nW) (i := nL) hs
  refine ⟨u1, hu, ⟨hP, hx, hgw, hgl, fun w hw => ?_, fun i hi => ?_, hcL⟩, fun i hi => ?_, f, ?_, hf2, ?_⟩
  · rw [← wo_agn hb hw]
    exact hwo w hw
  · obtain ⟨md, hL⟩ := hrow i hi
    have hc : zC P i = zC P' i := (hs i hi).2.1 3
    rw [← hc]
    exact ⟨md, isL_cg hL (fun j hj => by rw [show zR P i j = zR P' i j from (hs i hi).2.2.1 j hj])⟩
  · have h1 := hl i hi
    have hk : zNear P (zK P i) i = zNear P' (zK P' i) i := by
      rw [show zK P i = zK P' i from (hs i hi).2.1 2]
      exact zNear_ag (fun j hj => (hs j (by omega)).2.1 2)
    unfold lC cpt at h1 ⊢
    rw [← hk, ← lo_agw (fun j hj => hs j (by omega))]
    exact h1
  · rw [← q1]
    exact hf1
  · rw [← q2]
    exact hf3
theorem zDP_ok {P : Poem} {nW nL k w : Nat} (hP : zOk P nW nL) (hk : k < nL) (hw : w < nW) (h8 : zC P k < 8) : zOk (zPut P k (zC P k) w) nW nL := ⟨hP.1, hP.2.1, fun j hj => zPut_ok (hP.2.2 k hk) (hP.2.2 j hj) hw (Nat.le_refl _) h8⟩
theorem zDP_saw {P : Poem} {nW nL k w : Nat} (hP : zOk P nW nL) {i : Nat} (hi : i < nL) : zSaw nW (zDrop (zPut P k (zC P k) w) k) P i := by
  have hc : zC (zDrop (zPut P k (zC P k) w) k) i = zC P i := by
    by_cases h : i = k
    · subst h
      rw [zDrop_c, zPut_a, Nat.add_sub_cancel]
    · exact (zDrop_f _ k 3 i (Or.inr h)).trans (zPut_f P k _ w 3 i (Or.inr h))
  have hr : ∀ q, q < zC P i → (zDrop (zPut P k (zC P k) w) k).2.2 i q = P.2.2 i q := fun q hq => by
    show (if i = k ∧ q = zC P k then w else P.2.2 i q) = P.2.2 i q
    rw [if_neg (fun z => by rw [z.1] at hq; omega)]
  refine ⟨fun _ _ _ => rfl, fun f => ?_, fun q hq => hr q (hc ▸ hq), fun q hq => ?_⟩
  · by_cases hf : f = 3
    · subst hf
      exact hc
    · exact (zDrop_f _ k f i (Or.inl hf)).trans (zPut_f P k _ w f i (Or.inl hf))
  · rw [hc] at hq
    rw [show zR (zDrop (zPut P k (zC P k) w) k) i q = zR P i q from hr q hq]
    exact (hP.2.2 i hi).2.2.2.2.2 q hq
theorem cV_back {D : va_G} {M : rMem} {x : Nat} {P : Poem} {nW nL k w : Nat} {u : Nat → Nat → Nat} (hP : zOk P nW nL) (h : cV D M x (zDrop (zPut P k (zC P k) w) k) nW nL u) : cV D M x P nW nL u := cV_saw h (fun _ _ _ => rfl) (fun _ hi => zDP_saw hP hi) hP
/-! a new word, a new line -/
theorem zUse_new {P : Poem} {nW nL s t v e o i : Nat} (hP : zOk P nW nL) (hi : i < nL) : ∀ j, j ≤ zC P i → zUse (zNewW P nW s t v e o) i nW j = 0
  | 0, _ => rfl
  | j + 1, h => by
    have h1 := zUse_new (s := s) (t := t) (v := v) (e := e) (o := o) hP hi j (by omega)
    have h2 := (hP.2.2 i hi).2.2.2.2.2 j (by omega)
    show zUse (zNewW P nW s t v e o) i nW j + (if zR P i j = nW then 1 else 0) = 0
    rw [h1, if_neg (by omega)]
theorem zUses_new {P : Poem} {nW nL s t v e o : Nat} (hP : zOk P nW nL) : ∀ i, i ≤ nL → zUses (zNewW P nW s t v e o) nW i = 0
  | 0, _ => rfl
  | i + 1, h => by
    have h1 := zUses_new (s := s) (t := t) (v := v) (e := e) (o := o) hP i (by omega)
    have h2 := zUse_new (s := s) (t := t) (v := v) (e := e) (o := o) hP (show i < nL by omega) (zC P i) (Nat.le_refl _)
    show zUses (zNewW P nW s t v e o) nW i + zUse (zNewW P nW s t v e o) i nW (zC P i) = 0
    rw [h1, h2]
theorem zNewL_ca {P : Poem} {nL m f k : Nat} (h : 1 ≤ nL) : zCa (zNewL P nL m f k) nL = zLost P nL := by
  have e := (zScan_ag (P := P) (P' := zNewL P nL m f k) (i := nL - 1) (fun j hj => zNewL_sam P nL m f k (by omega))).2.2.2.1
  have e2 := zCa_succ (zNewL P nL m f k) (nL - 1)
  rw [Nat.sub_add_cancel h] at e2
  unfold zLost
  rw [if_pos (by omega), e2, e]
theorem zNewL_all (P : Poem) (nL m f k : Nat) : zAll (zNewL P nL m f k) (nL + 1) = zAll P nL + f := by
  have h := zNewL_n P nL m f k
  show zAll (zNewL P nL m f k) nL + zTax (zNewL P nL m f k) nL = _
  rw [← zAll_ag (P := P) (P' := zNewL P nL m f k) (i := nL) (fun j hj => zNewL_sam P nL m f k (by omega))]
  unfold zTax
  rw [if_pos h.2.2.2, h.2.1]
theorem zLost_ca {P : Poem} {nL : Nat} (h : 1 ≤ nL) : zLost P nL = zCa P nL := by
  have e2 := zCa_succ P (nL - 1)
  rw [Nat.sub_add_cancel h] at e2
  unfold zLost
  rw [if_pos (by omega), e2]
/-! the word that had best be another one -/
def zGd (P : Poem) (nW nL : Nat) (s : Nat × Int32) : Prop := s.1 ≤ zAll P nL ∧ (s.2 = -1 ∨ ∃ i p, i < nL ∧ p < zC P i ∧ s.2 = nI (10 * i + p) ∧ zTry P i p (zBest P i p nL nW) nL < zAll P nL)
theorem zWi_gd {P : Poem} {nW nL i : Nat} {s : Nat × Int32} (hi : i < nL) (h : zGd P nW nL s) : ∀ p, p ≤ zC P i → zGd P nW nL (zWi P nW nL i s p)
  | 0, _ => h
  | p + 1, hp => by
    have h1 := zWi_gd hi h p (by omega)
    show zGd P nW nL (zWs P nW nL i p (zWi P nW nL i s p))
    unfold zWs
    by_cases hc : zTry P i p (zBest P i p nL nW) nL < (zWi P nW nL i s p).1
    · rw [if_pos hc]
      have h2 := h1.1
      exact ⟨by show zTry P i p (zBest P i p nL nW) nL ≤ _; omega, Or.inr ⟨i, p, hi, by omega, rfl, by omega⟩⟩
    · rw [if_neg hc]
      exact h1
theorem zWo_gd (P : Poem) (nW nL : Nat) : ∀ i, i ≤ nL → zGd P nW nL (zWo P nW nL i)
  | 0, _ => ⟨Nat.le_refl _, Or.inl rfl⟩
  | i + 1, h => zWi_gd (by omega) (zWo_gd P nW nL i (by omega)) (zC P i) (Nat.le_refl _)
/-! bits, place by place -/
theorem bq_tb (x q : Nat) : x / 2 ^ q % 2 = (x.testBit q).toNat := by
  rw [Nat.testBit_eq_decide_div_mod_eq]
  rcases Nat.mod_two_eq_zero_or_one (x / 2 ^ q) with h | h <;> rw [h] <;> rfl
theorem pop_hi {x n : Nat} (hx : x < 2 ^ n) : ∀ d, pop (n + d) x = pop n x
  | 0 => rfl
  | d + 1 => by
    have h1 := pop_hi hx d
    have h2 : x / 2 ^ (n + d) = 0 := Nat.div_eq_of_lt (Nat.lt_of_lt_of_le hx (Nat.pow_le_pow_right (by decide) (by omega)))
    show pop (n + d) x + x / 2 ^ (n + d) % 2 = pop n x
    rw [h1, h2]
    rfl
theorem pop_18 {x n : Nat} (hx : x < 2 ^ n) (hn : n ≤ 18) : pop 18 x = pop n x := by
  have h := pop_hi hx (18 - n)
  rw [show n + (18 - n) = 18 by omega] at h
  exact h
theorem pop_mod (x n : Nat) : ∀ k, k ≤ n → pop k (x % 2 ^ n) = pop k x
  | 0, _ => rfl
  | k + 1, h => by
    have h1 := pop_mod x n k (by omega)
    show pop k (x % 2 ^ n) + x % 2 ^ n / 2 ^ k % 2 = pop k x + x / 2 ^ k % 2
    rw [h1, bq_tb, bq_tb, tb_mod, decide_eq_true (by omega : k < n), Bool.true_and]
theorem zOff_pop {P : Poem} {nW i : Nat} (hi : zLok P nW i) : zOff P i = pop (zStay P i) (zBits P i ^^^ zAsk (zM P i)) := by
  have h18 := zStay_le hi
  unfold zOff zOffM
  rw [pop_18 (Nat.mod_lt _ (Nat.two_pow_pos _)) h18, pop_mod _ _ _ (Nat.le_refl _)]
theorem zBits_pop {P : Poem} {nW i : Nat} (hi : zLok P nW i) : pop 18 (zBits P i) = pop (zStay P i) (zBits P i) := pop_18 (Nat.mod_lt _ (Nat.two_pow_pos _)) (zStay_le hi)
theorem xq_eq {a b q : Nat} (h : a / 2 ^ q % 2 = b / 2 ^ q % 2) : pop (q + 1) (a ^^^ b) = pop q (a ^^^ b) + 0 := by
  rw [bq_tb, bq_tb] at h
  show pop q (a ^^^ b) + (a ^^^ b) / 2 ^ q % 2 = _
  rw [bq_tb, Nat.testBit_xor]
  cases ha : a.testBit q <;> cases hb : b.testBit q <;> rw [ha, hb] at h <;> first | rfl | exact absurd h (by decide)
theorem xq_ne {a b q : Nat} (h : ¬ a / 2 ^ q % 2 = b / 2 ^ q % 2) : pop (q + 1) (a ^^^ b) = pop q (a ^^^ b) + 1 := by
  rw [bq_tb, bq_tb] at h
  show pop q (a ^^^ b) + (a ^^^ b) / 2 ^ q % 2 = _
  rw [bq_tb, Nat.testBit_xor]
  cases ha : a.testBit q <;> cases hb : b.testBit q <;> rw [ha, hb] at h <;> first | rfl | exact absurd rfl h
theorem zAsk_q : ∀ m, m < 4 → ∀ p, p < 18 → (m < 2 → p < 12) → zAsk m / 2 ^ p % 2 = if (m = 0 ∧ p % 2 = 1) ∨ (m = 1 ∧ p % 2 = 0) ∨ (m = 2 ∧ p % 3 = 2) ∨ (m = 3 ∧ p % 3 = 0) then 1 else 0 := by decide +kernel
/-! a quotient is itself -/
theorem dc_1 : ∀ c, c < 41 → ∀ a, a < 50 → ∀ b, b < 10 → FP.dcmp (FP.ddiv (FP.i2d (nI (50 * c + a))) (FP.i2d (nI (b + 1)))) (FP.ddiv (FP.i2d (nI (50 * c + a))) (FP.i2d (nI (b + 1)))) = some .eq := by decide +kernel
theorem dc_n {a b : Nat} (ha : a ≤ 2000) (hb : 0 < b) (hb2 : b ≤ 10) : FP.dcmp (FP.ddiv (FP.i2d (nI a)) (FP.i2d (nI b))) (FP.ddiv (FP.i2d (nI a)) (FP.i2d (nI b))) = some .eq := by
  have h := dc_1 (a / 50) (by omega) (a % 50) (Nat.mod_lt _ (by decide)) (b - 1) (by omega)
  rw [Nat.div_add_mod, Nat.sub_add_cancel hb] at h
  exact h
