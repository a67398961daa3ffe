theorem pv_pos {g : Nat → Nat} {n : Nat} (h : 0 < n) : pv g n = some (g (n - 1)) := by
  obtain ⟨k, rfl⟩ : ∃ k, n = k + 1 := ⟨n - 1, by omega⟩
  rfl
theorem isE_w {M : rMem} {a : Nat} {x : List Value} (h : M a = some (.inr (3, x))) : isE M a := ⟨3, _, _, _, x, h, by decide, rfl, qn21⟩
theorem isE_l {M : rMem} {a : Nat} {x : List Value} (h : M a = some (.inr (2, x))) : isE M a := ⟨2, _, _, _, x, h, by decide, rfl, qn22⟩
def zUse (P : Poem) (i w : Nat) : Nat → Nat
  | 0 => 0
  | j + 1 => zUse P i w j + if zR P i j = w then 1 else 0
theorem zUse_le (P : Poem) (i w : Nat) : ∀ j, zUse P i w j ≤ j
  | 0 => Nat.le_refl _
  | j + 1 => by
    have := zUse_le P i w j
    show zUse P i w j + (if zR P i j = w then 1 else 0) ≤ j + 1
    split <;> omega
set_option maxHeartbeats 4000000 in
set_option maxRecDepth 100000 in
theorem c_last (l : Launch) (D : va_G) (M : rMem) (la : Nat) (x0 x1 x2 : Int32) (pt : Option Nat) (ro : Nat) (x5 : Int64) (x6 x7 x8 x9 x10 x11 : Int32) (x12 : Int64) (x13 x14 x15 x16 : Int32) (md : Int32) (bk : Nat) (g : Nat → Nat) (P : Poem) (i : Nat) (hm : M la = some (.inr (2, [.int (x0), .int (x1), .int (x2), va_rf (pt), .ref (ro), .long (x5), .int (x6), .int (x7), .int (x8), .int (x9), .int (x10), .int (x11), .long (x12), .int (x13), .int (x14), .int (x15), .int (x16)]))) (hL : isL D M ro md bk (zC P i) g) (hw : ∀ j, j < zC P i → M (g j) = some (.inr (3, wo P (zR P i j)))) (hc : zC P i ≤ 8) : CMq l D yX1_lastWord cX1_lastWord 2 ((some (.object "RhymeTax$Word"))) 4 0 0 M [.ref (la)] (fun r M' => r = pv g (zC P i) ∧ M' = M) := by
  refine rM (lv0 := [some (.ref (la)), none]) (by decide) rfl rfl (Nat.le_of_ble_eq_true rfl) (fun P0 E0 S0 m0 as0 bl0 mt0 c0 A F hrt9 hnm => ?_)
  refine rg_aload_n F (pc := 0) dX1_lastWord_0 rfl ?_
  refine rg_get F (pc := 1) (ci := 2) rfl inX1 hm 4 (by decide) q20 (fun _ h9 => h9) rfl dX1_lastWord_1 ?_
  refine rg_callVi F (pc := 4) (As := []) (rest := []) (ci := 0) (c_size l D _ ro md bk (zC P i) hL.1) q40 vq_Jx4a65c_size_8abf5 rfl hL.1 rfl rfl (Nat.le_of_ble_eq_true rfl) (Nat.le_of_ble_eq_true rfl) (Nat.le_of_ble_eq_true rfl) ⟨(Nat.le_of_ble_eq_true rfl), (Nat.le_of_ble_eq_true rfl)⟩ dX1_lastWord_4 (fun r9 M9 hp => ?_)
  refine rg_top (v2 := .int (nI (zC P i))) (by first | (rw [hp.1]; done) | (rw [hp.1]; rfl)) ?_
  refine rg_mem (M2 := M) hp.2 ?_
  refine rg_istore_n F (pc := 7) (lv' := [some (.ref (la)), some (.int (nI (zC P i)))]) dX1_lastWord_7 (Nat.le_of_ble_eq_true rfl) rfl ?_
  refine rg_iload_n F (pc := 8) dX1_lastWord_8 rfl ?_
  refine rg_nif_le F (pc := 9) (tgt := 28) dX1_lastWord_9 (by decide) (by omega) (fun c9 => ?_) (fun c9 => ?_)
  · refine rg_null F (pc := 28) dX1_lastWord_28 ?_
    exact rg_aret F (pc := 29) none rfl hrt9 (Or.inl ⟨_, rfl⟩) (by decide) (by decide) dX1_lastWord_29 ⟨by rw [c9]; rfl, rfl⟩
  · refine rg_aload_n F (pc := 12) dX1_lastWord_12 rfl ?_
    refine rg_get F (pc := 13) (ci := 2) rfl inX1 hm 4 (by decide) q20 (fun _ h9 => h9) rfl dX1_lastWord_13 ?_
    refine rg_iload_n F (pc := 16) dX1_lastWord_16 rfl ?_
    refine rg_iconst F (pc := 17) (v := nI 1) dX1_lastWord_17 (by decide) ?_
    refine rg_isub F (pc := 18) (v := nI ((zC P i) - 1)) dX1_lastWord_18 (pk_sub (by omega)) ?_
    refine rg_callVq F (pc := 19) (As := [.int (nI ((zC P i) - 1))]) (rest := []) (ci := 0) (c_lget l D _ ro md bk (zC P i) g ((zC P i) - 1) hL (by omega)) q44 vq_Jx4a65c_get_915e3 rfl hL.1 rfl rfl (Nat.le_of_ble_eq_true rfl) (Nat.le_of_ble_eq_true rfl) (Nat.le_of_ble_eq_true rfl) ⟨(Nat.le_of_ble_eq_true rfl), (Nat.le_of_ble_eq_true rfl)⟩ dX1_lastWord_19 (fun r9 M9 hp => ?_)
    refine rg_top (v2 := .ref (g ((zC P i) - 1))) (by rw [hp.1]; rfl) ?_
    refine rg_mem (M2 := M) hp.2 ?_
    refine rg_cast F (pc := 22) (ci := 3) rfl (hw ((zC P i) - 1) (by omega)) q39 dX1_lastWord_22 ?_
    refine rg_goto F (pc := 25) (tgt := 29) dX1_lastWord_25 (by decide) ?_
    exact rg_aret F (pc := 29) (some (g ((zC P i) - 1))) rfl hrt9 (Or.inl ⟨_, rfl⟩) (by decide) (by decide) dX1_lastWord_29 ⟨(pv_pos c9).symm, rfl⟩
set_option maxHeartbeats 4000000 in
set_option maxRecDepth 100000 in
theorem c_usesL (l : Launch) (D : va_G) (M : rMem) (la : Nat) (x0 x1 x2 : Int32) (pt : Option Nat) (ro : Nat) (x5 : Int64) (x6 x7 x8 x9 x10 x11 : Int32) (x12 : Int64) (x13 x14 x15 x16 : Int32) (md : Int32) (bk : Nat) (g : Nat → Nat) (P : Poem) (i wa w : Nat) (hm : M la = some (.inr (2, [.int (x0), .int (x1), .int (x2), va_rf (pt), .ref (ro), .long (x5), .int (x6), .int (x7), .int (x8), .int (x9), .int (x10), .int (x11), .long (x12), .int (x13), .int (x14), .int (x15), .int (x16)]))) (hL : isL D M ro md bk (zC P i) g) (hw : ∀ j, j < zC P i → M (g j) = some (.inr (3, wo P (zR P i j)))) (hc : zC P i ≤ 8) (hr : ∀ j, j < zC P i → zR P i j < 30) (hwa : M wa = some (.inr (3, wo P w))) (hwn : w < 30) : CMi l D yX1_usesOf cX1_usesOf 4 ((some .int)) 4 0 0 M [.ref (la), .ref (wa)] (fun r M' => r = nI (zUse P i w (zC P i)) ∧ M' = M) := by
  refine rM (lv0 := [some (.ref (la)), some (.ref (wa)), none, none]) (by decide) rfl rfl (Nat.le_of_ble_eq_true rfl) (fun P0 E0 S0 m0 as0 bl0 mt0 c0 A F hrt9 hnm => ?_)
  refine rg_iconst F (pc := 0) (v := nI 0) dX1_usesOf_0 (by decide) ?_
  refine rg_istore_n F (pc := 1) (lv' := [some (.ref (la)), some (.ref (wa)), some (.int (nI 0)), none]) dX1_usesOf_1 (Nat.le_of_ble_eq_true rfl) rfl ?_
  refine rg_iconst F (pc := 2) (v := nI 0) dX1_usesOf_2 (by decide) ?_
  refine rg_istore_n F (pc := 3) (lv' := [some (.ref (la)), some (.ref (wa)), some (.int (nI 0)), some (.int (nI 0))]) dX1_usesOf_3 (Nat.le_of_ble_eq_true rfl) rfl ?_
  suffices L0 : ∀ (d9 : Nat) (j : Nat), zC P i - j < d9 → (j ≤ zC P i) → rG P0 l E0 (rR 4 0 0) S0 m0 as0 bl0 mt0 c0 D A 4 (MQ bl0 (va_Qi (fun r M' => r = nI (zUse P i w (zC P i)) ∧ M' = M) (cB D A) A) as0 S0 0 0 A) M 0 0 [some (.ref (la)), some (.ref (wa)), some (.int (nI (zUse P i w j))), some (.int (nI j))] 4 [] from L0 _ 0 (Nat.lt_succ_self _) (Nat.zero_le _)
  intro d9
  induction d9 with
  | zero => intro j hd9; exact absurd hd9 (Nat.not_lt_zero _)
  | succ d9 ih =>
    intro j hd9 hj
    refine rg_iload_n F (pc := 4) dX1_usesOf_4 rfl ?_
    refine rg_aload_n F (pc := 5) dX1_usesOf_5 rfl ?_
    refine rg_get F (pc := 6) (ci := 2) rfl inX1 hm 4 (by decide) q20 (fun _ h9 => h9) rfl dX1_usesOf_6 ?_
    refine rg_callVi F (pc := 9) (As := []) (rest := [.int (nI j)]) (ci := 0) (c_size l D _ ro md bk (zC P i) hL.1) q40 vq_Jx4a65c_size_8abf5 rfl hL.1 rfl rfl (Nat.le_of_ble_eq_true rfl) (Nat.le_of_ble_eq_true rfl) (Nat.le_of_ble_eq_true rfl) ⟨(Nat.le_of_ble_eq_true rfl), (Nat.le_of_ble_eq_true rfl)⟩ dX1_usesOf_9 (fun r9 M9 hp => ?_)
    refine rg_top (v2 := .int (nI (zC P i))) (by first | (rw [hp.1]; done) | (rw [hp.1]; rfl)) ?_
    refine rg_mem (M2 := M) hp.2 ?_
    refine rg_ncmp_ge F (pc := 12) (tgt := 45) dX1_usesOf_12 (by decide) (by omega) (by omega) (fun c12 => ?_) (fun c12 => ?_)
    · refine rg_iload_n F (pc := 45) dX1_usesOf_45 rfl ?_
      have e9 : j = zC P i := by omega
      exact rg_iret F (pc := 46) hrt9 (by decide) (by decide) dX1_usesOf_46 ⟨by rw [← e9], rfl⟩
    · refine rg_aload_n F (pc := 15) dX1_usesOf_15 rfl ?_
      refine rg_get F (pc := 16) (ci := 2) rfl inX1 hm 4 (by decide) q20 (fun _ h9 => h9) rfl dX1_usesOf_16 ?_
      refine rg_iload_n F (pc := 19) dX1_usesOf_19 rfl ?_
      refine rg_callVq F (pc := 20) (As := [.int (nI j)]) (rest := []) (ci := 0) (c_lget l D _ ro md bk (zC P i) g j hL (by omega)) q44 vq_Jx4a65c_get_915e3 rfl hL.1 rfl rfl (Nat.le_of_ble_eq_true rfl) (Nat.le_of_ble_eq_true rfl) (Nat.le_of_ble_eq_true rfl) ⟨(Nat.le_of_ble_eq_true rfl), (Nat.le_of_ble_eq_true rfl)⟩ dX1_usesOf_20 (fun r9 M9 hp => ?_)
      refine rg_top (v2 := .ref (g j)) (by rw [hp.1]; rfl) ?_
      refine rg_mem (M2 := M) hp.2 ?_
      refine rg_cast F (pc := 23) (ci := 3) rfl (hw j (by omega)) q39 dX1_usesOf_23 ?_
      refine rg_get F (pc := 26) (ci := 3) rfl inX2 (hw j (by omega)) 0 (by decide) q57 (fun _ h9 => h9) rfl dX1_usesOf_26 ?_
      refine rg_aload_n F (pc := 29) dX1_usesOf_29 rfl ?_
      refine rg_get F (pc := 30) (ci := 3) rfl inX2 hwa 0 (by decide) q57 (fun _ h9 => h9) rfl dX1_usesOf_30 ?_
      refine rg_ncmp_ne F (pc := 33) (tgt := 39) dX1_usesOf_33 (by decide) (by have := hr j (by omega); omega) (by omega) (fun c33 => ?_) (fun c33 => ?_)
      · have e8 : zUse P i w (j + 1) = zUse P i w j := by show zUse P i w j + (if zR P i j = w then 1 else 0) = _; rw [if_neg c33]; rfl
        refine rg_eq (lv2 := [some (.ref (la)), some (.ref (wa)), some (.int (nI (zUse P i w (j + 1)))), some (.int (nI j))]) (st2 := []) (pc2 := 39) (by rw [e8]) rfl rfl ?_
        refine rg_iinc F (pc := 39) (v := nI (j + 1)) (lv' := [some (.ref (la)), some (.ref (wa)), some (.int (nI (zUse P i w (j + 1)))), some (.int (nI (j + 1)))]) dX1_usesOf_39 rfl (nI_add _ 1) (Nat.le_of_ble_eq_true rfl) rfl ?_
        refine rg_goto F (pc := 42) (tgt := 4) dX1_usesOf_42 (by decide) ?_
        exact ih (j + 1) (by omega) (by omega)
      · refine rg_iinc F (pc := 36) (v := nI (zUse P i w j + 1)) (lv' := [some (.ref (la)), some (.ref (wa)), some (.int (nI (zUse P i w j + 1))), some (.int (nI j))]) dX1_usesOf_36 rfl (nI_add _ 1) (Nat.le_of_ble_eq_true rfl) rfl ?_
        have e8 : zUse P i w (j + 1) = zUse P i w j + 1 := by show zUse P i w j + (if zR P i j = w then 1 else 0) = _; rw [if_pos c33]
        refine rg_eq (lv2 := [some (.ref (la)), some (.ref (wa)), some (.int (nI (zUse P i w (j + 1)))), some (.int (nI j))]) (st2 := []) (pc2 := 39) (by rw [e8]) rfl rfl ?_
        refine rg_iinc F (pc := 39) (v := nI (j + 1)) (lv' := [some (.ref (la)), some (.ref (wa)), some (.int (nI (zUse P i w (j + 1)))), some (.int (nI (j + 1)))]) dX1_usesOf_39 rfl (nI_add _ 1) (Nat.le_of_ble_eq_true rfl) rfl ?_
        refine rg_goto F (pc := 42) (tgt := 4) dX1_usesOf_42 (by decide) ?_
        exact ih (j + 1) (by omega) (by omega)
def zPut (P : Poem) (i p w : Nat) : Poem := (P.1, fun f k => if f = 3 ∧ k = i ∧ p = P.2.1 3 i then p + 1 else P.2.1 f k, fun k j => if k = i ∧ j = p then w else P.2.2 k j)
def zDrop (P : Poem) (i : Nat) : Poem := (P.1, fun f k => if f = 3 ∧ k = i then P.2.1 3 i - 1 else P.2.1 f k, P.2.2)
theorem zPut_a (P : Poem) (i w : Nat) : zC (zPut P i (zC P i) w) i = zC P i + 1 := if_pos ⟨rfl, rfl, rfl⟩
theorem zPut_b {P : Poem} {i p w : Nat} (h : p < zC P i) : zC (zPut P i p w) i = zC P i := if_neg (fun z => by have h2 : p = zC P i := z.2.2; omega)
theorem zPut_r (P : Poem) (i p w j : Nat) : zR (zPut P i p w) i j = if j = p then w else zR P i j := by
  unfold zR zPut
  by_cases h : j = p <;> simp [h]
theorem zPut_f (P : Poem) (i p w f k : Nat) (h : f ≠ 3 ∨ k ≠ i) : (zPut P i p w).2.1 f k = P.2.1 f k := if_neg (fun z => by rcases h with h | h; exact h z.1; exact h z.2.1)
theorem zPut_o (P : Poem) (i p w k j : Nat) (h : k ≠ i) : zR (zPut P i p w) k j = zR P k j := if_neg (fun z => h z.1)
theorem zPut_ok {P : Poem} {nW i p w k : Nat} (hi : zLok P nW i) (hk : zLok P nW k) (hw : w < nW) (hp : p ≤ zC P i) (hp8 : p < 8) : zLok (zPut P i p w) nW k := by
  refine ⟨?_, ?_, ?_, ?_, ?_, ?_⟩
  · show (zPut P i p w).2.1 0 k < 4
    rw [zPut_f _ _ _ _ _ _ (Or.inl (by decide))]; exact hk.1
  · show 1 ≤ (zPut P i p w).2.1 1 k
    rw [zPut_f _ _ _ _ _ _ (Or.inl (by decide))]; exact hk.2.1
  · show (zPut P i p w).2.1 1 k ≤ 6
    rw [zPut_f _ _ _ _ _ _ (Or.inl (by decide))]; exact hk.2.2.1
  · show (zPut P i p w).2.1 2 k < 6
    rw [zPut_f _ _ _ _ _ _ (Or.inl (by decide))]; exact hk.2.2.2.1
  · show (zPut P i p w).2.1 3 k ≤ 8
    unfold zPut
    dsimp only
    split
    · omega
    · exact hk.2.2.2.2.1
  · intro j hj
    by_cases hki : k = i
    · subst hki
      rw [zPut_r]
      split
      · exact hw
      · refine hi.2.2.2.2.2 j ?_
        by_cases e : p = zC P k
        · subst e
          rw [zPut_a] at hj
          omega
        · rw [zPut_b (by omega)] at hj
          exact hj
    · rw [zPut_o _ _ _ _ _ _ hki]
      have e : zC (zPut P i p w) k = zC P k := zPut_f _ _ _ _ _ _ (Or.inr hki)
      rw [e] at hj
      exact hk.2.2.2.2.2 j hj
theorem zDrop_c (P : Poem) (i : Nat) : zC (zDrop P i) i = zC P i - 1 := if_pos ⟨rfl, rfl⟩
theorem zDrop_f (P : Poem) (i f k : Nat) (h : f ≠ 3 ∨ k ≠ i) : (zDrop P i).2.1 f k = P.2.1 f k := if_neg (fun z => by rcases h with h | h; exact h z.1; exact h z.2)
theorem zDrop_ok {P : Poem} {nW i k : Nat} (hk : zLok P nW k) : zLok (zDrop P i) nW k := by
  refine ⟨?_, ?_, ?_, ?_, ?_, ?_⟩
  · show (zDrop P i).2.1 0 k < 4
    rw [zDrop_f _ _ _ _ (Or.inl (by decide))]; exact hk.1
  · show 1 ≤ (zDrop P i).2.1 1 k
    rw [zDrop_f _ _ _ _ (Or.inl (by decide))]; exact hk.2.1
  · show (zDrop P i).2.1 1 k ≤ 6
    rw [zDrop_f _ _ _ _ (Or.inl (by decide))]; exact hk.2.2.1
  · show (zDrop P i).2.1 2 k < 6
    rw [zDrop_f _ _ _ _ (Or.inl (by decide))]; exact hk.2.2.2.1
  · show (zDrop P i).2.1 3 k ≤ 8
    unfold zDrop
    dsimp only
    split
    · rename_i h
      have := hk.2.2.2.2.1
      rw [h.2] at this
      unfold zC at this
      omega
    · exact hk.2.2.2.2.1
  · intro j hj
    have h1 : j < zC P k := by
      unfold zC zDrop at hj
      dsimp only at hj
      split at hj
      · rename_i h
        rw [h.2]
        unfold zC
        omega
      · exact hj
    exact hk.2.2.2.2.2 j h1
set_option maxHeartbeats 4000000 in
set_option maxRecDepth 100000 in
theorem c_putA (l : Launch) (D : va_G) (M : rMem) (la : Nat) (x0 x1 x2 : Int32) (pt : Option Nat) (ro : Nat) (x5 : Int64) (x6 x7 x8 x9 x10 x11 : Int32) (x12 : Int64) (x13 x14 x15 x16 : Int32) (md : Int32) (bk : Nat) (g : Nat → Nat) (P : Poem) (nW i w v : Nat) (hm : M la = some (.inr (2, [.int (x0), .int (x1), .int (x2), va_rf (pt), .ref (ro), .long (x5), .int (x6), .int (x7), .int (x8), .int (x9), .int (x10), .int (x11), .long (x12), .int (x13), .int (x14), .int (x15), .int (x16)]))) (hL : isL D M ro md bk (zC P i) g) (hw : ∀ j, j < zC P i → M (g j) = some (.inr (3, wo P (zR P i j)))) (hW : zWok P nW) (hi : zLok P nW i) (hwn : w < nW) (hv : M v = some (.inr (3, wo P w))) (h8 : zC P i < 8) : CMv l D yX1_addWord cX1_addWord 2 8 1 100 M [.ref (la), .ref (v)] (fun M' => ∃ M1, lCh D M M1 ro bk (zC (zPut P i (zC P i) w) i) (va_up g (zC P i) v) ∧ M' = mset M1 la (.inr (2, [.int (x0), .int (x1), .int (x2), va_rf (pt), .ref (ro), .long (lN (zb (zPut P i (zC P i) w) i)), .int (nI (zo (zPut P i (zC P i) w) i)), .int (nI (zOM (zPut P i (zC P i) w) i (zC (zPut P i (zC P i) w) i))), .int (x8), .int (x9), .int (x10), .int (x11), .long (x12), .int (x13), .int (x14), .int (x15), .int (x16)]))) := by
  refine rM (lv0 := [some (.ref (la)), some (.ref (v))]) (by decide) rfl rfl (Nat.le_of_ble_eq_true rfl) (fun P0 E0 S0 m0 as0 bl0 mt0 c0 A F hrt9 hnm => ?_)
  refine rg_aload_n F (pc := 0) dX1_addWord_0 rfl ?_
  refine rg_get F (pc := 1) (ci := 2) rfl inX1 hm 4 (by decide) q20 (fun _ h9 => h9) rfl dX1_addWord_1 ?_
  refine rg_aload_n F (pc := 4) dX1_addWord_4 rfl ?_
  refine rg_callVi F (pc := 5) (As := [.ref (v)]) (rest := []) (ci := 0) (c_ladd l D _ ro md bk (zC P i) g v hL (by omega) (fun j hj => isE_w (hw j hj)) (isE_w hv)) q121 vq_Jx4a65c_add_9ea2d rfl hL.1 rfl rfl (Nat.le_of_ble_eq_true rfl) (Nat.le_of_ble_eq_true rfl) (Nat.le_of_ble_eq_true rfl) ⟨(Nat.le_of_ble_eq_true rfl), (Nat.le_of_ble_eq_true rfl)⟩ dX1_addWord_5 (fun r1 M1 hp => ?_)
  refine rg_widen (k2 := 1) (n2 := 100) (by decide) (by decide) ?_
  obtain ⟨hr9, ⟨md2, bk2, hL2, hb2⟩, hob, har⟩ := hp
  have hm2 := hob la _ hm (mne_ci hm hL.1 (by decide))
  refine rg_pop F (pc := 8) dX1_addWord_8 rfl ?_
  have hi3 : zLok (zPut P i (zC P i) w) nW i := zPut_ok hi hi hwn (Nat.le_refl _) h8
  have hL3 : isL D M1 ro md2 bk2 (zC (zPut P i (zC P i) w) i) (va_up g (zC P i) v) := by rw [zPut_a]; exact hL2
  have hw3 : ∀ j, j < zC (zPut P i (zC P i) w) i → M1 (va_up g (zC P i) v j) = some (.inr (3, wo (zPut P i (zC P i) w) (zR (zPut P i (zC P i) w) i j))) := fun j hj => by rw [zPut_r]; unfold va_up; by_cases e : j = zC P i <;> simp only [e, if_true, if_false]; exact hob v _ hv (mne_ci hv hL.1 (by decide)); exact hob _ _ (hw j (by rw [zPut_a] at hj; omega)) (mne_ci (hw j (by rw [zPut_a] at hj; omega)) hL.1 (by decide))
  refine rg_aload_n F (pc := 9) dX1_addWord_9 rfl ?_
  refine rg_callVv F (pc := 10) (As := []) (rest := []) (ci := 2) (c_join l D _ la x0 x1 x2 pt ro x5 x6 x7 x8 x9 x10 x11 x12 x13 x14 x15 x16 md2 bk2 (va_up g (zC P i) v) (zPut P i (zC P i) w) nW i hm2 hL3 hw3 hW hi3) q124 vq_X1_joinWords rfl hm2 rfl rfl (Nat.le_of_ble_eq_true rfl) (Nat.le_of_ble_eq_true rfl) (Nat.le_of_ble_eq_true rfl) ⟨(Nat.le_of_ble_eq_true rfl), (Nat.le_of_ble_eq_true rfl)⟩ dX1_addWord_10 (fun M9 hp => ?_)
  refine rg_mem (M2 := (mset M1 la (.inr (2, [.int (x0), .int (x1), .int (x2), va_rf (pt), .ref (ro), .long (lN (zb (zPut P i (zC P i) w) i)), .int (nI (zo (zPut P i (zC P i) w) i)), .int (nI (zOM (zPut P i (zC P i) w) i (zC (zPut P i (zC P i) w) i))), .int (x8), .int (x9), .int (x10), .int (x11), .long (x12), .int (x13), .int (x14), .int (x15), .int (x16)])))) hp ?_
  exact rg_vret F (pc := 13) hrt9 (by decide) (by decide) dX1_addWord_13 ⟨M1, ⟨⟨md2, bk2, hL3, hb2⟩, hob, har⟩, rfl⟩
set_option maxHeartbeats 4000000 in
set_option maxRecDepth 100000 in
theorem c_putB (l : Launch) (D : va_G) (M : rMem) (la : Nat) (x0 x1 x2 : Int32) (pt : Option Nat) (ro : Nat) (x5 : Int64) (x6 x7 x8 x9 x10 x11 : Int32) (x12 : Int64) (x13 x14 x15 x16 : Int32) (md : Int32) (bk : Nat) (g : Nat → Nat) (P : Poem) (nW i p w v : Nat) (hm : M la = some (.inr (2, [.int (x0), .int (x1), .int (x2), va_rf (pt), .ref (ro), .long (x5), .int (x6), .int (x7), .int (x8), .int (x9), .int (x10), .int (x11), .long (x12), .int (x13), .int (x14), .int (x15), .int (x16)]))) (hL : isL D M ro md bk (zC P i) g) (hw : ∀ j, j < zC P i → M (g j) = some (.inr (3, wo P (zR P i j)))) (hW : zWok P nW) (hi : zLok P nW i) (hwn : w < nW) (hv : M v = some (.inr (3, wo P w))) (hp9 : p < zC P i) : CMv l D yX1_replaceWord cX1_replaceWord 3 5 0 0 M [.ref (la), .int (nI p), .ref (v)] (fun M' => ∃ M1, lCh D M M1 ro bk (zC (zPut P i p w) i) (va_up g p v) ∧ M' = mset M1 la (.inr (2, [.int (x0), .int (x1), .int (x2), va_rf (pt), .ref (ro), .long (lN (zb (zPut P i p w) i)), .int (nI (zo (zPut P i p w) i)), .int (nI (zOM (zPut P i p w) i (zC (zPut P i p w) i))), .int (x8), .int (x9), .int (x10), .int (x11), .long (x12), .int (x13), .int (x14), .int (x15), .int (x16)]))) := by
  refine rM (lv0 := [some (.ref (la)), some (.int (nI p)), some (.ref (v))]) (by decide) rfl rfl (Nat.le_of_ble_eq_true rfl) (fun P0 E0 S0 m0 as0 bl0 mt0 c0 A F hrt9 hnm => ?_)
  refine rg_iload_n F (pc := 0) dX1_replaceWord_0 rfl ?_
  refine rg_aload_n F (pc := 1) dX1_replaceWord_1 rfl ?_
  refine rg_get F (pc := 2) (ci := 2) rfl inX1 hm 4 (by decide) q20 (fun _ h9 => h9) rfl dX1_replaceWord_2 ?_
  refine rg_callVi F (pc := 5) (As := []) (rest := [.int (nI p)]) (ci := 0) (c_size l D _ ro md bk (zC P i) hL.1) q40 vq_Jx4a65c_size_8abf5 rfl hL.1 rfl rfl (Nat.le_of_ble_eq_true rfl) (Nat.le_of_ble_eq_true rfl) (Nat.le_of_ble_eq_true rfl) ⟨(Nat.le_of_ble_eq_true rfl), (Nat.le_of_ble_eq_true rfl)⟩ dX1_replaceWord_5 (fun r9 M9 hp => ?_)
  refine rg_top (v2 := .int (nI (zC P i))) (by first | (rw [hp.1]; done) | (rw [hp.1]; rfl)) ?_
  refine rg_mem (M2 := M) hp.2 ?_
  refine rg_callNi F (pc := 8) (As := [.int (nI p), .int (nI (zC P i))]) (rest := []) (c_isBelow l D _ (nI p) (zC P i) (by have := hi.2.2.2.2.1; omega)) qn14 sq_X3_isBelow rfl rfl (Nat.le_of_ble_eq_true rfl) (Nat.le_of_ble_eq_true rfl) (Nat.le_of_ble_eq_true rfl) ⟨(Nat.le_of_ble_eq_true rfl), (Nat.le_of_ble_eq_true rfl)⟩ dX1_replaceWord_8 (fun r9 M9 hp => ?_)
  refine rg_top (v2 := .int (nI (rBel (nI p) (zC P i)).toNat)) (by first | (rw [hp.1]; done) | (rw [hp.1]; rfl)) ?_
  refine rg_mem (M2 := M) hp.2 ?_
  refine rg_bif_eq F (pc := 11) (tgt := 24) dX1_replaceWord_11 (by decide) (fun c11 => absurd c11 (by rw [rBel_nI (by have := hi.2.2.2.2.1; omega), decide_eq_true hp9]; decide)) (fun c11 => ?_)
  refine rg_aload_n F (pc := 14) dX1_replaceWord_14 rfl ?_
  refine rg_get F (pc := 15) (ci := 2) rfl inX1 hm 4 (by decide) q20 (fun _ h9 => h9) rfl dX1_replaceWord_15 ?_
  refine rg_iload_n F (pc := 18) dX1_replaceWord_18 rfl ?_
  refine rg_aload_n F (pc := 19) dX1_replaceWord_19 rfl ?_
  refine rg_callVq F (pc := 20) (As := [.int (nI p), .ref (v)]) (rest := []) (ci := 0) (c_lset2 l D _ ro md bk (zC P i) g p v hL hp9 (isE_w hv)) q133 vq_Jx4a65c_set_bcc79 rfl hL.1 rfl rfl (Nat.le_of_ble_eq_true rfl) (Nat.le_of_ble_eq_true rfl) (Nat.le_of_ble_eq_true rfl) ⟨(Nat.le_of_ble_eq_true rfl), (Nat.le_of_ble_eq_true rfl)⟩ dX1_replaceWord_20 (fun r9 M1 hp => ?_)
  obtain ⟨hr9, ⟨md2, bk2, hL2, hb2⟩, hob, har⟩ := hp
  refine rg_top (v2 := .ref (g p)) (by rw [hr9]; rfl) ?_
  have hm2 := hob la _ hm (mne_ci hm hL.1 (by decide))
  refine rg_pop F (pc := 23) dX1_replaceWord_23 rfl ?_
  have hi3 : zLok (zPut P i p w) nW i := zPut_ok hi hi hwn (by omega) (by have := hi.2.2.2.2.1; omega)
  have hL3 : isL D M1 ro md2 bk2 (zC (zPut P i p w) i) (va_up g p v) := by rw [zPut_b hp9]; exact hL2
  have hw3 : ∀ j, j < zC (zPut P i p w) i → M1 (va_up g p v j) = some (.inr (3, wo (zPut P i p w) (zR (zPut P i p w) i j))) := fun j hj => by rw [zPut_r]; rw [zPut_b hp9] at hj; unfold va_up; by_cases e : j = p <;> simp only [e, if_true, if_false]; exact hob v _ hv (mne_ci hv hL.1 (by decide)); exact hob _ _ (hw j hj) (mne_ci (hw j hj) hL.1 (by decide))
  refine rg_aload_n F (pc := 24) dX1_replaceWord_24 rfl ?_
  refine rg_callVv F (pc := 25) (As := []) (rest := []) (ci := 2) (c_join l D _ la x0 x1 x2 pt ro x5 x6 x7 x8 x9 x10 x11 x12 x13 x14 x15 x16 md2 bk2 (va_up g p v) (zPut P i p w) nW i hm2 hL3 hw3 hW hi3) q124 vq_X1_joinWords rfl hm2 rfl rfl (Nat.le_of_ble_eq_true rfl) (Nat.le_of_ble_eq_true rfl) (Nat.le_of_ble_eq_true rfl) ⟨(Nat.le_of_ble_eq_true rfl), (Nat.le_of_ble_eq_true rfl)⟩ dX1_replaceWord_25 (fun M9 hp => ?_)
  refine rg_mem (M2 := (mset M1 la (.inr (2, [.int (x0), .int (x1), .int (x2), va_rf (pt), .ref (ro), .long (lN (zb (zPut P i p w) i)), .int (nI (zo (zPut P i p w) i)), .int (nI (zOM (zPut P i p w) i (zC (zPut P i p w) i))), .int (x8), .int (x9), .int (x10), .int (x11), .long (x12), .int (x13), .int (x14), .int (x15), .int (x16)])))) hp ?_
  exact rg_vret F (pc := 28) hrt9 (by decide) (by decide) dX1_replaceWord_28 ⟨M1, ⟨⟨md2, bk2, hL3, hb2⟩, hob, har⟩, rfl⟩
set_option maxHeartbeats 4000000 in
set_option maxRecDepth 100000 in
theorem c_drop (l : Launch) (D : va_G) (M : rMem) (la : Nat) (x0 x1 x2 : Int32) (pt : Option Nat) (ro : Nat) (x5 : Int64) (x6 x7 x8 x9 x10 x11 : Int32) (x12 : Int64) (x13 x14 x15 x16 : Int32) (md : Int32) (bk : Nat) (g : Nat → Nat) (P : Poem) (nW i : Nat) (hm : M la = some (.inr (2, [.int (x0), .int (x1), .int (x2), va_rf (pt), .ref (ro), .long (x5), .int (x6), .int (x7), .int (x8), .int (x9), .int (x10), .int (x11), .long (x12), .int (x13), .int (x14), .int (x15), .int (x16)]))) (hL : isL D M ro md bk (zC P i) g) (hw : ∀ j, j < zC P i → M (g j) = some (.inr (3, wo P (zR P i j)))) (hW : zWok P nW) (hi : zLok P nW i) (h0 : 0 < zC P i) : CMv l D yX1_dropLast cX1_dropLast 2 5 0 0 M [.ref (la)] (fun M' => ∃ M1, lCh D M M1 ro bk (zC (zDrop P i) i) g ∧ M' = mset M1 la (.inr (2, [.int (x0), .int (x1), .int (x2), va_rf (pt), .ref (ro), .long (lN (zb (zDrop P i) i)), .int (nI (zo (zDrop P i) i)), .int (nI (zOM (zDrop P i) i (zC (zDrop P i) i))), .int (x8), .int (x9), .int (x10), .int (x11), .long (x12), .int (x13), .int (x14), .int (x15), .int (x16)]))) := by
  refine rM (lv0 := [some (.ref (la)), none]) (by decide) rfl rfl (Nat.le_of_ble_eq_true rfl) (fun P0 E0 S0 m0 as0 bl0 mt0 c0 A F hrt9 hnm => ?_)
  obtain ⟨k9, hk9⟩ : ∃ k, zC P i = k + 1 := ⟨zC P i - 1, by omega⟩
  have hc8 := hi.2.2.2.2.1
  refine rg_aload_n F (pc := 0) dX1_dropLast_0 rfl ?_
  refine rg_get F (pc := 1) (ci := 2) rfl inX1 hm 4 (by decide) q20 (fun _ h9 => h9) rfl dX1_dropLast_1 ?_
  refine rg_callVi F (pc := 4) (As := []) (rest := []) (ci := 0) (c_size l D _ ro md bk (zC P i) hL.1) q40 vq_Jx4a65c_size_8abf5 rfl hL.1 rfl rfl (Nat.le_of_ble_eq_true rfl) (Nat.le_of_ble_eq_true rfl) (Nat.le_of_ble_eq_true rfl) ⟨(Nat.le_of_ble_eq_true rfl), (Nat.le_of_ble_eq_true rfl)⟩ dX1_dropLast_4 (fun r9 M9 hp => ?_)
  refine rg_top (v2 := .int (nI (zC P i))) (by first | (rw [hp.1]; done) | (rw [hp.1]; rfl)) ?_
  refine rg_mem (M2 := M) hp.2 ?_
  refine rg_istore_n F (pc := 7) (lv' := [some (.ref (la)), some (.int (nI (zC P i)))]) dX1_dropLast_7 (Nat.le_of_ble_eq_true rfl) rfl ?_
  refine rg_iload_n F (pc := 8) dX1_dropLast_8 rfl ?_
  refine rg_nif_le F (pc := 9) (tgt := 23) dX1_dropLast_9 (by decide) (by omega) (fun c9 => by exfalso; omega) (fun c9 => ?_)
  refine rg_aload_n F (pc := 12) dX1_dropLast_12 rfl ?_
  refine rg_get F (pc := 13) (ci := 2) rfl inX1 hm 4 (by decide) q20 (fun _ h9 => h9) rfl dX1_dropLast_13 ?_
  refine rg_iload_n F (pc := 16) dX1_dropLast_16 rfl ?_
  refine rg_iconst F (pc := 17) (v := nI 1) dX1_dropLast_17 (by decide) ?_
  refine rg_isub F (pc := 18) (v := nI k9) dX1_dropLast_18 ((pk_sub (by omega)).trans (by rw [hk9]; rfl)) ?_
  refine rg_callVq F (pc := 19) (As := [.int (nI k9)]) (rest := []) (ci := 0) (c_lrem2 l D _ ro md bk k9 g (hk9 ▸ hL)) q139 vq_Jx4a65c_remove_915e3 rfl hL.1 rfl rfl (Nat.le_of_ble_eq_true rfl) (Nat.le_of_ble_eq_true rfl) (Nat.le_of_ble_eq_true rfl) ⟨(Nat.le_of_ble_eq_true rfl), (Nat.le_of_ble_eq_true rfl)⟩ dX1_dropLast_19 (fun r9 M1 hp => ?_)
  obtain ⟨hr9, ⟨md2, bk2, hL2, hb2⟩, hob, har⟩ := hp
  refine rg_top (v2 := .ref (g k9)) (by rw [hr9]; rfl) ?_
  have hm2 := hob la _ hm (mne_ci hm hL.1 (by decide))
  refine rg_pop F (pc := 22) dX1_dropLast_22 rfl ?_
  have hi3 : zLok (zDrop P i) nW i := zDrop_ok hi
  have hL3 : isL D M1 ro md2 bk2 (zC (zDrop P i) i) g := by rw [zDrop_c, hk9]; exact hL2
  have hw3 : ∀ j, j < zC (zDrop P i) i → M1 (g j) = some (.inr (3, wo (zDrop P i) (zR (zDrop P i) i j))) := fun j hj => by rw [zDrop_c] at hj; exact hob _ _ (hw j (by omega)) (mne_ci (hw j (by omega)) hL.1 (by decide))
  refine rg_aload_n F (pc := 23) dX1_dropLast_23 rfl ?_
  refine rg_callVv F (pc := 24) (As := []) (rest := []) (ci := 2) (c_join l D _ la x0 x1 x2 pt ro x5 x6 x7 x8 x9 x10 x11 x12 x13 x14 x15 x16 md2 bk2 g (zDrop P i) nW i hm2 hL3 hw3 hW hi3) q124 vq_X1_joinWords rfl hm2 rfl rfl (Nat.le_of_ble_eq_true rfl) (Nat.le_of_ble_eq_true rfl) (Nat.le_of_ble_eq_true rfl) ⟨(Nat.le_of_ble_eq_true rfl), (Nat.le_of_ble_eq_true rfl)⟩ dX1_dropLast_24 (fun M9 hp => ?_)
  refine rg_mem (M2 := (mset M1 la (.inr (2, [.int (x0), .int (x1), .int (x2), va_rf (pt), .ref (ro), .long (lN (zb (zDrop P i) i)), .int (nI (zo (zDrop P i) i)), .int (nI (zOM (zDrop P i) i (zC (zDrop P i) i))), .int (x8), .int (x9), .int (x10), .int (x11), .long (x12), .int (x13), .int (x14), .int (x15), .int (x16)])))) hp ?_
  exact rg_vret F (pc := 27) hrt9 (by decide) (by decide) dX1_dropLast_27 ⟨M1, ⟨⟨md2, bk2, hL3, hb2⟩, hob, har⟩, rfl⟩
