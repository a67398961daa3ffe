theorem c_payU (l : Launch) (D : va_G) (M : rMem) (x : Nat) (P : Poem) (nW nL : Nat) (u : Nat → Nat → Nat) (i : Nat) (x15 x16 : Int32) (hS : cS D M x P nW nL u) (hi : i < nL) (hm : M (la u i) = some (.inr (2, ls1 P i (cpt P u i) (ra u i) x15 x16))) : CMv l D yX1_payRhyme cX1_payRhyme 2 6 0 0 M [.ref (la u i), .int (nI (zPaid P i))] (fun M' => M' = mset M (la u i) (.inr (2, lo P i (cpt P u i) (ra u i)))) := by
  obtain ⟨hP, hx, -, -, hw, hr, -⟩ := hS
  obtain ⟨md, hL⟩ := hr i hi
  exact c_pay l D M (la u i) _ 0 _ _ (ra u i) _ _ _ _ _ _ _ 0 0 0 x15 x16 md (rb u i) (fun j => wa u (zR P i j)) P nW i hm hL hP.1 (hP.2.2 i hi)
theorem c_rbU (l : Launch) (D : va_G) (M : rMem) (x : Nat) (P : Poem) (nW nL : Nat) (u : Nat → Nat → Nat) (i : Nat) (x15 x16 : Int32) (hS : cS D M x P nW nL u) (hi : i < nL) (hm : M (la u i) = some (.inr (2, ls1 P i (cpt P u i) (ra u i) x15 x16))) (hl : ∀ j, j < i → lC M P u j) : CMi l D yX3_rhymeBetween cX3_rhymeBetween 4 (some .int) 5 0 0 M [.ref (la u i), va_rf (cpt P u i)] (fun r M' => r = nI (zPaid P i) ∧ M' = M) := by
  obtain ⟨hP, hx, -, -, hw, hr, -⟩ := hS
  obtain ⟨md, hL⟩ := hr i hi
  have hwi : ∀ j, j < zC P i → M (wa u (zR P i j)) = some (.inr (3, wo P (zR P i j))) := fun j hj => hw _ ((hP.2.2 i hi).2.2.2.2.2 j hj)
  cases hn : zNear P (zK P i) i with
  | none =>
    have e : cpt P u i = none := by unfold cpt; rw [hn]; rfl
    have hpd : zPaid P i = 0 := by unfold zPaid; rw [hn]
    rw [e, hpd]
    exact c_rbN l D M (la u i)
  | some k =>
    obtain ⟨hk, -⟩ := zNear_lt hn
    have e : cpt P u i = some (la u k) := by unfold cpt; rw [hn]; rfl
    have hpd : zPaid P i = zRh P i k := by unfold zPaid; rw [hn]
    obtain ⟨md2, hL2⟩ := hr k (by omega)
    have hwk : ∀ j, j < zC P k → M (wa u (zR P k j)) = some (.inr (3, wo P (zR P k j))) := fun j hj => hw _ ((hP.2.2 k (by omega)).2.2.2.2.2 j hj)
    rw [e, hpd]
    exact c_rb l D M (la u i) _ _ _ _ (ra u i) _ _ _ _ _ _ _ _ _ _ _ _ md (rb u i) (fun j => wa u (zR P i j)) (la u k) _ _ _ _ (ra u k) _ _ _ _ _ _ _ _ _ _ _ _ md2 (rb u k) (fun j => wa u (zR P k j)) P nW i k hm hL hwi (hl k hk) hL2 hwk hP.1 (hP.2.2 i hi) (hP.2.2 k (by omega))
theorem rcut_step {D : va_G} {M : rMem} {P : Poem} {nL : Nat} {u : Nat → Nat → Nat} {k G en : Nat} {f f2 : Nat → Int64} (h1 : ∀ j, j < k → lC M P u j) (h2 : ∀ j, k ≤ j → j < nL → lU M P u j)
    (hf : M (gf u) = some (.inr (1, [.ref (ga u), .int (nI en)]))) (ha : M (ga u) = some (.inl (D.1 7, (5, .inr (.inl f))))) (hG : G % 2 ^ zBg P k = zFl P k) (hf2 : ∀ q, q < 5 → f2 q = lN (fc (G % 2 ^ zBg P k) q)) {M2 : rMem}
    (hM : M2 = mset (mset M (ga u) (.inl (D.1 7, (5, .inr (.inl f2))))) (gf u) (.inr (1, [.ref (ga u), .int (nI (zBg P k))]))) : kK M M2 ∧ cK D M2 P nL u k := by
  subst hM
  have haf : ga u ≠ gf u := mne_ao ha hf
  have keep : ∀ (b : Nat) (z : List Value), M b = some (.inr (2, z)) → mset (mset M (ga u) (.inl (D.1 7, (5, .inr (.inl f2))))) (gf u) (.inr (1, [.ref (ga u), .int (nI (zBg P k))])) b = some (.inr (2, z)) := fun b z hb => mset_keep (mset_keep hb (mne_oa hb ha)) (mne_ci hb hf (by decide))
  refine ⟨(kK.fa ha).tr (kK.fl (mset_keep hf haf.symm)), fun j hj => keep _ _ (h1 j hj), fun j hj hjn => ?_, f2, mset_eq, mset_keep mset_eq haf, fun q hq => by rw [hf2 q hq, hG]⟩
  obtain ⟨a8, a9, a10, a11, a12, a13, a14, a15, a16, h⟩ := h2 j hj hjn
  exact ⟨a8, a9, a10, a11, a12, a13, a14, a15, a16, keep _ _ h⟩
theorem zSt_k {P : Poem} {k : Nat} (h : 0 < k) : zSt P (k - 1) + zStay P (k - 1) = zSt P k := by
  obtain ⟨j, rfl⟩ : ∃ j, k = j + 1 := ⟨k - 1, by omega⟩
  rfl
theorem zBg_k {P : Poem} {k : Nat} (h : 0 < k) : zSt P k + zOv P (k - 1) = zBg P k := by
  obtain ⟨j, rfl⟩ : ∃ j, k = j + 1 := ⟨k - 1, by omega⟩
  show _ + zOv P j = _
  rw [← zCa_succ, ← zBg_eq]
set_option maxHeartbeats 4000000 in
set_option maxRecDepth 100000 in
theorem c_scanFrom (l : Launch) (D : va_G) (M : rMem) (x : Nat) (P : Poem) (nW nL : Nat) (u : Nat → Nat → Nat) (k G en : Nat) (f : Nat → Int64) (hS : cS D M x P nW nL u) (hk : k ≤ nL) (h1 : ∀ j, j < k → lC M P u j) (h2 : ∀ j, k ≤ j → j < nL → lU M P u j) (hf : M (gf u) = some (.inr (1, [.ref (ga u), .int (nI en)]))) (ha : M (ga u) = some (.inl (D.1 7, (5, .inr (.inl f))))) (hq : ∀ q, q < 5 → f q = lN (fc G q)) (hG : G % 2 ^ zBg P k = zFl P k) : CMv l D yX3_scanFrom cX3_scanFrom 6 7 0 0 M [.ref (x), .int (nI k)] (fun M' => kK M M' ∧ cK D M' P nL u nL) := by
  obtain ⟨mdl, hLl⟩ := hS.2.2.2.1
  have hn10 := hS.1.2.1
  have hBk := zBg_le hS.1
  refine rM (lv0 := [some (.ref (x)), some (.int (nI k)), none, none, none, none]) (by decide) rfl rfl (Nat.le_of_ble_eq_true rfl) (fun P0 E0 S0 m0 as0 bl0 mt0 c0 A F hrt9 hnm => ?_)
  refine rg_iconst F (pc := 0) (v := nI 0) dX3_scanFrom_0 (by decide) ?_
  refine rg_istore_n F (pc := 1) (lv' := [some (.ref (x)), some (.int (nI k)), some (.int (nI 0)), none, none, none]) dX3_scanFrom_1 (Nat.le_of_ble_eq_true rfl) rfl ?_
  refine rg_iconst F (pc := 2) (v := nI 0) dX3_scanFrom_2 (by decide) ?_
  refine rg_istore_n F (pc := 3) (lv' := [some (.ref (x)), some (.int (nI k)), some (.int (nI 0)), some (.int (nI 0)), none, none]) dX3_scanFrom_3 (Nat.le_of_ble_eq_true rfl) rfl ?_
  refine rg_iload_n F (pc := 4) dX3_scanFrom_4 rfl ?_
  refine rg_nif_le F (pc := 5) (tgt := 54) dX3_scanFrom_5 (by decide) (by omega) (fun c5 => ?_) (fun c5 => ?_)
  · refine rg_eq (lv2 := [some (.ref (x)), some (.int (nI k)), some (.int (nI (zSt P k))), some (.int (nI (zBg P k))), none, none]) (st2 := []) (pc2 := 54) (by rw [c5]; rfl) rfl rfl ?_
    refine rg_aload_n F (pc := 54) dX3_scanFrom_54 rfl ?_
    refine rg_get F (pc := 55) (ci := 4) rfl inX3 hS.2.1 2 (by decide) q206 (fun _ h9 => h9) rfl dX3_scanFrom_55 ?_
    refine rg_iload_n F (pc := 58) dX3_scanFrom_58 rfl ?_
    refine rg_callVv F (pc := 59) (As := [.int (nI (zBg P k))]) (rest := []) (ci := 1) (c_cut l D _ (gf u) (ga u) en f G (zBg P k) hf ha hq (by have := hBk k hk; omega)) q277 vq_X0_cutBehind rfl hf rfl rfl (Nat.le_of_ble_eq_true rfl) (Nat.le_of_ble_eq_true rfl) (Nat.le_of_ble_eq_true rfl) ⟨(Nat.le_of_ble_eq_true rfl), (Nat.le_of_ble_eq_true rfl)⟩ dX3_scanFrom_59 (fun M0 hp => ?_)
    obtain ⟨f2, hM9, hf2⟩ := hp
    obtain ⟨kk0, ck0⟩ := rcut_step h1 h2 hf ha hG hf2 hM9
    refine rg_iload_n F (pc := 62) dX3_scanFrom_62 rfl ?_
    refine rg_iconst F (pc := 63) (v := nI 0) dX3_scanFrom_63 (by decide) ?_
    refine rg_max F (pc := 64) (v := nI k) q275 q64 q65 q66 (Nat.le_of_ble_eq_true rfl) (Nat.le_of_ble_eq_true rfl) ⟨(Nat.le_of_ble_eq_true rfl), (Nat.le_of_ble_eq_true rfl)⟩ ((rn_max _ _ (by omega) (by decide)).trans (by rw [Nat.max_zero])) dX3_scanFrom_64 ?_
    refine rg_istore F (pc := 67) (lv' := [some (.ref (x)), some (.int (nI k)), some (.int (nI (zSt P k))), some (.int (nI (zBg P k))), some (.int (nI k)), none]) dX3_scanFrom_67 (Nat.le_of_ble_eq_true rfl) rfl ?_
    refine rg_sub (lv' := [some (.ref (x)), some (.int (nI k)), some (.int (nI (zSt P k))), some (.int (nI (zBg P k))), some (.int (nI k)), none]) ⟨rfl, rfl, rfl, rfl, rfl, trivial⟩ ?_
    suffices L0 : ∀ (d9 : Nat) (i : Nat) (M1 : rMem), nL - i < d9 → (k ≤ i) → (i ≤ nL) → (kK M M1) → (cK D M1 P nL u i) → rG P0 l E0 (rR 7 0 0) S0 m0 as0 bl0 mt0 c0 D A 6 (MQ bl0 (va_Qv (fun M' => kK M M' ∧ cK D M' P nL u nL) (cB D A) A) as0 S0 0 0 A) M1 0 0 [some (.ref (x)), some (.int (nI k)), some (.int (nI (zSt P i))), some (.int (nI (zBg P k))), some (.int (nI i)), none] 69 [] from L0 _ k _ (Nat.lt_succ_self _) (Nat.le_refl _) hk kk0 ck0
    intro d9
    induction d9 with
    | zero => intro i M1 hd9; exact absurd hd9 (Nat.not_lt_zero _)
    | succ d9 ih =>
      intro i M1 hd9 hi1 hi2 hk1 hc1
      have hS1 := hS.keep hk1
      obtain ⟨mdl, hLl⟩ := hS1.2.2.2.1
      obtain ⟨c1, c2, f, c3, c4, c5⟩ := hc1
      refine rg_iload F (pc := 69) dX3_scanFrom_69 rfl ?_
      refine rg_aload_n F (pc := 71) dX3_scanFrom_71 rfl ?_
      refine rg_get F (pc := 72) (ci := 4) rfl inX3 hS1.2.1 1 (by decide) q203 (fun _ h9 => h9) rfl dX3_scanFrom_72 ?_
      refine rg_callVi F (pc := 75) (As := []) (rest := [.int (nI i)]) (ci := 0) (c_size l D _ (gl u) mdl (gbl u) nL hLl.1) q221 vq_Jx4a65c_size_8abf5 rfl hLl.1 rfl rfl (Nat.le_of_ble_eq_true rfl) (Nat.le_of_ble_eq_true rfl) (Nat.le_of_ble_eq_true rfl) ⟨(Nat.le_of_ble_eq_true rfl), (Nat.le_of_ble_eq_true rfl)⟩ dX3_scanFrom_75 (fun r9 M9 hp => ?_)
      refine rg_top (v2 := .int (nI nL)) (by first | (rw [hp.1]; done) | (rw [hp.1]; rfl)) ?_
      refine rg_mem (M2 := M1) hp.2 ?_
      refine rg_ncmp_ge F (pc := 78) (tgt := 134) dX3_scanFrom_78 (by decide) (by omega) (by omega) (fun c78 => ?_) (fun c78 => ?_)
      · have e9 : i = nL := by omega
        exact rg_vret F (pc := 134) hrt9 (by decide) (by decide) dX3_scanFrom_134 ⟨hk1, by rw [← e9]; exact ⟨c1, fun j hj hjn => c2 j (by omega) (by omega), f, c3, c4, c5⟩⟩
      · obtain ⟨x8, x9, x10, x11, x12, x13, x14, x15, x16, hli⟩ := c2 i (Nat.le_refl _) c78
        refine rg_aload_n F (pc := 81) dX3_scanFrom_81 rfl ?_
        refine rg_get F (pc := 82) (ci := 4) rfl inX3 hS1.2.1 1 (by decide) q203 (fun _ h9 => h9) rfl dX3_scanFrom_82 ?_
        refine rg_iload F (pc := 85) dX3_scanFrom_85 rfl ?_
        refine rg_callVq F (pc := 87) (As := [.int (nI i)]) (rest := []) (ci := 0) (c_lget l D _ (gl u) mdl (gbl u) nL (la u) i hLl c78) q237 vq_Jx4a65c_get_915e3 rfl hLl.1 rfl rfl (Nat.le_of_ble_eq_true rfl) (Nat.le_of_ble_eq_true rfl) (Nat.le_of_ble_eq_true rfl) ⟨(Nat.le_of_ble_eq_true rfl), (Nat.le_of_ble_eq_true rfl)⟩ dX3_scanFrom_87 (fun r9 M9 hp => ?_)
        refine rg_top (v2 := .ref (la u i)) (by rw [hp.1]; rfl) ?_
        refine rg_mem (M2 := M1) hp.2 ?_
        refine rg_cast F (pc := 90) (ci := 2) rfl hli q295 dX3_scanFrom_90 ?_
        refine rg_astore F (pc := 93) (lv' := [some (.ref (x)), some (.int (nI k)), some (.int (nI (zSt P i))), some (.int (nI (zBg P k))), some (.int (nI i)), some (.ref (la u i))]) dX3_scanFrom_93 (Nat.le_of_ble_eq_true rfl) rfl ?_
        refine rg_aload F (pc := 95) dX3_scanFrom_95 rfl ?_
        refine rg_aload_n F (pc := 97) dX3_scanFrom_97 rfl ?_
        refine rg_get F (pc := 98) (ci := 4) rfl inX3 hS1.2.1 2 (by decide) q206 (fun _ h9 => h9) rfl dX3_scanFrom_98 ?_
        refine rg_iload_n F (pc := 101) dX3_scanFrom_101 rfl ?_
        refine rg_callVv F (pc := 102) (As := [.ref (gf u), .int (nI (zSt P i))]) (rest := []) (ci := 2) (c_scanIn l D _ (la u i) 0 0 (nI (zK P i)) (cpt P u i) (ra u i) 0 0 (nI (zOM P i (zC P i))) x8 x9 x10 x11 x12 x13 x14 x15 x16 (gf u) (ga u) f P nW i hli c3 c4 c5 hS.1.1 (hS.1.2.2 i c78) (by have := hBk (i + 1) c78; omega) (zFl_lt hS.1 (i + 1) c78)) q280 vq_X1_scanIn rfl hli rfl rfl (Nat.le_of_ble_eq_true rfl) (Nat.le_of_ble_eq_true rfl) (Nat.le_of_ble_eq_true rfl) ⟨(Nat.le_of_ble_eq_true rfl), (Nat.le_of_ble_eq_true rfl)⟩ dX3_scanFrom_102 (fun M2 hp => ?_)
        obtain ⟨f2, hM9, hf2⟩ := hp
        obtain ⟨k2, d1, d2, d3, d4⟩ := scan_step hS1 c78 c1 c2 hli c3 c4 hf2 hM9
        refine rg_aload F (pc := 105) dX3_scanFrom_105 rfl ?_
        refine rg_aload F (pc := 107) dX3_scanFrom_107 rfl ?_
        refine rg_aload F (pc := 109) dX3_scanFrom_109 rfl ?_
        refine rg_get F (pc := 111) (ci := 2) rfl inX1 d3 3 (by decide) q276 (fun _ h9 => h9) rfl dX3_scanFrom_111 ?_
        refine rg_callSi F (pc := 114) (As := [.ref (la u i), va_rf (cpt P u i)]) (rest := [.ref (la u i)]) (c_rbU l D _ x P nW nL u i x15 x16 (hS1.keep k2) c78 d3 d1) q283 sq_X3_rhymeBetween rfl rfl (Nat.le_of_ble_eq_true rfl) (Nat.le_of_ble_eq_true rfl) (Nat.le_of_ble_eq_true rfl) ⟨(Nat.le_of_ble_eq_true rfl), (Nat.le_of_ble_eq_true rfl)⟩ dX3_scanFrom_114 (fun r9 M9 hp => ?_)
        refine rg_top (v2 := .int (nI (zPaid P i))) (by first | (rw [hp.1]; done) | (rw [hp.1]; rfl)) ?_
        refine rg_mem (M2 := M2) hp.2 ?_
        refine rg_callVv F (pc := 117) (As := [.int (nI (zPaid P i))]) (rest := []) (ci := 2) (c_payU l D _ x P nW nL u i x15 x16 (hS1.keep k2) c78 d3) q285 vq_X1_payRhyme rfl d3 rfl rfl (Nat.le_of_ble_eq_true rfl) (Nat.le_of_ble_eq_true rfl) (Nat.le_of_ble_eq_true rfl) ⟨(Nat.le_of_ble_eq_true rfl), (Nat.le_of_ble_eq_true rfl)⟩ dX3_scanFrom_117 (fun M3 hp => ?_)
        obtain ⟨k3, c6⟩ := pay_step (hS1.keep k2) c78 d1 d2 d3 d4 hp
        refine rg_iload_n F (pc := 120) dX3_scanFrom_120 rfl ?_
        refine rg_aload F (pc := 121) dX3_scanFrom_121 rfl ?_
        refine rg_get F (pc := 123) (ci := 2) rfl inX1 (c6.1 i (Nat.lt_succ_self _)) 10 (by decide) q273 (fun _ h9 => h9) rfl dX3_scanFrom_123 ?_
        refine rg_iadd F (pc := 126) (v := nI (zSt P (i + 1))) dX3_scanFrom_126 (nI_add _ _) ?_
        refine rg_istore_n F (pc := 127) (lv' := [some (.ref (x)), some (.int (nI k)), some (.int (nI (zSt P (i + 1)))), some (.int (nI (zBg P k))), some (.int (nI i)), some (.ref (la u i))]) dX3_scanFrom_127 (Nat.le_of_ble_eq_true rfl) rfl ?_
        refine rg_iinc F (pc := 128) (v := nI (i + 1)) (lv' := [some (.ref (x)), some (.int (nI k)), some (.int (nI (zSt P (i + 1)))), some (.int (nI (zBg P k))), some (.int (nI (i + 1))), some (.ref (la u i))]) dX3_scanFrom_128 rfl (nI_add _ 1) (Nat.le_of_ble_eq_true rfl) rfl ?_
        refine rg_sub (lv' := [some (.ref (x)), some (.int (nI k)), some (.int (nI (zSt P (i + 1)))), some (.int (nI (zBg P k))), some (.int (nI (i + 1))), none]) ⟨rfl, rfl, rfl, rfl, rfl, trivial⟩ ?_
        refine rg_goto F (pc := 131) (tgt := 69) dX3_scanFrom_131 (by decide) ?_
        exact ih (i + 1) _ (by omega) (by omega) (by omega) ((hk1.tr k2).tr k3) c6
  · refine rg_iload_n F (pc := 8) dX3_scanFrom_8 rfl ?_
    refine rg_aload_n F (pc := 9) dX3_scanFrom_9 rfl ?_
    refine rg_get F (pc := 10) (ci := 4) rfl inX3 hS.2.1 1 (by decide) q203 (fun _ h9 => h9) rfl dX3_scanFrom_10 ?_
    refine rg_callVi F (pc := 13) (As := []) (rest := [.int (nI k)]) (ci := 0) (c_size l D _ (gl u) mdl (gbl u) nL hLl.1) q221 vq_Jx4a65c_size_8abf5 rfl hLl.1 rfl rfl (Nat.le_of_ble_eq_true rfl) (Nat.le_of_ble_eq_true rfl) (Nat.le_of_ble_eq_true rfl) ⟨(Nat.le_of_ble_eq_true rfl), (Nat.le_of_ble_eq_true rfl)⟩ dX3_scanFrom_13 (fun r9 M9 hp => ?_)
    refine rg_top (v2 := .int (nI nL)) (by first | (rw [hp.1]; done) | (rw [hp.1]; rfl)) ?_
    refine rg_mem (M2 := M) hp.2 ?_
    refine rg_ncmp_gt F (pc := 16) (tgt := 54) dX3_scanFrom_16 (by decide) (by omega) (by omega) (fun c16 => by exfalso; omega) (fun c16 => ?_)
    refine rg_aload_n F (pc := 19) dX3_scanFrom_19 rfl ?_
    refine rg_get F (pc := 20) (ci := 4) rfl inX3 hS.2.1 1 (by decide) q203 (fun _ h9 => h9) rfl dX3_scanFrom_20 ?_
    refine rg_iload_n F (pc := 23) dX3_scanFrom_23 rfl ?_
    refine rg_iconst F (pc := 24) (v := nI 1) dX3_scanFrom_24 (by decide) ?_
    refine rg_isub F (pc := 25) (v := nI (k - 1)) dX3_scanFrom_25 (pk_sub (by omega)) ?_
    refine rg_callVq F (pc := 26) (As := [.int (nI (k - 1))]) (rest := []) (ci := 0) (c_lget l D _ (gl u) mdl (gbl u) nL (la u) (k - 1) hLl (by omega)) q237 vq_Jx4a65c_get_915e3 rfl hLl.1 rfl rfl (Nat.le_of_ble_eq_true rfl) (Nat.le_of_ble_eq_true rfl) (Nat.le_of_ble_eq_true rfl) ⟨(Nat.le_of_ble_eq_true rfl), (Nat.le_of_ble_eq_true rfl)⟩ dX3_scanFrom_26 (fun r9 M9 hp => ?_)
    refine rg_top (v2 := .ref (la u (k - 1))) (by rw [hp.1]; rfl) ?_
    refine rg_mem (M2 := M) hp.2 ?_
    refine rg_cast F (pc := 29) (ci := 2) rfl (h1 (k - 1) (by omega)) q295 dX3_scanFrom_29 ?_
    refine rg_astore F (pc := 32) (lv' := [some (.ref (x)), some (.int (nI k)), some (.int (nI 0)), some (.int (nI 0)), some (.ref (la u (k - 1))), none]) dX3_scanFrom_32 (Nat.le_of_ble_eq_true rfl) rfl ?_
    refine rg_aload F (pc := 34) dX3_scanFrom_34 rfl ?_
    refine rg_get F (pc := 36) (ci := 2) rfl inX1 (h1 (k - 1) (by omega)) 8 (by decide) q272 (fun _ h9 => h9) rfl dX3_scanFrom_36 ?_
    refine rg_aload F (pc := 39) dX3_scanFrom_39 rfl ?_
    refine rg_get F (pc := 41) (ci := 2) rfl inX1 (h1 (k - 1) (by omega)) 10 (by decide) q273 (fun _ h9 => h9) rfl dX3_scanFrom_41 ?_
    refine rg_iadd F (pc := 44) (v := nI (zSt P k)) dX3_scanFrom_44 ((nI_add _ _).trans (by rw [zSt_k c5])) ?_
    refine rg_istore_n F (pc := 45) (lv' := [some (.ref (x)), some (.int (nI k)), some (.int (nI (zSt P k))), some (.int (nI 0)), some (.ref (la u (k - 1))), none]) dX3_scanFrom_45 (Nat.le_of_ble_eq_true rfl) rfl ?_
    refine rg_iload_n F (pc := 46) dX3_scanFrom_46 rfl ?_
    refine rg_aload F (pc := 47) dX3_scanFrom_47 rfl ?_
    refine rg_get F (pc := 49) (ci := 2) rfl inX1 (h1 (k - 1) (by omega)) 11 (by decide) q274 (fun _ h9 => h9) rfl dX3_scanFrom_49 ?_
    refine rg_iadd F (pc := 52) (v := nI (zBg P k)) dX3_scanFrom_52 ((nI_add _ _).trans (by rw [zBg_k c5])) ?_
    refine rg_istore_n F (pc := 53) (lv' := [some (.ref (x)), some (.int (nI k)), some (.int (nI (zSt P k))), some (.int (nI (zBg P k))), some (.ref (la u (k - 1))), none]) dX3_scanFrom_53 (Nat.le_of_ble_eq_true rfl) rfl ?_
    refine rg_aload_n F (pc := 54) dX3_scanFrom_54 rfl ?_
    refine rg_get F (pc := 55) (ci := 4) rfl inX3 hS.2.1 2 (by decide) q206 (fun _ h9 => h9) rfl dX3_scanFrom_55 ?_
    refine rg_iload_n F (pc := 58) dX3_scanFrom_58 rfl ?_
    refine rg_callVv F (pc := 59) (As := [.int (nI (zBg P k))]) (rest := []) (ci := 1) (c_cut l D _ (gf u) (ga u) en f G (zBg P k) hf ha hq (by have := hBk k hk; omega)) q277 vq_X0_cutBehind rfl hf rfl rfl (Nat.le_of_ble_eq_true rfl) (Nat.le_of_ble_eq_true rfl) (Nat.le_of_ble_eq_true rfl) ⟨(Nat.le_of_ble_eq_true rfl), (Nat.le_of_ble_eq_true rfl)⟩ dX3_scanFrom_59 (fun M0 hp => ?_)
    obtain ⟨f2, hM9, hf2⟩ := hp
    obtain ⟨kk0, ck0⟩ := rcut_step h1 h2 hf ha hG hf2 hM9
    refine rg_iload_n F (pc := 62) dX3_scanFrom_62 rfl ?_
    refine rg_iconst F (pc := 63) (v := nI 0) dX3_scanFrom_63 (by decide) ?_
    refine rg_max F (pc := 64) (v := nI k) q275 q64 q65 q66 (Nat.le_of_ble_eq_true rfl) (Nat.le_of_ble_eq_true rfl) ⟨(Nat.le_of_ble_eq_true rfl), (Nat.le_of_ble_eq_true rfl)⟩ ((rn_max _ _ (by omega) (by decide)).trans (by rw [Nat.max_zero])) dX3_scanFrom_64 ?_
    refine rg_istore F (pc := 67) (lv' := [some (.ref (x)), some (.int (nI k)), some (.int (nI (zSt P k))), some (.int (nI (zBg P k))), some (.int (nI k)), none]) dX3_scanFrom_67 (Nat.le_of_ble_eq_true rfl) rfl ?_
    refine rg_sub (lv' := [some (.ref (x)), some (.int (nI k)), some (.int (nI (zSt P k))), some (.int (nI (zBg P k))), some (.int (nI k)), none]) ⟨rfl, rfl, rfl, rfl, rfl, trivial⟩ ?_
    suffices L0 : ∀ (d9 : Nat) (i : Nat) (M1 : rMem), nL - i < d9 → (k ≤ i) → (i ≤ nL) → (kK M M1) → (cK D M1 P nL u i) → rG P0 l E0 (rR 7 0 0) S0 m0 as0 bl0 mt0 c0 D A 6 (MQ bl0 (va_Qv (fun M' => kK M M' ∧ cK D M' P nL u nL) (cB D A) A) as0 S0 0 0 A) M1 0 0 [some (.ref (x)), some (.int (nI k)), some (.int (nI (zSt P i))), some (.int (nI (zBg P k))), some (.int (nI i)), none] 69 [] from L0 _ k _ (Nat.lt_succ_self _) (Nat.le_refl _) hk kk0 ck0
    intro d9
    induction d9 with
    | zero => intro i M1 hd9; exact absurd hd9 (Nat.not_lt_zero _)
    | succ d9 ih =>
      intro i M1 hd9 hi1 hi2 hk1 hc1
      have hS1 := hS.keep hk1
      obtain ⟨mdl, hLl⟩ := hS1.2.2.2.1
      obtain ⟨c1, c2, f, c3, c4, c5⟩ := hc1
      refine rg_iload F (pc := 69) dX3_scanFrom_69 rfl ?_
      refine rg_aload_n F (pc := 71) dX3_scanFrom_71 rfl ?_
      refine rg_get F (pc := 72) (ci := 4) rfl inX3 hS1.2.1 1 (by decide) q203 (fun _ h9 => h9) rfl dX3_scanFrom_72 ?_
      refine rg_callVi F (pc := 75) (As := []) (rest := [.int (nI i)]) (ci := 0) (c_size l D _ (gl u) mdl (gbl u) nL hLl.1) q221 vq_Jx4a65c_size_8abf5 rfl hLl.1 rfl rfl (Nat.le_of_ble_eq_true rfl) (Nat.le_of_ble_eq_true rfl) (Nat.le_of_ble_eq_true rfl) ⟨(Nat.le_of_ble_eq_true rfl), (Nat.le_of_ble_eq_true rfl)⟩ dX3_scanFrom_75 (fun r9 M9 hp => ?_)
      refine rg_top (v2 := .int (nI nL)) (by first | (rw [hp.1]; done) | (rw [hp.1]; rfl)) ?_
      refine rg_mem (M2 := M1) hp.2 ?_
      refine rg_ncmp_ge F (pc := 78) (tgt := 134) dX3_scanFrom_78 (by decide) (by omega) (by omega) (fun c78 => ?_) (fun c78 => ?_)
      · have e9 : i = nL := by omega
        exact rg_vret F (pc := 134) hrt9 (by decide) (by decide) dX3_scanFrom_134 ⟨hk1, by rw [← e9]; exact ⟨c1, fun j hj hjn => c2 j (by omega) (by omega), f, c3, c4, c5⟩⟩
      · obtain ⟨x8, x9, x10, x11, x12, x13, x14, x15, x16, hli⟩ := c2 i (Nat.le_refl _) c78
        refine rg_aload_n F (pc := 81) dX3_scanFrom_81 rfl ?_
        refine rg_get F (pc := 82) (ci := 4) rfl inX3 hS1.2.1 1 (by decide) q203 (fun _ h9 => h9) rfl dX3_scanFrom_82 ?_
        refine rg_iload F (pc := 85) dX3_scanFrom_85 rfl ?_
        refine rg_callVq F (pc := 87) (As := [.int (nI i)]) (rest := []) (ci := 0) (c_lget l D _ (gl u) mdl (gbl u) nL (la u) i hLl c78) q237 vq_Jx4a65c_get_915e3 rfl hLl.1 rfl rfl (Nat.le_of_ble_eq_true rfl) (Nat.le_of_ble_eq_true rfl) (Nat.le_of_ble_eq_true rfl) ⟨(Nat.le_of_ble_eq_true rfl), (Nat.le_of_ble_eq_true rfl)⟩ dX3_scanFrom_87 (fun r9 M9 hp => ?_)
        refine rg_top (v2 := .ref (la u i)) (by rw [hp.1]; rfl) ?_
        refine rg_mem (M2 := M1) hp.2 ?_
        refine rg_cast F (pc := 90) (ci := 2) rfl hli q295 dX3_scanFrom_90 ?_
        refine rg_astore F (pc := 93) (lv' := [some (.ref (x)), some (.int (nI k)), some (.int (nI (zSt P i))), some (.int (nI (zBg P k))), some (.int (nI i)), some (.ref (la u i))]) dX3_scanFrom_93 (Nat.le_of_ble_eq_true rfl) rfl ?_
        refine rg_aload F (pc := 95) dX3_scanFrom_95 rfl ?_
        refine rg_aload_n F (pc := 97) dX3_scanFrom_97 rfl ?_
        refine rg_get F (pc := 98) (ci := 4) rfl inX3 hS1.2.1 2 (by decide) q206 (fun _ h9 => h9) rfl dX3_scanFrom_98 ?_
        refine rg_iload_n F (pc := 101) dX3_scanFrom_101 rfl ?_
        refine rg_callVv F (pc := 102) (As := [.ref (gf u), .int (nI (zSt P i))]) (rest := []) (ci := 2) (c_scanIn l D _ (la u i) 0 0 (nI (zK P i)) (cpt P u i) (ra u i) 0 0 (nI (zOM P i (zC P i))) x8 x9 x10 x11 x12 x13 x14 x15 x16 (gf u) (ga u) f P nW i hli c3 c4 c5 hS.1.1 (hS.1.2.2 i c78) (by have := hBk (i + 1) c78; omega) (zFl_lt hS.1 (i + 1) c78)) q280 vq_X1_scanIn rfl hli rfl rfl (Nat.le_of_ble_eq_true rfl) (Nat.le_of_ble_eq_true rfl) (Nat.le_of_ble_eq_true rfl) ⟨(Nat.le_of_ble_eq_true rfl), (Nat.le_of_ble_eq_true rfl)⟩ dX3_scanFrom_102 (fun M2 hp => ?_)
        obtain ⟨f2, hM9, hf2⟩ := hp
        obtain ⟨k2, d1, d2, d3, d4⟩ := scan_step hS1 c78 c1 c2 hli c3 c4 hf2 hM9
        refine rg_aload F (pc := 105) dX3_scanFrom_105 rfl ?_
        refine rg_aload F (pc := 107) dX3_scanFrom_107 rfl ?_
        refine rg_aload F (pc := 109) dX3_scanFrom_109 rfl ?_
        refine rg_get F (pc := 111) (ci := 2) rfl inX1 d3 3 (by decide) q276 (fun _ h9 => h9) rfl dX3_scanFrom_111 ?_
        refine rg_callSi F (pc := 114) (As := [.ref (la u i), va_rf (cpt P u i)]) (rest := [.ref (la u i)]) (c_rbU l D _ x P nW nL u i x15 x16 (hS1.keep k2) c78 d3 d1) q283 sq_X3_rhymeBetween rfl rfl (Nat.le_of_ble_eq_true rfl) (Nat.le_of_ble_eq_true rfl) (Nat.le_of_ble_eq_true rfl) ⟨(Nat.le_of_ble_eq_true rfl), (Nat.le_of_ble_eq_true rfl)⟩ dX3_scanFrom_114 (fun r9 M9 hp => ?_)
        refine rg_top (v2 := .int (nI (zPaid P i))) (by first | (rw [hp.1]; done) | (rw [hp.1]; rfl)) ?_
        refine rg_mem (M2 := M2) hp.2 ?_
        refine rg_callVv F (pc := 117) (As := [.int (nI (zPaid P i))]) (rest := []) (ci := 2) (c_payU l D _ x P nW nL u i x15 x16 (hS1.keep k2) c78 d3) q285 vq_X1_payRhyme rfl d3 rfl rfl (Nat.le_of_ble_eq_true rfl) (Nat.le_of_ble_eq_true rfl) (Nat.le_of_ble_eq_true rfl) ⟨(Nat.le_of_ble_eq_true rfl), (Nat.le_of_ble_eq_true rfl)⟩ dX3_scanFrom_117 (fun M3 hp => ?_)
        obtain ⟨k3, c6⟩ := pay_step (hS1.keep k2) c78 d1 d2 d3 d4 hp
        refine rg_iload_n F (pc := 120) dX3_scanFrom_120 rfl ?_
        refine rg_aload F (pc := 121) dX3_scanFrom_121 rfl ?_
        refine rg_get F (pc := 123) (ci := 2) rfl inX1 (c6.1 i (Nat.lt_succ_self _)) 10 (by decide) q273 (fun _ h9 => h9) rfl dX3_scanFrom_123 ?_
        refine rg_iadd F (pc := 126) (v := nI (zSt P (i + 1))) dX3_scanFrom_126 (nI_add _ _) ?_
        refine rg_istore_n F (pc := 127) (lv' := [some (.ref (x)), some (.int (nI k)), some (.int (nI (zSt P (i + 1)))), some (.int (nI (zBg P k))), some (.int (nI i)), some (.ref (la u i))]) dX3_scanFrom_127 (Nat.le_of_ble_eq_true rfl) rfl ?_
        refine rg_iinc F (pc := 128) (v := nI (i + 1)) (lv' := [some (.ref (x)), some (.int (nI k)), some (.int (nI (zSt P (i + 1)))), some (.int (nI (zBg P k))), some (.int (nI (i + 1))), some (.ref (la u i))]) dX3_scanFrom_128 rfl (nI_add _ 1) (Nat.le_of_ble_eq_true rfl) rfl ?_
        refine rg_sub (lv' := [some (.ref (x)), some (.int (nI k)), some (.int (nI (zSt P (i + 1)))), some (.int (nI (zBg P k))), some (.int (nI (i + 1))), none]) ⟨rfl, rfl, rfl, rfl, rfl, trivial⟩ ?_
        refine rg_goto F (pc := 131) (tgt := 69) dX3_scanFrom_131 (by decide) ?_
        exact ih (i + 1) _ (by omega) (by omega) (by omega) ((hk1.tr k2).tr k3) c6
