section LOOP
variable {p : Program} {l : Launch} {e : Env} {s : State} {m : MethodId} {below : List Frame} {meth : Method} {c : Code} {D : va_G} {M : rMem} {k n : Nat} {b x mo o L : Nat} {xs : Nat → Int32}
/-- the law's end -/
theorem rg_lend (F : rF p l e room_1 s m #[Value.ref b] below meth c cL_law 9 RL D (fun q => s.heap.size ≤ q)) (hr : meth.sig.returnType = ret) (hk : k ≤ 601024) (hn : n ≤ 7293034) {lv : List (Option Value)} : rG p l e room_1 s m #[Value.ref b] below meth c D (fun q => s.heap.size ≤ q) 9 (lw_Z below #[Value.ref b] s) M k n lv 1191 [.int (nI 1)] := fun H locs ls hS hl =>
  va_forget hS.2.2.2.2 (W.widen hk hn (W.base (lw_ret (Drawn.sameBut.refl s.drawn lw_cs) F.1 F.2.1 hr F.2.2.2.2.2.2.2.2 dL_law_1191)))
set_option maxHeartbeats 4000000 in
set_option maxRecDepth 100000 in
theorem L_loop (F : rF p l e room_1 s m #[Value.ref b] below meth c cL_law 9 RL D (fun q => s.heap.size ≤ q)) (hr : meth.sig.returnType = ret) (hNc : rNc s) (hl9 : l.stackTraces = false) (hX : va_X b L xs s s.heap) (hbl : b < s.heap.size) (hL : L ≤ 3072) : ∀ (d it : Nat) (M : rMem), 512 - it < d → it ≤ 512 → lsA D M x mo o → rG p l e room_1 s m #[Value.ref b] below meth c D (fun q => s.heap.size ≤ q) 9 (lw_Z below #[Value.ref b] s) M (100 + 600 * it) (2000 + 8000 * it) [some (.ref b), some (.ref x), some (.ref mo), some (.ref o), some (.int (nI (6 * it))), none, none, none, none] 23 [] := by
  intro d
  induction d with
  | zero => intro it M hd; exact absurd hd (Nat.not_lt_zero _)
  | succ d ih =>
    intro it M hd hit hLS
    have hbA : ¬ (fun q => s.heap.size ≤ q) b := Nat.not_le.mpr hbl
    refine rg_iload F (pc := 23) dL_law_23 rfl ?_
    refine rg_aload_n F (pc := 25) dL_law_25 rfl ?_
    refine rg_slen F hX hbl hbA (pc := 26) dL_law_26 ?_
    refine rg_bipush F (pc := 27) (v := nI 6) dL_law_27 (by decide) ?_
    refine rg_isub F (pc := 29) (v := nI L - nI 6) dL_law_29 rfl ?_
    refine rg_icmp_gt F (pc := 30) (tgt := 1190) dL_law_30 (by decide) (fun c30 => ?_) (fun c30 => ?_)
    · refine rg_iconst F (pc := 1190) (v := nI 1) dL_law_1190 (by decide) ?_
      exact rg_lend F hr (by omega) (by omega)
    · have h6 : 6 * it + 6 ≤ L := by
        have h := mt Int32.lt_iff_toInt_lt.mpr c30
        rw [pk_sub_toInt (by omega) (by decide), nI_toI (by omega)] at h
        omega
      refine rg_aload_n F (pc := 33) dL_law_33 rfl ?_
      refine rg_iload F (pc := 34) dL_law_34 rfl ?_
      refine rg_sld F hX hbl hbA hL (pc := 36) (j := 6 * it) (by omega) dL_law_36 ?_
      refine rg_bipush F (pc := 37) (v := nI 31) dL_law_37 (by decide) ?_
      obtain ⟨q, hq, eq⟩ := and31 (xs (6 * it))
      refine rg_iand F (pc := 39) (v := nI q) dL_law_39 eq ?_
      have KK : ∀ M' : rMem, lsA D M' x mo o → rG p l e room_1 s m #[Value.ref b] below meth c D (fun q => s.heap.size ≤ q) 9 (lw_Z below #[Value.ref b] s) M' (100 + 600 * it + 600) (2000 + 8000 * it + 8000) [some (.ref b), some (.ref x), some (.ref mo), some (.ref o), some (.int (nI (6 * it))), none, none, none, none] 1184 [] := fun M' h' => by
        refine rg_iinc F (pc := 1184) (v := nI (6 * (it + 1))) (lv' := [some (.ref b), some (.ref x), some (.ref mo), some (.ref o), some (.int (nI (6 * (it + 1)))), none, none, none, none]) dL_law_1184 rfl (nI_add _ 6) (Nat.le_of_ble_eq_true rfl) rfl ?_
        refine rg_goto F (pc := 1187) (tgt := 23) dL_law_1187 (by decide) ?_
        exact rg_widen (k2 := 100 + 600 * (it + 1)) (n2 := 2000 + 8000 * (it + 1)) (by omega) (by omega) (ih (it + 1) M' (by omega) (by omega) h')
      rcases (show q = 0 ∨ q = 1 ∨ q = 2 ∨ q = 3 ∨ q = 4 ∨ q = 5 ∨ q = 6 ∨ q = 7 ∨ q = 8 ∨ q = 9 ∨ q = 10 ∨ q = 11 ∨ q = 12 ∨ q = 13 ∨ q = 14 ∨ q = 15 ∨ q = 16 ∨ 17 ≤ q by omega) with rfl | rfl | rfl | rfl | rfl | rfl | rfl | rfl | rfl | rfl | rfl | rfl | rfl | rfl | rfl | rfl | rfl | h17
      · refine rg_tab F (pc := 40) (off := 84) (tgt := 124) dL_law_40 (by decide) (by decide) (by decide) (by decide) ?_
        exact L_word F hNc hl9 hX hbl hbA hL h6 (by omega) (by omega) hLS KK
      · refine rg_tab F (pc := 40) (off := 204) (tgt := 244) dL_law_40 (by decide) (by decide) (by decide) (by decide) ?_
        exact L_about F hNc hl9 hX hbl hbA hL h6 (by omega) (by omega) hLS KK
      · refine rg_tab F (pc := 40) (off := 272) (tgt := 312) dL_law_40 (by decide) (by decide) (by decide) (by decide) ?_
        exact L_line F hNc hl9 hX hbl hbA hL h6 (by omega) (by omega) hLS KK
      · refine rg_tab F (pc := 40) (off := 352) (tgt := 392) dL_law_40 (by decide) (by decide) (by decide) (by decide) ?_
        exact L_write F hNc hl9 hX hbl hbA hL h6 (by omega) (by omega) hLS KK
      · refine rg_tab F (pc := 40) (off := 432) (tgt := 472) dL_law_40 (by decide) (by decide) (by decide) (by decide) ?_
        exact L_strike F hNc hl9 hX hbl hbA hL h6 (by omega) (by omega) hLS KK
      · refine rg_tab F (pc := 40) (off := 488) (tgt := 528) dL_law_40 (by decide) (by decide) (by decide) (by decide) ?_
        exact L_written F hNc hl9 hX hbl hbA hL h6 (by omega) (by omega) hLS KK
      · refine rg_tab F (pc := 40) (off := 556) (tgt := 596) dL_law_40 (by decide) (by decide) (by decide) (by decide) ?_
        exact L_told F hNc hl9 hX hbl hbA hL h6 (by omega) (by omega) hLS KK
      · refine rg_tab F (pc := 40) (off := 624) (tgt := 664) dL_law_40 (by decide) (by decide) (by decide) (by decide) ?_
        exact L_stress F hNc hl9 hX hbl hbA hL h6 (by omega) (by omega) hLS KK
      · refine rg_tab F (pc := 40) (off := 692) (tgt := 732) dL_law_40 (by decide) (by decide) (by decide) (by decide) ?_
        exact L_melted F hNc hl9 hX hbl hbA hL h6 (by omega) (by omega) hLS KK
      · refine rg_tab F (pc := 40) (off := 748) (tgt := 788) dL_law_40 (by decide) (by decide) (by decide) (by decide) ?_
        exact L_rhyme F hNc hl9 hX hbl hbA hL h6 (by omega) (by omega) hLS KK
      · refine rg_tab F (pc := 40) (off := 816) (tgt := 856) dL_law_40 (by decide) (by decide) (by decide) (by decide) ?_
        exact L_scans F hNc hl9 hX hbl hbA hL h6 (by omega) (by omega) hLS KK
      · refine rg_tab F (pc := 40) (off := 872) (tgt := 912) dL_law_40 (by decide) (by decide) (by decide) (by decide) ?_
        exact L_count F hNc hl9 hX hbl hbA hL h6 (by omega) (by omega) hLS KK
      · refine rg_tab F (pc := 40) (off := 928) (tgt := 968) dL_law_40 (by decide) (by decide) (by decide) (by decide) ?_
        exact L_tries F hNc hl9 hX hbl hbA hL h6 (by omega) (by omega) hLS KK
      · refine rg_tab F (pc := 40) (off := 1008) (tgt := 1048) dL_law_40 (by decide) (by decide) (by decide) (by decide) ?_
        exact L_best F hNc hl9 hX hbl hbA hL h6 (by omega) (by omega) hLS KK
      · refine rg_tab F (pc := 40) (off := 1076) (tgt := 1116) dL_law_40 (by decide) (by decide) (by decide) (by decide) ?_
        exact L_worst F hNc hl9 hX hbl hbA hL h6 (by omega) (by omega) hLS KK
      · refine rg_tab F (pc := 40) (off := 1089) (tgt := 1129) dL_law_40 (by decide) (by decide) (by decide) (by decide) ?_
        exact L_mean F hNc hl9 hX hbl hbA hL h6 (by omega) (by omega) hLS KK
      · refine rg_tab F (pc := 40) (off := 1130) (tgt := 1170) dL_law_40 (by decide) (by decide) (by decide) (by decide) ?_
        exact L_digest F hNc hl9 hX hbl hbA hL h6 (by omega) (by omega) hLS KK
      · refine rg_tabO F (pc := 40) (tgt := 1184) dL_law_40 (Or.inr (by rw [nI_toI (by omega)]; omega)) (by decide) ?_
        exact rg_widen (by omega) (by omega) (KK M hLS)
set_option maxHeartbeats 4000000 in
set_option maxRecDepth 100000 in
theorem L_start (F : rF p l e room_1 s m #[Value.ref b] below meth c cL_law 9 RL D (fun q => s.heap.size ≤ q)) (hr : meth.sig.returnType = ret) (hNc : rNc s) (hl9 : l.stackTraces = false) (hX : va_X b L xs s s.heap) (hbl : b < s.heap.size) (hL : L ≤ 3072) : rG p l e room_1 s m #[Value.ref b] below meth c D (fun q => s.heap.size ≤ q) 9 (lw_Z below #[Value.ref b] s) (fun _ => none) 0 0 [some (.ref b), none, none, none, none, none, none, none, none] 0 [] := by
  refine rg_new F (pc := 0) (ci := 4) (fs := [.null, .null, .null]) rfl inX3 tyX3 tyX3_ok (fun j hj => by rcases (show j = 0 ∨ j = 1 ∨ j = 2 by omega) with rfl | rfl | rfl <;> rfl) q574 q575 q132 (Nat.le_of_ble_eq_true rfl) (Nat.le_of_ble_eq_true rfl) dL_law_0 (fun x hx => ?_)
  refine rg_widen (k2 := 1) (n2 := 3) (by decide) (by decide) ?_
  refine rg_mem (M2 := (mset (fun _ => none : rMem) x (.inr (4, [.null, .null, .null])))) rfl ?_
  refine rg_dup F (pc := 3) dL_law_3 rfl ?_
  refine rg_callIv F (pc := 4) (As := []) (rest := [.ref x]) (c_xInit2 l D _ x none none none mset_eq) q578 iq_X3_init rfl rfl (Nat.le_of_ble_eq_true rfl) (Nat.le_of_ble_eq_true rfl) (Nat.le_of_ble_eq_true rfl) ⟨(Nat.le_of_ble_eq_true rfl), (Nat.le_of_ble_eq_true rfl)⟩ dL_law_4 (fun M1 hp => ?_)
  obtain ⟨w1, w2, w3, q6, h1, h2, h3, h6, n12, n13, n23, n16, n26, n36, hM1⟩ := hp
  obtain ⟨u, hc⟩ := cV_0 (mset_eq) h1 h2 h3 h6 n12 n13 n23 n16 n26 n36 hM1
  clear hM1 h1 h2 h3 h6
  refine rg_widen (k2 := 5) (n2 := 16) (by decide) (by decide) ?_
  refine rg_astore_n F (pc := 7) (lv' := [some (.ref (b)), some (.ref (x)), none, none, none, none, none, none, none]) dL_law_7 (Nat.le_of_ble_eq_true rfl) rfl ?_
  refine rg_new F (pc := 8) (ci := 5) (fs := [.int 0, .int 0, .null, .null, .null, .null, .null, .int 0, .null, .null, .null, .null, .null, .null, .null, .null, .null, .null, .null, .null, .int 0]) rfl inX4 tyX4 tyX4_ok (fun j hj => by rcases (show j = 0 ∨ j = 1 ∨ j = 2 ∨ j = 3 ∨ j = 4 ∨ j = 5 ∨ j = 6 ∨ j = 7 ∨ j = 8 ∨ j = 9 ∨ j = 10 ∨ j = 11 ∨ j = 12 ∨ j = 13 ∨ j = 14 ∨ j = 15 ∨ j = 16 ∨ j = 17 ∨ j = 18 ∨ j = 19 ∨ j = 20 by omega) with rfl | rfl | rfl | rfl | rfl | rfl | rfl | rfl | rfl | rfl | rfl | rfl | rfl | rfl | rfl | rfl | rfl | rfl | rfl | rfl | rfl <;> rfl) q576 q577 q399 (Nat.le_of_ble_eq_true rfl) (Nat.le_of_ble_eq_true rfl) dL_law_8 (fun mo hmo => ?_)
  refine rg_widen (k2 := 6) (n2 := 37) (by decide) (by decide) ?_
  refine rg_mem (M2 := (mset M1 mo (.inr (5, [.int (nI 0), .int (nI 0), .null, .null, .null, .null, .null, .int (nI 0), .null, .null, .null, .null, .null, .null, .null, .null, .null, .null, .null, .null, .int (nI 0)])))) rfl ?_
  refine rg_dup F (pc := 11) dL_law_11 rfl ?_
  refine rg_mem ((mj_new hmo).trans (mj_comm (mone_dis hmo))) ?_
  refine rg_fIv F (pc := 12) (M := mone mo (.inr (5, [.int (nI 0), .int (nI 0), .null, .null, .null, .null, .null, .int (nI 0), .null, .null, .null, .null, .null, .null, .null, .null, .null, .null, .null, .null, .int (nI 0)]))) (N := M1) (As := []) (rest := [.ref mo]) (r_init l D _ mo mone_eq) q580 iq_X4_init rfl rfl (Nat.le_of_ble_eq_true rfl) (Nat.le_of_ble_eq_true rfl) (Nat.le_of_ble_eq_true rfl) ⟨(Nat.le_of_ble_eq_true rfl), (Nat.le_of_ble_eq_true rfl)⟩ (mone_dis hmo).sym dL_law_12 (fun M2 hp2 hdis => ?_)
  obtain ⟨ad, Fn, lo, hm⟩ := hp2
  refine rg_widen (k2 := 23) (n2 := 787) (by decide) (by decide) ?_
  refine rg_astore_n F (pc := 15) (lv' := [some (.ref (b)), some (.ref (x)), some (.ref (mo)), none, none, none, none, none, none]) dL_law_15 (Nat.le_of_ble_eq_true rfl) rfl ?_
  refine rg_iconst F (pc := 16) (v := nI 1) dL_law_16 (by decide) ?_
  refine rg_newL F (pc := 17) (N := 1) (by decide) (Nat.le_of_ble_eq_true rfl) (Nat.le_of_ble_eq_true rfl) q211 dL_law_17 (fun o ho => ?_)
  obtain ⟨ho2, ho1⟩ := mj_none ho
  have hd9 : mdis (mjoin M1 (mone o (oV D (fun _ => 0)))) M2 := mdis_j.mpr ⟨hdis.sym, (mone_dis ho2).sym⟩
  refine rg_mem (((mj_new ho).trans mj_assoc).trans (mj_comm hd9.sym)) ?_
  refine rg_widen (k2 := 100) (n2 := 2000) (by decide) (by decide) ?_
  refine rg_astore_n F (pc := 19) (lv' := [some (.ref (b)), some (.ref (x)), some (.ref (mo)), some (.ref (o)), none, none, none, none, none]) dL_law_19 (Nat.le_of_ble_eq_true rfl) rfl ?_
  refine rg_iconst F (pc := 20) (v := nI 0) dL_law_20 (by decide) ?_
  refine rg_istore F (pc := 21) (lv' := [some (.ref (b)), some (.ref (x)), some (.ref (mo)), some (.ref (o)), some (.int (nI 0)), none, none, none, none]) dL_law_21 (Nat.le_of_ble_eq_true rfl) rfl ?_
  exact L_loop F hr hNc hl9 hX hbl hL 513 0 _ (by decide) (by decide) ⟨M1, M2, fun _ => 0, zP0, 0, 0, u, ad, Fn, nI 0, lo, rfl, ho1, hd9, hc, hm⟩
end LOOP
set_option maxHeartbeats 4000000 in
set_option maxRecDepth 100000 in
theorem whole_start {p : Program} {e : Env} {s : State} {m : MethodId} {below : List Frame} {meth : Method} {c : Code} (l : Launch) (hflags : l.flags = flags0) {b L : Nat} {xs : Nat → Int32} (hL : L ≤ 3072) (C0 : lw_At p s m meth c b L xs) : W p l e room_1 s m #[Value.ref b] below meth c s.heap [] 0 0 (lw_Z below #[Value.ref b] s) (entryFrame m ([Value.ref b] : List Value).toArray 9) := by
  obtain ⟨D, hK, hSt, hNc⟩ := law_D C0
  obtain ⟨hx, hb, hr, hml, hown, hts0, hX, hbl, hlocks, hgv⟩ := id C0
  have hl9 : l.stackTraces = false := by
    unfold Launch.stackTraces
    rw [hflags]
    decide +kernel
  have F : rF p l e room_1 s m #[Value.ref b] below meth c cL_law 9 RL D (fun q => s.heap.size ≤ q) := ⟨hx, hb, hml, hown, fun w h => hts0 w (wsL_law_in w h), hK, fun q h => h, hSt, hlocks⟩
  have h := L_start F hr hNc hl9 hX hbl hL
  have hl := lv_entry ([.ref b]) (n := 9) (Nat.le_of_ble_eq_true rfl)
  rw [lg_entry_eq]
  exact h s.heap [] _ ⟨(fun a e h9 => by cases h9), (fun a e h9 => by cases h9), va_S.rf⟩ ⟨rfl, hl⟩
