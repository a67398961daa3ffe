section LOOP
variable {p : Program} {l : Launch} {e : Env} {s : State} {m : MethodId} {below : List Frame} {meth : Method} {c : Code} {D : va_G} {M : rMem} {k n x : Nat}
/-- the law's end -/
theorem rg_lend (F : rF p l e room_1 s m #[Value.ref (rSb D)] below meth c cL_law 26 RL D (fun q => s.heap.size ≤ q)) (hr : meth.sig.returnType = ret) (hk : k ≤ 610524) (hn : n ≤ 7270126) {lv : List (Option Value)} : rG p l e room_1 s m #[Value.ref (rSb D)] below meth c D (fun q => s.heap.size ≤ q) 26 (lw_Z below #[Value.ref (rSb D)] s) M k n lv 1173 [.int (nI 1)] := fun H locs ls hS hl =>
  va_forget hS.2.2.2.2 (W.widen hk hn (W.base (lw_ret (Drawn.sameBut.refl s.drawn lw_cs) F.1 F.2.1 hr F.2.2.2.2.2.2.2.2 dL_law_1173)))
set_option maxHeartbeats 4000000 in
set_option maxRecDepth 100000 in
theorem L_loop (F : rF p l e room_1 s m #[Value.ref (rSb D)] below meth c cL_law 26 RL D (fun q => s.heap.size ≤ q)) (hr : meth.sig.returnType = ret) : ∀ (d tm : Nat) (M : rMem) (P : Poem) (nW nL : Nat) (u : Nat → Nat → Nat), 24 - tm < d → tm ≤ 24 → cV D M x P nW nL u → 1 ≤ nW → 1 ≤ nL → rG p l e room_1 s m #[Value.ref (rSb D)] below meth c D (fun q => s.heap.size ≤ q) 26 (lw_Z below #[Value.ref (rSb D)] s) M (400 + 20 * tm) (30000 + 2000 * tm) [some (.ref (rSb D)), some (.ref (x)), some (.int (nI tm)), none, none, none, none, none, none, none, none, none, none, none, none, none, none, none, none, none, none, none, none, none, none, none] 7 [] := by
  intro d
  induction d with
  | zero => intro tm M P nW nL u hd; exact absurd hd (Nat.not_lt_zero _)
  | succ d ih =>
    intro tm M P nW nL u hd htm hV h1W h1L
    refine rg_iload_n F (pc := 7) dL_law_7 rfl ?_
    refine rg_bipush F (pc := 8) (v := nI 24) dL_law_8 (by decide) ?_
    refine rg_ncmp_ge F (pc := 10) (tgt := 1172) dL_law_10 (by decide) (by omega) (by omega) (fun c10 => ?_) (fun c10 => ?_)
    · refine rg_iconst F (pc := 1172) (v := nI 1) dL_law_1172 (by decide) ?_
      exact rg_lend F hr (by omega) (by omega)
    · have ht : tm < 24 := by omega
      refine L_A F ht hV h1W h1L (by omega) (by omega) (fun M' P' nW' nL' u' kx hV' hW' hL' hkx => ?_)
      refine L_B F ht hkx hV' hW' hL' (by omega) (by omega) (fun M2 hV2 => ?_)
      refine rg_iinc F (pc := 1166) (v := nI (tm + 1)) (lv' := [some (.ref (rSb D)), some (.ref (x)), some (.int (nI (tm + 1))), none, none, none, none, none, none, none, none, none, none, none, none, none, none, none, none, none, none, none, none, none, none, none]) dL_law_1166 rfl (nI_add _ 1) (Nat.le_of_ble_eq_true rfl) rfl ?_
      refine rg_goto F (pc := 1169) (tgt := 7) dL_law_1169 (by decide) ?_
      exact rg_widen (k2 := 400 + 20 * (tm + 1)) (n2 := 30000 + 2000 * (tm + 1)) (by omega) (by omega) (ih (tm + 1) M2 P' nW' nL' u' (by omega) (by omega) hV2 hW' hL')
set_option maxHeartbeats 4000000 in
set_option maxRecDepth 100000 in
theorem L_start (F : rF p l e room_1 s m #[Value.ref (rSb D)] below meth c cL_law 26 RL D (fun q => s.heap.size ≤ q)) (hr : meth.sig.returnType = ret) : rG p l e room_1 s m #[Value.ref (rSb D)] below meth c D (fun q => s.heap.size ≤ q) 26 (lw_Z below #[Value.ref (rSb D)] s) (fun _ => none) 0 0 [some (.ref (rSb D)), none, none, none, none, none, none, none, none, none, none, none, none, none, none, none, none, none, none, none, none, none, none, none, none, none] 0 [] := by
  refine rg_aload_n F (pc := 0) dL_law_0 rfl ?_
  refine rg_callSq F (pc := 1) (As := [.ref (rSb D)]) (rest := []) (c_poem l D _) q418 sq_L_poem rfl rfl (Nat.le_of_ble_eq_true rfl) (Nat.le_of_ble_eq_true rfl) (Nat.le_of_ble_eq_true rfl) ⟨(Nat.le_of_ble_eq_true rfl), (Nat.le_of_ble_eq_true rfl)⟩ dL_law_1 (fun r9 M1 hp => ?_)
  obtain ⟨x, P, nW, nL, u, hr9, hV, h1W, h1L⟩ := hp
  refine rg_top (v2 := .ref x) (by rw [hr9]; rfl) ?_
  refine rg_widen (k2 := 400 + 20 * 0) (n2 := 30000 + 2000 * 0) (by decide) (by decide) ?_
  refine rg_astore_n F (pc := 4) (lv' := [some (.ref (rSb D)), some (.ref x), none, none, none, none, none, none, none, none, none, none, none, none, none, none, none, none, none, none, none, none, none, none, none, none]) dL_law_4 (Nat.le_of_ble_eq_true rfl) rfl ?_
  refine rg_iconst F (pc := 5) (v := nI 0) dL_law_5 (by decide) ?_
  refine rg_istore_n F (pc := 6) (lv' := [some (.ref (rSb D)), some (.ref x), some (.int (nI 0)), none, none, none, none, none, none, none, none, none, none, none, none, none, none, none, none, none, none, none, none, none, none, none]) dL_law_6 (Nat.le_of_ble_eq_true rfl) rfl ?_
  exact L_loop F hr 25 0 M1 P nW nL u (by decide) (by decide) hV h1W h1L
end LOOP
set_option maxHeartbeats 4000000 in
set_option maxRecDepth 100000 in
theorem whole_start {p : Program} {e : Env} {s : State} {m : MethodId} {below : List Frame} {meth : Method} {c : Code} (l : Launch) (hflags : l.flags = flags0) {b L : Nat} {xs : Nat → Int32} (hL : L ≤ 260) (C0 : lw_At p s m meth c b L xs) : W p l e room_1 s m #[Value.ref b] below meth c s.heap [] 0 0 (lw_Z below #[Value.ref b] s) (entryFrame m ([Value.ref b] : List Value).toArray 26) := by
  obtain ⟨D, hK, hSt, hbD⟩ := law_D hL C0
  subst hbD
  obtain ⟨hx, hb, hr, hml, hown, hts0, hX, hbl, hlocks, hgv⟩ := id C0
  have F : rF p l e room_1 s m #[Value.ref (rSb D)] below meth c cL_law 26 RL D (fun q => s.heap.size ≤ q) := ⟨hx, hb, hml, hown, fun w h => hts0 w (wsL_law_in w h), hK, fun q h => h, hSt, hlocks⟩
  have h := L_start F hr
  have hl := lv_entry ([.ref (rSb D)]) (n := 26) (Nat.le_of_ble_eq_true rfl)
  rw [lg_entry_eq]
  exact h s.heap [] _ ⟨(fun a e h9 => by cases h9), (fun a e h9 => by cases h9), va_S.rf⟩ ⟨rfl, hl⟩
