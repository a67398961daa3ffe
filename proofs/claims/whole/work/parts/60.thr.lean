/-! methods of the class that throw -/
abbrev xNm : List String := ["java/lang/RuntimeException", "java/lang/Exception"]
def xrOk (ik ic : Nat) (X : String) : Prop := (Bundle.fit X = true ∧ Cond.classLink RX3 ik X ∈ wsL_law ∧ Cond.initialized X ∈ wsL_law) ∧ (∀ w ∈ (vx_atS RX3 ic X xNm).filter goodWord, w ∈ lw_tbl) ∧ (∀ w ∈ (vx_atS RX3 ic X xNm).filter (fun w => !goodWord w), w ∈ tables_1 ∧ rNk w = true) ∧ (∀ w ∈ Cond.classLink RX3 ik X :: Cond.initialized X :: vx_atS RX3 ic X xNm, vx_ot w = true) ∧ ∀ w ∈ vx_atS RX3 ic X xNm, w.onTables = true ∨ goodWord w = true
theorem xr_i : xrOk 170 174 "java/lang/IndexOutOfBoundsException" := ⟨⟨by decide +kernel, wsL_of (by decide +kernel) rfl, wsL_of (by decide +kernel) rfl⟩, by decide +kernel, by decide +kernel, by decide +kernel, by decide +kernel⟩
theorem xr_a : xrOk 26 30 "java/lang/IllegalArgumentException" := ⟨⟨by decide +kernel, wsL_of (by decide +kernel) rfl, wsL_of (by decide +kernel) rfl⟩, by decide +kernel, by decide +kernel, by decide +kernel, by decide +kernel⟩
theorem xr_s : xrOk 43 47 "java/lang/IllegalStateException" := ⟨⟨by decide +kernel, wsL_of (by decide +kernel) rfl, wsL_of (by decide +kernel) rfl⟩, by decide +kernel, by decide +kernel, by decide +kernel, by decide +kernel⟩
theorem xNm_ok : ∀ n ∈ xNm, Bundle.fit n = true := by decide +kernel
abbrev XQ (D : va_G) (A : Nat → Prop) (M : rMem) (E : String) : String → State → State → Prop := vx_X (fun _ : Unit => True) (fun E' _ t => E' = E ∧ rP D M t.heap) A
abbrev QF : Array Value → State → Outcome → State → Prop := fun _ _ _ _ => False
/-- the method throws an E, and the memory is as it was -/
def CX (l : Launch) (D : va_G) (y : MethodName) (cc : ByteArray) (maxL : Nat) (ret : Option FieldType) (lev mc ms : Nat) (M : rMem) (av : List Value) (E : String) : Prop :=
  ∀ sz : Nat, vx_Met l y (wS y cc maxL ret) (rR lev mc ms) (cPre D M sz av) QF (XQ D (fr M sz) M E) mc ms (fr M sz)
theorem rX {l : Launch} {D : va_G} {y : MethodName} {cc : ByteArray} {maxL : Nat} {ret : Option FieldType} {lev mc ms : Nat} {M : rMem} {av : List Value} {E : String} {lv0 : List (Option Value)}
    (hy : plainName y.cls = true) (hl0 : lvA lv0 = lv_args 0 av) (hn0 : lv0.length = maxL) (hsl : (lg_sl av).length ≤ maxL)
    (body : ∀ (p : Program) (e : Env) (s : State) (m : MethodId) (args : Array Value) (below : List Frame) (meth : Method) (c : Code) (A : Nat → Prop), rF p l e (rR lev mc ms) s m args below meth c cc maxL y.cls D A → (∀ x ∈ c.exceptionTable.toList, False) → rG p l e (rR lev mc ms) s m args below meth c D A maxL (vx_MQ below QF (XQ D A M E) args s mc ms A) M 0 0 lv0 0 []) : CX l D y cc maxL ret lev mc ms M av E := by
  intro sz
  refine vx_ofW (cc := cc) (maxL := maxL) (ret := ret) hy rfl ?_
  intro p e s m args below meth c s₁ B hml ht hv
  obtain ⟨rfl, hsz, hP, hK, hSt⟩ := hv
  subst hsz
  have F : rF p l e (rR lev mc ms) s m av.toArray below meth c cc maxL y.cls D (fr M s.heap.size) := ⟨B.exec, B.bytes, hml, findClass_of_methodNamed B.named, fun w h => atoms_spec (ws := wS y cc maxL ret) B.pre w (List.mem_cons_of_mem _ h), hK, fun q h => Or.inr h, hSt, B.notSynchronized⟩
  have h := body p e s m av.toArray below meth c _ F ht
  have hl := lv_entry av hsl
  rw [lg_entry_eq]
  exact h s.heap [] _ ⟨hP, fun a x hx => Or.inl ⟨x, hx⟩, va_S.rf⟩ ⟨hn0, by rw [hl0]; exact hl⟩
section RX
variable {p : Program} {l : Launch} {e : Env} {R : Room} {s : State} {m : MethodId} {args : Array Value} {below : List Frame} {meth : Method} {c : Code} {cc : ByteArray} {nL : Nat} {own : String} {D : va_G} {A : Nat → Prop} {Q : State → Prop} {M : rMem} {k n pc : Nat} {lv lv' : List (Option Value)} {st : List Value} {mc ms : Nat} {E : String}
theorem xr_hat (F : rF p l e R s m args below meth c cc nL own D A) {ik ic : Nat} {X : String} (h : xrOk ik ic X) : ∀ w ∈ vx_atS RX3 ic X xNm, w.before args s = true := fun w hw => by
  by_cases hg : goodWord w = true
  · exact F.2.2.2.2.1 w (wsL_of (h.2.1 w (List.mem_filter.mpr ⟨hw, hg⟩)) hg)
  · obtain ⟨h1, h2⟩ := h.2.2.1 w (List.mem_filter.mpr ⟨hw, by simp [hg]⟩)
    exact va_Nw.use ((h.2.2.2.2 w hw).resolve_right hg) (F.2.2.2.2.2.2.2.1.2.2.2.2.2.2.2.2.2.1 w h1 h2)
theorem rg_thr (hl : l.stackTraces = false) (F : rF p l e R s m args below meth c cc nL RX3 D A) {ik is ic : Nat} {X text : String} (hx : xrOk ik ic X) (hs : (is, text) ∈ rStr) (ht : ∀ x ∈ c.exceptionTable.toList, False)
    (d0 : decode cc pc = .ok (.new ik, 3)) (d3 : decode cc (pc + 3) = .ok (.dup, 1)) (d4 : decode cc (pc + 4) = .ok (.ldc is, 2)) (d6 : decode cc (pc + 6) = .ok (.invokespecial ic, 3)) (d9 : decode cc (pc + 9) = .ok (.athrow, 1))
    (hfr : 6 ≤ R.frames) (hlo : (st.map fun v => v.category).sum + 82 ≤ R.locals) (hc : k + 1 ≤ R.cells) (hsl : n + 6 ≤ R.slots) (hc2 : k + 1 ≤ mc) (hs2 : n + 6 ≤ ms) : rG p l e R s m args below meth c D A nL (vx_MQ below QF (XQ D A M X) args s mc ms A) M k n lv pc st := by
  intro H locs ls hS hL
  obtain ⟨a, ha⟩ := F.2.2.2.2.2.2.2.1.2.2.2.2.2.2.2.2.1 _ hs
  exact vx_throwS F.1 F.2.1 hl (own := RX3) (cls := X) (names := xNm) (ik := ik) (is := is) (ic := ic) F.2.2.2.1 hx.1.1 xNm_ok (F.2.2.2.2.1 _ hx.1.2.1) (F.2.2.2.2.1 _ hx.1.2.2) ha (xr_hat F hx) hx.2.2.2.1 F.2.2.2.2.2.2.2.1.2.2.1 F.2.2.2.2.2.2.2.1.2.2.2.1 hS.2.2 (hL.2.1.trans F.2.2.1.symm) d0 d3 d4 d6 d9 (fun x h => (ht x h).elim) (by show 2 + 3 < R.frames; omega) (by show _ + (13 * (2 + 1) + 43) ≤ R.locals; omega) hc hsl F.2.2.2.2.2.2.2.2
    (fun t _ hz hk => ⟨(), trivial, ⟨rfl, (hS.newOut hz hk).1⟩, Nat.le_trans hS.2.2.1 hz, fun q h1 h2 => (hk q (Nat.lt_of_lt_of_le h1 hS.2.2.1)).trans (hS.2.2.2.1 q h1 h2)⟩) hS.2.2.2.2 hc2 hs2
/-- a call that always throws -/
theorem vx_callF {SX : Type} {H : Heap} {locs : List Loc} {cells slots mc ms : Nat} {ls : Array Slot} {st0 rest : List Value} {free : Addr → Prop} {A0 : Nat → Prop} {H0 : Heap} {px : SX → Prop} {BX : String → SX → State → Prop} {AX : Nat → Prop} (hr : vx_Run p l e R s m args below meth c H locs cells slots mc ms (F0 m pc ls st0) rest (fun _ _ _ => False) (vx_X px BX AX) free) (hS : va_S A0 H0 H locs) (hf : ∀ q, free q → A0 q) (hAX : ∀ q, q < H.size → AX q → A0 q)
    (kx : ∀ (E : String) (ce : Cell) (q9 : Addr) (u : SX) (t : State) (H1 : Heap) (locs1 : List Loc), t.heap = H1 → s.vm.Alike t.vm → px u → BX E u t → va_S A0 H0 H1 locs1 → H1[q9]? = some ce → ce.vm = .none → s.vm.findClass E = some ce.cls → vx_W p l e R s m args below meth c H1 locs1 (cells + mc) (slots + ms) Q (F0 m pc ls rest) q9) : W p l e R s m args below meth c H locs cells slots Q (F0 m pc ls st0) := by
  intro T hT X
  rcases hr T hT X with ⟨v, st₀, t, T', L, h0, X', hL, e1, e2, hF, st⟩ | ⟨q, st₀, t, T', L, E, ce, h0, X', hL, e1, e2, ⟨u, hp, hb, hF⟩, hce, hcv, hcl, st⟩
  · exact hF.elim
  · obtain ⟨k1, k2, k3⟩ := vx_keep h0 e1 hS hAX hf hL hF
    obtain ⟨t2, a1, b1⟩ := kx E ce q u t T'.heap (locs ++ L) e1.symm (by rw [← e2]; exact X'.warmed.alike) hp hb k3 (by rw [e1]; exact hce) hcv hcl T' rfl X'
    exact ⟨t2, st.trans a1, b1⟩
theorem rx_out (F : rF p l e R s m args below meth c cc nL own D A) (ht : ∀ x ∈ c.exceptionTable.toList, False) {k2 n2 : Nat} (hk2 : k2 ≤ mc) (hn2 : n2 ≤ ms) {E' : String} {ce : Cell} {q9 : Addr} {t : State} {H1 : Heap} {locs1 : List Loc} {ls : Array Slot} {rest : List Value} (e1 : t.heap = H1) (hB : E' = E ∧ rP D M t.heap) (hS1 : va_S A s.heap H1 locs1) (hce : H1[q9]? = some ce) (hcv : ce.vm = .none) (hcl : s.vm.findClass E' = some ce.cls) :
    vx_W p l e R s m args below meth c H1 locs1 k2 n2 (vx_MQ below QF (XQ D A M E) args s mc ms A) (F0 m pc ls rest) q9 :=
  vx_out (fun x h => (ht x h).elim) F.2.2.2.2.2.2.2.2 hce hcv hcl (fun t2 h2 _ => ⟨(), trivial, ⟨hB.1, by rw [h2, ← e1]; exact hB.2⟩, hS1.F h2⟩) hS1.2.2 hk2 hn2
theorem rg_outV (F : rF p l e R s m args below meth c cc nL own D A) (ht : ∀ x ∈ c.exceptionTable.toList, False) {y : MethodName} {cc2 : ByteArray} {maxL lev mc2 ms2 i np : Nat} {ret : Option FieldType} {b ci N : Nat} {T : u_T} {fs : List Value} {As rest : List Value} (hM : CX l D y cc2 maxL ret lev mc2 ms2 M (.ref b :: As) E) (hw : Cond.methodLink own i y ∈ wsL_law) (hq : rVq y cc2 maxL ret np) (hrc : vwCl[ci]? = some (y.cls, T, N)) (hrm : M b = some (.inr (ci, fs))) (hn : As.length = np) (hst : st = As.reverse ++ .ref b :: rest) (hcat : (rest.map fun v => v.category).sum ≤ 8) (hlev : lev + 1 ≤ R.frames) (hloc : 8 + (maxL + 11) + 32 * lev ≤ R.locals) (hcs : k + mc2 ≤ R.cells ∧ n + ms2 ≤ R.slots) (hk2 : k + mc2 ≤ mc) (hn2 : n + ms2 ≤ ms) (hd : decode cc pc = .ok (.invokevirtual i, 3)) : rG p l e R s m args below meth c D A nL (vx_MQ below QF (XQ D A M E) args s mc ms A) M k n lv pc st := by
  subst hst
  intro H locs ls hS hl
  exact vx_callF (vx_runV (As := As) (rest := rest) ⟨F.1, F.2.1, F.2.2.1, F.2.2.2.1, F.2.2.2.2.1⟩ (hM H.size) (cwV (own := own) np F.2.2.2.2.1 (rGV hw np hq) rfl rfl rfl ⟨rfl, hq.2.2.2.2⟩ ⟨hlev, by show 8 + (maxL + 11) + 32 * lev ≤ R.locals; exact hloc⟩) ⟨cPre_blind, va_recv F.2.2.2.2.2.1 (rG_arr1 (hS.1 b _ hrm)) (q0 := 0) hrc rfl, rC_pre F hS _⟩ rfl hn hl.2.1 rfl (lv_room hcat) hd hcs) hS.2.2 (fun q h => rC_fr F hS q h) (fun q _ h => rC_fr F hS q h) (fun E' ce q9 u t H1 locs1 e1 hvm hp hB hS1 hce hcv hcl => rx_out F ht hk2 hn2 e1 hB hS1 hce hcv hcl)
theorem rg_outS (F : rF p l e R s m args below meth c cc nL own D A) (ht : ∀ x ∈ c.exceptionTable.toList, False) {y : MethodName} {cc2 : ByteArray} {maxL lev mc2 ms2 i np : Nat} {ret : Option FieldType} {As rest : List Value} (hM : CX l D y cc2 maxL ret lev mc2 ms2 M As E) (hw : Cond.methodLink own i y ∈ wsL_law) (hq : rSq y cc2 maxL ret np) (hn : As.length = np) (hst : st = As.reverse ++ rest) (hcat : (rest.map fun v => v.category).sum ≤ 8) (hlev : lev + 1 ≤ R.frames) (hloc : 8 + (maxL + 11) + 32 * lev ≤ R.locals) (hcs : k + mc2 ≤ R.cells ∧ n + ms2 ≤ R.slots) (hk2 : k + mc2 ≤ mc) (hn2 : n + ms2 ≤ ms) (hd : decode cc pc = .ok (.invokestatic i, 3)) : rG p l e R s m args below meth c D A nL (vx_MQ below QF (XQ D A M E) args s mc ms A) M k n lv pc st := by
  subst hst
  intro H locs ls hS hl
  exact vx_callF (vx_runS (As := As) (rest := rest) ⟨F.1, F.2.1, F.2.2.1, F.2.2.2.1, F.2.2.2.2.1⟩ (hM H.size) (va_cwS (own := own) np F.2.2.2.2.1 (rGS hw np hq) rfl rfl rfl hq.2.2.2 ⟨hlev, by show 8 + (maxL + 11) + 32 * lev ≤ R.locals; exact hloc⟩) ⟨cPre_blind, rC_pre F hS _⟩ rfl hn hl.2.1 rfl (lv_room hcat) hd hcs) hS.2.2 (fun q h => rC_fr F hS q h) (fun q _ h => rC_fr F hS q h) (fun E' ce q9 u t H1 locs1 e1 hvm hp hB hS1 hce hcv hcl => rx_out F ht hk2 hn2 e1 hB hS1 hce hcv hcl)
end RX
