theorem zt0 : Cond.initialized "java/util/ArrayList" ∈ lw_tbl := List.mem_append_right _ (List.mem_of_getElem? (i := 4) (by decide +kernel))
theorem zt1 : Cond.initialized "java/lang/Throwable" ∈ lw_tbl := List.mem_append_right _ (List.mem_of_getElem? (i := 6) (by decide +kernel))
theorem zt2 : Cond.laysStatic "java/lang/Throwable" "UNASSIGNED_STACK" "[Ljava/lang/StackTraceElement;" ∈ lw_tbl := List.mem_append_right _ (List.mem_of_getElem? (i := 54) (by decide +kernel))
theorem zt3 : Cond.laysStatic "java/lang/Throwable" "SUPPRESSED_SENTINEL" "Ljava/util/List;" ∈ lw_tbl := List.mem_append_right _ (List.mem_of_getElem? (i := 56) (by decide +kernel))
theorem zt4 : Cond.stringRef RX3 28 "syllables are 1 to 4, and the stress is a set of them" ∈ lw_tbl := List.mem_append_right _ (List.mem_of_getElem? (i := 68) (by decide +kernel))
theorem zt5 : Cond.stringRef RX3 37 "vowel and end are 0 to 9" ∈ lw_tbl := List.mem_append_right _ (List.mem_of_getElem? (i := 98) (by decide +kernel))
theorem zt6 : Cond.stringRef RX3 45 "there are 30 words" ∈ lw_tbl := List.mem_append_right _ (List.mem_of_getElem? (i := 112) (by decide +kernel))
theorem zt7 : Cond.laysStatic "java/util/ArrayList" "DEFAULTCAPACITY_EMPTY_ELEMENTDATA" "[Ljava/lang/Object;" ∈ lw_tbl := List.mem_append_right _ (List.mem_of_getElem? (i := 171) (by decide +kernel))
theorem zt8 : Cond.stringRef RX3 172 "there is no such number" ∈ lw_tbl := List.mem_append_right _ (List.mem_of_getElem? (i := 232) (by decide +kernel))
theorem zt9 : Cond.stringRef RX3 73 "a metre is 0 to 3, feet are 1 to 6, a mark is 0 to 5" ∈ lw_tbl := List.mem_append_right _ (List.mem_of_getElem? (i := 273) (by decide +kernel))
theorem zt10 : Cond.stringRef RX3 75 "there are 10 lines" ∈ lw_tbl := List.mem_append_right _ (List.mem_of_getElem? (i := 274) (by decide +kernel))
theorem zt11 : Cond.stringRef RX3 100 "the line has 8 words" ∈ lw_tbl := List.mem_append_right _ (List.mem_of_getElem? (i := 474) (by decide +kernel))
theorem zt12 : Cond.stringRef RX3 110 "the line has no words" ∈ lw_tbl := List.mem_append_right _ (List.mem_of_getElem? (i := 484) (by decide +kernel))
theorem ex_ref {t : Term} {n : String} {args : Array Value} {s : State} (h : (Cond.exactly t n).before args s = true) : ∃ a, t.eval args s none [] s = some (.ref a) := by
  cases hv : t.eval args s none [] s with
  | none => simp [Cond.before, Cond.holds, Cond.value, hv] at h
  | some w =>
    cases w with
    | ref a => exact ⟨a, rfl⟩
    | _ => cases hf : s.vm.findClass n <;> simp [Cond.before, Cond.holds, Cond.value, hv, hf] at h
set_option maxHeartbeats 4000000 in
set_option maxRecDepth 100000 in
/-- what the walk stands on, out of the statement's start -/
theorem law_D {p : Program} {s : State} {m : MethodId} {meth : Method} {c : Code} {b L : Nat} {xs : Nat → Int32} (hL : L ≤ 260) (C0 : lw_At p s m meth c b L xs) : ∃ D : va_G, va_K D vwCl (rTy D) s ∧ rStat D (fun q => s.heap.size ≤ q) s s.heap ∧ rSb D = b := by
  obtain ⟨ys, hys⟩ : ∃ ys : Nat → Nat, xs = fun j => nI (ys j) := ⟨fun j => (wb_of32 (xs j)).choose, funext fun j => (wb_of32 (xs j)).choose_spec.2⟩
  subst hys
  obtain ⟨-, -, -, -, -, hts0, hX, hbl, -, hgv⟩ := C0
  have hts : ∀ w ∈ wsL_law, w.before #[Value.ref b] s = true := fun w h => hts0 w (wsL_law_in w h)
  have hs := flat_of_before _ hgv
  have hA : ∀ a : Nat, a < s.heap.size → ¬ (fun q : Nat => s.heap.size ≤ q) a := fun a h => Nat.not_le.mpr h
  obtain ⟨c0, i0, hK0⟩ := u_known (C := RJx4a65c) (T := TJx4a65c) (N := 3) (n := 3) hts inJx4a65c (hts _ q18)
  obtain ⟨c1, i1, hK1⟩ := u_known (C := RX0) (T := TX0) (N := 2) (n := 2) hts inX0 (hts _ q205)
  obtain ⟨c2, i2, hK2⟩ := u_known (C := RX1) (T := TX1) (N := 17) (n := 17) hts inX1 (hts _ q296)
  obtain ⟨c3, i3, hK3⟩ := u_known (C := RX2) (T := TX2) (N := 6) (n := 6) hts inX2 (hts _ q218)
  obtain ⟨c4, i4, hK4⟩ := u_known (C := RX3) (T := TX3) (N := 3) (n := 3) hts inX3 (hts _ q389)
  obtain ⟨cJ, kJ, pJ, aJ1, aJ2, aJ3⟩ := Cond.arrayClass_spec (hts _ q211)
  obtain ⟨pO, cO, kO, aO1, -, aO2, aO3, aO4⟩ := Cond.arrayOver_spec (hts0 _ (List.mem_append_right _ qn8))
  obtain ⟨t0, e0, T0⟩ := va_Tof (s := s) (args := #[Value.ref b]) (tm := .static "java/util/ArrayList" "DEFAULTCAPACITY_EMPTY_ELEMENTDATA" "[Ljava/lang/Object;") (ty := .object "java/lang/Object") (N := 0) (f := fun _ => .null) (A := fun q => s.heap.size ≤ q) (by decide) (hs _ (by decide +kernel)) ((va_eqt (z := 0) (hs _ (by decide +kernel))).trans rfl) (fun j hj => absurd hj (Nat.not_lt_zero _)) hA
  obtain ⟨t3, hmi⟩ := va_Mi.of (hs (Cond.isRef (.mirror "[Ljava/lang/Object;")) (by decide +kernel))
  have hstr : ∀ q ∈ rStr, ∃ a, vk_R RX3 q.1 q.2 a s := by
    intro q hq
    have key : ∀ (n : Nat) (tx : String), Cond.stringRef RX3 n tx ∈ lw_tbl → (Cond.exactly (.string RX3 n) "java/lang/String").before #[Value.ref b] s = true → ∃ a, vk_R RX3 n tx a s := fun n tx h1 h2 => by
      obtain ⟨a, ha⟩ := ex_ref h2
      exact ⟨a, vk_R.of (hts0 _ h1) ha⟩
    unfold rStr at hq
    simp only [List.mem_cons, List.not_mem_nil, or_false] at hq
    rcases hq with rfl | rfl | rfl | rfl | rfl | rfl | rfl | rfl
    · exact key _ _ zt4 (hs _ (by decide +kernel))
    · exact key _ _ zt5 (hs _ (by decide +kernel))
    · exact key _ _ zt6 (hs _ (by decide +kernel))
    · exact key _ _ zt8 (hs _ (by decide +kernel))
    · exact key _ _ zt9 (hs _ (by decide +kernel))
    · exact key _ _ zt10 (hs _ (by decide +kernel))
    · exact key _ _ zt11 (hs _ (by decide +kernel))
    · exact key _ _ zt12 (hs _ (by decide +kernel))
  refine ⟨(fun k => match k with | 0 => c0 | 1 => c1 | 2 => c2 | 3 => c3 | 4 => c4 | 7 => cJ | _ => cO, fun k => match k with | 0 => i0 | 1 => i1 | 2 => i2 | 3 => i3 | 4 => i4 | 10 => fun _ => L | 11 => ys | _ => fun j => match j with | 0 => t0 | 1 => b | _ => t3), ⟨fun k q hq => ?_, fun k q hq => ?_⟩, ?_, rfl⟩
  · match k, hq with
    | 0, hq => cases hq; exact hK0
    | 1, hq => cases hq; exact hK1
    | 2, hq => cases hq; exact hK2
    | 3, hq => cases hq; exact hK3
    | 4, hq => cases hq; exact hK4
    | k + 5, hq => simp at hq
  · match k, hq with
    | 0, hq => cases hq; exact ⟨fun n z => ⟨fun k h => (by cases h), kJ, aJ2, pJ, aJ3⟩, aJ1⟩
    | 1, hq => cases hq; exact ⟨fun n z => ⟨fun k h => (by cases h), kJ, aJ2, pJ, aJ3⟩, aJ1⟩
    | 2, hq => cases hq; exact ⟨fun n z => ⟨fun k h => (by cases h), kO, aO2, pO, aO3⟩, kO, pO, aO2, aO3, aO1, aO4⟩
    | k + 3, hq => simp at hq
  · refine ⟨T0, va_Zref (hts0 _ zt7) (hts0 _ zt0) e0 hA, vx_Zqof (hts0 _ zt2) (hts0 _ zt1) (hs (Cond.isRef (.static "java/lang/Throwable" "UNASSIGNED_STACK" "[Ljava/lang/StackTraceElement;")) (by decide +kernel)) hA, vx_Zqof (hts0 _ zt3) (hts0 _ zt1) (hs (Cond.isRef (.static "java/lang/Throwable" "SUPPRESSED_SENTINEL" "Ljava/util/List;")) (by decide +kernel)) hA, ⟨hX, hA b hbl, hL⟩, va_Zref (hts0 _ zt7) (hts0 _ zt0) e0 hA, T0, va_Zref (hts0 _ zt7) (hts0 _ zt0) e0 hA, hstr, fun w hw hk => ?_, hmi⟩
    have h9 := hts0 _ (List.mem_append_right _ hw)
    cases w
    case arrayOver ty => cases ty <;> first | exact h9 | exact Bool.noConfusion (show false = true from hk)
    all_goals first | exact va_Nw.of rfl h9 | exact Bool.noConfusion (show false = true from hk)
