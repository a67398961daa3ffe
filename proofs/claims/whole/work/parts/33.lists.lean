theorem CM_imp {l : Launch} {D : va_G} {y : MethodName} {cc : ByteArray} {maxL : Nat} {ret : Option FieldType} {lev mc ms : Nat} {M : rMem} {av : List Value} {Qc Qc2 : (Nat → Prop) → Array Value → State → Outcome → State → Prop} (h : CM l D y cc maxL ret lev mc ms M av Qc) (hq : ∀ A a s o t, Qc A a s o t → Qc2 A a s o t) : CM l D y cc maxL ret lev mc ms M av Qc2 := fun sz =>
  MetFree.mono (h sz) (fun _ _ h => h) (fun _ _ _ _ _ h => h) (fun _ _ o t _ h => ⟨hq _ _ _ _ _ h.1, h.2⟩)
theorem CMq_imp {l : Launch} {D : va_G} {y : MethodName} {cc : ByteArray} {maxL : Nat} {ret : Option FieldType} {lev mc ms : Nat} {M : rMem} {av : List Value} {post post2 : Option Nat → rMem → Prop} (h : CMq l D y cc maxL ret lev mc ms M av post) (hp : ∀ r M', post r M' → post2 r M') : CMq l D y cc maxL ret lev mc ms M av post2 :=
  CM_imp h (fun A a s o t h => by obtain ⟨⟨r, u, h1, h2, h3⟩, h4⟩ := h; exact ⟨⟨r, u, h1, hp r u h2, h3⟩, h4⟩)
theorem CMi_imp {l : Launch} {D : va_G} {y : MethodName} {cc : ByteArray} {maxL : Nat} {ret : Option FieldType} {lev mc ms : Nat} {M : rMem} {av : List Value} {post post2 : Int32 → rMem → Prop} (h : CMi l D y cc maxL ret lev mc ms M av post) (hp : ∀ r M', post r M' → post2 r M') : CMi l D y cc maxL ret lev mc ms M av post2 :=
  CM_imp h (fun A a s o t h => by obtain ⟨⟨r, u, h1, h2, h3⟩, h4⟩ := h; exact ⟨⟨r, u, h1, hp r u h2, h3⟩, h4⟩)
theorem CMv_imp {l : Launch} {D : va_G} {y : MethodName} {cc : ByteArray} {maxL : Nat} {lev mc ms : Nat} {M : rMem} {av : List Value} {post post2 : rMem → Prop} (h : CMv l D y cc maxL lev mc ms M av post) (hp : ∀ M', post M' → post2 M') : CMv l D y cc maxL lev mc ms M av post2 :=
  CM_imp h (fun A a s o t h => by obtain ⟨⟨u, h1, h2, h3⟩, h4⟩ := h; exact ⟨⟨u, h1, hp u h2, h3⟩, h4⟩)
theorem isL_obj {D : va_G} {M : rMem} {a : Nat} {md : Int32} {bk n : Nat} {g : Nat → Nat} {b ci : Nat} {x : List Value} {e : va_E} (h : isL D M a md bk n g) (hb : M b = some (.inr (ci, x))) (hci : ci ≠ 0) : isL D (mset M b e) a md bk n g := by
  refine ⟨mset_keep h.1 (mne_ci h.1 hb (Ne.symm hci)), ?_⟩
  rcases h.2 with h2 | ⟨cap, f, h2, h3⟩
  · exact Or.inl h2
  · exact Or.inr ⟨cap, f, mset_keep h2 (mne_ao h2 hb), h3⟩
/-- a cell that is neither the list nor its row changes -/
theorem isL_keep {D : va_G} {M : rMem} {a : Nat} {md : Int32} {bk n : Nat} {g : Nat → Nat} {b : Nat} {e : va_E} (h : isL D M a md bk n g) (h1 : b ≠ a) (h2 : b ≠ bk ∨ n = 0 ∧ bk = rT0 D) : isL D (mset M b e) a md bk n g := by
  refine ⟨mset_keep h.1 (Ne.symm h1), ?_⟩
  rcases h.2 with h3 | ⟨cap, f, h3, h4⟩
  · exact Or.inl h3
  · rcases h2 with h2 | h2
    · exact Or.inr ⟨cap, f, mset_keep h3 (Ne.symm h2), h4⟩
    · exact Or.inl h2
theorem isL_new {D : va_G} {M : rMem} {a : Nat} {md : Int32} {bk n : Nat} {g : Nat → Nat} {b : Nat} {e : va_E} (h : isL D M a md bk n g) (hb : M b = none) : isL D (mset M b e) a md bk n g := by
  refine ⟨mset_keep h.1 (mne_none h.1 hb), ?_⟩
  rcases h.2 with h3 | ⟨cap, f, h3, h4⟩
  · exact Or.inl h3
  · exact Or.inr ⟨cap, f, mset_keep h3 (mne_none h3 hb), h4⟩
theorem c_lget (l : Launch) (D : va_G) (M : rMem) (a : Nat) (md : Int32) (bk n : Nat) (g : Nat → Nat) (j : Nat) (hL : isL D M a md bk n g) (hj : j < n) : CMq l D yJx4a65c_get_915e3 cJx4a65c_get_915e3 2 (some (.object "java/lang/Object")) 3 0 0 M [.ref (a), .int (nI j)] (fun r M' => r = some (g j) ∧ M' = M) := by
  rcases hL with ⟨hm, (⟨h, -⟩ | ⟨cap, f, hb, h1, h2, h3, hf⟩)⟩
  · omega
  · have h := c_get l D M a md bk n cap j f hm hb hj h1 (by omega)
    rw [hf j hj] at h
    exact h
def setP (D : va_G) (M : rMem) (bk n : Nat) (g : Nat → Nat) (j v : Nat) (M' : rMem) : Prop := ∃ (cap : Nat) (f2 : Nat → Option Nat) (x : ClassId × vp_A), M bk = some (.inl x) ∧ M' = mset M bk (.inl (D.1 8, (cap, .inr (.inr (.inr (.inr f2)))))) ∧ n ≤ cap ∧ 1 ≤ cap ∧ cap ≤ 60 ∧ ∀ i, i < n → f2 i = some (va_up g j v i)
theorem c_lset (l : Launch) (D : va_G) (M : rMem) (a : Nat) (md : Int32) (bk n : Nat) (g : Nat → Nat) (j v : Nat) (hL : isL D M a md bk n g) (hj : j < n) (hv : isE M v) : CMq l D yJx4a65c_set_bcc79 cJx4a65c_set_bcc79 4 (some (.object "java/lang/Object")) 3 0 0 M [.ref (a), .int (nI j), .ref (v)] (fun r M' => r = some (g j) ∧ setP D M bk n g j v M') := by
  obtain ⟨ci, C, T, N, vs, hv, hci, hcl, hca⟩ := hv
  rcases hL with ⟨hm, (⟨h, -⟩ | ⟨cap, f, hb, h1, h2, h3, hf⟩)⟩
  · omega
  · have h := c_set l D M a md bk n cap j f (g j) v ci vs C T N hm hb hj h1 (by omega) (hf j hj) hv hcl hca
    exact CMq_imp h (fun r M' hp => ⟨hp.1, cap, va_up f j (some v), _, hb, hp.2, h1, h2, h3, fun i hi => by unfold va_up; by_cases e : i = j <;> simp [e]; exact hf i hi⟩)
def remP (D : va_G) (M : rMem) (a : Nat) (bk k : Nat) (g : Nat → Nat) (M' : rMem) : Prop := ∃ (md2 : Int32) (cap : Nat) (f2 : Nat → Option Nat) (x : ClassId × vp_A), M bk = some (.inl x) ∧ M' = mset (mset M a (.inr (0, [.int md2, .ref bk, .int (nI k)]))) bk (.inl (D.1 8, (cap, .inr (.inr (.inr (.inr f2)))))) ∧ k ≤ cap ∧ 1 ≤ cap ∧ cap ≤ 60 ∧ ∀ i, i < k → f2 i = some (g i)
theorem c_lrem (l : Launch) (D : va_G) (M : rMem) (a : Nat) (md : Int32) (bk k : Nat) (g : Nat → Nat) (hL : isL D M a md bk (k + 1) g) : CMq l D yJx4a65c_remove_915e3 cJx4a65c_remove_915e3 4 (some (.object "java/lang/Object")) 3 0 0 M [.ref (a), .int (nI k)] (fun r M' => r = some (g k) ∧ remP D M a bk k g M') := by
  rcases hL with ⟨hm, (⟨h, -⟩ | ⟨cap, f, hb, h1, h2, h3, hf⟩)⟩
  · omega
  · exact CMq_imp (c_remove l D M a md bk k cap f (g k) hm hb (by omega) (by omega) (hf k (by omega))) (fun r M' hp => ⟨hp.1, _, cap, va_up f k none, _, hb, hp.2, by omega, h2, h3, fun i hi => by unfold va_up; rw [if_neg (by omega)]; exact hf i (by omega)⟩)
