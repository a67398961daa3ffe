theorem CM_imp {l : Launch} {D : va_G} {y : MethodName} {cc : ByteArray} {maxL : Nat} {ret : Option FieldType} {lev mc ms : Nat} {M : rMem} {av : List Value} {Qc Qc2 : (Nat → Prop) → Array Value → State → Outcome → State → Prop} (h : CM l D y cc maxL ret lev mc ms M av Qc) (hq : ∀ A a s o t, Qc A a s o t → Qc2 A a s o t) : CM l D y cc maxL ret lev mc ms M av Qc2 := fun sz =>
  MetFree.mono (h sz) (fun _ _ h => h) (fun _ _ _ _ _ h => h) (fun _ _ o t _ h => ⟨hq _ _ _ _ _ h.1, h.2⟩)
theorem CMq_imp {l : Launch} {D : va_G} {y : MethodName} {cc : ByteArray} {maxL : Nat} {ret : Option FieldType} {lev mc ms : Nat} {M : rMem} {av : List Value} {post post2 : Option Nat → rMem → Prop} (h : CMq l D y cc maxL ret lev mc ms M av post) (hp : ∀ r M', post r M' → post2 r M') : CMq l D y cc maxL ret lev mc ms M av post2 :=
  CM_imp h (fun A a s o t h => by obtain ⟨⟨r, u, h1, h2, h3⟩, h4⟩ := h; exact ⟨⟨r, u, h1, hp r u h2, h3⟩, h4⟩)
theorem CMi_imp {l : Launch} {D : va_G} {y : MethodName} {cc : ByteArray} {maxL : Nat} {ret : Option FieldType} {lev mc ms : Nat} {M : rMem} {av : List Value} {post post2 : Int32 → rMem → Prop} (h : CMi l D y cc maxL ret lev mc ms M av post) (hp : ∀ r M', post r M' → post2 r M') : CMi l D y cc maxL ret lev mc ms M av post2 :=
  CM_imp h (fun A a s o t h => by obtain ⟨⟨r, u, h1, h2, h3⟩, h4⟩ := h; exact ⟨⟨r, u, h1, hp r u h2, h3⟩, h4⟩)
theorem CMv_imp {l : Launch} {D : va_G} {y : MethodName} {cc : ByteArray} {maxL : Nat} {lev mc ms : Nat} {M : rMem} {av : List Value} {post post2 : rMem → Prop} (h : CMv l D y cc maxL lev mc ms M av post) (hp : ∀ M', post M' → post2 M') : CMv l D y cc maxL lev mc ms M av post2 :=
  CM_imp h (fun A a s o t h => by obtain ⟨⟨u, h1, h2, h3⟩, h4⟩ := h; exact ⟨⟨u, h1, hp u h2, h3⟩, h4⟩)
theorem isL_obj {D : va_G} {M : rMem} {a : Nat} {md : Int32} {bk n : Nat} {g : Nat → Nat} {b ci : Nat} {x : List Value} {e : va_E} (h : isL D M a md bk n g) (hb : M b = some (.inr (ci, x))) (hci : ci ≠ 0) : isL D (mset M b e) a md bk n g := by
  refine ⟨mset_keep h.1 (mne_ci h.1 hb (Ne.symm hci)), ?_⟩
  rcases h.2 with h2 | ⟨cap, f, h2, h3⟩
  · exact Or.inl h2
  · exact Or.inr ⟨cap, f, mset_keep h2 (mne_ao h2 hb), h3⟩
/-- a cell that is neither the list nor its row changes -/
theorem isL_keep {D : va_G} {M : rMem} {a : Nat} {md : Int32} {bk n : Nat} {g : Nat → Nat} {b : Nat} {e : va_E} (h : isL D M a md bk n g) (h1 : b ≠ a) (h2 : b ≠ bk ∨ n = 0 ∧ bk = rT0 D) : isL D (mset M b e) a md bk n g := by
  refine ⟨mset_keep h.1 (Ne.symm h1), ?_⟩
  rcases h.2 with h3 | ⟨cap, f, h3, h4⟩
  · exact Or.inl h3
  · rcases h2 with h2 | h2
    · exact Or.inr ⟨cap, f, mset_keep h3 (Ne.symm h2), h4⟩
    · exact Or.inl h2
theorem isL_new {D : va_G} {M : rMem} {a : Nat} {md : Int32} {bk n : Nat} {g : Nat → Nat} {b : Nat} {e : va_E} (h : isL D M a md bk n g) (hb : M b = none) : isL D (mset M b e) a md bk n g := by
  refine ⟨mset_keep h.1 (mne_none h.1 hb), ?_⟩
  rcases h.2 with h3 | ⟨cap, f, h3, h4⟩
  · exact Or.inl h3
  · exact Or.inr ⟨cap, f, mset_keep h3 (mne_none h3 hb), h4⟩
theorem c_lget (l : Launch) (D : va_G) (M : rMem) (a : Nat) (md : Int32) (bk n : Nat) (g : Nat → Nat) (j : Nat) (hL : isL D M a md bk n g) (hj : j < n) : CMq l D yJx4a65c_get_915e3 cJx4a65c_get_915e3 2 (some (.object "java/lang/Object")) 3 0 0 M [.ref (a), .int (nI j)] (fun r M' => r = some (g j) ∧ M' = M) := by
  rcases hL with ⟨hm, (⟨h, -⟩ | ⟨cap, f, hb, hbT, h1, h2, h3, hf⟩)⟩
  · omega
  · have h := c_get l D M a md bk n cap j f hm hb hj h1 (by omega)
    rw [hf j hj] at h
    exact h
def setP (D : va_G) (M : rMem) (bk n : Nat) (g : Nat → Nat) (j v : Nat) (M' : rMem) : Prop := ∃ (cap : Nat) (f2 : Nat → Option Nat) (x : ClassId × vp_A), M bk = some (.inl x) ∧ M' = mset M bk (.inl (D.1 8, (cap, .inr (.inr (.inr (.inr f2)))))) ∧ bk ≠ rT0 D ∧ n ≤ cap ∧ 1 ≤ cap ∧ cap ≤ 60 ∧ ∀ i, i < n → f2 i = some (va_up g j v i)
theorem c_lset (l : Launch) (D : va_G) (M : rMem) (a : Nat) (md : Int32) (bk n : Nat) (g : Nat → Nat) (j v : Nat) (hL : isL D M a md bk n g) (hj : j < n) (hv : isE M v) : CMq l D yJx4a65c_set_bcc79 cJx4a65c_set_bcc79 4 (some (.object "java/lang/Object")) 3 0 0 M [.ref (a), .int (nI j), .ref (v)] (fun r M' => r = some (g j) ∧ setP D M bk n g j v M') := by
  obtain ⟨ci, C, T, N, vs, hv, hci, hcl, hca⟩ := hv
  rcases hL with ⟨hm, (⟨h, -⟩ | ⟨cap, f, hb, hbT, h1, h2, h3, hf⟩)⟩
  · omega
  · have h := c_set l D M a md bk n cap j f (g j) v ci vs C T N hm hb hj h1 (by omega) (hf j hj) hv hcl hca
    exact CMq_imp h (fun r M' hp => ⟨hp.1, cap, va_up f j (some v), _, hb, hp.2, hbT, h1, h2, h3, fun i hi => by unfold va_up; by_cases e : i = j <;> simp [e]; exact hf i hi⟩)
def remP (D : va_G) (M : rMem) (a : Nat) (bk k : Nat) (g : Nat → Nat) (M' : rMem) : Prop := ∃ (md2 : Int32) (cap : Nat) (f2 : Nat → Option Nat) (x : ClassId × vp_A), M bk = some (.inl x) ∧ M' = mset (mset M a (.inr (0, [.int md2, .ref bk, .int (nI k)]))) bk (.inl (D.1 8, (cap, .inr (.inr (.inr (.inr f2)))))) ∧ bk ≠ rT0 D ∧ k ≤ cap ∧ 1 ≤ cap ∧ cap ≤ 60 ∧ ∀ i, i < k → f2 i = some (g i)
theorem c_lrem (l : Launch) (D : va_G) (M : rMem) (a : Nat) (md : Int32) (bk k : Nat) (g : Nat → Nat) (hL : isL D M a md bk (k + 1) g) : CMq l D yJx4a65c_remove_915e3 cJx4a65c_remove_915e3 4 (some (.object "java/lang/Object")) 3 0 0 M [.ref (a), .int (nI k)] (fun r M' => r = some (g k) ∧ remP D M a bk k g M') := by
  rcases hL with ⟨hm, (⟨h, -⟩ | ⟨cap, f, hb, hbT, h1, h2, h3, hf⟩)⟩
  · omega
  · exact CMq_imp (c_remove l D M a md bk k cap f (g k) hm hb (by omega) (by omega) (hf k (by omega))) (fun r M' hp => ⟨hp.1, _, cap, va_up f k none, _, hb, hp.2, hbT, by omega, h2, h3, fun i hi => by unfold va_up; rw [if_neg (by omega)]; exact hf i (by omega)⟩)
/-- what a change of a list leaves, and what the list is then -/
def lCh (D : va_G) (M M' : rMem) (a bk n : Nat) (g : Nat → Nat) : Prop :=
  (∃ (md2 : Int32) (bk2 : Nat), isL D M' a md2 bk2 n g ∧ (bk2 = bk ∨ M bk2 = none)) ∧ (∀ b y, M b = some (.inr y) → b ≠ a → M' b = some (.inr y)) ∧ ∀ b y, M b = some (.inl y) → (b ≠ bk ∨ bk = rT0 D) → M' b = some (.inl y)
theorem addP_ch {D : va_G} {M M' : rMem} {a : Nat} {md : Int32} {bk n v : Nat} {g : Nat → Nat} {x : List Value} (hm : M a = some (.inr (0, x))) (h : addP D M a md bk n g v M') : lCh D M M' a bk (n + 1) (va_up g n v) := by
  obtain ⟨bk2, cap2, f2, rfl, h2, hT, h3, h4, h5⟩ := h
  have hne : ∀ b y, M b = some (.inr y) → b ≠ bk2 := fun b y hb => by
    rcases h2 with ⟨rfl, z, hz⟩ | h2
    · exact mne_oa hb hz
    · exact mne_none hb h2
  refine ⟨⟨md, bk2, ⟨mset_keep mset_eq (hne a _ hm), Or.inr ⟨cap2, f2, mset_eq, hT, h3, by omega, h4, h5⟩⟩, ?_⟩, fun b y hb hba => mset_keep (mset_keep hb hba) (hne b y hb), fun b y hb hbb => ?_⟩
  · rcases h2 with ⟨h2, -⟩ | h2
    · exact Or.inl h2
    · exact Or.inr h2
  · refine mset_keep (mset_keep hb (mne_ao hb hm)) ?_
    rcases h2 with ⟨rfl, -⟩ | h2
    · rcases hbb with hbb | hbb
      · exact hbb
      · exact absurd hbb hT
    · exact mne_none hb h2
theorem setP_ch {D : va_G} {M M' : rMem} {a : Nat} {md : Int32} {bk n j v : Nat} {g : Nat → Nat} (hm : M a = some (.inr (0, [.int md, .ref bk, .int (nI n)]))) (h : setP D M bk n g j v M') : lCh D M M' a bk n (va_up g j v) := by
  obtain ⟨cap, f2, x, hx, rfl, hT, h3, h4, h5, h6⟩ := h
  exact ⟨⟨md, bk, ⟨mset_keep hm (mne_oa hm hx), Or.inr ⟨cap, f2, mset_eq, hT, h3, h4, h5, h6⟩⟩, Or.inl rfl⟩, fun b y hb _ => mset_keep hb (mne_oa hb hx), fun b y hb hbb => mset_keep hb (hbb.elim id (fun z => absurd z hT))⟩
theorem remP_ch {D : va_G} {M M' : rMem} {a bk k : Nat} {g : Nat → Nat} {x : List Value} (hm : M a = some (.inr (0, x))) (h : remP D M a bk k g M') : lCh D M M' a bk k g := by
  obtain ⟨md2, cap, f2, x, hx, rfl, hT, h3, h4, h5, h6⟩ := h
  exact ⟨⟨md2, bk, ⟨mset_keep mset_eq (mne_oa hm hx), Or.inr ⟨cap, f2, mset_eq, hT, h3, h4, h5, h6⟩⟩, Or.inl rfl⟩, fun b y hb hba => mset_keep (mset_keep hb hba) (mne_oa hb hx), fun b y hb hbb => mset_keep (mset_keep hb (mne_ao hb hm)) (hbb.elim id (fun z => absurd z hT))⟩
theorem c_ladd (l : Launch) (D : va_G) (M : rMem) (a : Nat) (md : Int32) (bk n : Nat) (g : Nat → Nat) (v : Nat) (hL : isL D M a md bk n g) (hn : n < 40) (hel : ∀ i, i < n → isE M (g i)) (hv : isE M v) : CMi l D yJx4a65c_add_9ea2d cJx4a65c_add_9ea2d 2 (some .boolean) 7 1 100 M [.ref (a), .ref (v)] (fun r M' => r = nI 1 ∧ lCh D M M' a bk (n + 1) (va_up g n v)) :=
  CMi_imp (c_add l D M a md bk n g v hL hn hel hv) (fun r M' hp => ⟨hp.1, by obtain ⟨md2, h⟩ := hp.2; exact addP_ch hL.1 h⟩)
theorem c_lset2 (l : Launch) (D : va_G) (M : rMem) (a : Nat) (md : Int32) (bk n : Nat) (g : Nat → Nat) (j v : Nat) (hL : isL D M a md bk n g) (hj : j < n) (hv : isE M v) : CMq l D yJx4a65c_set_bcc79 cJx4a65c_set_bcc79 4 (some (.object "java/lang/Object")) 3 0 0 M [.ref (a), .int (nI j), .ref (v)] (fun r M' => r = some (g j) ∧ lCh D M M' a bk n (va_up g j v)) :=
  CMq_imp (c_lset l D M a md bk n g j v hL hj hv) (fun r M' hp => ⟨hp.1, setP_ch hL.1 hp.2⟩)
theorem c_lrem2 (l : Launch) (D : va_G) (M : rMem) (a : Nat) (md : Int32) (bk k : Nat) (g : Nat → Nat) (hL : isL D M a md bk (k + 1) g) : CMq l D yJx4a65c_remove_915e3 cJx4a65c_remove_915e3 4 (some (.object "java/lang/Object")) 3 0 0 M [.ref (a), .int (nI k)] (fun r M' => r = some (g k) ∧ lCh D M M' a bk k g) :=
  CMq_imp (c_lrem l D M a md bk k g hL) (fun r M' hp => ⟨hp.1, remP_ch hL.1 hp.2⟩)
