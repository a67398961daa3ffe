section
-- ===== PART A: goes FIRST, ahead of the names: the tables' words, and 'selects' of the private methods out of them =====
/-- a private method of a class that the tables say can be made, by its rows of tables_1 -/
def lw_okq (q : MethodName × Nat) : Prop := (q.1.cls ≠ "java/lang/invoke/MethodHandle" ∧ q.1.cls ≠ "java/lang/invoke/VarHandle") ∧ Cond.instantiable q.1.cls q.2 ∈ tables_1 ∧ Cond.privateMethod q.1 ∈ tables_1 ∧ Cond.instanceMethod q.1 ∈ tables_1
theorem lw_p0 : lw_okq (⟨"RhymeTax", "allTaxes", "()I"⟩, 3) := ⟨⟨by decide +kernel, by decide +kernel⟩, List.mem_of_getElem? (i := 24) (by decide +kernel), List.mem_of_getElem? (i := 87) (by decide +kernel), List.mem_of_getElem? (i := 88) (by decide +kernel)⟩
theorem lw_p1 : lw_okq (⟨"RhymeTax", "bestWord", "(IILRhymeTax$Word;)LRhymeTax$Word;"⟩, 3) := ⟨⟨by decide +kernel, by decide +kernel⟩, List.mem_of_getElem? (i := 24) (by decide +kernel), List.mem_of_getElem? (i := 111) (by decide +kernel), List.mem_of_getElem? (i := 112) (by decide +kernel)⟩
theorem lw_p2 : lw_okq (⟨"RhymeTax", "putWord", "(IILRhymeTax$Word;)V"⟩, 3) := ⟨⟨by decide +kernel, by decide +kernel⟩, List.mem_of_getElem? (i := 24) (by decide +kernel), List.mem_of_getElem? (i := 116) (by decide +kernel), List.mem_of_getElem? (i := 117) (by decide +kernel)⟩
theorem lw_p3 : lw_okq (⟨"java/util/ArrayList", "add", "(Ljava/lang/Object;[Ljava/lang/Object;I)V"⟩, 3) := ⟨⟨by decide +kernel, by decide +kernel⟩, List.mem_of_getElem? (i := 32) (by decide +kernel), List.mem_of_getElem? (i := 132) (by decide +kernel), List.mem_of_getElem? (i := 133) (by decide +kernel)⟩
theorem lw_p4 : lw_okq (⟨"java/util/ArrayList", "grow", "()[Ljava/lang/Object;"⟩, 3) := ⟨⟨by decide +kernel, by decide +kernel⟩, List.mem_of_getElem? (i := 32) (by decide +kernel), List.mem_of_getElem? (i := 136) (by decide +kernel), List.mem_of_getElem? (i := 137) (by decide +kernel)⟩
theorem lw_p5 : lw_okq (⟨"java/util/ArrayList", "grow", "(I)[Ljava/lang/Object;"⟩, 3) := ⟨⟨by decide +kernel, by decide +kernel⟩, List.mem_of_getElem? (i := 32) (by decide +kernel), List.mem_of_getElem? (i := 140) (by decide +kernel), List.mem_of_getElem? (i := 141) (by decide +kernel)⟩
theorem lw_p6 : lw_okq (⟨"RhymeTax$Line", "joinWords", "()V"⟩, 17) := ⟨⟨by decide +kernel, by decide +kernel⟩, List.mem_of_getElem? (i := 191) (by decide +kernel), List.mem_of_getElem? (i := 189) (by decide +kernel), List.mem_of_getElem? (i := 190) (by decide +kernel)⟩
theorem lw_p7 : lw_okq (⟨"RhymeTax", "scanFrom", "(I)V"⟩, 3) := ⟨⟨by decide +kernel, by decide +kernel⟩, List.mem_of_getElem? (i := 24) (by decide +kernel), List.mem_of_getElem? (i := 200) (by decide +kernel), List.mem_of_getElem? (i := 201) (by decide +kernel)⟩
theorem lw_p8 : lw_okq (⟨"RhymeTax$Flow", "addTo", "(IJ)V"⟩, 2) := ⟨⟨by decide +kernel, by decide +kernel⟩, List.mem_of_getElem? (i := 58) (by decide +kernel), List.mem_of_getElem? (i := 221) (by decide +kernel), List.mem_of_getElem? (i := 222) (by decide +kernel)⟩
theorem lw_p9 : lw_okq (⟨"RhymeTax$Flow", "cellAt", "(I)J"⟩, 2) := ⟨⟨by decide +kernel, by decide +kernel⟩, List.mem_of_getElem? (i := 58) (by decide +kernel), List.mem_of_getElem? (i := 233) (by decide +kernel), List.mem_of_getElem? (i := 234) (by decide +kernel)⟩
theorem lw_p10 : lw_okq (⟨"RhymeTax", "taxesWith", "(IILRhymeTax$Word;LRhymeTax$Word;)I"⟩, 3) := ⟨⟨by decide +kernel, by decide +kernel⟩, List.mem_of_getElem? (i := 24) (by decide +kernel), List.mem_of_getElem? (i := 278) (by decide +kernel), List.mem_of_getElem? (i := 279) (by decide +kernel)⟩
theorem lw_p11 : lw_okq (⟨"RhymeTax", "countAll", "(I)I"⟩, 3) := ⟨⟨by decide +kernel, by decide +kernel⟩, List.mem_of_getElem? (i := 24) (by decide +kernel), List.mem_of_getElem? (i := 291) (by decide +kernel), List.mem_of_getElem? (i := 292) (by decide +kernel)⟩
theorem lw_p12 : lw_okq (⟨"RhymeTax", "lost", "()I"⟩, 3) := ⟨⟨by decide +kernel, by decide +kernel⟩, List.mem_of_getElem? (i := 24) (by decide +kernel), List.mem_of_getElem? (i := 295) (by decide +kernel), List.mem_of_getElem? (i := 296) (by decide +kernel)⟩
theorem lw_p13 : lw_okq (⟨"RhymeTax", "countInLines", "(I)I"⟩, 3) := ⟨⟨by decide +kernel, by decide +kernel⟩, List.mem_of_getElem? (i := 24) (by decide +kernel), List.mem_of_getElem? (i := 299) (by decide +kernel), List.mem_of_getElem? (i := 300) (by decide +kernel)⟩
theorem lw_p14 : lw_okq (⟨"RhymeTax", "aboutWord", "(LRhymeTax$Word;I)I"⟩, 3) := ⟨⟨by decide +kernel, by decide +kernel⟩, List.mem_of_getElem? (i := 24) (by decide +kernel), List.mem_of_getElem? (i := 311) (by decide +kernel), List.mem_of_getElem? (i := 312) (by decide +kernel)⟩
theorem lw_p15 : lw_okq (⟨"RhymeTax", "usesOf", "(LRhymeTax$Word;)I"⟩, 3) := ⟨⟨by decide +kernel, by decide +kernel⟩, List.mem_of_getElem? (i := 24) (by decide +kernel), List.mem_of_getElem? (i := 315) (by decide +kernel), List.mem_of_getElem? (i := 316) (by decide +kernel)⟩
def lw_privs_1 : List (MethodName × Nat) := [(⟨"RhymeTax", "allTaxes", "()I"⟩, 3), (⟨"RhymeTax", "bestWord", "(IILRhymeTax$Word;)LRhymeTax$Word;"⟩, 3), (⟨"RhymeTax", "putWord", "(IILRhymeTax$Word;)V"⟩, 3), (⟨"java/util/ArrayList", "add", "(Ljava/lang/Object;[Ljava/lang/Object;I)V"⟩, 3), (⟨"java/util/ArrayList", "grow", "()[Ljava/lang/Object;"⟩, 3), (⟨"java/util/ArrayList", "grow", "(I)[Ljava/lang/Object;"⟩, 3), (⟨"RhymeTax$Line", "joinWords", "()V"⟩, 17), (⟨"RhymeTax", "scanFrom", "(I)V"⟩, 3), (⟨"RhymeTax$Flow", "addTo", "(IJ)V"⟩, 2), (⟨"RhymeTax$Flow", "cellAt", "(I)J"⟩, 2), (⟨"RhymeTax", "taxesWith", "(IILRhymeTax$Word;LRhymeTax$Word;)I"⟩, 3), (⟨"RhymeTax", "countAll", "(I)I"⟩, 3), (⟨"RhymeTax", "lost", "()I"⟩, 3), (⟨"RhymeTax", "countInLines", "(I)I"⟩, 3), (⟨"RhymeTax", "aboutWord", "(LRhymeTax$Word;I)I"⟩, 3), (⟨"RhymeTax", "usesOf", "(LRhymeTax$Word;)I"⟩, 3)]
theorem lw_r1 : ∀ q ∈ lw_privs_1, lw_okq q := List.forall_mem_cons.mpr ⟨lw_p0, List.forall_mem_cons.mpr ⟨lw_p1, List.forall_mem_cons.mpr ⟨lw_p2, List.forall_mem_cons.mpr ⟨lw_p3, List.forall_mem_cons.mpr ⟨lw_p4, List.forall_mem_cons.mpr ⟨lw_p5, List.forall_mem_cons.mpr ⟨lw_p6, List.forall_mem_cons.mpr ⟨lw_p7, List.forall_mem_cons.mpr ⟨lw_p8, List.forall_mem_cons.mpr ⟨lw_p9, List.forall_mem_cons.mpr ⟨lw_p10, List.forall_mem_cons.mpr ⟨lw_p11, List.forall_mem_cons.mpr ⟨lw_p12, List.forall_mem_cons.mpr ⟨lw_p13, List.forall_mem_cons.mpr ⟨lw_p14, List.forall_mem_cons.mpr ⟨lw_p15, fun _ h => absurd h List.not_mem_nil⟩⟩⟩⟩⟩⟩⟩⟩⟩⟩⟩⟩⟩⟩⟩⟩
theorem lw_p16 : lw_okq (⟨"java/lang/Throwable", "fillInStackTrace", "(I)Ljava/lang/Throwable;"⟩, 6) := ⟨⟨by decide +kernel, by decide +kernel⟩, List.mem_of_getElem? (i := 381) (by decide +kernel), List.mem_of_getElem? (i := 379) (by decide +kernel), List.mem_of_getElem? (i := 380) (by decide +kernel)⟩
theorem lw_p17 : lw_okq (⟨"RhymeTax", "neededWord", "(I)LRhymeTax$Word;"⟩, 3) := ⟨⟨by decide +kernel, by decide +kernel⟩, List.mem_of_getElem? (i := 24) (by decide +kernel), List.mem_of_getElem? (i := 470) (by decide +kernel), List.mem_of_getElem? (i := 471) (by decide +kernel)⟩
theorem lw_p18 : lw_okq (⟨"RhymeTax", "lastWithMark", "(I)LRhymeTax$Line;"⟩, 3) := ⟨⟨by decide +kernel, by decide +kernel⟩, List.mem_of_getElem? (i := 24) (by decide +kernel), List.mem_of_getElem? (i := 502) (by decide +kernel), List.mem_of_getElem? (i := 503) (by decide +kernel)⟩
theorem lw_p19 : lw_okq (⟨"RhymeTax", "neededLine", "(I)LRhymeTax$Line;"⟩, 3) := ⟨⟨by decide +kernel, by decide +kernel⟩, List.mem_of_getElem? (i := 24) (by decide +kernel), List.mem_of_getElem? (i := 578) (by decide +kernel), List.mem_of_getElem? (i := 579) (by decide +kernel)⟩
theorem lw_p20 : lw_okq (⟨"java/util/ArrayList", "fastRemove", "([Ljava/lang/Object;I)V"⟩, 3) := ⟨⟨by decide +kernel, by decide +kernel⟩, List.mem_of_getElem? (i := 32) (by decide +kernel), List.mem_of_getElem? (i := 599) (by decide +kernel), List.mem_of_getElem? (i := 600) (by decide +kernel)⟩
theorem lw_p21 : lw_okq (⟨"RhymeTaxModel", "no", "(I)I"⟩, 21) := ⟨⟨by decide +kernel, by decide +kernel⟩, List.mem_of_getElem? (i := 675) (by decide +kernel), List.mem_of_getElem? (i := 757) (by decide +kernel), List.mem_of_getElem? (i := 758) (by decide +kernel)⟩
theorem lw_p22 : lw_okq (⟨"RhymeTaxModel", "isWord", "(I)Z"⟩, 21) := ⟨⟨by decide +kernel, by decide +kernel⟩, List.mem_of_getElem? (i := 675) (by decide +kernel), List.mem_of_getElem? (i := 765) (by decide +kernel), List.mem_of_getElem? (i := 766) (by decide +kernel)⟩
theorem lw_p23 : lw_okq (⟨"RhymeTaxModel", "aboutTold", "(II)I"⟩, 21) := ⟨⟨by decide +kernel, by decide +kernel⟩, List.mem_of_getElem? (i := 675) (by decide +kernel), List.mem_of_getElem? (i := 769) (by decide +kernel), List.mem_of_getElem? (i := 770) (by decide +kernel)⟩
theorem lw_p24 : lw_okq (⟨"RhymeTaxModel", "isLine", "(I)Z"⟩, 21) := ⟨⟨by decide +kernel, by decide +kernel⟩, List.mem_of_getElem? (i := 675) (by decide +kernel), List.mem_of_getElem? (i := 781) (by decide +kernel), List.mem_of_getElem? (i := 782) (by decide +kernel)⟩
theorem lw_p25 : lw_okq (⟨"RhymeTaxModel", "scan", "()I"⟩, 21) := ⟨⟨by decide +kernel, by decide +kernel⟩, List.mem_of_getElem? (i := 675) (by decide +kernel), List.mem_of_getElem? (i := 797) (by decide +kernel), List.mem_of_getElem? (i := 798) (by decide +kernel)⟩
theorem lw_p26 : lw_okq (⟨"RhymeTaxModel", "putOwn", "(II)I"⟩, 21) := ⟨⟨by decide +kernel, by decide +kernel⟩, List.mem_of_getElem? (i := 675) (by decide +kernel), List.mem_of_getElem? (i := 801) (by decide +kernel), List.mem_of_getElem? (i := 802) (by decide +kernel)⟩
theorem lw_p27 : lw_okq (⟨"RhymeTaxModel", "melts", "(II)Z"⟩, 21) := ⟨⟨by decide +kernel, by decide +kernel⟩, List.mem_of_getElem? (i := 675) (by decide +kernel), List.mem_of_getElem? (i := 805) (by decide +kernel), List.mem_of_getElem? (i := 806) (by decide +kernel)⟩
theorem lw_p28 : lw_okq (⟨"RhymeTaxModel", "room", "(I)I"⟩, 21) := ⟨⟨by decide +kernel, by decide +kernel⟩, List.mem_of_getElem? (i := 675) (by decide +kernel), List.mem_of_getElem? (i := 809) (by decide +kernel), List.mem_of_getElem? (i := 810) (by decide +kernel)⟩
theorem lw_p29 : lw_okq (⟨"RhymeTaxModel", "lacks", "(I)I"⟩, 21) := ⟨⟨by decide +kernel, by decide +kernel⟩, List.mem_of_getElem? (i := 675) (by decide +kernel), List.mem_of_getElem? (i := 828) (by decide +kernel), List.mem_of_getElem? (i := 829) (by decide +kernel)⟩
theorem lw_p30 : lw_okq (⟨"RhymeTaxModel", "rhymeAhead", "(I)I"⟩, 21) := ⟨⟨by decide +kernel, by decide +kernel⟩, List.mem_of_getElem? (i := 675) (by decide +kernel), List.mem_of_getElem? (i := 832) (by decide +kernel), List.mem_of_getElem? (i := 833) (by decide +kernel)⟩
theorem lw_p31 : lw_okq (⟨"RhymeTaxModel", "rhymeOf", "(II)I"⟩, 21) := ⟨⟨by decide +kernel, by decide +kernel⟩, List.mem_of_getElem? (i := 675) (by decide +kernel), List.mem_of_getElem? (i := 836) (by decide +kernel), List.mem_of_getElem? (i := 837) (by decide +kernel)⟩
def lw_privs_2 : List (MethodName × Nat) := [(⟨"java/lang/Throwable", "fillInStackTrace", "(I)Ljava/lang/Throwable;"⟩, 6), (⟨"RhymeTax", "neededWord", "(I)LRhymeTax$Word;"⟩, 3), (⟨"RhymeTax", "lastWithMark", "(I)LRhymeTax$Line;"⟩, 3), (⟨"RhymeTax", "neededLine", "(I)LRhymeTax$Line;"⟩, 3), (⟨"java/util/ArrayList", "fastRemove", "([Ljava/lang/Object;I)V"⟩, 3), (⟨"RhymeTaxModel", "no", "(I)I"⟩, 21), (⟨"RhymeTaxModel", "isWord", "(I)Z"⟩, 21), (⟨"RhymeTaxModel", "aboutTold", "(II)I"⟩, 21), (⟨"RhymeTaxModel", "isLine", "(I)Z"⟩, 21), (⟨"RhymeTaxModel", "scan", "()I"⟩, 21), (⟨"RhymeTaxModel", "putOwn", "(II)I"⟩, 21), (⟨"RhymeTaxModel", "melts", "(II)Z"⟩, 21), (⟨"RhymeTaxModel", "room", "(I)I"⟩, 21), (⟨"RhymeTaxModel", "lacks", "(I)I"⟩, 21), (⟨"RhymeTaxModel", "rhymeAhead", "(I)I"⟩, 21), (⟨"RhymeTaxModel", "rhymeOf", "(II)I"⟩, 21)]
theorem lw_r2 : ∀ q ∈ lw_privs_2, lw_okq q := List.forall_mem_cons.mpr ⟨lw_p16, List.forall_mem_cons.mpr ⟨lw_p17, List.forall_mem_cons.mpr ⟨lw_p18, List.forall_mem_cons.mpr ⟨lw_p19, List.forall_mem_cons.mpr ⟨lw_p20, List.forall_mem_cons.mpr ⟨lw_p21, List.forall_mem_cons.mpr ⟨lw_p22, List.forall_mem_cons.mpr ⟨lw_p23, List.forall_mem_cons.mpr ⟨lw_p24, List.forall_mem_cons.mpr ⟨lw_p25, List.forall_mem_cons.mpr ⟨lw_p26, List.forall_mem_cons.mpr ⟨lw_p27, List.forall_mem_cons.mpr ⟨lw_p28, List.forall_mem_cons.mpr ⟨lw_p29, List.forall_mem_cons.mpr ⟨lw_p30, List.forall_mem_cons.mpr ⟨lw_p31, fun _ h => absurd h List.not_mem_nil⟩⟩⟩⟩⟩⟩⟩⟩⟩⟩⟩⟩⟩⟩⟩⟩
theorem lw_p32 : lw_okq (⟨"RhymeTaxModel", "last", "(I)I"⟩, 21) := ⟨⟨by decide +kernel, by decide +kernel⟩, List.mem_of_getElem? (i := 675) (by decide +kernel), List.mem_of_getElem? (i := 840) (by decide +kernel), List.mem_of_getElem? (i := 841) (by decide +kernel)⟩
theorem lw_p33 : lw_okq (⟨"RhymeTaxModel", "toldOf", "(II)I"⟩, 21) := ⟨⟨by decide +kernel, by decide +kernel⟩, List.mem_of_getElem? (i := 675) (by decide +kernel), List.mem_of_getElem? (i := 848) (by decide +kernel), List.mem_of_getElem? (i := 849) (by decide +kernel)⟩
theorem lw_p34 : lw_okq (⟨"RhymeTaxModel", "counted", "(I)I"⟩, 21) := ⟨⟨by decide +kernel, by decide +kernel⟩, List.mem_of_getElem? (i := 675) (by decide +kernel), List.mem_of_getElem? (i := 873) (by decide +kernel), List.mem_of_getElem? (i := 874) (by decide +kernel)⟩
theorem lw_p35 : lw_okq (⟨"RhymeTaxModel", "taxesWith", "(II)I"⟩, 21) := ⟨⟨by decide +kernel, by decide +kernel⟩, List.mem_of_getElem? (i := 675) (by decide +kernel), List.mem_of_getElem? (i := 881) (by decide +kernel), List.mem_of_getElem? (i := 882) (by decide +kernel)⟩
def lw_privs_3 : List (MethodName × Nat) := [(⟨"RhymeTaxModel", "last", "(I)I"⟩, 21), (⟨"RhymeTaxModel", "toldOf", "(II)I"⟩, 21), (⟨"RhymeTaxModel", "counted", "(I)I"⟩, 21), (⟨"RhymeTaxModel", "taxesWith", "(II)I"⟩, 21)]
theorem lw_r3 : ∀ q ∈ lw_privs_3, lw_okq q := List.forall_mem_cons.mpr ⟨lw_p32, List.forall_mem_cons.mpr ⟨lw_p33, List.forall_mem_cons.mpr ⟨lw_p34, List.forall_mem_cons.mpr ⟨lw_p35, fun _ h => absurd h List.not_mem_nil⟩⟩⟩⟩
def lw_privs : List (MethodName × Nat) := lw_privs_1 ++ (lw_privs_2 ++ (lw_privs_3))
def lw_tbl : List Cond := k2_sels lw_privs ++ tables_1
theorem lw_privs_ok : ∀ q ∈ lw_privs, lw_okq q := by
  show ∀ q ∈ lw_privs_1 ++ (lw_privs_2 ++ (lw_privs_3)), lw_okq q
  exact List.forall_mem_append.mpr ⟨lw_r1, List.forall_mem_append.mpr ⟨lw_r2, lw_r3⟩⟩
/-- the streams that the claim lets the run draw from -/
abbrev lw_cs : List Choice := [Jvm.Choice.named "NaN.bits"]
theorem lw_bits : nanBits ∈ lw_cs := by first | decide | exact List.mem_cons_self | simp [lw_cs, nanBits]
-- ===== end of PART A; then your names; then what follows =====
end
section
/-! ===== BEGIN words of one list among another's, by their places ===== -/
theorem goodIn_r {big : List Cond} (ws : List Cond) (ps : List Nat) (hp : ws = ps.filterMap (fun i => big[i]?)) (h : ws.all goodWord = true) : GoodIn big ws := by
  intro w hw
  have h1 := List.all_eq_true.mp h w hw
  rw [hp] at hw
  obtain ⟨i, -, hi⟩ := List.mem_filterMap.mp hw
  have hm : w ∈ big := by first | exact List.mem_of_getElem? hi | exact List.getElem?_mem hi
  exact ⟨hm, good_of_word h1⟩
theorem goodIn_app {big a b : List Cond} (ha : GoodIn big a) (hb : GoodIn big b) : GoodIn big (a ++ b) := fun w h => (List.mem_append.mp h).elim (ha w) (hb w)
theorem goodIn_ca {big a b : List Cond} {c : Cond} (ha : GoodIn big (c :: a)) (hb : GoodIn big b) : GoodIn big (c :: (a ++ b)) := fun w h => (List.mem_cons.mp h).elim (fun e => ha w (List.mem_cons.mpr (Or.inl e))) (fun h => (List.mem_append.mp h).elim (fun h => ha w (List.mem_cons.mpr (Or.inr h))) (hb w))
theorem goodIn_sub {big ws : List Cond} (hm : ∀ w ∈ ws, w ∈ big) (h : ws.all goodWord = true) : GoodIn big ws := fun w hw => ⟨hm w hw, good_of_word (List.all_eq_true.mp h w hw)⟩
/-! ===== END ===== -/

/-! ===== BEGIN exceptions that leave a method, and their catching by the caller (launches without stack traces) ===== -/
section VXA
/-! The laws vx_back, vx_callV, vx_callS, vx_callSW, vx_throw0, vx_throwS follow proofs of the library, with one case more: JvmDerived/Free/Laws.lean (Back.of_free), Shelf42/LK1.lean (callV, callS), Shelf/KitTraced.lean (throwNew0V, throwNewS). -/
/-- where a method has thrown q: the class by its name, the cell, what was written, the world -/
def vx_T (XC : String → State → State → Prop) (st : State) (q : Addr) (t : State) (mc ms : Nat) (free : Addr → Prop) : Prop :=
  ∃ (E : String) (ce : Cell) (L : List Loc), XC E st t ∧ t.heap[q]? = some ce ∧ ce.vm = .none ∧ st.vm.findClass E = some ce.cls ∧ st.WarmedH t.vm ∧ st.sameButNew ({ t with vm := st.vm } : State) L mc ms ∧ ∀ z ∈ L, free z.base
def vx_Q (Qc : Array Value → State → Outcome → State → Prop) (XC : String → State → State → Prop) (mc ms : Nat) (free : Addr → Prop) : Array Value → State → Outcome → State → Prop := fun a st o t =>
  (Qc a st o t ∧ ∃ L, FrameEnd st o t L mc ms ∧ ∀ q ∈ L, free q.base) ∨ ∃ q, o = .threw q ∧ vx_T XC st q t mc ms free
/-- a callee that returns or throws -/
def vx_Met (l : Launch) (y : MethodName) (ws : List Cond) (rm : Room) (Pc : Array Value → State → Prop) (Qc : Array Value → State → Outcome → State → Prop) (XC : String → State → State → Prop) (mc ms : Nat) (free : Addr → Prop) : Prop :=
  MetFree l y (headSpec ws rm) Pc (fun _ _ _ _ _ => True) (vx_Q Qc XC mc ms free)
def vx_Post (XC : String → State → State → Prop) (mc ms : Nat) (free : Addr → Prop) : Pt → Array Value → Addr → Pt → Prop := fun A a q B =>
  ∃ (g : JFrame) (mk : MethodId) (t : State) (L : List Loc) (E : String) (ce : Cell), B.U.heap = t.heap ∧ B.U.vm = t.vm ∧ XC E (A.U.calling g mk a) t ∧ t.heap[q]? = some ce ∧ ce.vm = .none ∧ A.U.vm.findClass E = some ce.cls ∧ B.locs = A.locs ++ L ∧ (∀ z ∈ L, free z.base) ∧ B.cells = A.cells + mc ∧ B.slots = A.slots + ms
def vx_Back (l : Launch) (R : Room) (p : Program) (e : Env) (below : List Frame) (s : State) (sargs : Array Value) (y : MethodName) (len W9 : Nat)
    (Pre : Pt → Array Value → Prop) (Post : Pt → Array Value → Option Value → Pt → Prop) (PostX : Pt → Array Value → Addr → Pt → Prop) : Prop :=
  ∀ (m : MethodId) (meth : Method) (c : Code) (A : Pt) (g : JFrame) (ig : Instr) (mk : MethodId) (a : Array Value),
    Stand p l e R s m sargs below meth c A.U A.locs A.cells A.slots → g.method = m → g.locals.size = c.maxLocals → decode c.code g.pc = .ok (ig, len) →
    2 * g.monitorRoom + (g.stack.map fun v => v.category).sum ≤ W9 → A.U.methodNamed? y = some mk → Pre A a →
    (∃ (v : Option Value) (B : Pt), Stand p l e R s m sargs below meth c B.U B.locs B.cells B.slots ∧ Post A a v B ∧
      Steps p.tables e below (doInvoke e (A.U.setTop g) [] mk a).1 (B.U.setTop { g with pc := g.pc + len, stack := v.toList ++ g.stack })) ∨
    (∃ (q : Addr) (B : Pt), Stand p l e R s m sargs below meth c B.U B.locs B.cells B.slots ∧ PostX A a q B ∧
      Steps p.tables e below (doInvoke e (A.U.setTop g) [] mk a).1 ((B.U.setTop g).pushFrame (.throwing q)))
section Payer
variable {l : Launch} {R : Room} {p : Program} {e : Env} {below : List Frame} {s : State} {sargs : Array Value} {y : MethodName} {len W9 : Nat}
theorem vx_back {ws : List Cond} {rm : Room} {Pc : Array Value → State → Prop} {Qc : Array Value → State → Outcome → State → Prop} {XC : String → State → State → Prop} {mc ms : Nat} {free : Addr → Prop} {bytes : ByteArray} {maxL : Nat} {ret : Option FieldType}
    (hM : vx_Met l y ws rm Pc Qc XC mc ms free) (hblind : FrameBlind Pc) (hrc : rm.cells = mc) (hrs : rm.slots = ms)
    (hframes : rm.frames + 1 ≤ R.frames) (hlocals : W9 + (maxL + 11) + rm.locals ≤ R.locals)
    (hws : ∀ w ∈ ws, ∀ a' U, s.WarmedH U.vm → w.before a' U = true) (hcode : Cond.code y bytes maxL ret ∈ ws) (hinit : ∀ a' U, s.WarmedH U.vm → (Cond.initialized y.cls).before a' U = true) :
    vx_Back l R p e below s sargs y len W9 (PreOf R mc ms Pc) (PostOf Qc mc ms free) (vx_Post XC mc ms free) := by
  intro m meth c A g ig mk a X hg hsize hdg hW hn hp
  have h1 : (headSpec ws rm).pre.before a A.U = true := atoms_intro fun w hw => hws w hw _ _ X.warmed
  have h2 : (Cond.code y bytes maxL ret).before a A.U = true := hws _ hcode _ _ X.warmed
  have h3 : (Cond.initialized y.cls).before a A.U = true := hinit _ _ X.warmed
  have h4 : A.cells + (headSpec ws rm).room.cells ≤ R.cells := by rw [show (headSpec ws rm).room.cells = mc from hrc]; exact hp.1
  have h5 : A.slots + (headSpec ws rm).room.slots ≤ R.slots := by rw [show (headSpec ws rm).room.slots = ms from hrs]; exact hp.2.1
  have hPc : Pc a (A.U.calling g mk a) := hblind _ _ _ _ hp.2.2
  obtain ⟨U, Ls, c0, s0⟩ := A
  dsimp only [Pt.U, Pt.locs, Pt.cells, Pt.slots] at h1 h2 h3 h4 h5 X hn hPc ⊢
  obtain ⟨methY, cY, hmY, hcY, -, hlY, -, -, -, -⟩ := Cond.code_spec hn h2
  obtain ⟨kY, hkY, -⟩ := className_of_methodNamed hn
  have hinitY : kY.init = .initialized := Cond.initialized_spec (findClass_of_methodNamed hn) hkY h3
  have h : At U g.method c below := by rw [hg]; exact X.here
  have hlocals9 : W9 + (maxL + 11) + (headSpec ws rm).room.locals ≤ R.locals := hlocals
  have happ : (headSpec ws rm).appliesLoose y e.platform (U.calling g mk a) = true :=
    Spec.appliesLoose_calling (g := g) h hdg hn hkY hinitY
      (X.room_calling (g := g) (R' := (headSpec ws rm).room) hsize hmY hcY hframes (by rw [hlY]; omega) h4 h5) h1
  obtain ⟨mid, hmid⟩ := h.above
  have hfr : (U.setTop g).frames = (.java g :: mid) ++ below := by rw [State.frames_setTop' g h.top, hmid]; rfl
  obtain ⟨o, s₂, hsteps, -, hend, hq⟩ := Steps.callFree hM p X.admits X.cas X.clock (acts := []) hfr happ hPc trivial
  have hq' : vx_Q Qc XC mc ms free a (U.calling g mk a) o s₂ := hq
  rw [State.frames_setTop' g h.top] at hend
  obtain ⟨g₀, hg0⟩ := Option.isSome_iff_exists.mp h.top
  obtain ⟨r, hr⟩ := State.topJava?_eq_some.mp hg0
  have hr' : (({ U with heap := s₂.heap, slotsUsed := s₂.slotsUsed } : State).setVm s₂.vm).frames = .java g₀ :: r := hr
  rcases hq' with ⟨hqc, L, hfe, hL⟩ | ⟨q, rfl, E, ce, L, hx, hce, hcv, hcl, hW₂, hsm, hL⟩
  · obtain ⟨⟨v, rfl⟩, hW₂, e2, q2, q3, q4, q5, q6⟩ := id hfe
    have e3 : s₂ = ({ (U.calling g mk a).setFrames s₂.frames with heap := s₂.heap, slotsUsed := s₂.slotsUsed } : State).setVm s₂.vm := by
      have : s₂ = ({ s₂ with vm := (U.calling g mk a).vm } : State).setVm s₂.vm := rfl
      rw [e2] at this
      exact this
    obtain ⟨c₂, i₂, len₂, hc₂, hd₂, hf₂⟩ := hend
    have hW' : U.WarmedH s₂.vm := hW₂
    have hcc : c₂ = c := by
      have h1 : s₂.code? g.method = U.code? g.method := by
        rw [State.code?_eq, State.code?_eq, hW'.alike.method?]
      exact Option.some.inj (hc₂.symm.trans (h1.trans h.code))
    subst hcc
    have hlen : len₂ = len := by rw [hdg] at hd₂; cases hd₂; rfl
    subst hlen
    have hs₂ : s₂ = (({ U with heap := s₂.heap, slotsUsed := s₂.slotsUsed } : State).setVm s₂.vm).setTop { g with pc := g.pc + len₂, stack := v.toList ++ g.stack } := by
      refine e3.trans ?_
      rw [hf₂, State.calling_eq h.top, State.setFrames_setFrames, State.setTop_of_frames _ hr', hr]
      rfl
    have hsame : U.sameButNew ({ U with heap := s₂.heap, slotsUsed := s₂.slotsUsed } : State) L mc ms := by
      refine ⟨?_, q2, q3, q4, q5, q6⟩
      obtain ⟨t, ht, -⟩ := State.frames_cons hr
      show ({ U with heap := s₂.heap, slotsUsed := s₂.slotsUsed } : State) = { U.setFrames U.frames with heap := s₂.heap, slotsUsed := s₂.slotsUsed }
      rw [State.setFrames_self ht]
    subst hg
    refine Or.inl ⟨v, ⟨(({ U with heap := s₂.heap, slotsUsed := s₂.slotsUsed } : State).setVm s₂.vm), Ls ++ L, c0 + mc, s0 + ms⟩,
      ⟨X.admits, X.cas, X.clock, X.frames, X.room, X.hears, X.method, X.code, (X.here.setHeapUsed s₂.heap s₂.slotsUsed).setVm hW'.alike, X.tail, State.WarmedH.trans X.warmed hW', X.limits, X.bytes, X.same.trans (hsame.setVm s.vm)⟩,
      ⟨g, mk, s₂, L, rfl, rfl, hqc, rfl, hL, rfl, rfl⟩, ?_⟩
    show Steps p.tables e below _ ((({ U with heap := s₂.heap, slotsUsed := s₂.slotsUsed } : State).setVm s₂.vm).setTop { g with pc := g.pc + len₂, stack := v.toList ++ g.stack })
    rw [← hs₂]
    exact hsteps
  · obtain ⟨e2, q2, q3, q4, q5, q6⟩ := id hsm
    have e3 : s₂ = ({ (U.calling g mk a).setFrames s₂.frames with heap := s₂.heap, slotsUsed := s₂.slotsUsed } : State).setVm s₂.vm := by
      have : s₂ = ({ s₂ with vm := (U.calling g mk a).vm } : State).setVm s₂.vm := rfl
      rw [e2] at this
      exact this
    have hf₂ : s₂.frames = .throwing q :: .java g :: U.frames.tail := hend
    have hW' : U.WarmedH s₂.vm := hW₂
    have hs₂ : s₂ = ((({ U with heap := s₂.heap, slotsUsed := s₂.slotsUsed } : State).setVm s₂.vm).setTop g).pushFrame (.throwing q) := by
      refine e3.trans ?_
      rw [hf₂, State.calling_eq h.top, State.setFrames_setFrames, State.pushFrame, State.frames_setTop _ hr', State.setTop_of_frames _ hr', State.setFrames_setFrames, hr]
      rfl
    have hsame : U.sameButNew ({ U with heap := s₂.heap, slotsUsed := s₂.slotsUsed } : State) L mc ms := by
      refine ⟨?_, q2, q3, q4, q5, q6⟩
      obtain ⟨t, ht, -⟩ := State.frames_cons hr
      show ({ U with heap := s₂.heap, slotsUsed := s₂.slotsUsed } : State) = { U.setFrames U.frames with heap := s₂.heap, slotsUsed := s₂.slotsUsed }
      rw [State.setFrames_self ht]
    subst hg
    refine Or.inr ⟨q, ⟨(({ U with heap := s₂.heap, slotsUsed := s₂.slotsUsed } : State).setVm s₂.vm), Ls ++ L, c0 + mc, s0 + ms⟩,
      ⟨X.admits, X.cas, X.clock, X.frames, X.room, X.hears, X.method, X.code, (X.here.setHeapUsed s₂.heap s₂.slotsUsed).setVm hW'.alike, X.tail, State.WarmedH.trans X.warmed hW', X.limits, X.bytes, X.same.trans (hsame.setVm s.vm)⟩,
      ⟨g, mk, s₂, L, E, ce, rfl, rfl, hx, hce, hcv, hcl, rfl, hL, rfl, rfl⟩, ?_⟩
    show Steps p.tables e below _ (((({ U with heap := s₂.heap, slotsUsed := s₂.slotsUsed } : State).setVm s₂.vm).setTop g).pushFrame (.throwing q))
    rw [← hs₂]
    exact hsteps
end Payer
section Calls
variable {p : Program} {l : Launch} {e : Env} {R : Room} {s : State} {m : MethodId} {args : Array Value} {below : List Frame} {meth : Method} {c : Code} {T : State} {locs : List Loc} {cells slots : Nat}
theorem vx_callV (X : Stand p l e R s m args below meth c T locs cells slots) (hexec : p.tables.exec = Jvm.exec) {own C : String} {index : Nat} {y : MethodName} {bytes : ByteArray} {maxL : Nat} {ret : Option FieldType}
    (hown : s.vm.findClass own = some m.cls) (hlink : (Cond.methodLink own index y).before args s = true) (hinst : (Cond.instanceMethod y).before args s = true) (hsel : (Cond.selects C y y).before args s = true)
    (hcode : (Cond.code y bytes maxL ret).before args s = true) (hy : y.cls ≠ "java/lang/invoke/MethodHandle" ∧ y.cls ≠ "java/lang/invoke/VarHandle")
    {W9 : Nat} {Pre : Pt → Array Value → Prop} {Post : Pt → Array Value → Option Value → Pt → Prop} {PostX : Pt → Array Value → Addr → Pt → Prop} (hK : vx_Back l R p e below s args y 3 W9 Pre Post PostX)
    {b : Addr} {cellB : Cell} (hcell : T.heap[b]? = some cellB) (hobj : cellB.vm.isStatics = false) (hcls : s.vm.findClass C = some cellB.cls)
    {g : JFrame} (hg : g.method = m) (hsize : g.locals.size = c.maxLocals) {argsL rest : List Value} (hlen : ∀ sig, parseMethodDescriptor y.desc = some sig → argsL.length = sig.parameters.length)
    (hstack : g.stack = argsL.reverse ++ .ref b :: rest) (hW : 2 * g.monitorRoom + (rest.map fun v => v.category).sum ≤ W9) (hdg : decode c.code g.pc = .ok (.invokevirtual index, 3))
    (hpre : ∀ vm₁, s.WarmedH vm₁ → Pre ⟨T.setVm vm₁, locs, cells, slots⟩ (Value.ref b :: argsL).toArray) :
    (∃ (v : Option Value) (vm₁ : Vm) (B : Pt), s.WarmedH vm₁ ∧ Stand p l e R s m args below meth c B.U B.locs B.cells B.slots ∧ Post ⟨T.setVm vm₁, locs, cells, slots⟩ (Value.ref b :: argsL).toArray v B ∧
      ∀ target, Steps p.tables e below (B.U.setTop { g with pc := g.pc + 3, stack := v.toList ++ rest }) target → Steps p.tables e below (T.setTop g) target) ∨
    (∃ (q : Addr) (vm₁ : Vm) (B : Pt), s.WarmedH vm₁ ∧ Stand p l e R s m args below meth c B.U B.locs B.cells B.slots ∧ PostX ⟨T.setVm vm₁, locs, cells, slots⟩ (Value.ref b :: argsL).toArray q B ∧
      Steps p.tables e below (T.setTop g) ((B.U.setTop { g with stack := rest }).pushFrame (.throwing q))) := by
  obtain ⟨mk, methM, hnamed, hmethM, hstM, habM⟩ := Cond.instanceMethod_spec hinst
  obtain ⟨methM', cM, hmethM', -, -, -, -, -, -, hsigM⟩ := Cond.code_spec hnamed hcode
  cases hmethM.symm.trans hmethM'
  obtain ⟨c2, r2, m2, q1, q2, q3, q4, kP, hkP, hkPi⟩ := Cond.selects_spec hsel
  cases hcls.symm.trans q1
  cases (State.methodFound?_of_named hnamed hy).symm.trans q2
  cases hnamed.symm.trans q3
  have hselP : selectMethod e.platform s.vm cellB.cls mk = .method mk := by rw [Launch.admits_selectMethod X.admits]; exact q4
  obtain ⟨vm₁, X₁, hstep₁⟩ := X.invokevirtual hexec hown hlink hnamed hmethM hstM hkP hkPi hy (a := b) (cell := cellB) hcell
    (fun z h => by rw [h] at hobj; cases hobj) hselP hmethM habM hkP hkPi (g := g) hg (argsL := argsL) (rest := rest) (hlen _ hsigM) hstack hdg
  rcases hK m meth c ⟨T.setVm vm₁, locs, cells, slots⟩ { g with stack := rest } (.invokevirtual index) mk (Value.ref b :: argsL).toArray X₁ hg hsize hdg hW (X₁.named hnamed) (hpre vm₁ X₁.warmed) with ⟨v, B, X', hpost, hsteps⟩ | ⟨q, B, X', hpost, hsteps⟩
  · exact Or.inl ⟨v, vm₁, B, X₁.warmed, X', hpost, fun target h => hstep₁ _ fun acts => by rw [doInvoke_state]; exact hsteps.trans h⟩
  · exact Or.inr ⟨q, vm₁, B, X₁.warmed, X', hpost, hstep₁ _ fun acts => by rw [doInvoke_state]; exact hsteps⟩
theorem vx_callS (X : Stand p l e R s m args below meth c T locs cells slots) (hexec : p.tables.exec = Jvm.exec) {own : String} {index : Nat} {y : MethodName} {bytes : ByteArray} {maxL : Nat} {ret : Option FieldType}
    (hown : s.vm.findClass own = some m.cls) (hlink : (Cond.methodLink own index y).before args s = true) (hstat : (Cond.static y).before args s = true) (hinit : (Cond.initialized y.cls).before args s = true)
    (hcode : (Cond.code y bytes maxL ret).before args s = true) (hy : y.cls ≠ "java/lang/invoke/MethodHandle" ∧ y.cls ≠ "java/lang/invoke/VarHandle")
    {W9 : Nat} {Pre : Pt → Array Value → Prop} {Post : Pt → Array Value → Option Value → Pt → Prop} {PostX : Pt → Array Value → Addr → Pt → Prop} (hK : vx_Back l R p e below s args y 3 W9 Pre Post PostX)
    {g : JFrame} (hg : g.method = m) (hsize : g.locals.size = c.maxLocals) {argsL rest : List Value} (hlen : ∀ sig, parseMethodDescriptor y.desc = some sig → argsL.length = sig.parameters.length)
    (hstack : g.stack = argsL.reverse ++ rest) (hW : 2 * g.monitorRoom + (rest.map fun v => v.category).sum ≤ W9) (hdg : decode c.code g.pc = .ok (.invokestatic index, 3))
    (hpre : ∀ vm₁, s.WarmedH vm₁ → Pre ⟨T.setVm vm₁, locs, cells, slots⟩ argsL.toArray) :
    (∃ (v : Option Value) (vm₁ : Vm) (B : Pt), s.WarmedH vm₁ ∧ Stand p l e R s m args below meth c B.U B.locs B.cells B.slots ∧ Post ⟨T.setVm vm₁, locs, cells, slots⟩ argsL.toArray v B ∧
      ∀ target, Steps p.tables e below (B.U.setTop { g with pc := g.pc + 3, stack := v.toList ++ rest }) target → Steps p.tables e below (T.setTop g) target) ∨
    (∃ (q : Addr) (vm₁ : Vm) (B : Pt), s.WarmedH vm₁ ∧ Stand p l e R s m args below meth c B.U B.locs B.cells B.slots ∧ PostX ⟨T.setVm vm₁, locs, cells, slots⟩ argsL.toArray q B ∧
      Steps p.tables e below (T.setTop g) ((B.U.setTop { g with stack := rest }).pushFrame (.throwing q))) := by
  obtain ⟨mk, hnamed⟩ := Cond.code_named hcode
  obtain ⟨methM, cM, hmethM, -, -, -, -, -, -, hsigM⟩ := Cond.code_spec hnamed hcode
  have hstatic : methM.isStatic = true := Cond.static_spec hnamed hmethM hstat
  obtain ⟨kP, hkP, -⟩ := className_of_methodNamed hnamed
  have hinitP : kP.init = .initialized := Cond.initialized_spec (findClass_of_methodNamed hnamed) hkP hinit
  obtain ⟨vm₁, X₁, hstep₁⟩ := X.invokestatic hexec hown hlink hnamed hmethM hstatic hkP hinitP hy (g := g) hg (argsL := argsL) (rest := rest) (hlen _ hsigM) hstack hdg
  rcases hK m meth c ⟨T.setVm vm₁, locs, cells, slots⟩ { g with stack := rest } (.invokestatic index) mk argsL.toArray X₁ hg hsize hdg hW (X₁.named hnamed) (hpre vm₁ X₁.warmed) with ⟨v, B, X', hpost, hsteps⟩ | ⟨q, B, X', hpost, hsteps⟩
  · exact Or.inl ⟨v, vm₁, B, X₁.warmed, X', hpost, fun target h => hstep₁ _ fun acts => by rw [doInvoke_state]; exact hsteps.trans h⟩
  · exact Or.inr ⟨q, vm₁, B, X₁.warmed, X', hpost, hstep₁ _ fun acts => by rw [doInvoke_state]; exact hsteps⟩
end Calls
theorem vx_cls {s : State} {T : State} {vm₁ : Vm} {E : String} {k : ClassId} (hW : s.WarmedH vm₁) (h : (T.setVm vm₁).vm.findClass E = some k) : s.vm.findClass E = some k := by
  have h1 : vm₁.findClass E = some k := h
  rw [hW.alike.findClass] at h1
  exact h1
/-- the method's frame g, with q thrown over it -/
def vx_W (p : Program) (l : Launch) (e : Env) (R : Room) (s : State) (m : MethodId) (args : Array Value) (below : List Frame) (meth : Method) (c : Code) (H : Heap) (locs : List Loc) (cells slots : Nat) (Q : State → Prop) (g : JFrame) (q : Addr) : Prop :=
  ∀ T : State, T.heap = H → Stand p l e R s m args below meth c T locs cells slots → ∃ t, Steps p.tables e below ((T.setTop g).pushFrame (.throwing q)) t ∧ Q t
def vx_Run (p : Program) (l : Launch) (e : Env) (R : Room) (s : State) (m : MethodId) (args : Array Value) (below : List Frame) (meth : Method) (c : Code) (H : Heap) (locs : List Loc) (cells slots mc ms : Nat) (g : JFrame) (rest : List Value) (Qa : State → Outcome → State → Prop) (XC : String → State → State → Prop) (free : Addr → Prop) : Prop :=
  ∀ T : State, T.heap = H → Stand p l e R s m args below meth c T locs cells slots →
    (∃ (v : Option Value) (st₀ t T' : State) (L : List Loc), st₀.heap = H ∧ Stand p l e R s m args below meth c T' (locs ++ L) (cells + mc) (slots + ms) ∧ (∀ q ∈ L, free q.base) ∧ T'.heap = t.heap ∧ T'.vm = t.vm ∧ Qa st₀ (.returned v) t ∧
      Goes p e below T g T' { g with pc := g.pc + 3, stack := v.toList ++ rest }) ∨
    (∃ (q : Addr) (st₀ t T' : State) (L : List Loc) (E : String) (ce : Cell), st₀.heap = H ∧ Stand p l e R s m args below meth c T' (locs ++ L) (cells + mc) (slots + ms) ∧ (∀ z ∈ L, free z.base) ∧ T'.heap = t.heap ∧ T'.vm = t.vm ∧ XC E st₀ t ∧ t.heap[q]? = some ce ∧ ce.vm = .none ∧ s.vm.findClass E = some ce.cls ∧
      Steps p.tables e below (T.setTop g) ((T'.setTop { g with stack := rest }).pushFrame (.throwing q)))
def vx_X {S : Type} (px : S → Prop) (B : String → S → State → Prop) (A : Nat → Prop) : String → State → State → Prop := fun E st t => ∃ u : S, px u ∧ B E u t ∧ va_F A st t
section Runs
variable {p : Program} {l : Launch} {e : Env} {R : Room} {s : State} {m : MethodId} {args : Array Value} {below : List Frame} {meth : Method} {c : Code} {H : Heap} {locs : List Loc} {cells slots : Nat}
variable {y : MethodName} {bytes cc : ByteArray} {maxL nL mc ms n index : Nat} {ret : Option FieldType} {ws : List Cond} {rm : Room} {Pc : Array Value → State → Prop} {Qc : Array Value → State → Outcome → State → Prop} {XC : String → State → State → Prop} {free : Addr → Prop} {Ts : List Cond} {own C : String} {b : Addr} {As rest : List Value} {g : JFrame}
theorem vx_callBack (cb : CallB R s args own index y bytes maxL ret ws rm mc ms n) (hM : vx_Met l y ws rm Pc Qc XC mc ms free) (hbl : FrameBlind Pc) : vx_Back l R p e below s args y 3 8 (PreOf R mc ms Pc) (PostOf Qc mc ms free) (vx_Post XC mc ms free) := by
  obtain ⟨hrc, hrs, hfr, hlo, hws, hcw, -, hini, -⟩ := cb
  exact vx_back (bytes := bytes) (maxL := maxL) (ret := ret) hM hbl hrc hrs hfr hlo hws hcw (fun a' U hW => word_at hW (Or.inl (by first | rfl | simp [Cond.onTables, Cond.keeps, Cond.steady])) hini)
theorem vx_runV (S : CallFix p m c cc nL s args Ts own) (hM : vx_Met l y ws rm Pc Qc XC mc ms free) (cw : CallW R s args own C index y bytes maxL ret ws rm mc ms n) (hp : PreV s H C b Pc As)
    (hg : g.method = m) (hn : As.length = n) (hsize : g.locals.size = nL) (hstack : g.stack = As.reverse ++ .ref b :: rest) (hW : 2 * g.monitorRoom + (rest.map fun v => v.category).sum ≤ 8) (hdg : decode cc g.pc = .ok (.invokevirtual index, 3)) (hf : cells + mc ≤ R.cells ∧ slots + ms ≤ R.slots) :
    vx_Run p l e R s m args below meth c H locs cells slots mc ms g rest (Qc (Value.ref b :: As).toArray) XC free := by
  have hK : vx_Back l R p e below s args y 3 8 (PreOf R mc ms Pc) (PostOf Qc mc ms free) (vx_Post XC mc ms free) := vx_callBack cw.1 hM hp.1
  obtain ⟨⟨-, -, -, -, -, -, hcode, -, hy, hlen, hl⟩, hin, hse⟩ := cw
  obtain ⟨hx, hb, hml, ho, -⟩ := S
  obtain ⟨-, ⟨cellB, hcB, hoB, hclB⟩, hPc⟩ := hp
  intro T hT X
  rcases vx_callV X hx (C := C) (bytes := bytes) (maxL := maxL) (ret := ret) ho hl hin hse hcode hy hK (by rw [hT]; exact hcB) hoB hclB hg (hsize.trans hml.symm) (argsL := As) (rest := rest) (fun sig h => hn.trans (hlen sig h)) hstack hW (by rw [hb]; exact hdg)
    (fun vm₁ hW₁ => ⟨hf.1, hf.2, hPc (T.setVm vm₁) hT hW₁⟩) with ⟨v, vm₁, ⟨U', l2, c2, s2⟩, hW₁, X', ⟨g', mk, t, L, e1, e2, hq, h1, hL, h2, h3⟩, st⟩ | ⟨q, vm₁, ⟨U', l2, c2, s2⟩, hW₁, X', ⟨g', mk, t, L, E, ce, e1, e2, hq, hce, hcv, hcl, h1, hL, h2, h3⟩, st⟩
  · dsimp only [Pt.U, Pt.locs, Pt.cells, Pt.slots] at X' e1 e2 h1 h2 h3 st
    subst h1; subst h2; subst h3
    exact Or.inl ⟨v, (T.setVm vm₁).calling g' mk (Value.ref b :: As).toArray, t, U', L, hT, X', hL, e1, e2, hq, st⟩
  · dsimp only [Pt.U, Pt.locs, Pt.cells, Pt.slots] at X' e1 e2 h1 h2 h3 st hcl
    subst h1; subst h2; subst h3
    exact Or.inr ⟨q, (T.setVm vm₁).calling g' mk (Value.ref b :: As).toArray, t, U', L, E, ce, hT, X', hL, e1, e2, hq, hce, hcv, vx_cls hW₁ hcl, st⟩
theorem vx_runS (S : CallFix p m c cc nL s args Ts own) (hM : vx_Met l y ws rm Pc Qc XC mc ms free) (cw : CallB R s args own index y bytes maxL ret ws rm mc ms n ∧ (Cond.static y).before args s = true) (hp : PreS s H Pc As)
    (hg : g.method = m) (hn : As.length = n) (hsize : g.locals.size = nL) (hstack : g.stack = As.reverse ++ rest) (hW : 2 * g.monitorRoom + (rest.map fun v => v.category).sum ≤ 8) (hdg : decode cc g.pc = .ok (.invokestatic index, 3)) (hf : cells + mc ≤ R.cells ∧ slots + ms ≤ R.slots) :
    vx_Run p l e R s m args below meth c H locs cells slots mc ms g rest (Qc As.toArray) XC free := by
  have hK : vx_Back l R p e below s args y 3 8 (PreOf R mc ms Pc) (PostOf Qc mc ms free) (vx_Post XC mc ms free) := vx_callBack cw.1 hM hp.1
  obtain ⟨⟨-, -, -, -, -, -, hcode, hini, hy, hlen, hl⟩, hstt⟩ := cw
  obtain ⟨hx, hb, hml, ho, -⟩ := S
  intro T hT X
  rcases vx_callS X hx (bytes := bytes) (maxL := maxL) (ret := ret) ho hl hstt hini hcode hy hK hg (hsize.trans hml.symm) (argsL := As) (rest := rest) (fun sig h => hn.trans (hlen sig h)) hstack hW (by rw [hb]; exact hdg)
    (fun vm₁ hW₁ => ⟨hf.1, hf.2, hp.2 (T.setVm vm₁) hT hW₁⟩) with ⟨v, vm₁, ⟨U', l2, c2, s2⟩, hW₁, X', ⟨g', mk, t, L, e1, e2, hq, h1, hL, h2, h3⟩, st⟩ | ⟨q, vm₁, ⟨U', l2, c2, s2⟩, hW₁, X', ⟨g', mk, t, L, E, ce, e1, e2, hq, hce, hcv, hcl, h1, hL, h2, h3⟩, st⟩
  · dsimp only [Pt.U, Pt.locs, Pt.cells, Pt.slots] at X' e1 e2 h1 h2 h3 st
    subst h1; subst h2; subst h3
    exact Or.inl ⟨v, (T.setVm vm₁).calling g' mk As.toArray, t, U', L, hT, X', hL, e1, e2, hq, st⟩
  · dsimp only [Pt.U, Pt.locs, Pt.cells, Pt.slots] at X' e1 e2 h1 h2 h3 st hcl
    subst h1; subst h2; subst h3
    exact Or.inr ⟨q, (T.setVm vm₁).calling g' mk As.toArray, t, U', L, E, ce, hT, X', hL, e1, e2, hq, hce, hcv, vx_cls hW₁ hcl, st⟩
end Runs
section Rows
variable {p : Program} {l : Launch} {e : Env} {R : Room} {s : State} {m : MethodId} {args : Array Value} {below : List Frame} {meth : Method} {c : Code} {H : Heap} {locs : List Loc} {cells slots : Nat} {Q : State → Prop}
variable {mc ms : Nat} {free : Addr → Prop} {A0 A1 : Nat → Prop} {H0 : Heap} {a : Array Value} {pc : Nat} {ls : Array Slot} {st0 rest : List Value}
theorem vx_keep {st₀ t T' : State} {L : List Loc} (h0 : st₀.heap = H) (e1 : T'.heap = t.heap) (hS : va_S A0 H0 H locs) (hA : ∀ q, q < H.size → A1 q → A0 q) (hf : ∀ q, free q → A0 q) (hL : ∀ q ∈ L, free q.base) (hF : va_F A1 st₀ t) :
    H.size ≤ T'.heap.size ∧ (∀ q : Nat, q < H.size → ¬ A1 q → T'.heap[q]? = H[q]?) ∧ va_S A0 H0 T'.heap (locs ++ L) := by
  obtain ⟨hz, hk⟩ := hF
  rw [h0] at hz hk
  exact ⟨by rw [e1]; exact hz, fun q h1 h2 => by rw [e1]; exact hk q h1 h2,
    ⟨Nat.le_trans hS.1 (by rw [e1]; exact hz), fun q h1 h2 => by rw [e1, hk q (Nat.lt_of_lt_of_le h1 hS.1) (fun z => h2 (hA q (Nat.lt_of_lt_of_le h1 hS.1) z))]; exact hS.2.1 q h1 h2, fun q hq => by
      rcases List.mem_append.mp hq with h | h
      · exact hS.2.2 q h
      · exact hf _ (hL q h)⟩⟩
theorem vx_calli {S SX : Type} {post : Int32 → S → Prop} {px : SX → Prop} {B : S → State → Prop} {BX : String → SX → State → Prop} {AX : Nat → Prop} (hr : vx_Run p l e R s m args below meth c H locs cells slots mc ms (F0 m pc ls st0) rest (va_Qi post B A1 a) (vx_X px BX AX) free) (hS : va_S A0 H0 H locs) (hA : ∀ q, q < H.size → A1 q → A0 q) (hf : ∀ q, free q → A0 q) (hAX : ∀ q, q < H.size → AX q → A0 q)
    (kx : ∀ (E : String) (ce : Cell) (q9 : Addr) (u : SX) (t : State) (H1 : Heap) (locs1 : List Loc), t.heap = H1 → s.vm.Alike t.vm → px u → BX E u t → H.size ≤ H1.size → (∀ q : Nat, q < H.size → ¬ AX q → H1[q]? = H[q]?) → va_S A0 H0 H1 locs1 → H1[q9]? = some ce → ce.vm = .none → s.vm.findClass E = some ce.cls → vx_W p l e R s m args below meth c H1 locs1 (cells + mc) (slots + ms) Q (F0 m pc ls rest) q9)
    (kk : ∀ (r : Int32) (u : S) (t : State) (H1 : Heap) (locs1 : List Loc), t.heap = H1 → s.vm.Alike t.vm → post r u → B u t → H.size ≤ H1.size → (∀ q : Nat, q < H.size → ¬ A1 q → H1[q]? = H[q]?) → va_S A0 H0 H1 locs1 → W p l e R s m args below meth c H1 locs1 (cells + mc) (slots + ms) Q (F0 m (pc + 3) ls (.int r :: rest))) : W p l e R s m args below meth c H locs cells slots Q (F0 m pc ls st0) := by
  intro T hT X
  rcases hr T hT X with ⟨v, st₀, t, T', L, h0, X', hL, e1, e2, ⟨⟨r, u, hv, hp, hb⟩, hF⟩, st⟩ | ⟨q, st₀, t, T', L, E, ce, h0, X', hL, e1, e2, ⟨u, hp, hb, hF⟩, hce, hcv, hcl, st⟩
  · cases hv
    obtain ⟨k1, k2, k3⟩ := vx_keep h0 e1 hS hA hf hL hF
    obtain ⟨t2, a1, b1⟩ := kk r u t T'.heap (locs ++ L) e1.symm (by rw [← e2]; exact X'.warmed.alike) hp hb k1 k2 k3 T' rfl X'
    exact ⟨t2, st t2 a1, b1⟩
  · obtain ⟨k1, k2, k3⟩ := vx_keep h0 e1 hS hAX hf hL hF
    obtain ⟨t2, a1, b1⟩ := kx E ce q u t T'.heap (locs ++ L) e1.symm (by rw [← e2]; exact X'.warmed.alike) hp hb k1 k2 k3 (by rw [e1]; exact hce) hcv hcl T' rfl X'
    exact ⟨t2, st.trans a1, b1⟩
theorem vx_calll {S SX : Type} {post : Int64 → S → Prop} {px : SX → Prop} {B : S → State → Prop} {BX : String → SX → State → Prop} {AX : Nat → Prop} (hr : vx_Run p l e R s m args below meth c H locs cells slots mc ms (F0 m pc ls st0) rest (va_Ql post B A1 a) (vx_X px BX AX) free) (hS : va_S A0 H0 H locs) (hA : ∀ q, q < H.size → A1 q → A0 q) (hf : ∀ q, free q → A0 q) (hAX : ∀ q, q < H.size → AX q → A0 q)
    (kx : ∀ (E : String) (ce : Cell) (q9 : Addr) (u : SX) (t : State) (H1 : Heap) (locs1 : List Loc), t.heap = H1 → s.vm.Alike t.vm → px u → BX E u t → H.size ≤ H1.size → (∀ q : Nat, q < H.size → ¬ AX q → H1[q]? = H[q]?) → va_S A0 H0 H1 locs1 → H1[q9]? = some ce → ce.vm = .none → s.vm.findClass E = some ce.cls → vx_W p l e R s m args below meth c H1 locs1 (cells + mc) (slots + ms) Q (F0 m pc ls rest) q9)
    (kk : ∀ (r : Int64) (u : S) (t : State) (H1 : Heap) (locs1 : List Loc), t.heap = H1 → s.vm.Alike t.vm → post r u → B u t → H.size ≤ H1.size → (∀ q : Nat, q < H.size → ¬ A1 q → H1[q]? = H[q]?) → va_S A0 H0 H1 locs1 → W p l e R s m args below meth c H1 locs1 (cells + mc) (slots + ms) Q (F0 m (pc + 3) ls (.long r :: rest))) : W p l e R s m args below meth c H locs cells slots Q (F0 m pc ls st0) := by
  intro T hT X
  rcases hr T hT X with ⟨v, st₀, t, T', L, h0, X', hL, e1, e2, ⟨⟨r, u, hv, hp, hb⟩, hF⟩, st⟩ | ⟨q, st₀, t, T', L, E, ce, h0, X', hL, e1, e2, ⟨u, hp, hb, hF⟩, hce, hcv, hcl, st⟩
  · cases hv
    obtain ⟨k1, k2, k3⟩ := vx_keep h0 e1 hS hA hf hL hF
    obtain ⟨t2, a1, b1⟩ := kk r u t T'.heap (locs ++ L) e1.symm (by rw [← e2]; exact X'.warmed.alike) hp hb k1 k2 k3 T' rfl X'
    exact ⟨t2, st t2 a1, b1⟩
  · obtain ⟨k1, k2, k3⟩ := vx_keep h0 e1 hS hAX hf hL hF
    obtain ⟨t2, a1, b1⟩ := kx E ce q u t T'.heap (locs ++ L) e1.symm (by rw [← e2]; exact X'.warmed.alike) hp hb k1 k2 k3 (by rw [e1]; exact hce) hcv hcl T' rfl X'
    exact ⟨t2, st.trans a1, b1⟩
theorem vx_callf {S SX : Type} {post : UInt32 → S → Prop} {px : SX → Prop} {B : S → State → Prop} {BX : String → SX → State → Prop} {AX : Nat → Prop} (hr : vx_Run p l e R s m args below meth c H locs cells slots mc ms (F0 m pc ls st0) rest (va_Qf post B A1 a) (vx_X px BX AX) free) (hS : va_S A0 H0 H locs) (hA : ∀ q, q < H.size → A1 q → A0 q) (hf : ∀ q, free q → A0 q) (hAX : ∀ q, q < H.size → AX q → A0 q)
    (kx : ∀ (E : String) (ce : Cell) (q9 : Addr) (u : SX) (t : State) (H1 : Heap) (locs1 : List Loc), t.heap = H1 → s.vm.Alike t.vm → px u → BX E u t → H.size ≤ H1.size → (∀ q : Nat, q < H.size → ¬ AX q → H1[q]? = H[q]?) → va_S A0 H0 H1 locs1 → H1[q9]? = some ce → ce.vm = .none → s.vm.findClass E = some ce.cls → vx_W p l e R s m args below meth c H1 locs1 (cells + mc) (slots + ms) Q (F0 m pc ls rest) q9)
    (kk : ∀ (r : UInt32) (u : S) (t : State) (H1 : Heap) (locs1 : List Loc), t.heap = H1 → s.vm.Alike t.vm → post r u → B u t → H.size ≤ H1.size → (∀ q : Nat, q < H.size → ¬ A1 q → H1[q]? = H[q]?) → va_S A0 H0 H1 locs1 → W p l e R s m args below meth c H1 locs1 (cells + mc) (slots + ms) Q (F0 m (pc + 3) ls (.float r :: rest))) : W p l e R s m args below meth c H locs cells slots Q (F0 m pc ls st0) := by
  intro T hT X
  rcases hr T hT X with ⟨v, st₀, t, T', L, h0, X', hL, e1, e2, ⟨⟨r, u, hv, hp, hb⟩, hF⟩, st⟩ | ⟨q, st₀, t, T', L, E, ce, h0, X', hL, e1, e2, ⟨u, hp, hb, hF⟩, hce, hcv, hcl, st⟩
  · cases hv
    obtain ⟨k1, k2, k3⟩ := vx_keep h0 e1 hS hA hf hL hF
    obtain ⟨t2, a1, b1⟩ := kk r u t T'.heap (locs ++ L) e1.symm (by rw [← e2]; exact X'.warmed.alike) hp hb k1 k2 k3 T' rfl X'
    exact ⟨t2, st t2 a1, b1⟩
  · obtain ⟨k1, k2, k3⟩ := vx_keep h0 e1 hS hAX hf hL hF
    obtain ⟨t2, a1, b1⟩ := kx E ce q u t T'.heap (locs ++ L) e1.symm (by rw [← e2]; exact X'.warmed.alike) hp hb k1 k2 k3 (by rw [e1]; exact hce) hcv hcl T' rfl X'
    exact ⟨t2, st.trans a1, b1⟩
theorem vx_calld {S SX : Type} {post : UInt64 → S → Prop} {px : SX → Prop} {B : S → State → Prop} {BX : String → SX → State → Prop} {AX : Nat → Prop} (hr : vx_Run p l e R s m args below meth c H locs cells slots mc ms (F0 m pc ls st0) rest (va_Qd post B A1 a) (vx_X px BX AX) free) (hS : va_S A0 H0 H locs) (hA : ∀ q, q < H.size → A1 q → A0 q) (hf : ∀ q, free q → A0 q) (hAX : ∀ q, q < H.size → AX q → A0 q)
    (kx : ∀ (E : String) (ce : Cell) (q9 : Addr) (u : SX) (t : State) (H1 : Heap) (locs1 : List Loc), t.heap = H1 → s.vm.Alike t.vm → px u → BX E u t → H.size ≤ H1.size → (∀ q : Nat, q < H.size → ¬ AX q → H1[q]? = H[q]?) → va_S A0 H0 H1 locs1 → H1[q9]? = some ce → ce.vm = .none → s.vm.findClass E = some ce.cls → vx_W p l e R s m args below meth c H1 locs1 (cells + mc) (slots + ms) Q (F0 m pc ls rest) q9)
    (kk : ∀ (r : UInt64) (u : S) (t : State) (H1 : Heap) (locs1 : List Loc), t.heap = H1 → s.vm.Alike t.vm → post r u → B u t → H.size ≤ H1.size → (∀ q : Nat, q < H.size → ¬ A1 q → H1[q]? = H[q]?) → va_S A0 H0 H1 locs1 → W p l e R s m args below meth c H1 locs1 (cells + mc) (slots + ms) Q (F0 m (pc + 3) ls (.double r :: rest))) : W p l e R s m args below meth c H locs cells slots Q (F0 m pc ls st0) := by
  intro T hT X
  rcases hr T hT X with ⟨v, st₀, t, T', L, h0, X', hL, e1, e2, ⟨⟨r, u, hv, hp, hb⟩, hF⟩, st⟩ | ⟨q, st₀, t, T', L, E, ce, h0, X', hL, e1, e2, ⟨u, hp, hb, hF⟩, hce, hcv, hcl, st⟩
  · cases hv
    obtain ⟨k1, k2, k3⟩ := vx_keep h0 e1 hS hA hf hL hF
    obtain ⟨t2, a1, b1⟩ := kk r u t T'.heap (locs ++ L) e1.symm (by rw [← e2]; exact X'.warmed.alike) hp hb k1 k2 k3 T' rfl X'
    exact ⟨t2, st t2 a1, b1⟩
  · obtain ⟨k1, k2, k3⟩ := vx_keep h0 e1 hS hAX hf hL hF
    obtain ⟨t2, a1, b1⟩ := kx E ce q u t T'.heap (locs ++ L) e1.symm (by rw [← e2]; exact X'.warmed.alike) hp hb k1 k2 k3 (by rw [e1]; exact hce) hcv hcl T' rfl X'
    exact ⟨t2, st.trans a1, b1⟩
theorem vx_callv {S SX : Type} {post : S → Prop} {px : SX → Prop} {B : S → State → Prop} {BX : String → SX → State → Prop} {AX : Nat → Prop} (hr : vx_Run p l e R s m args below meth c H locs cells slots mc ms (F0 m pc ls st0) rest (va_Qv post B A1 a) (vx_X px BX AX) free) (hS : va_S A0 H0 H locs) (hA : ∀ q, q < H.size → A1 q → A0 q) (hf : ∀ q, free q → A0 q) (hAX : ∀ q, q < H.size → AX q → A0 q)
    (kx : ∀ (E : String) (ce : Cell) (q9 : Addr) (u : SX) (t : State) (H1 : Heap) (locs1 : List Loc), t.heap = H1 → s.vm.Alike t.vm → px u → BX E u t → H.size ≤ H1.size → (∀ q : Nat, q < H.size → ¬ AX q → H1[q]? = H[q]?) → va_S A0 H0 H1 locs1 → H1[q9]? = some ce → ce.vm = .none → s.vm.findClass E = some ce.cls → vx_W p l e R s m args below meth c H1 locs1 (cells + mc) (slots + ms) Q (F0 m pc ls rest) q9)
    (kk : ∀ (u : S) (t : State) (H1 : Heap) (locs1 : List Loc), t.heap = H1 → s.vm.Alike t.vm → post u → B u t → H.size ≤ H1.size → (∀ q : Nat, q < H.size → ¬ A1 q → H1[q]? = H[q]?) → va_S A0 H0 H1 locs1 → W p l e R s m args below meth c H1 locs1 (cells + mc) (slots + ms) Q (F0 m (pc + 3) ls (rest))) : W p l e R s m args below meth c H locs cells slots Q (F0 m pc ls st0) := by
  intro T hT X
  rcases hr T hT X with ⟨v, st₀, t, T', L, h0, X', hL, e1, e2, ⟨⟨u, hv, hp, hb⟩, hF⟩, st⟩ | ⟨q, st₀, t, T', L, E, ce, h0, X', hL, e1, e2, ⟨u, hp, hb, hF⟩, hce, hcv, hcl, st⟩
  · cases hv
    obtain ⟨k1, k2, k3⟩ := vx_keep h0 e1 hS hA hf hL hF
    obtain ⟨t2, a1, b1⟩ := kk u t T'.heap (locs ++ L) e1.symm (by rw [← e2]; exact X'.warmed.alike) hp hb k1 k2 k3 T' rfl X'
    exact ⟨t2, st t2 a1, b1⟩
  · obtain ⟨k1, k2, k3⟩ := vx_keep h0 e1 hS hAX hf hL hF
    obtain ⟨t2, a1, b1⟩ := kx E ce q u t T'.heap (locs ++ L) e1.symm (by rw [← e2]; exact X'.warmed.alike) hp hb k1 k2 k3 (by rw [e1]; exact hce) hcv hcl T' rfl X'
    exact ⟨t2, st.trans a1, b1⟩
/-- caught by the row x of this method's table; the rows ahead don't take it -/
theorem vx_catch {own name : String} {E : String} {ce : Cell} {q : Addr} (hown : s.vm.findClass own = some m.cls) (pre : List ExceptionTableEntry) (x : ExceptionTableEntry) (suf : List ExceptionTableEntry) (hsplit : c.exceptionTable.toList = pre ++ x :: suf)
    (hpass : ∀ z ∈ pre, covers z pc = false ∨ (z.catchType ≠ 0 ∧ ∃ nm : String, (Cond.classLink own z.catchType nm).before args s = true ∧ va_Nc E nm s)) (hx : covers x pc = true) (h0 : x.catchType ≠ 0)
    (hlink : (Cond.classLink own x.catchType name).before args s = true) (hcast : (Cond.castable E name).before args s = true) (hcell : H[q]? = some ce) (hv : ce.vm = .none) (hcl : s.vm.findClass E = some ce.cls)
    (kk : W p l e R s m args below meth c H locs cells slots Q (F0 m x.handlerPc ls [.ref q])) : vx_W p l e R s m args below meth c H locs cells slots Q (F0 m pc ls rest) q := by
  intro T hT X
  have hpl : e.platform.magicAccessors = ({} : Platform).magicAccessors := by rw [X.admits.platform]
  obtain ⟨c3, c4, hc3, hc4, hasg⟩ := Cond.castable_spec hcast
  cases Option.some.inj (hc3.symm.trans hcl)
  obtain ⟨c5, hc5, hcl5⟩ := Cond.classLink_spec hown hlink e.platform hpl
  cases Option.some.inj (hc4.symm.trans hc5)
  obtain ⟨vm', X', st⟩ := X.thenCaughtThrough q (g := F0 m pc ls rest) rfl (Steps.refl _) (by rw [hT]; exact hcell) (by rw [hv]; rfl) (by obtain ⟨k9, h9, -⟩ := Vm.findClass_spec hcl; exact ⟨k9, h9⟩) pre x suf hsplit
    (fun z hz => by
      rcases hpass z hz with h | ⟨hz0, nm, hl1, hn1⟩
      · exact Or.inl h
      · obtain ⟨c6, hc6, hcl6⟩ := Cond.classLink_spec hown hl1 e.platform hpl
        obtain ⟨a8, b8, h1, h2, h3⟩ := hn1
        cases Option.some.inj (h1.symm.trans hcl)
        cases Option.some.inj (h2.symm.trans hc6)
        exact Or.inr ⟨hz0, _, hcl6, h3⟩) hx (Or.inr ⟨h0, c4, hcl5, hasg⟩)
  obtain ⟨t, a1, b1⟩ := kk (T.setVm vm') hT X'
  exact ⟨t, st.trans a1, b1⟩
end Rows
section Ends
variable {p : Program} {l : Launch} {e : Env} {R : Room} {s : State} {m : MethodId} {args : Array Value} {below : List Frame} {meth : Method} {c : Code} {H : Heap} {locs : List Loc} {cells slots : Nat} {Q : State → Prop}
variable {mc ms : Nat} {free : Addr → Prop} {A0 A1 : Nat → Prop} {H0 : Heap} {a : Array Value} {ls : Array Slot} {st0 rest : List Value}
variable {Qc : Array Value → State → Outcome → State → Prop} {XC : String → State → State → Prop}
/-- what a body that may throw owes at its end -/
def vx_MQ (below : List Frame) (Qc : Array Value → State → Outcome → State → Prop) (XC : String → State → State → Prop) (a : Array Value) (s : State) (mc ms : Nat) (free : Addr → Prop) : State → Prop := fun t =>
  ∃ o, t.status = .running ∧ Ended t below o ∧ vx_Q Qc XC mc ms free a s o t
theorem vx_ret {g : JFrame} {mc ms : Nat} (k : W p l e R s m args below meth c H locs cells slots (MQ below Qc args s mc ms free) g) : W p l e R s m args below meth c H locs cells slots (vx_MQ below Qc XC args s mc ms free) g := by
  intro T hT X
  obtain ⟨t, a1, o, b1, b2, b3, b4⟩ := k T hT X
  exact ⟨t, a1, o, b1, b2, Or.inl ⟨b3, b4⟩⟩
/-- not caught here: it goes on to the caller -/
theorem vx_widen {g : JFrame} {q : Addr} {k n : Nat} (h1 : cells ≤ k) (h2 : slots ≤ n) (kk : vx_W p l e R s m args below meth c H locs k n Q g q) : vx_W p l e R s m args below meth c H locs cells slots Q g q := fun T hT X => kk T hT (stand_widen X h1 h2)
theorem vx_out {pc : Nat} {E : String} {ce : Cell} {q : Addr} {mc ms : Nat} (hout : ∀ x ∈ c.exceptionTable.toList, covers x pc = false) (hlocks : meth.locks = false) (hcell : H[q]? = some ce) (hv : ce.vm = .none) (hcl : s.vm.findClass E = some ce.cls)
    (hx : ∀ t : State, t.heap = H → s.vm.Alike t.vm → XC E s t) (hf : ∀ z ∈ locs, free z.base) (hc : cells ≤ mc) (hs : slots ≤ ms) :
    vx_W p l e R s m args below meth c H locs cells slots (vx_MQ below Qc XC args s mc ms free) (F0 m pc ls rest) q := by
  intro T hT X
  obtain ⟨st1, hrun, hend, hW, hsm⟩ := X.leaveThrown q (g := F0 m pc ls rest) rfl rfl rfl hout hlocks
  have hcell9 : (T.setFrames (.throwing q :: below)).heap[q]? = some ce := by
    show T.heap[q]? = some ce
    rw [hT]; exact hcell
  exact ⟨_, st1, .threw q, hrun, hend, Or.inr ⟨q, rfl, E, ce, locs, hx _ hT hW.alike, hcell9, hv, hcl, hW, hsm.mono hc hs, hf⟩⟩
theorem vx_frame {U : State} {k n : Nat} (h : s.sameButNew ({ U with vm := s.vm } : State) locs k n) : s.heap.size ≤ U.heap.size ∧ ∀ q : Nat, q < s.heap.size → (∀ z ∈ locs, z.base ≠ q) → U.heap[q]? = s.heap[q]? := by
  obtain ⟨-, h2, -, -, -, h6⟩ := h
  refine ⟨h2, fun q hq hz => ?_⟩
  obtain ⟨c9, e1, e2, e3, e4⟩ := h6 q _ (Array.getElem?_eq_getElem hq)
  have hs : c9.slots = (s.heap[q]).slots := Array.ext_getElem? fun i => e4 i fun hm => hz _ hm rfl
  have h9 : c9 = s.heap[q] := by
    rw [hs] at e2
    exact e2
  have e5 : U.heap[q]? = some c9 := e1
  rw [e5, h9, Array.getElem?_eq_getElem hq]
/-- the words of a throw but the four that speak of the heap -/
def vx_no (w : Cond) : Bool := decide (w ≠ .isRef (.static Bundle.tN "UNASSIGNED_STACK" Bundle.steD)) && decide (w ≠ .isRef (.static Bundle.tN "SUPPRESSED_SENTINEL" Bundle.listD)) && decide (w ≠ .laysStatic Bundle.tN "UNASSIGNED_STACK" Bundle.steD) && decide (w ≠ .laysStatic Bundle.tN "SUPPRESSED_SENTINEL" Bundle.listD)
def vx_at0 (own : String) (ic : Nat) (X : String) (names : List String) : List Cond := (Bundle.ownAtoms0 own ic X names).filter vx_no
def vx_atS (own : String) (ic : Nat) (X : String) (names : List String) : List Cond := (Bundle.ownAtoms own ic X names).filter vx_no
/-- a word that the tables alone decide, or a good one -/
def vx_ot (w : Cond) : Bool := w.onTables || goodWord w
theorem vx_ot_at {args a' : Array Value} {s U : State} {w : Cond} (hW : s.WarmedH U.vm) (hvm : s.vm = U.vm) (hg : vx_ot w = true) (h : w.before args s = true) : w.before a' U = true := by
  simp only [vx_ot, Bool.or_eq_true] at hg
  rcases hg with hg | hg
  · exact va_tabs hg hvm h
  · exact word_at hW (good_of_word hg) h
/-- a list's words: the good ones out of the method's own list, the others by premises of their own -/
theorem vx_hat {args : Array Value} {s : State} {L B : List Cond} (h1 : ∀ w ∈ L.filter goodWord, w.before args s = true) (h2 : ∀ w ∈ L.filter (fun w => !goodWord w), w ∈ B) (h3 : ∀ w ∈ B, w.before args s = true) : ∀ w ∈ L, w.before args s = true := by
  intro w hw
  by_cases g : goodWord w = true
  · exact h1 w (List.mem_filter.mpr ⟨hw, g⟩)
  · refine h3 w (h2 w (List.mem_filter.mpr ⟨hw, ?_⟩))
    show (!goodWord w) = true
    cases hgw : goodWord w
    · rfl
    · exact absurd hgw g
theorem vx_c {args : Array Value} {s : State} {w : Cond} {B : List Cond} (h : w.before args s = true) (t : ∀ w ∈ B, w.before args s = true) : ∀ w' ∈ w :: B, w'.before args s = true := fun w' h' => (List.mem_cons.mp h').elim (fun e => by rw [e]; exact h) (t w')
theorem vx_n {args : Array Value} {s : State} : ∀ w ∈ ([] : List Cond), w.before args s = true := fun _ h => nomatch h
theorem vx_own {args : Array Value} {s : State} {L : List Cond} (h1 : ∀ w ∈ L.filter vx_no, w.before args s = true)
    (hU : (Cond.isRef (.static Bundle.tN "UNASSIGNED_STACK" Bundle.steD)).before args s = true) (hN : (Cond.isRef (.static Bundle.tN "SUPPRESSED_SENTINEL" Bundle.listD)).before args s = true)
    (lU : (Cond.laysStatic Bundle.tN "UNASSIGNED_STACK" Bundle.steD).before args s = true) (lN : (Cond.laysStatic Bundle.tN "SUPPRESSED_SENTINEL" Bundle.listD).before args s = true) : ∀ w ∈ L, w.before args s = true := by
  intro w hw
  by_cases e1 : w = .isRef (.static Bundle.tN "UNASSIGNED_STACK" Bundle.steD)
  · rw [e1]; exact hU
  · by_cases e2 : w = .isRef (.static Bundle.tN "SUPPRESSED_SENTINEL" Bundle.listD)
    · rw [e2]; exact hN
    · by_cases e3 : w = .laysStatic Bundle.tN "UNASSIGNED_STACK" Bundle.steD
      · rw [e3]; exact lU
      · by_cases e4 : w = .laysStatic Bundle.tN "SUPPRESSED_SENTINEL" Bundle.listD
        · rw [e4]; exact lN
        · exact h1 w (List.mem_filter.mpr ⟨hw, by unfold vx_no; rw [decide_eq_true e1, decide_eq_true e2, decide_eq_true e3, decide_eq_true e4]; rfl⟩)
/-- where a static field lies, its class's statics cell in H -/
def vx_L (C n d : String) (A : Nat → Prop) (U : State) (H : Heap) : Prop := ∃ (c : ClassId) (k : Class) (i : Nat) (f : Field) (a : Nat) (cell : Cell), U.vm.findClass C = some c ∧ U.fieldFound? C n d = some (c, k, i, f) ∧ f.isStatic = true ∧ k.statics = some a ∧ H[a]? = some cell ∧ cell.vm.isStatics = true ∧ cell.cls = c ∧ f.slot < cell.slots.size ∧ k.staticTypes[f.slot]? = some f.type ∧ ¬ A a
theorem vx_L.moved {C n d : String} {A : Nat → Prop} {u U : State} {H : Heap} (hvm : u.vm.Alike U.vm) (h : vx_L C n d A u H) : vx_L C n d A U H := by
  obtain ⟨c, k, i, f, a, cell, h1, h2, h3, h4, h5, h6, h7, h8, h9, h10⟩ := h
  obtain ⟨k', hi', he⟩ := State.fieldFound?_setVm hvm h2
  exact ⟨c, k', i, f, a, cell, by rw [hvm.findClass]; exact h1, hi', h3, by rw [he]; exact h4, h5, h6, h7, h8, by rw [he]; exact h9, h10⟩
theorem vx_L.kept {C n d : String} {A : Nat → Prop} {U : State} {H H1 : Heap} (h : vx_L C n d A U H) (hq : ∀ a : Nat, a < H.size → ¬ A a → H1[a]? = H[a]?) : vx_L C n d A U H1 := by
  obtain ⟨c, k, i, f, a, cell, h1, h2, h3, h4, h5, h6, h7, h8, h9, h10⟩ := h
  exact ⟨c, k, i, f, a, cell, h1, h2, h3, h4, by rw [hq a (Array.getElem?_eq_some_iff.mp h5).1 h10]; exact h5, h6, h7, h8, h9, h10⟩
theorem vx_L.narrow {C n d : String} {A B : Nat → Prop} {U : State} {H : Heap} (h : vx_L C n d A U H) (hAB : ∀ q, B q → A q) : vx_L C n d B U H := by
  obtain ⟨c, k, i, f, a, cell, h1, h2, h3, h4, h5, h6, h7, h8, h9, h10⟩ := h
  exact ⟨c, k, i, f, a, cell, h1, h2, h3, h4, h5, h6, h7, h8, h9, fun z => h10 (hAB _ z)⟩
theorem vx_L.word {C n d : String} {A : Nat → Prop} {s : State} {args : Array Value} (h : vx_L C n d A s s.heap) : (Cond.laysStatic C n d).before args s = true := by
  obtain ⟨c, k, i, f, a, cell, h1, h2, h3, h4, h5, h6, h7, h8, h9, -⟩ := h
  show (Cond.laysStatic C n d).holds args s none s [] = true
  exact Cond.laysStatic_of h1 h2 h3 h4 h5 h6 h7 h8 h9
/-- .. and what it holds: null or some reference -/
def vx_Zq (C n d : String) (A : Nat → Prop) (U : State) (H : Heap) : Prop := va_Zq C n d A U H ∧ vx_L C n d A U H
theorem vx_Zq.moved {C n d : String} {A : Nat → Prop} {u U : State} {H : Heap} (hvm : u.vm.Alike U.vm) (h : vx_Zq C n d A u H) : vx_Zq C n d A U H := ⟨va_Zq.moved hvm h.1, vx_L.moved hvm h.2⟩
theorem vx_Zq.kept {C n d : String} {A : Nat → Prop} {U : State} {H H1 : Heap} (h : vx_Zq C n d A U H) (hq : ∀ a : Nat, a < H.size → ¬ A a → H1[a]? = H[a]?) : vx_Zq C n d A U H1 := ⟨va_Zq.kept h.1 hq, vx_L.kept h.2 hq⟩
theorem vx_Zq.narrow {C n d : String} {A B : Nat → Prop} {U : State} {H : Heap} (h : vx_Zq C n d A U H) (hAB : ∀ q, B q → A q) : vx_Zq C n d B U H := ⟨va_Zq.narrow h.1 hAB, vx_L.narrow h.2 hAB⟩
theorem vx_Zqof {args : Array Value} {s : State} {C n d : String} {A : Nat → Prop} (hl : (Cond.laysStatic C n d).before args s = true) (hini : (Cond.initialized C).before args s = true) (h : (Cond.isRef (.static C n d)).before args s = true) (hA : ∀ a : Nat, a < s.heap.size → ¬ A a) : vx_Zq C n d A s s.heap := by
  refine ⟨va_Zqof hl hini h hA, ?_⟩
  obtain ⟨c, k, i, f, a, cell, h1, h2, h3, h4, h5, h6, h7, h8, h9⟩ := Cond.laysStatic_spec hl
  exact ⟨c, k, i, f, a, cell, h1, h2, h3, h4, h5, h6, h7, h8, h9, hA a (Array.getElem?_eq_some_iff.mp h5).1⟩
theorem vx_isRef {C n d : String} {v : Value} {A : Nat → Prop} {s : State} {args : Array Value} (h : va_Z C n d v A s s.heap) (hv : v.isRef = true) : (Cond.isRef (.static C n d)).before args s = true := by
  obtain ⟨cf, kf, fi, f, a, cell, h1, h2, h3, h4, h5, h6, h7, -⟩ := h
  have he : (Term.static C n d).eval args s none [] s = some v := by
    simp [Term.eval, State.fieldNamed?, h1, h2, h4, h5, h6, h7]
  simp only [Cond.before, Cond.holds, Cond.value, he]
  cases v <;> simp_all [Value.isRef]
theorem vx_isRefq {C n d : String} {A : Nat → Prop} {s : State} {args : Array Value} (h : va_Zq C n d A s s.heap) : (Cond.isRef (.static C n d)).before args s = true := by
  rcases h with h | ⟨t, h⟩
  · exact vx_isRef h rfl
  · exact vx_isRef h rfl
/-- the same frame, seen from here: as if the method were called anew in this heap -/
theorem vx_rebase {T : State} (X : Stand p l e R s m args below meth c T locs cells slots) {R' : Room} (hf : R'.frames ≤ R.frames) (hl : R'.locals ≤ R.locals) (hc : cells + R'.cells ≤ R.cells) (hs : slots + R'.slots ≤ R.slots) :
    Stand p l e R' ((T.setVm s.vm).setFrames (.invoking m args :: below)) m args below meth c T [] 0 0 := by
  have htop : (T.setVm s.vm).topJava?.isSome := X.here.top
  have hF : ((T.setVm s.vm).setFrames (.invoking m args :: below)).frames = .invoking m args :: below := State.frames_setFrames _ (State.cur_lt_of_top htop)
  obtain ⟨g₀, hg0⟩ := Option.isSome_iff_exists.mp htop
  obtain ⟨r, hr⟩ := State.topJava?_eq_some.mp hg0
  have hl9 : e.platform.stackLimits (T.setVm s.vm).me = e.platform.stackLimits s.me := X.limits
  have hb9 : (T.setVm s.vm).me.stackBytes = s.me.stackBytes := X.bytes
  refine ⟨X.admits, X.cas, X.clock, hF, ?_, X.hears, X.method, X.code, X.here, X.tail, X.warmed, ?_, ?_, ?_⟩
  · have h := X.room
    have hU : ((T.setVm s.vm).setFrames (.invoking m args :: below)).localsInUse = s.localsInUse := by
      rw [State.localsInUse_invoking hF (meth := meth) (c := c) X.method X.code, State.localsInUse_invoking X.frames X.method X.code]
    simp only [State.hasRoom, Bool.and_eq_true, decide_eq_true_eq] at h ⊢
    obtain ⟨⟨⟨⟨h1, h2, h3, h4, h5, h6⟩, h7⟩, h8⟩, h9⟩ := h
    rw [X.frames, List.length_cons] at h2 h3
    have q1 := X.heapSize
    have q2 := X.used
    simp only [hF, hU, List.length_cons, State.stackLimits_setFrames, State.stackBytes_setFrames, hl9, hb9]
    refine ⟨⟨⟨⟨by omega, by omega, by omega, by omega, by omega, h6⟩, ?_⟩, ?_⟩, X.book⟩
    · show T.heap.size + R'.cells ≤ e.platform.maxCells
      omega
    · show T.slotsUsed + R'.slots ≤ e.platform.maxSlots
      omega
  · rw [State.stackLimits_setFrames]; rfl
  · rw [State.stackBytes_setFrames]; rfl
  · refine ⟨?_, Nat.le_refl _, Nat.le_refl _, ?_, ?_, fun a c9 h9 => ⟨c9, h9, rfl, rfl, fun _ _ => rfl⟩⟩
    · obtain ⟨t, ht, -⟩ := State.frames_cons hr
      show T.setVm s.vm = { ((T.setVm s.vm).setFrames (.invoking m args :: below)).setFrames (T.setVm s.vm).frames with heap := T.heap, slotsUsed := T.slotsUsed }
      rw [State.setFrames_setFrames, State.setFrames_self ht]
      rfl
    · show T.slotsUsed = T.slotsUsed + ((T.heap.toList.drop T.heap.size).map (·.slots.size)).sum
      rw [List.drop_eq_nil_of_le (Nat.le_of_eq Array.length_toList)]
      rfl
    · show ((T.heap.toList.drop T.heap.size).map (·.slots.size)).sum ≤ 0
      rw [List.drop_eq_nil_of_le (Nat.le_of_eq Array.length_toList)]
      exact Nat.le_refl _
/-- 'throw new E()': new; dup; invokespecial; athrow -/
theorem vx_throw0 {cc : ByteArray} {pc : Nat} (hexec : p.tables.exec = Jvm.exec) (hb : c.code = cc) (hl : l.stackTraces = false) {own cls : String} {names : List String} {ik ic mc ms : Nat} {A : Nat → Prop}
    (hown : s.vm.findClass own = some m.cls) (hcls : Bundle.fit cls = true) (hnames : ∀ n ∈ names, Bundle.fit n = true)
    (hk : (Cond.classLink own ik cls).before args s = true) (hini : (Cond.initialized cls).before args s = true) (hat : ∀ w ∈ vx_at0 own ic cls names, w.before args s = true)
    (hgood : ∀ w ∈ Cond.classLink own ik cls :: Cond.initialized cls :: vx_at0 own ic cls names, vx_ot w = true)
    (hU : vx_Zq Bundle.tN "UNASSIGNED_STACK" Bundle.steD A s s.heap) (hN : vx_Zq Bundle.tN "SUPPRESSED_SENTINEL" Bundle.listD A s s.heap) (hS : va_S A s.heap H locs) (hsize : ls.size = c.maxLocals)
    (d0 : decode cc pc = .ok (.new ik, 3)) (d3 : decode cc (pc + 3) = .ok (.dup, 1)) (d4 : decode cc (pc + 4) = .ok (.invokespecial ic, 3)) (d7 : decode cc (pc + 7) = .ok (.athrow, 1))
    (hout : ∀ x ∈ c.exceptionTable.toList, covers x (pc + 7) = false)
    (hRframes : names.length + 3 < R.frames) (hRlocals : (rest.map fun v => v.category).sum + (13 * (names.length + 1) + 42) ≤ R.locals) (hRcells : cells + 1 ≤ R.cells) (hRslots : slots + 6 ≤ R.slots) (hlocks : meth.locks = false)
    (hx : ∀ t : State, s.vm.Alike t.vm → H.size ≤ t.heap.size → (∀ q : Nat, q < H.size → t.heap[q]? = H[q]?) → XC cls s t)
    (hf : ∀ z ∈ locs, free z.base) (hc : cells + 1 ≤ mc) (hs : slots + 6 ≤ ms) :
    W p l e R s m args below meth c H locs cells slots (vx_MQ below Qc XC args s mc ms free) (F0 m pc ls rest) := by
  intro T hT X
  have htr : e.platform.stackTraces = false := (show e.platform.stackTraces = l.stackTraces by rw [X.admits.platform]).trans hl
  have Y := vx_rebase X (R' := { frames := R.frames, locals := R.locals, cells := 1, slots := 6 }) (Nat.le_refl _) (Nat.le_refl _) hRcells hRslots
  obtain ⟨s', hA⟩ : ∃ z, z = (T.setVm s.vm).setFrames (.invoking m args :: below) := ⟨_, rfl⟩
  rw [← hA] at Y
  have hvm : s'.vm = s.vm := by rw [hA]; rfl
  have hhp : s'.heap = H := by rw [hA]; exact hT
  have hW0 : s.WarmedH s'.vm := by rw [hvm]; exact State.WarmedH.refl s
  have hat' : ∀ w ∈ vx_at0 own ic cls names, w.before args s' = true := fun w hw => vx_ot_at hW0 hvm.symm (hgood w (List.mem_cons_of_mem _ (List.mem_cons_of_mem _ hw))) (hat w hw)
  have hk' : (Cond.classLink own ik cls).before args s' = true := vx_ot_at hW0 hvm.symm (hgood _ List.mem_cons_self) hk
  have hini' : (Cond.initialized cls).before args s' = true := vx_ot_at hW0 hvm.symm (hgood _ (List.mem_cons_of_mem _ List.mem_cons_self)) hini
  have hU' : vx_Zq Bundle.tN "UNASSIGNED_STACK" Bundle.steD A s' s'.heap := by rw [hhp]; exact vx_Zq.moved hW0.alike (hU.kept hS.2.1)
  have hN' : vx_Zq Bundle.tN "SUPPRESSED_SENTINEL" Bundle.listD A s' s'.heap := by rw [hhp]; exact vx_Zq.moved hW0.alike (hN.kept hS.2.1)
  have h : ∀ w ∈ Bundle.ownAtoms0 own ic cls names, w.before args s' = true := vx_own hat' (vx_isRefq hU'.1) (vx_isRefq hN'.1) hU'.2.word hN'.2.word
  have hown' : s'.vm.findClass own = some m.cls := by rw [hvm]; exact hown
  have hins : (Cond.instantiable cls 6).before args s' = true := h _ (by simp [Bundle.ownAtoms0])
  obtain ⟨vm₁, cX, kX, hfX, hkX, -, -, X₁, st1⟩ := Y.newCold hexec (own := own) (C := cls) (index := ik) (n := 6) hown' hk' hins hini'
    (g := F0 m pc ls rest) rfl (by rw [hb]; exact d0) (Nat.le_refl _) (Nat.le_refl _)
  generalize hT1 : (T.setVm vm₁).pushCell { cls := cX, slots := kX.instanceTypes.map defaultValue, vm := .none } = T1 at X₁ st1
  have hcat : (Value.ref T.heap.size).category = 1 := rfl
  have hcellA : T1.heap[T.heap.size]? = some (freshCell cX kX) := by rw [← hT1]; exact State.heap_pushCell_size _ _
  have d3' : decode c.code (pc + 3) = .ok (.dup, 1) := by rw [hb]; exact d3
  obtain ⟨U, hsteps, hrun, hend, hW, hsame, ce, hce, hO⟩ := X₁.ctorThrow0 hexec htr (own := own) (cls := cls) (names := names) (ic := ic) hown' hcls hnames h (fun x hx => nomatch hx) hfX hkX hcellA (by rw [hhp, hT]; exact Nat.le_refl _)
    (g := { method := m, pc := pc + 4, locals := ls, stack := .ref T.heap.size :: .ref T.heap.size :: rest, locked := none }) rfl hsize rfl rfl (rest := rest) rfl
    (by rw [hb]; exact d4) (by rw [hb]; exact d7) hout hRframes (by simp only [List.map_cons, List.sum_cons, hcat]; omega) hlocks
  obtain ⟨f1, f2⟩ := vx_frame hsame
  rw [hhp] at f1 f2
  have hWs : s.WarmedH U.vm := State.WarmedH.trans hW0 hW
  have hcl : s.vm.findClass cls = some ce.cls := by
    have h9 := hO.cls
    rw [hvm] at h9
    exact h9
  have hall : s.sameButNew ({ U with vm := s.vm } : State) locs mc ms := by
    subst hA
    obtain ⟨e1, e2⟩ := hsame
    rw [State.setFrames_setFrames] at e1
    have h2 : (T.setVm s.vm).sameButNew ({ U with vm := s.vm } : State) [] (0 + 1) (0 + 6) := ⟨e1, e2⟩
    have h3 := X.same.trans h2
    rw [List.append_nil] at h3
    exact h3.mono hc hs
  refine ⟨U, ?_, .threw T.heap.size, hrun, hend, Or.inr ⟨T.heap.size, rfl, cls, ce, locs, hx U hWs.alike f1 (fun q hq => f2 q hq (fun z hz => nomatch hz)), hce, hO.vm, hcl, hWs, hall, hf⟩⟩
  refine st1 _ ?_
  show Steps p.tables e below (T1.setTop { method := m, pc := pc + 3, locals := ls, stack := .ref T.heap.size :: rest, locked := none }) _
  jvm_step X₁.here [X₁.here.top, hexec, d3', Value.category]
  exact hsteps
/-- 'throw new E("text")': new; dup; ldc; invokespecial; athrow -/
theorem vx_throwS {cc : ByteArray} {pc : Nat} (hexec : p.tables.exec = Jvm.exec) (hb : c.code = cc) (hl : l.stackTraces = false) {own cls text : String} {names : List String} {ik is ic mc ms sa : Nat} {A : Nat → Prop}
    (hown : s.vm.findClass own = some m.cls) (hcls : Bundle.fit cls = true) (hnames : ∀ n ∈ names, Bundle.fit n = true)
    (hk : (Cond.classLink own ik cls).before args s = true) (hini : (Cond.initialized cls).before args s = true) (hstr : vk_R own is text sa s) (hat : ∀ w ∈ vx_atS own ic cls names, w.before args s = true)
    (hgood : ∀ w ∈ Cond.classLink own ik cls :: Cond.initialized cls :: vx_atS own ic cls names, vx_ot w = true)
    (hU : vx_Zq Bundle.tN "UNASSIGNED_STACK" Bundle.steD A s s.heap) (hN : vx_Zq Bundle.tN "SUPPRESSED_SENTINEL" Bundle.listD A s s.heap) (hS : va_S A s.heap H locs) (hsize : ls.size = c.maxLocals)
    (d0 : decode cc pc = .ok (.new ik, 3)) (d3 : decode cc (pc + 3) = .ok (.dup, 1)) (d4 : decode cc (pc + 4) = .ok (.ldc is, 2)) (d6 : decode cc (pc + 6) = .ok (.invokespecial ic, 3)) (d9 : decode cc (pc + 9) = .ok (.athrow, 1))
    (hout : ∀ x ∈ c.exceptionTable.toList, covers x (pc + 9) = false)
    (hRframes : names.length + 3 < R.frames) (hRlocals : (rest.map fun v => v.category).sum + (13 * (names.length + 1) + 43) ≤ R.locals) (hRcells : cells + 1 ≤ R.cells) (hRslots : slots + 6 ≤ R.slots) (hlocks : meth.locks = false)
    (hx : ∀ t : State, s.vm.Alike t.vm → H.size ≤ t.heap.size → (∀ q : Nat, q < H.size → t.heap[q]? = H[q]?) → XC cls s t)
    (hf : ∀ z ∈ locs, free z.base) (hc : cells + 1 ≤ mc) (hs : slots + 6 ≤ ms) :
    W p l e R s m args below meth c H locs cells slots (vx_MQ below Qc XC args s mc ms free) (F0 m pc ls rest) := by
  intro T hT X
  have htr : e.platform.stackTraces = false := (show e.platform.stackTraces = l.stackTraces by rw [X.admits.platform]).trans hl
  have Y := vx_rebase X (R' := { frames := R.frames, locals := R.locals, cells := 1, slots := 6 }) (Nat.le_refl _) (Nat.le_refl _) hRcells hRslots
  obtain ⟨s', hA⟩ : ∃ z, z = (T.setVm s.vm).setFrames (.invoking m args :: below) := ⟨_, rfl⟩
  rw [← hA] at Y
  have hvm : s'.vm = s.vm := by rw [hA]; rfl
  have hhp : s'.heap = H := by rw [hA]; exact hT
  have hW0 : s.WarmedH s'.vm := by rw [hvm]; exact State.WarmedH.refl s
  have hat' : ∀ w ∈ vx_atS own ic cls names, w.before args s' = true := fun w hw => vx_ot_at hW0 hvm.symm (hgood w (List.mem_cons_of_mem _ (List.mem_cons_of_mem _ hw))) (hat w hw)
  have hk' : (Cond.classLink own ik cls).before args s' = true := vx_ot_at hW0 hvm.symm (hgood _ List.mem_cons_self) hk
  have hini' : (Cond.initialized cls).before args s' = true := vx_ot_at hW0 hvm.symm (hgood _ (List.mem_cons_of_mem _ List.mem_cons_self)) hini
  have hU' : vx_Zq Bundle.tN "UNASSIGNED_STACK" Bundle.steD A s' s'.heap := by rw [hhp]; exact vx_Zq.moved hW0.alike (hU.kept hS.2.1)
  have hN' : vx_Zq Bundle.tN "SUPPRESSED_SENTINEL" Bundle.listD A s' s'.heap := by rw [hhp]; exact vx_Zq.moved hW0.alike (hN.kept hS.2.1)
  have h : ∀ w ∈ Bundle.ownAtoms own ic cls names, w.before args s' = true := vx_own hat' (vx_isRefq hU'.1) (vx_isRefq hN'.1) hU'.2.word hN'.2.word
  have hown' : s'.vm.findClass own = some m.cls := by rw [hvm]; exact hown
  have hins : (Cond.instantiable cls 6).before args s' = true := h _ (by simp [Bundle.ownAtoms])
  obtain ⟨vm₁, cX, kX, hfX, hkX, -, -, X₁, st1⟩ := Y.newCold hexec (own := own) (C := cls) (index := ik) (n := 6) hown' hk' hins hini'
    (g := F0 m pc ls rest) rfl (by rw [hb]; exact d0) (Nat.le_refl _) (Nat.le_refl _)
  generalize hT1 : (T.setVm vm₁).pushCell { cls := cX, slots := kX.instanceTypes.map defaultValue, vm := .none } = T1 at X₁ st1
  have hcat : (Value.ref T.heap.size).category = 1 := rfl
  have hcellA : T1.heap[T.heap.size]? = some (freshCell cX kX) := by rw [← hT1]; exact State.heap_pushCell_size _ _
  have d3' : decode c.code (pc + 3) = .ok (.dup, 1) := by rw [hb]; exact d3
  have d4' : decode c.code (pc + 4) = .ok (.ldc is, 2) := by rw [hb]; exact d4
  have hstr' : vk_R own is text sa s' := vk_R.warm hW0 hstr
  obtain ⟨U, hsteps, hrun, hend, hW, hsame, ce, hce, hO⟩ := X₁.ctorThrowS hexec htr (own := own) (cls := cls) (names := names) (ic := ic) hown' hcls hnames h (fun x hx => nomatch hx) hfX hkX hcellA (by rw [hhp, hT]; exact Nat.le_refl _) (msg := .ref sa) rfl
    (g := { method := m, pc := pc + 6, locals := ls, stack := .ref sa :: .ref T.heap.size :: .ref T.heap.size :: rest, locked := none }) rfl hsize rfl rfl (rest := rest) rfl
    (by rw [hb]; exact d6) (by rw [hb]; exact d9) hout hRframes (by simp only [List.map_cons, List.sum_cons, hcat]; omega) hlocks
  obtain ⟨f1, f2⟩ := vx_frame hsame
  rw [hhp] at f1 f2
  have hWs : s.WarmedH U.vm := State.WarmedH.trans hW0 hW
  have hcl : s.vm.findClass cls = some ce.cls := by
    have h9 := hO.cls
    rw [hvm] at h9
    exact h9
  have hall : s.sameButNew ({ U with vm := s.vm } : State) locs mc ms := by
    subst hA
    obtain ⟨e1, e2⟩ := hsame
    rw [State.setFrames_setFrames] at e1
    have h2 : (T.setVm s.vm).sameButNew ({ U with vm := s.vm } : State) [] (0 + 1) (0 + 6) := ⟨e1, e2⟩
    have h3 := X.same.trans h2
    rw [List.append_nil] at h3
    exact h3.mono hc hs
  refine ⟨U, ?_, .threw T.heap.size, hrun, hend, Or.inr ⟨T.heap.size, rfl, cls, ce, locs, hx U hWs.alike f1 (fun q hq => f2 q hq (fun z hz => nomatch hz)), hce, hO.vm, hcl, hWs, hall, hf⟩⟩
  refine st1 _ ?_
  show Steps p.tables e below (T1.setTop { method := m, pc := pc + 3, locals := ls, stack := .ref T.heap.size :: rest, locked := none }) _
  jvm_step X₁.here [X₁.here.top, hexec, d3', Value.category]
  exact X₁.ldcString hexec (own := own) (text := text) (index := is) (a := sa) hown' hstr'.1 hstr'.2
    (g := { method := m, pc := pc + 4, locals := ls, stack := .ref T.heap.size :: .ref T.heap.size :: rest, locked := none }) rfl d4' _ hsteps
/-- 'throw new E("text")', the text by a wide index -/
theorem vx_throwSW {cc : ByteArray} {pc : Nat} (hexec : p.tables.exec = Jvm.exec) (hb : c.code = cc) (hl : l.stackTraces = false) {own cls text : String} {names : List String} {ik is ic mc ms sa : Nat} {A : Nat → Prop}
    (hown : s.vm.findClass own = some m.cls) (hcls : Bundle.fit cls = true) (hnames : ∀ n ∈ names, Bundle.fit n = true)
    (hk : (Cond.classLink own ik cls).before args s = true) (hini : (Cond.initialized cls).before args s = true) (hstr : vk_R own is text sa s) (hat : ∀ w ∈ vx_atS own ic cls names, w.before args s = true)
    (hgood : ∀ w ∈ Cond.classLink own ik cls :: Cond.initialized cls :: vx_atS own ic cls names, vx_ot w = true)
    (hU : vx_Zq Bundle.tN "UNASSIGNED_STACK" Bundle.steD A s s.heap) (hN : vx_Zq Bundle.tN "SUPPRESSED_SENTINEL" Bundle.listD A s s.heap) (hS : va_S A s.heap H locs) (hsize : ls.size = c.maxLocals)
    (d0 : decode cc pc = .ok (.new ik, 3)) (d3 : decode cc (pc + 3) = .ok (.dup, 1)) (d4 : decode cc (pc + 4) = .ok (.ldc_w is, 3)) (d7 : decode cc (pc + 7) = .ok (.invokespecial ic, 3)) (d10 : decode cc (pc + 10) = .ok (.athrow, 1))
    (hout : ∀ x ∈ c.exceptionTable.toList, covers x (pc + 10) = false)
    (hRframes : names.length + 3 < R.frames) (hRlocals : (rest.map fun v => v.category).sum + (13 * (names.length + 1) + 43) ≤ R.locals) (hRcells : cells + 1 ≤ R.cells) (hRslots : slots + 6 ≤ R.slots) (hlocks : meth.locks = false)
    (hx : ∀ t : State, s.vm.Alike t.vm → H.size ≤ t.heap.size → (∀ q : Nat, q < H.size → t.heap[q]? = H[q]?) → XC cls s t)
    (hf : ∀ z ∈ locs, free z.base) (hc : cells + 1 ≤ mc) (hs : slots + 6 ≤ ms) :
    W p l e R s m args below meth c H locs cells slots (vx_MQ below Qc XC args s mc ms free) (F0 m pc ls rest) := by
  intro T hT X
  have htr : e.platform.stackTraces = false := (show e.platform.stackTraces = l.stackTraces by rw [X.admits.platform]).trans hl
  have Y := vx_rebase X (R' := { frames := R.frames, locals := R.locals, cells := 1, slots := 6 }) (Nat.le_refl _) (Nat.le_refl _) hRcells hRslots
  obtain ⟨s', hA⟩ : ∃ z, z = (T.setVm s.vm).setFrames (.invoking m args :: below) := ⟨_, rfl⟩
  rw [← hA] at Y
  have hvm : s'.vm = s.vm := by rw [hA]; rfl
  have hhp : s'.heap = H := by rw [hA]; exact hT
  have hW0 : s.WarmedH s'.vm := by rw [hvm]; exact State.WarmedH.refl s
  have hat' : ∀ w ∈ vx_atS own ic cls names, w.before args s' = true := fun w hw => vx_ot_at hW0 hvm.symm (hgood w (List.mem_cons_of_mem _ (List.mem_cons_of_mem _ hw))) (hat w hw)
  have hk' : (Cond.classLink own ik cls).before args s' = true := vx_ot_at hW0 hvm.symm (hgood _ List.mem_cons_self) hk
  have hini' : (Cond.initialized cls).before args s' = true := vx_ot_at hW0 hvm.symm (hgood _ (List.mem_cons_of_mem _ List.mem_cons_self)) hini
  have hU' : vx_Zq Bundle.tN "UNASSIGNED_STACK" Bundle.steD A s' s'.heap := by rw [hhp]; exact vx_Zq.moved hW0.alike (hU.kept hS.2.1)
  have hN' : vx_Zq Bundle.tN "SUPPRESSED_SENTINEL" Bundle.listD A s' s'.heap := by rw [hhp]; exact vx_Zq.moved hW0.alike (hN.kept hS.2.1)
  have h : ∀ w ∈ Bundle.ownAtoms own ic cls names, w.before args s' = true := vx_own hat' (vx_isRefq hU'.1) (vx_isRefq hN'.1) hU'.2.word hN'.2.word
  have hown' : s'.vm.findClass own = some m.cls := by rw [hvm]; exact hown
  have hins : (Cond.instantiable cls 6).before args s' = true := h _ (by simp [Bundle.ownAtoms])
  obtain ⟨vm₁, cX, kX, hfX, hkX, -, -, X₁, st1⟩ := Y.newCold hexec (own := own) (C := cls) (index := ik) (n := 6) hown' hk' hins hini'
    (g := F0 m pc ls rest) rfl (by rw [hb]; exact d0) (Nat.le_refl _) (Nat.le_refl _)
  generalize hT1 : (T.setVm vm₁).pushCell { cls := cX, slots := kX.instanceTypes.map defaultValue, vm := .none } = T1 at X₁ st1
  have hcat : (Value.ref T.heap.size).category = 1 := rfl
  have hcellA : T1.heap[T.heap.size]? = some (freshCell cX kX) := by rw [← hT1]; exact State.heap_pushCell_size _ _
  have d3' : decode c.code (pc + 3) = .ok (.dup, 1) := by rw [hb]; exact d3
  have d4' : decode c.code (pc + 4) = .ok (.ldc_w is, 3) := by rw [hb]; exact d4
  have hstr' : vk_R own is text sa s' := vk_R.warm hW0 hstr
  obtain ⟨U, hsteps, hrun, hend, hW, hsame, ce, hce, hO⟩ := X₁.ctorThrowS hexec htr (own := own) (cls := cls) (names := names) (ic := ic) hown' hcls hnames h (fun x hx => nomatch hx) hfX hkX hcellA (by rw [hhp, hT]; exact Nat.le_refl _) (msg := .ref sa) rfl
    (g := { method := m, pc := pc + 7, locals := ls, stack := .ref sa :: .ref T.heap.size :: .ref T.heap.size :: rest, locked := none }) rfl hsize rfl rfl (rest := rest) rfl
    (by rw [hb]; exact d7) (by rw [hb]; exact d10) hout hRframes (by simp only [List.map_cons, List.sum_cons, hcat]; omega) hlocks
  obtain ⟨f1, f2⟩ := vx_frame hsame
  rw [hhp] at f1 f2
  have hWs : s.WarmedH U.vm := State.WarmedH.trans hW0 hW
  have hcl : s.vm.findClass cls = some ce.cls := by
    have h9 := hO.cls
    rw [hvm] at h9
    exact h9
  have hall : s.sameButNew ({ U with vm := s.vm } : State) locs mc ms := by
    subst hA
    obtain ⟨e1, e2⟩ := hsame
    rw [State.setFrames_setFrames] at e1
    have h2 : (T.setVm s.vm).sameButNew ({ U with vm := s.vm } : State) [] (0 + 1) (0 + 6) := ⟨e1, e2⟩
    have h3 := X.same.trans h2
    rw [List.append_nil] at h3
    exact h3.mono hc hs
  refine ⟨U, ?_, .threw T.heap.size, hrun, hend, Or.inr ⟨T.heap.size, rfl, cls, ce, locs, hx U hWs.alike f1 (fun q hq => f2 q hq (fun z hz => nomatch hz)), hce, hO.vm, hcl, hWs, hall, hf⟩⟩
  refine st1 _ ?_
  show Steps p.tables e below (T1.setTop { method := m, pc := pc + 3, locals := ls, stack := .ref T.heap.size :: rest, locked := none }) _
  jvm_step X₁.here [X₁.here.top, hexec, d3', Value.category]
  exact X₁.ldcStringW hexec (own := own) (text := text) (index := is) (a := sa) hown' hstr'.1 hstr'.2
    (g := { method := m, pc := pc + 4, locals := ls, stack := .ref T.heap.size :: .ref T.heap.size :: rest, locked := none }) rfl d4' _ hsteps
end Ends
section Bodies
variable {l : Launch}
theorem vx_ofW {y : MethodName} {ws ws' : List Cond} {rm : Room} {Pc : Array Value → State → Prop} {Qc : Array Value → State → Outcome → State → Prop} {XC : String → State → State → Prop} {mc ms : Nat} {free : Addr → Prop} {cc : ByteArray} {maxL : Nat} {ret : Option FieldType}
    (hy : plainName y.cls = true) (hw : ws = Cond.code y cc maxL ret :: ws')
    (body : ∀ p e s m args below meth c s₁, BodyLoose p l y (headSpec ws rm) cc maxL ret e s m args below meth c s₁ → c.maxLocals = maxL → (∀ x ∈ c.exceptionTable.toList, False) → Pc args s →
      W p l e (headSpec ws rm).room s m args below meth c s.heap [] 0 0 (vx_MQ below Qc XC args s mc ms free) (entryFrame m args maxL)) : vx_Met l y ws rm Pc Qc XC mc ms free := by
  refine MetFree.of_bodyS (code := cc) (maxLocals := maxL) (ret := ret) hy ?_ ?_
  · intro args s m h hn
    obtain ⟨meth, c, h1, h2, h3, h4, h5, h6, -, -⟩ := Cond.code_spec hn (atoms_spec (ws := ws) h _ (by rw [hw]; exact List.mem_cons_self))
    exact ⟨meth, c, h1, h2, h3, h4, h5, h6⟩
  · intro p e s m args below meth c s₁ B hml hP _
    have hh0 : s₁.heap = s.heap := by rw [B.state]; rfl
    have ht : ∀ x ∈ c.exceptionTable.toList, False := by
      obtain ⟨meth9, c9, h1, h2, -, -, -, -, h7, -⟩ := Cond.code_spec B.named (atoms_spec (ws := ws) B.pre _ (by rw [hw]; exact List.mem_cons_self))
      cases Option.some.inj (h1.symm.trans B.method)
      cases Option.some.inj (h2.symm.trans (Stand.of_body B).code)
      intro x hx
      rw [Array.isEmpty_iff.mp h7] at hx
      cases hx
    obtain ⟨t, a1, o, b1, b2, b3⟩ := body p e s m args below meth c s₁ B hml ht hP s₁ hh0 (Stand.of_body B)
    exact ⟨t, o, a1, b1, b2, b3⟩
/-- the table of a body with handlers -/
theorem vx_table {p : Program} {x y : MethodName} {S : Spec} {cc bytes : ByteArray} {maxL maxL' : Nat} {ret ret' : Option FieldType} {e : Env} {s s₁ : State} {m : MethodId} {args : Array Value} {below : List Frame} {meth : Method} {c : Code} {hh : List (Nat × Nat × Nat × Nat)}
    (B : BodyLoose p l y S cc maxL ret e s m args below meth c s₁) (h : (Cond.codeWith y bytes maxL' ret' hh).before args s = true) : c.exceptionTable.toList = tableOf hh := by
  obtain ⟨m9, meth9, c9, hn9, h1, h2, -, -, h6, -⟩ := Cond.codeWith_spec h
  cases Option.some.inj (hn9.symm.trans B.named)
  cases Option.some.inj (h1.symm.trans B.method)
  cases Option.some.inj (h2.symm.trans (Stand.of_body B).code)
  rw [← h6, table_eq]
end Bodies
end VXA
/-! ===== END ===== -/
/-! ===== BEGIN a static call of a method with an exception table ===== -/
section VXS
variable {p : Program} {l : Launch} {e : Env} {R : Room} {s : State} {m : MethodId} {args : Array Value} {below : List Frame} {meth : Method} {c : Code} {T : State} {H : Heap} {locs : List Loc} {cells slots : Nat}
abbrev vx_CSW (R : Room) (s : State) (args : Array Value) (own : String) (index : Nat) (y : MethodName) (bytes : ByteArray) (maxL : Nat) (ret : Option FieldType) (hh : List (Nat × Nat × Nat × Nat)) (ws : List Cond) (rm : Room) (mc ms n : Nat) : Prop :=
  (rm.cells = mc ∧ rm.slots = ms ∧ rm.frames + 1 ≤ R.frames ∧ 8 + (maxL + 11) + rm.locals ≤ R.locals ∧ (∀ w ∈ ws, ∀ (a' : Array Value) (U : State), s.WarmedH U.vm → w.before a' U = true) ∧ Cond.codeWith y bytes maxL ret hh ∈ ws) ∧
  (Cond.codeWith y bytes maxL ret hh).before args s = true ∧ (Cond.initialized y.cls).before args s = true ∧ (y.cls ≠ "java/lang/invoke/MethodHandle" ∧ y.cls ≠ "java/lang/invoke/VarHandle") ∧
  (∀ sig, parseMethodDescriptor y.desc = some sig → n = sig.parameters.length) ∧ (Cond.methodLink own index y).before args s = true ∧ (Cond.static y).before args s = true
theorem vx_cwSW {own : String} {index maxL mc ms : Nat} {y : MethodName} {bytes : ByteArray} {ret : Option FieldType} {hh : List (Nat × Nat × Nat × Nat)} {Ts ws ws' : List Cond} {rm : Room} (n : Nat) (ht : ∀ w ∈ Ts, w.before args s = true) (hT : GoodIn Ts (va_wsS own index y ws)) (hw : ws = Cond.codeWith y bytes maxL ret hh :: ws') (hrc : rm.cells = mc) (hrs : rm.slots = ms)
    (hd : y.cls ≠ "java/lang/invoke/MethodHandle" ∧ y.cls ≠ "java/lang/invoke/VarHandle" ∧ (parseMethodDescriptor y.desc).map (fun d => d.parameters.length) = some n) (hR : rm.frames + 1 ≤ R.frames ∧ 8 + (maxL + 11) + rm.locals ≤ R.locals) :
    vx_CSW R s args own index y bytes maxL ret hh ws rm mc ms n := by
  have ok : ∀ w ∈ va_wsS own index y ws, w.before args s = true := fun w h => ht w (hT w h).1
  have hG : GoodIn Ts ws := fun w h => hT w (by unfold va_wsS; exact List.mem_append_right _ h)
  have hc : Cond.codeWith y bytes maxL ret hh ∈ ws := by rw [hw]; exact List.mem_cons_self
  refine ⟨⟨hrc, hrs, hR.1, hR.2, pay_in ht hG, hc⟩, ht _ (hG _ hc).1, ok _ (by simp [va_wsS]), ⟨hd.1, hd.2.1⟩, fun sig h => ?_, ok _ (by simp [va_wsS]), ok _ (by simp [va_wsS])⟩
  have h2 := hd.2.2
  rw [h] at h2
  exact (Option.some.inj h2).symm
theorem vx_callSW (X : Stand p l e R s m args below meth c T locs cells slots) (hexec : p.tables.exec = Jvm.exec) {own : String} {index : Nat} {y : MethodName} {bytes : ByteArray} {maxL : Nat} {ret : Option FieldType} {hh : List (Nat × Nat × Nat × Nat)}
    (hown : s.vm.findClass own = some m.cls) (hlink : (Cond.methodLink own index y).before args s = true) (hstat : (Cond.static y).before args s = true) (hinit : (Cond.initialized y.cls).before args s = true)
    (hcode : (Cond.codeWith y bytes maxL ret hh).before args s = true) (hy : y.cls ≠ "java/lang/invoke/MethodHandle" ∧ y.cls ≠ "java/lang/invoke/VarHandle")
    {W9 : Nat} {Pre : Pt → Array Value → Prop} {Post : Pt → Array Value → Option Value → Pt → Prop} (hK : Back l R p e below s args y 3 W9 Pre Post)
    {g : JFrame} (hg : g.method = m) (hsize : g.locals.size = c.maxLocals) {argsL rest : List Value} (hlen : ∀ sig, parseMethodDescriptor y.desc = some sig → argsL.length = sig.parameters.length)
    (hstack : g.stack = argsL.reverse ++ rest) (hW : 2 * g.monitorRoom + (rest.map fun v => v.category).sum ≤ W9) (hdg : decode c.code g.pc = .ok (.invokestatic index, 3))
    (hpre : ∀ vm₁, s.WarmedH vm₁ → Pre ⟨T.setVm vm₁, locs, cells, slots⟩ argsL.toArray) :
    ∃ (v : Option Value) (vm₁ : Vm) (B : Pt), s.WarmedH vm₁ ∧ Stand p l e R s m args below meth c B.U B.locs B.cells B.slots ∧ Post ⟨T.setVm vm₁, locs, cells, slots⟩ argsL.toArray v B ∧
      ∀ target, Steps p.tables e below (B.U.setTop { g with pc := g.pc + 3, stack := v.toList ++ rest }) target → Steps p.tables e below (T.setTop g) target := by
  obtain ⟨mk, methM, cM, hnamed, hmethM, -, -, -, -, -, -, hsigM⟩ := Cond.codeWith_spec hcode
  have hstatic : methM.isStatic = true := Cond.static_spec hnamed hmethM hstat
  obtain ⟨kP, hkP, -⟩ := className_of_methodNamed hnamed
  have hinitP : kP.init = .initialized := Cond.initialized_spec (findClass_of_methodNamed hnamed) hkP hinit
  obtain ⟨vm₁, X₁, hstep₁⟩ := X.invokestatic hexec hown hlink hnamed hmethM hstatic hkP hinitP hy (g := g) hg (argsL := argsL) (rest := rest) (hlen _ hsigM) hstack hdg
  obtain ⟨v, B, X', hpost, hsteps⟩ := hK m meth c ⟨T.setVm vm₁, locs, cells, slots⟩ { g with stack := rest } (.invokestatic index) mk argsL.toArray X₁ hg hsize hdg hW (X₁.named hnamed) (hpre vm₁ X₁.warmed)
  exact ⟨v, vm₁, B, X₁.warmed, X', hpost, fun target h => hstep₁ _ fun acts => by rw [doInvoke_state]; exact hsteps.trans h⟩
theorem vx_runSW {y : MethodName} {bytes cc : ByteArray} {maxL nL mc ms n index : Nat} {ret : Option FieldType} {hh : List (Nat × Nat × Nat × Nat)} {ws : List Cond} {rm : Room} {Pc : Array Value → State → Prop} {Qc : Array Value → State → Outcome → State → Prop} {free : Addr → Prop} {Ts : List Cond} {own : String} {As rest : List Value} {g : JFrame}
    (S : CallFix p m c cc nL s args Ts own) (hM : Met l y ws rm Pc Qc mc ms free) (cw : vx_CSW R s args own index y bytes maxL ret hh ws rm mc ms n) (hp : PreS s H Pc As)
    (hg : g.method = m) (hn : As.length = n) (hsize : g.locals.size = nL) (hstack : g.stack = As.reverse ++ rest) (hW : 2 * g.monitorRoom + (rest.map fun v => v.category).sum ≤ 8) (hdg : decode cc g.pc = .ok (.invokestatic index, 3)) (hf : cells + mc ≤ R.cells ∧ slots + ms ≤ R.slots) :
    va_Run p l e R s m args below meth c H locs cells slots mc ms g rest (Qc As.toArray) (free) := by
  obtain ⟨⟨hrc, hrs, hfr, hlo, hws, hcw⟩, hcode, hini, hy, hlen, hl, hstt⟩ := cw
  have hK : Back l R p e below s args y 3 8 (PreOf R mc ms Pc) (PostOf Qc mc ms free) := va_backW (hh := hh) (bytes := bytes) (maxL := maxL) (ret := ret) hM hp.1 hrc hrs hfr hlo hws hcw (fun a' U hW => word_at hW (Or.inl (by first | rfl | simp [Cond.onTables, Cond.keeps, Cond.steady])) hini)
  obtain ⟨hx, hb, hml, ho, -⟩ := S
  intro T hT X
  obtain ⟨v, vm₁, ⟨U', l2, c2, s2⟩, hW₁, X', ⟨g', mk, t, L, e1, e2, hq, h1, hL, h2, h3⟩, st⟩ := vx_callSW X hx (hh := hh) (bytes := bytes) (maxL := maxL) (ret := ret) ho hl hstt hini hcode hy hK hg (hsize.trans hml.symm) (argsL := As) (rest := rest) (fun sig h => hn.trans (hlen sig h)) hstack hW (by rw [hb]; exact hdg)
    (fun vm₁ hW₁ => ⟨hf.1, hf.2, hp.2 (T.setVm vm₁) hT hW₁⟩)
  dsimp only [Pt.U, Pt.locs, Pt.cells, Pt.slots] at X' e1 e2 h1 h2 h3 st
  subst h1; subst h2; subst h3
  exact ⟨v, (T.setVm vm₁).calling g' mk As.toArray, t, U', L, hT, X', hL, e1, e2, hq, st⟩
/-- not caught here, past rows that name other classes: it goes on to the caller -/
theorem vx_outP {p : Program} {l : Launch} {e : Env} {R : Room} {s : State} {m : MethodId} {args : Array Value} {below : List Frame} {meth : Method} {c : Code} {H : Heap} {locs : List Loc} {cells slots : Nat} {free : Addr → Prop} {ls : Array Slot} {rest : List Value} {Qc : Array Value → State → Outcome → State → Prop} {XC : String → State → State → Prop}
    {pc : Nat} {own E : String} {ce : Cell} {q : Addr} {mc ms : Nat} (hown : s.vm.findClass own = some m.cls) (hlocks : meth.locks = false)
    (hpass : ∀ z ∈ c.exceptionTable.toList, covers z pc = false ∨ (z.catchType ≠ 0 ∧ ∃ nm : String, (Cond.classLink own z.catchType nm).before args s = true ∧ va_Nc E nm s)) (hcell : H[q]? = some ce) (hv : ce.vm = .none) (hcl : s.vm.findClass E = some ce.cls)
    (hx : ∀ t : State, t.heap = H → s.vm.Alike t.vm → XC E s t) (hf : ∀ z ∈ locs, free z.base) (hc : cells ≤ mc) (hs : slots ≤ ms) :
    vx_W p l e R s m args below meth c H locs cells slots (vx_MQ below Qc XC args s mc ms free) (F0 m pc ls rest) q := by
  intro T hT X
  have hpl : e.platform.magicAccessors = ({} : Platform).magicAccessors := by rw [X.admits.platform]
  obtain ⟨vm', hW', X', st⟩ := X.outThrough hlocks q (g := F0 m pc ls rest) rfl rfl rfl (cell := ce) (by rw [hT]; exact hcell) (by rw [hv]; rfl)
    (by obtain ⟨k9, h9, -⟩ := Vm.findClass_spec hcl; exact ⟨k9, h9⟩) (fun z hz => by
      rcases hpass z hz with h | ⟨hz0, nm, hl1, hn1⟩
      · exact Or.inl h
      · obtain ⟨c6, hc6, hcl6⟩ := Cond.classLink_spec hown hl1 e.platform hpl
        obtain ⟨a8, b8, h1, h2, h3⟩ := hn1
        cases Option.some.inj (h1.symm.trans hcl)
        cases Option.some.inj (h2.symm.trans hc6)
        exact Or.inr ⟨hz0, _, hcl6, h3⟩)
  obtain ⟨g₀, hfr⟩ := X'.frames_eq
  have hcell9 : ((T.setVm vm').setFrames (.throwing q :: below)).heap[q]? = some ce := by
    show T.heap[q]? = some ce
    rw [hT]; exact hcell
  have hend : Ended ((T.setVm vm').setFrames (.throwing q :: below)) below (.threw q) := State.frames_setFrames _ (State.cur_lt_of_frames hfr)
  refine ⟨(T.setVm vm').setFrames (.throwing q :: below), ?_, .threw q, X'.here.running, hend, Or.inr ⟨q, rfl, E, ce, locs, hx _ hT (X'.ends _).1.alike, hcell9, hv, hcl, (X'.ends _).1, (X'.ends _).2.mono hc hs, hf⟩⟩
  rw [X.pushThrowing_eq]
  exact st
/-- a thing of a world lies in the heap -/
theorem vx_lt {D : va_G} {cl : List vw_C} {ws : va_W} {H1 : Heap} (h : va_P D cl ws H1) {k : Nat} {q : Nat × va_E} (hk : ws[k]? = some q) : q.1 < H1.size := (h k q hk).lt
end VXS
/-! ===== END ===== -/
/-! ===== BEGIN methods with a table of their own: called by a name, returning or throwing ===== -/
section VXH
/-! vx_backW, vx_callVX, vx_callSX, vx_callVW, vx_runVW, vx_runVX, vx_runSX, vx_ofWH follow the same proofs as their sisters above (Free/Laws.lean, Shelf42/LK1.lean); vx_outP calls Shelf42/NT130.lean (outThrough). -/
section
variable {l : Launch} {R : Room} {p : Program} {e : Env} {below : List Frame} {s : State} {sargs : Array Value} {y : MethodName} {len W9 : Nat}
theorem vx_backW {ws : List Cond} {rm : Room} {Pc : Array Value → State → Prop} {Qc : Array Value → State → Outcome → State → Prop} {XC : String → State → State → Prop} {mc ms : Nat} {free : Addr → Prop} {bytes : ByteArray} {maxL : Nat} {ret : Option FieldType} {hh : List (Nat × Nat × Nat × Nat)}
    (hM : vx_Met l y ws rm Pc Qc XC mc ms free) (hblind : FrameBlind Pc) (hrc : rm.cells = mc) (hrs : rm.slots = ms)
    (hframes : rm.frames + 1 ≤ R.frames) (hlocals : W9 + (maxL + 11) + rm.locals ≤ R.locals)
    (hws : ∀ w ∈ ws, ∀ a' U, s.WarmedH U.vm → w.before a' U = true) (hcode : Cond.codeWith y bytes maxL ret hh ∈ ws) (hinit : ∀ a' U, s.WarmedH U.vm → (Cond.initialized y.cls).before a' U = true) :
    vx_Back l R p e below s sargs y len W9 (PreOf R mc ms Pc) (PostOf Qc mc ms free) (vx_Post XC mc ms free) := by
  intro m meth c A g ig mk a X hg hsize hdg hW hn hp
  have h1 : (headSpec ws rm).pre.before a A.U = true := atoms_intro fun w hw => hws w hw _ _ X.warmed
  have h2 : (Cond.codeWith y bytes maxL ret hh).before a A.U = true := hws _ hcode _ _ X.warmed
  have h3 : (Cond.initialized y.cls).before a A.U = true := hinit _ _ X.warmed
  have h4 : A.cells + (headSpec ws rm).room.cells ≤ R.cells := by rw [show (headSpec ws rm).room.cells = mc from hrc]; exact hp.1
  have h5 : A.slots + (headSpec ws rm).room.slots ≤ R.slots := by rw [show (headSpec ws rm).room.slots = ms from hrs]; exact hp.2.1
  have hPc : Pc a (A.U.calling g mk a) := hblind _ _ _ _ hp.2.2
  obtain ⟨U, Ls, c0, s0⟩ := A
  dsimp only [Pt.U, Pt.locs, Pt.cells, Pt.slots] at h1 h2 h3 h4 h5 X hn hPc ⊢
  obtain ⟨m9, methY, cY, hn9, hmY, hcY, -, hlY, -⟩ := Cond.codeWith_spec h2
  cases Option.some.inj (hn9.symm.trans hn)
  obtain ⟨kY, hkY, -⟩ := className_of_methodNamed hn
  have hinitY : kY.init = .initialized := Cond.initialized_spec (findClass_of_methodNamed hn) hkY h3
  have h : At U g.method c below := by rw [hg]; exact X.here
  have hlocals9 : W9 + (maxL + 11) + (headSpec ws rm).room.locals ≤ R.locals := hlocals
  have happ : (headSpec ws rm).appliesLoose y e.platform (U.calling g mk a) = true :=
    Spec.appliesLoose_calling (g := g) h hdg hn hkY hinitY
      (X.room_calling (g := g) (R' := (headSpec ws rm).room) hsize hmY hcY hframes (by rw [hlY]; omega) h4 h5) h1
  obtain ⟨mid, hmid⟩ := h.above
  have hfr : (U.setTop g).frames = (.java g :: mid) ++ below := by rw [State.frames_setTop' g h.top, hmid]; rfl
  obtain ⟨o, s₂, hsteps, -, hend, hq⟩ := Steps.callFree hM p X.admits X.cas X.clock (acts := []) hfr happ hPc trivial
  have hq' : vx_Q Qc XC mc ms free a (U.calling g mk a) o s₂ := hq
  rw [State.frames_setTop' g h.top] at hend
  obtain ⟨g₀, hg0⟩ := Option.isSome_iff_exists.mp h.top
  obtain ⟨r, hr⟩ := State.topJava?_eq_some.mp hg0
  have hr' : (({ U with heap := s₂.heap, slotsUsed := s₂.slotsUsed } : State).setVm s₂.vm).frames = .java g₀ :: r := hr
  rcases hq' with ⟨hqc, L, hfe, hL⟩ | ⟨q, rfl, E, ce, L, hx, hce, hcv, hcl, hW₂, hsm, hL⟩
  · obtain ⟨⟨v, rfl⟩, hW₂, e2, q2, q3, q4, q5, q6⟩ := id hfe
    have e3 : s₂ = ({ (U.calling g mk a).setFrames s₂.frames with heap := s₂.heap, slotsUsed := s₂.slotsUsed } : State).setVm s₂.vm := by
      have : s₂ = ({ s₂ with vm := (U.calling g mk a).vm } : State).setVm s₂.vm := rfl
      rw [e2] at this
      exact this
    obtain ⟨c₂, i₂, len₂, hc₂, hd₂, hf₂⟩ := hend
    have hW' : U.WarmedH s₂.vm := hW₂
    have hcc : c₂ = c := by
      have h1 : s₂.code? g.method = U.code? g.method := by
        rw [State.code?_eq, State.code?_eq, hW'.alike.method?]
      exact Option.some.inj (hc₂.symm.trans (h1.trans h.code))
    subst hcc
    have hlen : len₂ = len := by rw [hdg] at hd₂; cases hd₂; rfl
    subst hlen
    have hs₂ : s₂ = (({ U with heap := s₂.heap, slotsUsed := s₂.slotsUsed } : State).setVm s₂.vm).setTop { g with pc := g.pc + len₂, stack := v.toList ++ g.stack } := by
      refine e3.trans ?_
      rw [hf₂, State.calling_eq h.top, State.setFrames_setFrames, State.setTop_of_frames _ hr', hr]
      rfl
    have hsame : U.sameButNew ({ U with heap := s₂.heap, slotsUsed := s₂.slotsUsed } : State) L mc ms := by
      refine ⟨?_, q2, q3, q4, q5, q6⟩
      obtain ⟨t, ht, -⟩ := State.frames_cons hr
      show ({ U with heap := s₂.heap, slotsUsed := s₂.slotsUsed } : State) = { U.setFrames U.frames with heap := s₂.heap, slotsUsed := s₂.slotsUsed }
      rw [State.setFrames_self ht]
    subst hg
    refine Or.inl ⟨v, ⟨(({ U with heap := s₂.heap, slotsUsed := s₂.slotsUsed } : State).setVm s₂.vm), Ls ++ L, c0 + mc, s0 + ms⟩,
      ⟨X.admits, X.cas, X.clock, X.frames, X.room, X.hears, X.method, X.code, (X.here.setHeapUsed s₂.heap s₂.slotsUsed).setVm hW'.alike, X.tail, State.WarmedH.trans X.warmed hW', X.limits, X.bytes, X.same.trans (hsame.setVm s.vm)⟩,
      ⟨g, mk, s₂, L, rfl, rfl, hqc, rfl, hL, rfl, rfl⟩, ?_⟩
    show Steps p.tables e below _ ((({ U with heap := s₂.heap, slotsUsed := s₂.slotsUsed } : State).setVm s₂.vm).setTop { g with pc := g.pc + len₂, stack := v.toList ++ g.stack })
    rw [← hs₂]
    exact hsteps
  · obtain ⟨e2, q2, q3, q4, q5, q6⟩ := id hsm
    have e3 : s₂ = ({ (U.calling g mk a).setFrames s₂.frames with heap := s₂.heap, slotsUsed := s₂.slotsUsed } : State).setVm s₂.vm := by
      have : s₂ = ({ s₂ with vm := (U.calling g mk a).vm } : State).setVm s₂.vm := rfl
      rw [e2] at this
      exact this
    have hf₂ : s₂.frames = .throwing q :: .java g :: U.frames.tail := hend
    have hW' : U.WarmedH s₂.vm := hW₂
    have hs₂ : s₂ = ((({ U with heap := s₂.heap, slotsUsed := s₂.slotsUsed } : State).setVm s₂.vm).setTop g).pushFrame (.throwing q) := by
      refine e3.trans ?_
      rw [hf₂, State.calling_eq h.top, State.setFrames_setFrames, State.pushFrame, State.frames_setTop _ hr', State.setTop_of_frames _ hr', State.setFrames_setFrames, hr]
      rfl
    have hsame : U.sameButNew ({ U with heap := s₂.heap, slotsUsed := s₂.slotsUsed } : State) L mc ms := by
      refine ⟨?_, q2, q3, q4, q5, q6⟩
      obtain ⟨t, ht, -⟩ := State.frames_cons hr
      show ({ U with heap := s₂.heap, slotsUsed := s₂.slotsUsed } : State) = { U.setFrames U.frames with heap := s₂.heap, slotsUsed := s₂.slotsUsed }
      rw [State.setFrames_self ht]
    subst hg
    refine Or.inr ⟨q, ⟨(({ U with heap := s₂.heap, slotsUsed := s₂.slotsUsed } : State).setVm s₂.vm), Ls ++ L, c0 + mc, s0 + ms⟩,
      ⟨X.admits, X.cas, X.clock, X.frames, X.room, X.hears, X.method, X.code, (X.here.setHeapUsed s₂.heap s₂.slotsUsed).setVm hW'.alike, X.tail, State.WarmedH.trans X.warmed hW', X.limits, X.bytes, X.same.trans (hsame.setVm s.vm)⟩,
      ⟨g, mk, s₂, L, E, ce, rfl, rfl, hx, hce, hcv, hcl, rfl, hL, rfl, rfl⟩, ?_⟩
    show Steps p.tables e below _ (((({ U with heap := s₂.heap, slotsUsed := s₂.slotsUsed } : State).setVm s₂.vm).setTop g).pushFrame (.throwing q))
    rw [← hs₂]
    exact hsteps
end
variable {p : Program} {l : Launch} {e : Env} {R : Room} {s : State} {m : MethodId} {args : Array Value} {below : List Frame} {meth : Method} {c : Code} {T : State} {H : Heap} {locs : List Loc} {cells slots : Nat}
theorem vx_callVX (X : Stand p l e R s m args below meth c T locs cells slots) (hexec : p.tables.exec = Jvm.exec) {own C : String} {index : Nat} {y : MethodName} {bytes : ByteArray} {maxL : Nat} {ret : Option FieldType} {hh : List (Nat × Nat × Nat × Nat)}
    (hown : s.vm.findClass own = some m.cls) (hlink : (Cond.methodLink own index y).before args s = true) (hinst : (Cond.instanceMethod y).before args s = true) (hsel : (Cond.selects C y y).before args s = true)
    (hcode : (Cond.codeWith y bytes maxL ret hh).before args s = true) (hy : y.cls ≠ "java/lang/invoke/MethodHandle" ∧ y.cls ≠ "java/lang/invoke/VarHandle")
    {W9 : Nat} {Pre : Pt → Array Value → Prop} {Post : Pt → Array Value → Option Value → Pt → Prop} {PostX : Pt → Array Value → Addr → Pt → Prop} (hK : vx_Back l R p e below s args y 3 W9 Pre Post PostX)
    {b : Addr} {cellB : Cell} (hcell : T.heap[b]? = some cellB) (hobj : cellB.vm.isStatics = false) (hcls : s.vm.findClass C = some cellB.cls)
    {g : JFrame} (hg : g.method = m) (hsize : g.locals.size = c.maxLocals) {argsL rest : List Value} (hlen : ∀ sig, parseMethodDescriptor y.desc = some sig → argsL.length = sig.parameters.length)
    (hstack : g.stack = argsL.reverse ++ .ref b :: rest) (hW : 2 * g.monitorRoom + (rest.map fun v => v.category).sum ≤ W9) (hdg : decode c.code g.pc = .ok (.invokevirtual index, 3))
    (hpre : ∀ vm₁, s.WarmedH vm₁ → Pre ⟨T.setVm vm₁, locs, cells, slots⟩ (Value.ref b :: argsL).toArray) :
    (∃ (v : Option Value) (vm₁ : Vm) (B : Pt), s.WarmedH vm₁ ∧ Stand p l e R s m args below meth c B.U B.locs B.cells B.slots ∧ Post ⟨T.setVm vm₁, locs, cells, slots⟩ (Value.ref b :: argsL).toArray v B ∧
      ∀ target, Steps p.tables e below (B.U.setTop { g with pc := g.pc + 3, stack := v.toList ++ rest }) target → Steps p.tables e below (T.setTop g) target) ∨
    (∃ (q : Addr) (vm₁ : Vm) (B : Pt), s.WarmedH vm₁ ∧ Stand p l e R s m args below meth c B.U B.locs B.cells B.slots ∧ PostX ⟨T.setVm vm₁, locs, cells, slots⟩ (Value.ref b :: argsL).toArray q B ∧
      Steps p.tables e below (T.setTop g) ((B.U.setTop { g with stack := rest }).pushFrame (.throwing q))) := by
  obtain ⟨mk, methM, hnamed, hmethM, hstM, habM⟩ := Cond.instanceMethod_spec hinst
  obtain ⟨m8, methM', cM, hn8, hmethM', -, -, -, -, -, -, hsigM⟩ := Cond.codeWith_spec hcode
  cases Option.some.inj (hn8.symm.trans hnamed)
  cases hmethM.symm.trans hmethM'
  obtain ⟨c2, r2, m2, q1, q2, q3, q4, kP, hkP, hkPi⟩ := Cond.selects_spec hsel
  cases hcls.symm.trans q1
  cases (State.methodFound?_of_named hnamed hy).symm.trans q2
  cases hnamed.symm.trans q3
  have hselP : selectMethod e.platform s.vm cellB.cls mk = .method mk := by rw [Launch.admits_selectMethod X.admits]; exact q4
  obtain ⟨vm₁, X₁, hstep₁⟩ := X.invokevirtual hexec hown hlink hnamed hmethM hstM hkP hkPi hy (a := b) (cell := cellB) hcell
    (fun z h => by rw [h] at hobj; cases hobj) hselP hmethM habM hkP hkPi (g := g) hg (argsL := argsL) (rest := rest) (hlen _ hsigM) hstack hdg
  rcases hK m meth c ⟨T.setVm vm₁, locs, cells, slots⟩ { g with stack := rest } (.invokevirtual index) mk (Value.ref b :: argsL).toArray X₁ hg hsize hdg hW (X₁.named hnamed) (hpre vm₁ X₁.warmed) with ⟨v, B, X', hpost, hsteps⟩ | ⟨q, B, X', hpost, hsteps⟩
  · exact Or.inl ⟨v, vm₁, B, X₁.warmed, X', hpost, fun target h => hstep₁ _ fun acts => by rw [doInvoke_state]; exact hsteps.trans h⟩
  · exact Or.inr ⟨q, vm₁, B, X₁.warmed, X', hpost, hstep₁ _ fun acts => by rw [doInvoke_state]; exact hsteps⟩
theorem vx_callSX (X : Stand p l e R s m args below meth c T locs cells slots) (hexec : p.tables.exec = Jvm.exec) {own : String} {index : Nat} {y : MethodName} {bytes : ByteArray} {maxL : Nat} {ret : Option FieldType} {hh : List (Nat × Nat × Nat × Nat)}
    (hown : s.vm.findClass own = some m.cls) (hlink : (Cond.methodLink own index y).before args s = true) (hstat : (Cond.static y).before args s = true) (hinit : (Cond.initialized y.cls).before args s = true)
    (hcode : (Cond.codeWith y bytes maxL ret hh).before args s = true) (hy : y.cls ≠ "java/lang/invoke/MethodHandle" ∧ y.cls ≠ "java/lang/invoke/VarHandle")
    {W9 : Nat} {Pre : Pt → Array Value → Prop} {Post : Pt → Array Value → Option Value → Pt → Prop} {PostX : Pt → Array Value → Addr → Pt → Prop} (hK : vx_Back l R p e below s args y 3 W9 Pre Post PostX)
    {g : JFrame} (hg : g.method = m) (hsize : g.locals.size = c.maxLocals) {argsL rest : List Value} (hlen : ∀ sig, parseMethodDescriptor y.desc = some sig → argsL.length = sig.parameters.length)
    (hstack : g.stack = argsL.reverse ++ rest) (hW : 2 * g.monitorRoom + (rest.map fun v => v.category).sum ≤ W9) (hdg : decode c.code g.pc = .ok (.invokestatic index, 3))
    (hpre : ∀ vm₁, s.WarmedH vm₁ → Pre ⟨T.setVm vm₁, locs, cells, slots⟩ argsL.toArray) :
    (∃ (v : Option Value) (vm₁ : Vm) (B : Pt), s.WarmedH vm₁ ∧ Stand p l e R s m args below meth c B.U B.locs B.cells B.slots ∧ Post ⟨T.setVm vm₁, locs, cells, slots⟩ argsL.toArray v B ∧
      ∀ target, Steps p.tables e below (B.U.setTop { g with pc := g.pc + 3, stack := v.toList ++ rest }) target → Steps p.tables e below (T.setTop g) target) ∨
    (∃ (q : Addr) (vm₁ : Vm) (B : Pt), s.WarmedH vm₁ ∧ Stand p l e R s m args below meth c B.U B.locs B.cells B.slots ∧ PostX ⟨T.setVm vm₁, locs, cells, slots⟩ argsL.toArray q B ∧
      Steps p.tables e below (T.setTop g) ((B.U.setTop { g with stack := rest }).pushFrame (.throwing q))) := by
  obtain ⟨mk, methM, cM, hnamed, hmethM, -, -, -, -, -, -, hsigM⟩ := Cond.codeWith_spec hcode
  have hstatic : methM.isStatic = true := Cond.static_spec hnamed hmethM hstat
  obtain ⟨kP, hkP, -⟩ := className_of_methodNamed hnamed
  have hinitP : kP.init = .initialized := Cond.initialized_spec (findClass_of_methodNamed hnamed) hkP hinit
  obtain ⟨vm₁, X₁, hstep₁⟩ := X.invokestatic hexec hown hlink hnamed hmethM hstatic hkP hinitP hy (g := g) hg (argsL := argsL) (rest := rest) (hlen _ hsigM) hstack hdg
  rcases hK m meth c ⟨T.setVm vm₁, locs, cells, slots⟩ { g with stack := rest } (.invokestatic index) mk argsL.toArray X₁ hg hsize hdg hW (X₁.named hnamed) (hpre vm₁ X₁.warmed) with ⟨v, B, X', hpost, hsteps⟩ | ⟨q, B, X', hpost, hsteps⟩
  · exact Or.inl ⟨v, vm₁, B, X₁.warmed, X', hpost, fun target h => hstep₁ _ fun acts => by rw [doInvoke_state]; exact hsteps.trans h⟩
  · exact Or.inr ⟨q, vm₁, B, X₁.warmed, X', hpost, hstep₁ _ fun acts => by rw [doInvoke_state]; exact hsteps⟩
theorem vx_callVW (X : Stand p l e R s m args below meth c T locs cells slots) (hexec : p.tables.exec = Jvm.exec) {own C : String} {index : Nat} {y : MethodName} {bytes : ByteArray} {maxL : Nat} {ret : Option FieldType} {hh : List (Nat × Nat × Nat × Nat)}
    (hown : s.vm.findClass own = some m.cls) (hlink : (Cond.methodLink own index y).before args s = true) (hinst : (Cond.instanceMethod y).before args s = true) (hsel : (Cond.selects C y y).before args s = true)
    (hcode : (Cond.codeWith y bytes maxL ret hh).before args s = true) (hy : y.cls ≠ "java/lang/invoke/MethodHandle" ∧ y.cls ≠ "java/lang/invoke/VarHandle")
    {W9 : Nat} {Pre : Pt → Array Value → Prop} {Post : Pt → Array Value → Option Value → Pt → Prop} (hK : Back l R p e below s args y 3 W9 Pre Post)
    {b : Addr} {cellB : Cell} (hcell : T.heap[b]? = some cellB) (hobj : cellB.vm.isStatics = false) (hcls : s.vm.findClass C = some cellB.cls)
    {g : JFrame} (hg : g.method = m) (hsize : g.locals.size = c.maxLocals) {argsL rest : List Value} (hlen : ∀ sig, parseMethodDescriptor y.desc = some sig → argsL.length = sig.parameters.length)
    (hstack : g.stack = argsL.reverse ++ .ref b :: rest) (hW : 2 * g.monitorRoom + (rest.map fun v => v.category).sum ≤ W9) (hdg : decode c.code g.pc = .ok (.invokevirtual index, 3))
    (hpre : ∀ vm₁, s.WarmedH vm₁ → Pre ⟨T.setVm vm₁, locs, cells, slots⟩ (Value.ref b :: argsL).toArray) :
    ∃ (v : Option Value) (vm₁ : Vm) (B : Pt), s.WarmedH vm₁ ∧ Stand p l e R s m args below meth c B.U B.locs B.cells B.slots ∧ Post ⟨T.setVm vm₁, locs, cells, slots⟩ (Value.ref b :: argsL).toArray v B ∧
      ∀ target, Steps p.tables e below (B.U.setTop { g with pc := g.pc + 3, stack := v.toList ++ rest }) target → Steps p.tables e below (T.setTop g) target := by
  obtain ⟨mk, methM, hnamed, hmethM, hstM, habM⟩ := Cond.instanceMethod_spec hinst
  obtain ⟨m8, methM', cM, hn8, hmethM', -, -, -, -, -, -, hsigM⟩ := Cond.codeWith_spec hcode
  cases Option.some.inj (hn8.symm.trans hnamed)
  cases hmethM.symm.trans hmethM'
  obtain ⟨c2, r2, m2, q1, q2, q3, q4, kP, hkP, hkPi⟩ := Cond.selects_spec hsel
  cases hcls.symm.trans q1
  cases (State.methodFound?_of_named hnamed hy).symm.trans q2
  cases hnamed.symm.trans q3
  have hselP : selectMethod e.platform s.vm cellB.cls mk = .method mk := by rw [Launch.admits_selectMethod X.admits]; exact q4
  obtain ⟨vm₁, X₁, hstep₁⟩ := X.invokevirtual hexec hown hlink hnamed hmethM hstM hkP hkPi hy (a := b) (cell := cellB) hcell
    (fun z h => by rw [h] at hobj; cases hobj) hselP hmethM habM hkP hkPi (g := g) hg (argsL := argsL) (rest := rest) (hlen _ hsigM) hstack hdg
  obtain ⟨v, B, X', hpost, hsteps⟩ := hK m meth c ⟨T.setVm vm₁, locs, cells, slots⟩ { g with stack := rest } (.invokevirtual index) mk (Value.ref b :: argsL).toArray X₁ hg hsize hdg hW (X₁.named hnamed) (hpre vm₁ X₁.warmed)
  exact ⟨v, vm₁, B, X₁.warmed, X', hpost, fun target h => hstep₁ _ fun acts => by rw [doInvoke_state]; exact hsteps.trans h⟩
abbrev vx_CVW (R : Room) (s : State) (args : Array Value) (own C : String) (index : Nat) (y : MethodName) (bytes : ByteArray) (maxL : Nat) (ret : Option FieldType) (hh : List (Nat × Nat × Nat × Nat)) (ws : List Cond) (rm : Room) (mc ms n : Nat) : Prop :=
  (rm.cells = mc ∧ rm.slots = ms ∧ rm.frames + 1 ≤ R.frames ∧ 8 + (maxL + 11) + rm.locals ≤ R.locals ∧ (∀ w ∈ ws, ∀ (a' : Array Value) (U : State), s.WarmedH U.vm → w.before a' U = true) ∧ Cond.codeWith y bytes maxL ret hh ∈ ws) ∧
  (Cond.codeWith y bytes maxL ret hh).before args s = true ∧ (Cond.initialized y.cls).before args s = true ∧ (y.cls ≠ "java/lang/invoke/MethodHandle" ∧ y.cls ≠ "java/lang/invoke/VarHandle") ∧
  (∀ sig, parseMethodDescriptor y.desc = some sig → n = sig.parameters.length) ∧ (Cond.methodLink own index y).before args s = true ∧ (Cond.instanceMethod y).before args s = true ∧ (Cond.selects C y y).before args s = true
theorem vx_cwVW {own C : String} {index maxL mc ms : Nat} {y : MethodName} {bytes : ByteArray} {ret : Option FieldType} {hh : List (Nat × Nat × Nat × Nat)} {Ts ws ws' : List Cond} {rm : Room} (n : Nat) (ht : ∀ w ∈ Ts, w.before args s = true) (hT : GoodIn Ts (wsV own index C y ws)) (hw : ws = Cond.codeWith y bytes maxL ret hh :: ws') (hrc : rm.cells = mc) (hrs : rm.slots = ms)
    (hd : y.cls = C ∧ y.cls ≠ "java/lang/invoke/MethodHandle" ∧ y.cls ≠ "java/lang/invoke/VarHandle" ∧ (parseMethodDescriptor y.desc).map (fun d => d.parameters.length) = some n) (hR : rm.frames + 1 ≤ R.frames ∧ 8 + (maxL + 11) + rm.locals ≤ R.locals) :
    vx_CVW R s args own C index y bytes maxL ret hh ws rm mc ms n := by
  obtain ⟨hC, hd⟩ := hd
  subst hC
  have ok : ∀ w ∈ wsV own index y.cls y ws, w.before args s = true := fun w h => ht w (hT w h).1
  have hG : GoodIn Ts ws := fun w h => hT w (by unfold wsV; exact List.mem_append_right _ h)
  have hc : Cond.codeWith y bytes maxL ret hh ∈ ws := by rw [hw]; exact List.mem_cons_self
  refine ⟨⟨hrc, hrs, hR.1, hR.2, pay_in ht hG, hc⟩, ht _ (hG _ hc).1, ok _ (by simp [wsV]), ⟨hd.1, hd.2.1⟩, fun sig h => ?_, ok _ (by simp [wsV]), ok _ (by simp [wsV]), ok _ (by simp [wsV])⟩
  have h2 := hd.2.2
  rw [h] at h2
  exact (Option.some.inj h2).symm
theorem vx_runVW {y : MethodName} {bytes cc : ByteArray} {maxL nL mc ms n index : Nat} {ret : Option FieldType} {hh : List (Nat × Nat × Nat × Nat)} {ws : List Cond} {rm : Room} {Pc : Array Value → State → Prop} {Qc : Array Value → State → Outcome → State → Prop} {free : Addr → Prop} {Ts : List Cond} {own C : String} {b : Addr} {As rest : List Value} {g : JFrame}
    (S : CallFix p m c cc nL s args Ts own) (hM : Met l y ws rm Pc Qc mc ms free) (cw : vx_CVW R s args own C index y bytes maxL ret hh ws rm mc ms n) (hp : PreV s H C b Pc As)
    (hg : g.method = m) (hn : As.length = n) (hsize : g.locals.size = nL) (hstack : g.stack = As.reverse ++ .ref b :: rest) (hW : 2 * g.monitorRoom + (rest.map fun v => v.category).sum ≤ 8) (hdg : decode cc g.pc = .ok (.invokevirtual index, 3)) (hf : cells + mc ≤ R.cells ∧ slots + ms ≤ R.slots) :
    va_Run p l e R s m args below meth c H locs cells slots mc ms g rest (Qc (Value.ref b :: As).toArray) free := by
  obtain ⟨⟨hrc, hrs, hfr, hlo, hws, hcw⟩, hcode, hini, hy, hlen, hl, hin, hse⟩ := cw
  have hK : Back l R p e below s args y 3 8 (PreOf R mc ms Pc) (PostOf Qc mc ms free) := va_backW (hh := hh) (bytes := bytes) (maxL := maxL) (ret := ret) hM hp.1 hrc hrs hfr hlo hws hcw (fun a' U hW => word_at hW (Or.inl (by first | rfl | simp [Cond.onTables, Cond.keeps, Cond.steady])) hini)
  obtain ⟨hx, hb, hml, ho, -⟩ := S
  obtain ⟨-, ⟨cellB, hcB, hoB, hclB⟩, hPc⟩ := hp
  intro T hT X
  obtain ⟨v, vm₁, ⟨U', l2, c2, s2⟩, hW₁, X', ⟨g', mk, t, L, e1, e2, hq, h1, hL, h2, h3⟩, st⟩ := vx_callVW X hx (C := C) (hh := hh) (bytes := bytes) (maxL := maxL) (ret := ret) ho hl hin hse hcode hy hK (by rw [hT]; exact hcB) hoB hclB hg (hsize.trans hml.symm) (argsL := As) (rest := rest) (fun sig h => hn.trans (hlen sig h)) hstack hW (by rw [hb]; exact hdg)
    (fun vm₁ hW₁ => ⟨hf.1, hf.2, hPc (T.setVm vm₁) hT hW₁⟩)
  dsimp only [Pt.U, Pt.locs, Pt.cells, Pt.slots] at X' e1 e2 h1 h2 h3 st
  subst h1; subst h2; subst h3
  exact ⟨v, (T.setVm vm₁).calling g' mk (Value.ref b :: As).toArray, t, U', L, hT, X', hL, e1, e2, hq, st⟩
section
variable {y : MethodName} {bytes cc : ByteArray} {maxL nL mc ms n index : Nat} {ret : Option FieldType} {ws : List Cond} {rm : Room} {Pc : Array Value → State → Prop} {Qc : Array Value → State → Outcome → State → Prop} {XC : String → State → State → Prop} {free : Addr → Prop} {Ts : List Cond} {own C : String} {b : Addr} {As rest : List Value} {g : JFrame}
theorem vx_runVX {hh : List (Nat × Nat × Nat × Nat)} (S : CallFix p m c cc nL s args Ts own) (hM : vx_Met l y ws rm Pc Qc XC mc ms free) (cw : vx_CVW R s args own C index y bytes maxL ret hh ws rm mc ms n) (hp : PreV s H C b Pc As)
    (hg : g.method = m) (hn : As.length = n) (hsize : g.locals.size = nL) (hstack : g.stack = As.reverse ++ .ref b :: rest) (hW : 2 * g.monitorRoom + (rest.map fun v => v.category).sum ≤ 8) (hdg : decode cc g.pc = .ok (.invokevirtual index, 3)) (hf : cells + mc ≤ R.cells ∧ slots + ms ≤ R.slots) :
    vx_Run p l e R s m args below meth c H locs cells slots mc ms g rest (Qc (Value.ref b :: As).toArray) XC free := by
  obtain ⟨⟨hrc, hrs, hfr, hlo, hws, hcw⟩, hcode, hini, hy, hlen, hl, hin, hse⟩ := cw
  have hK : vx_Back l R p e below s args y 3 8 (PreOf R mc ms Pc) (PostOf Qc mc ms free) (vx_Post XC mc ms free) := vx_backW (hh := hh) (bytes := bytes) (maxL := maxL) (ret := ret) hM hp.1 hrc hrs hfr hlo hws hcw (fun a' U hW => word_at hW (Or.inl (by first | rfl | simp [Cond.onTables, Cond.keeps, Cond.steady])) hini)
  obtain ⟨hx, hb, hml, ho, -⟩ := S
  obtain ⟨-, ⟨cellB, hcB, hoB, hclB⟩, hPc⟩ := hp
  intro T hT X
  rcases vx_callVX X hx (C := C) (hh := hh) (bytes := bytes) (maxL := maxL) (ret := ret) ho hl hin hse hcode hy hK (by rw [hT]; exact hcB) hoB hclB hg (hsize.trans hml.symm) (argsL := As) (rest := rest) (fun sig h => hn.trans (hlen sig h)) hstack hW (by rw [hb]; exact hdg)
    (fun vm₁ hW₁ => ⟨hf.1, hf.2, hPc (T.setVm vm₁) hT hW₁⟩) with ⟨v, vm₁, ⟨U', l2, c2, s2⟩, hW₁, X', ⟨g', mk, t, L, e1, e2, hq, h1, hL, h2, h3⟩, st⟩ | ⟨q, vm₁, ⟨U', l2, c2, s2⟩, hW₁, X', ⟨g', mk, t, L, E, ce, e1, e2, hq, hce, hcv, hcl, h1, hL, h2, h3⟩, st⟩
  · dsimp only [Pt.U, Pt.locs, Pt.cells, Pt.slots] at X' e1 e2 h1 h2 h3 st
    subst h1; subst h2; subst h3
    exact Or.inl ⟨v, (T.setVm vm₁).calling g' mk (Value.ref b :: As).toArray, t, U', L, hT, X', hL, e1, e2, hq, st⟩
  · dsimp only [Pt.U, Pt.locs, Pt.cells, Pt.slots] at X' e1 e2 h1 h2 h3 st hcl
    subst h1; subst h2; subst h3
    exact Or.inr ⟨q, (T.setVm vm₁).calling g' mk (Value.ref b :: As).toArray, t, U', L, E, ce, hT, X', hL, e1, e2, hq, hce, hcv, vx_cls hW₁ hcl, st⟩
theorem vx_runSX {hh : List (Nat × Nat × Nat × Nat)} (S : CallFix p m c cc nL s args Ts own) (hM : vx_Met l y ws rm Pc Qc XC mc ms free) (cw : vx_CSW R s args own index y bytes maxL ret hh ws rm mc ms n) (hp : PreS s H Pc As)
    (hg : g.method = m) (hn : As.length = n) (hsize : g.locals.size = nL) (hstack : g.stack = As.reverse ++ rest) (hW : 2 * g.monitorRoom + (rest.map fun v => v.category).sum ≤ 8) (hdg : decode cc g.pc = .ok (.invokestatic index, 3)) (hf : cells + mc ≤ R.cells ∧ slots + ms ≤ R.slots) :
    vx_Run p l e R s m args below meth c H locs cells slots mc ms g rest (Qc As.toArray) XC free := by
  obtain ⟨⟨hrc, hrs, hfr, hlo, hws, hcw⟩, hcode, hini, hy, hlen, hl, hstt⟩ := cw
  have hK : vx_Back l R p e below s args y 3 8 (PreOf R mc ms Pc) (PostOf Qc mc ms free) (vx_Post XC mc ms free) := vx_backW (hh := hh) (bytes := bytes) (maxL := maxL) (ret := ret) hM hp.1 hrc hrs hfr hlo hws hcw (fun a' U hW => word_at hW (Or.inl (by first | rfl | simp [Cond.onTables, Cond.keeps, Cond.steady])) hini)
  obtain ⟨hx, hb, hml, ho, -⟩ := S
  intro T hT X
  rcases vx_callSX X hx (hh := hh) (bytes := bytes) (maxL := maxL) (ret := ret) ho hl hstt hini hcode hy hK hg (hsize.trans hml.symm) (argsL := As) (rest := rest) (fun sig h => hn.trans (hlen sig h)) hstack hW (by rw [hb]; exact hdg)
    (fun vm₁ hW₁ => ⟨hf.1, hf.2, hp.2 (T.setVm vm₁) hT hW₁⟩) with ⟨v, vm₁, ⟨U', l2, c2, s2⟩, hW₁, X', ⟨g', mk, t, L, e1, e2, hq, h1, hL, h2, h3⟩, st⟩ | ⟨q, vm₁, ⟨U', l2, c2, s2⟩, hW₁, X', ⟨g', mk, t, L, E, ce, e1, e2, hq, hce, hcv, hcl, h1, hL, h2, h3⟩, st⟩
  · dsimp only [Pt.U, Pt.locs, Pt.cells, Pt.slots] at X' e1 e2 h1 h2 h3 st
    subst h1; subst h2; subst h3
    exact Or.inl ⟨v, (T.setVm vm₁).calling g' mk As.toArray, t, U', L, hT, X', hL, e1, e2, hq, st⟩
  · dsimp only [Pt.U, Pt.locs, Pt.cells, Pt.slots] at X' e1 e2 h1 h2 h3 st hcl
    subst h1; subst h2; subst h3
    exact Or.inr ⟨q, (T.setVm vm₁).calling g' mk As.toArray, t, U', L, E, ce, hT, X', hL, e1, e2, hq, hce, hcv, vx_cls hW₁ hcl, st⟩
end
end VXH
theorem vx_ofWH {l : Launch} {y : MethodName} {ws ws' : List Cond} {rm : Room} {Pc : Array Value → State → Prop} {Qc : Array Value → State → Outcome → State → Prop} {XC : String → State → State → Prop} {mc ms : Nat} {free : Addr → Prop} {cc : ByteArray} {maxL : Nat} {ret : Option FieldType} {hh : List (Nat × Nat × Nat × Nat)}
    (hy : plainName y.cls = true) (hw : ws = Cond.codeWith y cc maxL ret hh :: ws')
    (body : ∀ p e s m args below meth c s₁, BodyLoose p l y (headSpec ws rm) cc maxL ret e s m args below meth c s₁ → c.maxLocals = maxL → Pc args s →
      W p l e (headSpec ws rm).room s m args below meth c s.heap [] 0 0 (vx_MQ below Qc XC args s mc ms free) (entryFrame m args maxL)) : vx_Met l y ws rm Pc Qc XC mc ms free := by
  refine MetFree.of_bodyS (code := cc) (maxLocals := maxL) (ret := ret) hy ?_ ?_
  · intro args s m h hn
    obtain ⟨m9, meth, c, hn9, h1, h2, h3, h4, -, h5, h6, -⟩ := Cond.codeWith_spec (atoms_spec (ws := ws) h _ (by rw [hw]; exact List.mem_cons_self))
    cases hn.symm.trans hn9
    exact ⟨meth, c, h1, h2, h3, h4, h5, h6⟩
  · intro p e s m args below meth c s₁ B hml hP _
    have hh0 : s₁.heap = s.heap := by rw [B.state]; rfl
    obtain ⟨t, a1, o, b1, b2, b3⟩ := body p e s m args below meth c s₁ B hml hP s₁ hh0 (Stand.of_body B)
    exact ⟨t, o, a1, b1, b2, b3⟩
/-! ===== END ===== -/
end
section
def RX0 : String := "RhymeTax$Flow"
def TX0 : u_T := fun k => match k with
  | 0 => ("RhymeTax$Flow", "cells", "[J", true)
  | _ => ("RhymeTax$Flow", "end", "I", false)
def tyX0 : Nat → FieldType := fun k => match k with
  | 0 => .array .long
  | _ => .int
abbrev wsX00 : List Cond := u_ws RX0 TX0 2
theorem nmX0 : ∀ a, a < 2 → ∀ b, b < 2 → a ≠ b → (TX0 a).2.1 ≠ (TX0 b).2.1 := by decide +kernel
theorem tyX0_ok : ∀ k, k < 2 → parseFieldDescriptor (TX0 k).2.2.1 = some (tyX0 k) := by decide +kernel
abbrev cX0_init : ByteArray := prog_2_method_1_code
def yX0_init : MethodName := ⟨RX0, "<init>", "()V"⟩
abbrev cX0_cutBehind : ByteArray := prog_2_method_2_code
def yX0_cutBehind : MethodName := ⟨RX0, "cutBehind", "(I)V"⟩
abbrev cX0_add : ByteArray := prog_2_method_3_code
def yX0_add : MethodName := ⟨RX0, "add", "(JI)V"⟩
abbrev cX0_read : ByteArray := prog_2_method_4_code
def yX0_read : MethodName := ⟨RX0, "read", "(II)J"⟩
abbrev cX0_addTo : ByteArray := prog_2_method_5_code
def yX0_addTo : MethodName := ⟨RX0, "addTo", "(IJ)V"⟩
abbrev cX0_cellAt : ByteArray := prog_2_method_6_code
def yX0_cellAt : MethodName := ⟨RX0, "cellAt", "(I)J"⟩
def RX1 : String := "RhymeTax$Line"
def TX1 : u_T := fun k => match k with
  | 0 => ("RhymeTax$Line", "metre", "I", true)
  | 1 => ("RhymeTax$Line", "feet", "I", true)
  | 2 => ("RhymeTax$Line", "mark", "I", true)
  | 3 => ("RhymeTax$Line", "partner", "LRhymeTax$Line;", true)
  | 4 => ("RhymeTax$Line", "row", "Ljava/util/ArrayList;", true)
  | 5 => ("RhymeTax$Line", "ownStress", "J", false)
  | 6 => ("RhymeTax$Line", "own", "I", false)
  | 7 => ("RhymeTax$Line", "melted", "I", false)
  | 8 => ("RhymeTax$Line", "start", "I", false)
  | 9 => ("RhymeTax$Line", "carried", "I", false)
  | 10 => ("RhymeTax$Line", "stays", "I", false)
  | 11 => ("RhymeTax$Line", "over", "I", false)
  | 12 => ("RhymeTax$Line", "staying", "J", false)
  | 13 => ("RhymeTax$Line", "off", "I", false)
  | 14 => ("RhymeTax$Line", "lacks", "I", false)
  | 15 => ("RhymeTax$Line", "paid", "I", false)
  | _ => ("RhymeTax$Line", "tax", "I", false)
def tyX1 : Nat → FieldType := fun k => match k with
  | 0 => .int
  | 1 => .int
  | 2 => .int
  | 3 => .object "RhymeTax$Line"
  | 4 => .object "java/util/ArrayList"
  | 5 => .long
  | 6 => .int
  | 7 => .int
  | 8 => .int
  | 9 => .int
  | 10 => .int
  | 11 => .int
  | 12 => .long
  | 13 => .int
  | 14 => .int
  | 15 => .int
  | _ => .int
abbrev wsX10 : List Cond := u_ws RX1 TX1 17
theorem nmX1 : ∀ a, a < 17 → ∀ b, b < 17 → a ≠ b → (TX1 a).2.1 ≠ (TX1 b).2.1 := by decide +kernel
theorem tyX1_ok : ∀ k, k < 17 → parseFieldDescriptor (TX1 k).2.2.1 = some (tyX1 k) := by decide +kernel
abbrev cX1_init : ByteArray := prog_3_method_1_code
def yX1_init : MethodName := ⟨RX1, "<init>", "(IIILRhymeTax$Line;)V"⟩
abbrev cX1_lastWord : ByteArray := prog_3_method_2_code
def yX1_lastWord : MethodName := ⟨RX1, "lastWord", "()LRhymeTax$Word;"⟩
abbrev cX1_usesOf : ByteArray := prog_3_method_3_code
def yX1_usesOf : MethodName := ⟨RX1, "usesOf", "(LRhymeTax$Word;)I"⟩
abbrev cX1_putWord : ByteArray := prog_3_method_4_code
def yX1_putWord : MethodName := ⟨RX1, "putWord", "(ILRhymeTax$Word;)V"⟩
abbrev cX1_dropLast : ByteArray := prog_3_method_5_code
def yX1_dropLast : MethodName := ⟨RX1, "dropLast", "()V"⟩
abbrev cX1_joinWords : ByteArray := prog_3_method_6_code
def yX1_joinWords : MethodName := ⟨RX1, "joinWords", "()V"⟩
abbrev cX1_scanIn : ByteArray := prog_3_method_7_code
def yX1_scanIn : MethodName := ⟨RX1, "scanIn", "(LRhymeTax$Flow;I)V"⟩
abbrev cX1_payRhyme : ByteArray := prog_3_method_8_code
def yX1_payRhyme : MethodName := ⟨RX1, "payRhyme", "()V"⟩
abbrev cX1_faultsBy : ByteArray := prog_3_method_9_code
def yX1_faultsBy : MethodName := ⟨RX1, "faultsBy", "(ILRhymeTax$Flow;)I"⟩
abbrev cX1_offBy : ByteArray := prog_3_method_10_code
def yX1_offBy : MethodName := ⟨RX1, "offBy", "(IJI)I"⟩
abbrev cX1_isFaultless : ByteArray := prog_3_method_11_code
def yX1_isFaultless : MethodName := ⟨RX1, "isFaultless", "()Z"⟩
abbrev cX1_stressAt : ByteArray := prog_3_method_12_code
def yX1_stressAt : MethodName := ⟨RX1, "stressAt", "(I)I"⟩
abbrev cX1_tells : ByteArray := prog_3_method_13_code
def yX1_tells : MethodName := ⟨RX1, "tells", "(I)I"⟩
def RX2 : String := "RhymeTax$Word"
def TX2 : u_T := fun k => match k with
  | 0 => ("RhymeTax$Word", "number", "I", true)
  | 1 => ("RhymeTax$Word", "syllables", "I", true)
  | 2 => ("RhymeTax$Word", "stress", "I", true)
  | 3 => ("RhymeTax$Word", "vowel", "I", true)
  | 4 => ("RhymeTax$Word", "end", "I", true)
  | _ => ("RhymeTax$Word", "open", "Z", true)
def tyX2 : Nat → FieldType := fun k => match k with
  | 0 => .int
  | 1 => .int
  | 2 => .int
  | 3 => .int
  | 4 => .int
  | _ => .boolean
abbrev wsX20 : List Cond := u_ws RX2 TX2 6
theorem nmX2 : ∀ a, a < 6 → ∀ b, b < 6 → a ≠ b → (TX2 a).2.1 ≠ (TX2 b).2.1 := by decide +kernel
theorem tyX2_ok : ∀ k, k < 6 → parseFieldDescriptor (TX2 k).2.2.1 = some (tyX2 k) := by decide +kernel
abbrev cX2_init : ByteArray := prog_4_method_1_code
def yX2_init : MethodName := ⟨RX2, "<init>", "(IIIIIZ)V"⟩
abbrev cX2_meltsInto : ByteArray := prog_4_method_2_code
def yX2_meltsInto : MethodName := ⟨RX2, "meltsInto", "(LRhymeTax$Word;)Z"⟩
abbrev cX2_lastStress : ByteArray := prog_4_method_3_code
def yX2_lastStress : MethodName := ⟨RX2, "lastStress", "()I"⟩
abbrev cX2_rhymeWith : ByteArray := prog_4_method_4_code
def yX2_rhymeWith : MethodName := ⟨RX2, "rhymeWith", "(LRhymeTax$Word;)I"⟩
def RX3 : String := "RhymeTax"
def TX3 : u_T := fun k => match k with
  | 0 => ("RhymeTax", "words", "Ljava/util/ArrayList;", true)
  | 1 => ("RhymeTax", "lines", "Ljava/util/ArrayList;", true)
  | _ => ("RhymeTax", "flow", "LRhymeTax$Flow;", true)
def tyX3 : Nat → FieldType := fun k => match k with
  | 0 => .object "java/util/ArrayList"
  | 1 => .object "java/util/ArrayList"
  | _ => .object "RhymeTax$Flow"
abbrev wsX30 : List Cond := u_ws RX3 TX3 3
theorem nmX3 : ∀ a, a < 3 → ∀ b, b < 3 → a ≠ b → (TX3 a).2.1 ≠ (TX3 b).2.1 := by decide +kernel
theorem tyX3_ok : ∀ k, k < 3 → parseFieldDescriptor (TX3 k).2.2.1 = some (tyX3 k) := by decide +kernel
abbrev cX3_init : ByteArray := prog_1_method_1_code
def yX3_init : MethodName := ⟨RX3, "<init>", "()V"⟩
abbrev cX3_word : ByteArray := prog_1_method_2_code
def yX3_word : MethodName := ⟨RX3, "word", "(IIIIZ)I"⟩
abbrev cX3_about : ByteArray := prog_1_method_3_code
def yX3_about : MethodName := ⟨RX3, "about", "(II)I"⟩
abbrev cX3_line : ByteArray := prog_1_method_4_code
def yX3_line : MethodName := ⟨RX3, "line", "(III)I"⟩
abbrev cX3_write : ByteArray := prog_1_method_5_code
def yX3_write : MethodName := ⟨RX3, "write", "(III)I"⟩
abbrev cX3_strike : ByteArray := prog_1_method_6_code
def yX3_strike : MethodName := ⟨RX3, "strike", "(I)I"⟩
abbrev cX3_written : ByteArray := prog_1_method_7_code
def yX3_written : MethodName := ⟨RX3, "written", "(II)I"⟩
abbrev cX3_told : ByteArray := prog_1_method_8_code
def yX3_told : MethodName := ⟨RX3, "told", "(II)I"⟩
abbrev cX3_stress : ByteArray := prog_1_method_9_code
def yX3_stress : MethodName := ⟨RX3, "stress", "(II)I"⟩
abbrev cX3_melted : ByteArray := prog_1_method_10_code
def yX3_melted : MethodName := ⟨RX3, "melted", "(I)I"⟩
abbrev cX3_rhyme : ByteArray := prog_1_method_11_code
def yX3_rhyme : MethodName := ⟨RX3, "rhyme", "(II)I"⟩
abbrev cX3_scans : ByteArray := prog_1_method_12_code
def yX3_scans : MethodName := ⟨RX3, "scans", "(I)I"⟩
abbrev cX3_count : ByteArray := prog_1_method_13_code
def yX3_count : MethodName := ⟨RX3, "count", "(I)I"⟩
abbrev cX3_tries : ByteArray := prog_1_method_14_code
def yX3_tries : MethodName := ⟨RX3, "tries", "(III)I"⟩
abbrev cX3_best : ByteArray := prog_1_method_15_code
def yX3_best : MethodName := ⟨RX3, "best", "(II)I"⟩
abbrev cX3_worst : ByteArray := prog_1_method_16_code
def yX3_worst : MethodName := ⟨RX3, "worst", "()I"⟩
abbrev cX3_mean : ByteArray := prog_1_method_17_code
def yX3_mean : MethodName := ⟨RX3, "mean", "()D"⟩
abbrev cX3_digest : ByteArray := prog_1_method_18_code
def yX3_digest : MethodName := ⟨RX3, "digest", "()J"⟩
abbrev cX3_mixLine : ByteArray := prog_1_method_19_code
def yX3_mixLine : MethodName := ⟨RX3, "mixLine", "(JLRhymeTax$Line;)J"⟩
abbrev cX3_mix : ByteArray := prog_1_method_20_code
def yX3_mix : MethodName := ⟨RX3, "mix", "(JJ)J"⟩
abbrev cX3_isBelow : ByteArray := prog_1_method_21_code
def yX3_isBelow : MethodName := ⟨RX3, "isBelow", "(II)Z"⟩
abbrev cX3_refuseOutside : ByteArray := prog_1_method_22_code
def yX3_refuseOutside : MethodName := ⟨RX3, "refuseOutside", "(II)V"⟩
abbrev cX3_neededWord : ByteArray := prog_1_method_23_code
def yX3_neededWord : MethodName := ⟨RX3, "neededWord", "(I)LRhymeTax$Word;"⟩
abbrev cX3_neededLine : ByteArray := prog_1_method_24_code
def yX3_neededLine : MethodName := ⟨RX3, "neededLine", "(I)LRhymeTax$Line;"⟩
abbrev cX3_neededWordOf : ByteArray := prog_1_method_25_code
def yX3_neededWordOf : MethodName := ⟨RX3, "neededWordOf", "(LRhymeTax$Line;I)LRhymeTax$Word;"⟩
abbrev cX3_lastWithMark : ByteArray := prog_1_method_26_code
def yX3_lastWithMark : MethodName := ⟨RX3, "lastWithMark", "(I)LRhymeTax$Line;"⟩
abbrev cX3_aboutWord : ByteArray := prog_1_method_27_code
def yX3_aboutWord : MethodName := ⟨RX3, "aboutWord", "(LRhymeTax$Word;I)I"⟩
abbrev cX3_usesOf : ByteArray := prog_1_method_28_code
def yX3_usesOf : MethodName := ⟨RX3, "usesOf", "(LRhymeTax$Word;)I"⟩
abbrev cX3_countAll : ByteArray := prog_1_method_29_code
def yX3_countAll : MethodName := ⟨RX3, "countAll", "(I)I"⟩
abbrev cX3_countInLines : ByteArray := prog_1_method_30_code
def yX3_countInLines : MethodName := ⟨RX3, "countInLines", "(I)I"⟩
abbrev cX3_lost : ByteArray := prog_1_method_31_code
def yX3_lost : MethodName := ⟨RX3, "lost", "()I"⟩
abbrev cX3_allTaxes : ByteArray := prog_1_method_32_code
def yX3_allTaxes : MethodName := ⟨RX3, "allTaxes", "()I"⟩
abbrev cX3_rhymeBetween : ByteArray := prog_1_method_33_code
def yX3_rhymeBetween : MethodName := ⟨RX3, "rhymeBetween", "(LRhymeTax$Line;LRhymeTax$Line;)I"⟩
abbrev cX3_putWord : ByteArray := prog_1_method_34_code
def yX3_putWord : MethodName := ⟨RX3, "putWord", "(IILRhymeTax$Word;)V"⟩
abbrev cX3_taxesWith : ByteArray := prog_1_method_35_code
def yX3_taxesWith : MethodName := ⟨RX3, "taxesWith", "(IILRhymeTax$Word;LRhymeTax$Word;)I"⟩
abbrev cX3_bestWord : ByteArray := prog_1_method_36_code
def yX3_bestWord : MethodName := ⟨RX3, "bestWord", "(IILRhymeTax$Word;)LRhymeTax$Word;"⟩
abbrev cX3_scanFrom : ByteArray := prog_1_method_37_code
def yX3_scanFrom : MethodName := ⟨RX3, "scanFrom", "(I)V"⟩
abbrev cX3_lowBits : ByteArray := prog_1_method_38_code
def yX3_lowBits : MethodName := ⟨RX3, "lowBits", "(I)J"⟩
abbrev cX3_footSize : ByteArray := prog_1_method_39_code
def yX3_footSize : MethodName := ⟨RX3, "footSize", "(I)I"⟩
abbrev cX3_askedBy : ByteArray := prog_1_method_40_code
def yX3_askedBy : MethodName := ⟨RX3, "askedBy", "(I)J"⟩
def RX4 : String := "RhymeTaxModel"
def TX4 : u_T := fun k => match k with
  | 0 => ("RhymeTaxModel", "thrown", "I", false)
  | 1 => ("RhymeTaxModel", "words", "I", false)
  | 2 => ("RhymeTaxModel", "syllables", "[I", true)
  | 3 => ("RhymeTaxModel", "stresses", "[I", true)
  | 4 => ("RhymeTaxModel", "vowel", "[I", true)
  | 5 => ("RhymeTaxModel", "end", "[I", true)
  | 6 => ("RhymeTaxModel", "isOpen", "[I", true)
  | 7 => ("RhymeTaxModel", "lines", "I", false)
  | 8 => ("RhymeTaxModel", "metre", "[I", true)
  | 9 => ("RhymeTaxModel", "feet", "[I", true)
  | 10 => ("RhymeTaxModel", "mark", "[I", true)
  | 11 => ("RhymeTaxModel", "many", "[I", true)
  | 12 => ("RhymeTaxModel", "row", "[I", true)
  | 13 => ("RhymeTaxModel", "own", "[I", true)
  | 14 => ("RhymeTaxModel", "comes", "[I", true)
  | 15 => ("RhymeTaxModel", "stays", "[I", true)
  | 16 => ("RhymeTaxModel", "bits", "[I", true)
  | 17 => ("RhymeTaxModel", "off", "[I", true)
  | 18 => ("RhymeTaxModel", "tax", "[I", true)
  | 19 => ("RhymeTaxModel", "going", "[I", true)
  | _ => ("RhymeTaxModel", "lost", "I", false)
def tyX4 : Nat → FieldType := fun k => match k with
  | 0 => .int
  | 1 => .int
  | 2 => .array .int
  | 3 => .array .int
  | 4 => .array .int
  | 5 => .array .int
  | 6 => .array .int
  | 7 => .int
  | 8 => .array .int
  | 9 => .array .int
  | 10 => .array .int
  | 11 => .array .int
  | 12 => .array .int
  | 13 => .array .int
  | 14 => .array .int
  | 15 => .array .int
  | 16 => .array .int
  | 17 => .array .int
  | 18 => .array .int
  | 19 => .array .int
  | _ => .int
abbrev wsX40 : List Cond := u_ws RX4 TX4 21
theorem nmX4 : ∀ a, a < 21 → ∀ b, b < 21 → a ≠ b → (TX4 a).2.1 ≠ (TX4 b).2.1 := by decide +kernel
theorem tyX4_ok : ∀ k, k < 21 → parseFieldDescriptor (TX4 k).2.2.1 = some (tyX4 k) := by decide +kernel
abbrev cX4_init : ByteArray := prog_6_method_1_code
def yX4_init : MethodName := ⟨RX4, "<init>", "()V"⟩
abbrev cX4_thrown : ByteArray := prog_6_method_2_code
def yX4_thrown : MethodName := ⟨RX4, "thrown", "()I"⟩
abbrev cX4_no : ByteArray := prog_6_method_3_code
def yX4_no : MethodName := ⟨RX4, "no", "(I)I"⟩
abbrev cX4_isIn : ByteArray := prog_6_method_4_code
def yX4_isIn : MethodName := ⟨RX4, "isIn", "(III)Z"⟩
abbrev cX4_isWord : ByteArray := prog_6_method_5_code
def yX4_isWord : MethodName := ⟨RX4, "isWord", "(I)Z"⟩
abbrev cX4_isLine : ByteArray := prog_6_method_6_code
def yX4_isLine : MethodName := ⟨RX4, "isLine", "(I)Z"⟩
abbrev cX4_word : ByteArray := prog_6_method_7_code
def yX4_word : MethodName := ⟨RX4, "word", "(IIIIZ)I"⟩
abbrev cX4_aboutTold : ByteArray := prog_6_method_8_code
def yX4_aboutTold : MethodName := ⟨RX4, "aboutTold", "(II)I"⟩
abbrev cX4_about : ByteArray := prog_6_method_9_code
def yX4_about : MethodName := ⟨RX4, "about", "(II)I"⟩
abbrev cX4_line : ByteArray := prog_6_method_10_code
def yX4_line : MethodName := ⟨RX4, "line", "(III)I"⟩
abbrev cX4_write : ByteArray := prog_6_method_11_code
def yX4_write : MethodName := ⟨RX4, "write", "(III)I"⟩
abbrev cX4_strike : ByteArray := prog_6_method_12_code
def yX4_strike : MethodName := ⟨RX4, "strike", "(I)I"⟩
abbrev cX4_written : ByteArray := prog_6_method_13_code
def yX4_written : MethodName := ⟨RX4, "written", "(II)I"⟩
abbrev cX4_melts : ByteArray := prog_6_method_14_code
def yX4_melts : MethodName := ⟨RX4, "melts", "(II)Z"⟩
abbrev cX4_putOwn : ByteArray := prog_6_method_15_code
def yX4_putOwn : MethodName := ⟨RX4, "putOwn", "(II)I"⟩
abbrev cX4_beat : ByteArray := prog_6_method_16_code
def yX4_beat : MethodName := ⟨RX4, "beat", "(II)I"⟩
abbrev cX4_room : ByteArray := prog_6_method_17_code
def yX4_room : MethodName := ⟨RX4, "room", "(I)I"⟩
abbrev cX4_lacks : ByteArray := prog_6_method_18_code
def yX4_lacks : MethodName := ⟨RX4, "lacks", "(I)I"⟩
abbrev cX4_last : ByteArray := prog_6_method_19_code
def yX4_last : MethodName := ⟨RX4, "last", "(I)I"⟩
abbrev cX4_lastStress : ByteArray := prog_6_method_20_code
def yX4_lastStress : MethodName := ⟨RX4, "lastStress", "(II)I"⟩
abbrev cX4_rhymeOf : ByteArray := prog_6_method_21_code
def yX4_rhymeOf : MethodName := ⟨RX4, "rhymeOf", "(II)I"⟩
abbrev cX4_rhymeAhead : ByteArray := prog_6_method_22_code
def yX4_rhymeAhead : MethodName := ⟨RX4, "rhymeAhead", "(I)I"⟩
abbrev cX4_scan : ByteArray := prog_6_method_23_code
def yX4_scan : MethodName := ⟨RX4, "scan", "()I"⟩
abbrev cX4_toldOf : ByteArray := prog_6_method_24_code
def yX4_toldOf : MethodName := ⟨RX4, "toldOf", "(II)I"⟩
abbrev cX4_told : ByteArray := prog_6_method_25_code
def yX4_told : MethodName := ⟨RX4, "told", "(II)I"⟩
abbrev cX4_stress : ByteArray := prog_6_method_26_code
def yX4_stress : MethodName := ⟨RX4, "stress", "(II)I"⟩
abbrev cX4_melted : ByteArray := prog_6_method_27_code
def yX4_melted : MethodName := ⟨RX4, "melted", "(I)I"⟩
abbrev cX4_rhyme : ByteArray := prog_6_method_28_code
def yX4_rhyme : MethodName := ⟨RX4, "rhyme", "(II)I"⟩
abbrev cX4_scans : ByteArray := prog_6_method_29_code
def yX4_scans : MethodName := ⟨RX4, "scans", "(I)I"⟩
abbrev cX4_counted : ByteArray := prog_6_method_30_code
def yX4_counted : MethodName := ⟨RX4, "counted", "(I)I"⟩
abbrev cX4_count : ByteArray := prog_6_method_31_code
def yX4_count : MethodName := ⟨RX4, "count", "(I)I"⟩
abbrev cX4_taxesWith : ByteArray := prog_6_method_32_code
def yX4_taxesWith : MethodName := ⟨RX4, "taxesWith", "(II)I"⟩
abbrev cX4_tries : ByteArray := prog_6_method_33_code
def yX4_tries : MethodName := ⟨RX4, "tries", "(III)I"⟩
abbrev cX4_best : ByteArray := prog_6_method_34_code
def yX4_best : MethodName := ⟨RX4, "best", "(II)I"⟩
abbrev cX4_worst : ByteArray := prog_6_method_35_code
def yX4_worst : MethodName := ⟨RX4, "worst", "()I"⟩
abbrev cX4_mean : ByteArray := prog_6_method_36_code
def yX4_mean : MethodName := ⟨RX4, "mean", "()D"⟩
abbrev cX4_digest : ByteArray := prog_6_method_37_code
def yX4_digest : MethodName := ⟨RX4, "digest", "()J"⟩
def RJx145de : String := "java/io/Serializable"
def TJx145de : u_T := fun k => match k with
  | _ => ("", "", "", false)
def tyJx145de : Nat → FieldType := fun k => match k with
  | _ => .int
abbrev wsJx145de0 : List Cond := u_ws RJx145de TJx145de 0
theorem nmJx145de : ∀ a, a < 0 → ∀ b, b < 0 → a ≠ b → (TJx145de a).2.1 ≠ (TJx145de b).2.1 := by decide +kernel
theorem tyJx145de_ok : ∀ k, k < 0 → parseFieldDescriptor (TJx145de k).2.2.1 = some (tyJx145de k) := by decide +kernel
def RJx8e188 : String := "java/lang/Cloneable"
def TJx8e188 : u_T := fun k => match k with
  | _ => ("", "", "", false)
def tyJx8e188 : Nat → FieldType := fun k => match k with
  | _ => .int
abbrev wsJx8e1880 : List Cond := u_ws RJx8e188 TJx8e188 0
theorem nmJx8e188 : ∀ a, a < 0 → ∀ b, b < 0 → a ≠ b → (TJx8e188 a).2.1 ≠ (TJx8e188 b).2.1 := by decide +kernel
theorem tyJx8e188_ok : ∀ k, k < 0 → parseFieldDescriptor (TJx8e188 k).2.2.1 = some (tyJx8e188 k) := by decide +kernel
def RJ6 : String := "java/lang/Integer"
def TJ6 : u_T := fun k => match k with
  | _ => ("", "", "", false)
def tyJ6 : Nat → FieldType := fun k => match k with
  | _ => .int
abbrev wsJ60 : List Cond := u_ws RJ6 TJ6 0
theorem nmJ6 : ∀ a, a < 0 → ∀ b, b < 0 → a ≠ b → (TJ6 a).2.1 ≠ (TJ6 b).2.1 := by decide +kernel
theorem tyJ6_ok : ∀ k, k < 0 → parseFieldDescriptor (TJ6 k).2.2.1 = some (tyJ6 k) := by decide +kernel
abbrev cJ6_bitCount_0f7a4 : ByteArray := prog_13_method_49_code
def yJ6_bitCount_0f7a4 : MethodName := ⟨RJ6, "bitCount", "(I)I"⟩
def RJxab1ab : String := "java/lang/Iterable"
def TJxab1ab : u_T := fun k => match k with
  | _ => ("", "", "", false)
def tyJxab1ab : Nat → FieldType := fun k => match k with
  | _ => .int
abbrev wsJxab1ab0 : List Cond := u_ws RJxab1ab TJxab1ab 0
theorem nmJxab1ab : ∀ a, a < 0 → ∀ b, b < 0 → a ≠ b → (TJxab1ab a).2.1 ≠ (TJxab1ab b).2.1 := by decide +kernel
theorem tyJxab1ab_ok : ∀ k, k < 0 → parseFieldDescriptor (TJxab1ab k).2.2.1 = some (tyJxab1ab k) := by decide +kernel
def RJ13 : String := "java/lang/Long"
def TJ13 : u_T := fun k => match k with
  | _ => ("", "", "", false)
def tyJ13 : Nat → FieldType := fun k => match k with
  | _ => .int
abbrev wsJ130 : List Cond := u_ws RJ13 TJ13 0
theorem nmJ13 : ∀ a, a < 0 → ∀ b, b < 0 → a ≠ b → (TJ13 a).2.1 ≠ (TJ13 b).2.1 := by decide +kernel
theorem tyJ13_ok : ∀ k, k < 0 → parseFieldDescriptor (TJ13 k).2.2.1 = some (tyJ13 k) := by decide +kernel
abbrev cJ13_bitCount_95d88 : ByteArray := prog_15_method_50_code
def yJ13_bitCount_95d88 : MethodName := ⟨RJ13, "bitCount", "(J)I"⟩
def RJ9 : String := "java/lang/Math"
def TJ9 : u_T := fun k => match k with
  | _ => ("", "", "", false)
def tyJ9 : Nat → FieldType := fun k => match k with
  | _ => .int
abbrev wsJ90 : List Cond := u_ws RJ9 TJ9 0
theorem nmJ9 : ∀ a, a < 0 → ∀ b, b < 0 → a ≠ b → (TJ9 a).2.1 ≠ (TJ9 b).2.1 := by decide +kernel
theorem tyJ9_ok : ∀ k, k < 0 → parseFieldDescriptor (TJ9 k).2.2.1 = some (tyJ9 k) := by decide +kernel
abbrev cJ9_max_7cf53 : ByteArray := prog_16_method_65_code
def yJ9_max_7cf53 : MethodName := ⟨RJ9, "max", "(II)I"⟩
abbrev cJ9_min_7cf53 : ByteArray := prog_16_method_69_code
def yJ9_min_7cf53 : MethodName := ⟨RJ9, "min", "(II)I"⟩
def RJ0 : String := "java/lang/String"
def TJ0 : u_T := fun k => match k with
  | _ => ("", "", "", false)
def tyJ0 : Nat → FieldType := fun k => match k with
  | _ => .int
abbrev wsJ00 : List Cond := u_ws RJ0 TJ0 0
theorem nmJ0 : ∀ a, a < 0 → ∀ b, b < 0 → a ≠ b → (TJ0 a).2.1 ≠ (TJ0 b).2.1 := by decide +kernel
theorem tyJ0_ok : ∀ k, k < 0 → parseFieldDescriptor (TJ0 k).2.2.1 = some (tyJ0 k) := by decide +kernel
def RJ10 : String := "java/lang/System"
def TJ10 : u_T := fun k => match k with
  | _ => ("", "", "", false)
def tyJ10 : Nat → FieldType := fun k => match k with
  | _ => .int
abbrev wsJ100 : List Cond := u_ws RJ10 TJ10 0
theorem nmJ10 : ∀ a, a < 0 → ∀ b, b < 0 → a ≠ b → (TJ10 a).2.1 ≠ (TJ10 b).2.1 := by decide +kernel
theorem tyJ10_ok : ∀ k, k < 0 → parseFieldDescriptor (TJ10 k).2.2.1 = some (tyJ10 k) := by decide +kernel
def RJxa1e45 : String := "java/util/AbstractCollection"
def TJxa1e45 : u_T := fun k => match k with
  | _ => ("", "", "", false)
def tyJxa1e45 : Nat → FieldType := fun k => match k with
  | _ => .int
abbrev wsJxa1e450 : List Cond := u_ws RJxa1e45 TJxa1e45 0
theorem nmJxa1e45 : ∀ a, a < 0 → ∀ b, b < 0 → a ≠ b → (TJxa1e45 a).2.1 ≠ (TJxa1e45 b).2.1 := by decide +kernel
theorem tyJxa1e45_ok : ∀ k, k < 0 → parseFieldDescriptor (TJxa1e45 k).2.2.1 = some (tyJxa1e45 k) := by decide +kernel
abbrev cJxa1e45_init_da8c8 : ByteArray := prog_21_method_1_code
def yJxa1e45_init_da8c8 : MethodName := ⟨RJxa1e45, "<init>", "()V"⟩
def RJxc12de : String := "java/util/AbstractList"
def TJxc12de : u_T := fun k => match k with
  | _ => ("", "", "", false)
def tyJxc12de : Nat → FieldType := fun k => match k with
  | _ => .int
abbrev wsJxc12de0 : List Cond := u_ws RJxc12de TJxc12de 0
theorem nmJxc12de : ∀ a, a < 0 → ∀ b, b < 0 → a ≠ b → (TJxc12de a).2.1 ≠ (TJxc12de b).2.1 := by decide +kernel
theorem tyJxc12de_ok : ∀ k, k < 0 → parseFieldDescriptor (TJxc12de k).2.2.1 = some (tyJxc12de k) := by decide +kernel
abbrev cJxc12de_init_da8c8 : ByteArray := prog_22_method_1_code
def yJxc12de_init_da8c8 : MethodName := ⟨RJxc12de, "<init>", "()V"⟩
def RJx4a65c : String := "java/util/ArrayList"
def TJx4a65c : u_T := fun k => match k with
  | 0 => ("java/util/AbstractList", "modCount", "I", false)
  | 1 => ("java/util/ArrayList", "elementData", "[Ljava/lang/Object;", false)
  | _ => ("java/util/ArrayList", "size", "I", false)
def tyJx4a65c : Nat → FieldType := fun k => match k with
  | 0 => .int
  | 1 => .array (.object "java/lang/Object")
  | _ => .int
abbrev wsJx4a65c0 : List Cond := u_ws RJx4a65c TJx4a65c 3
theorem nmJx4a65c : ∀ a, a < 3 → ∀ b, b < 3 → a ≠ b → (TJx4a65c a).2.1 ≠ (TJx4a65c b).2.1 := by decide +kernel
theorem tyJx4a65c_ok : ∀ k, k < 3 → parseFieldDescriptor (TJx4a65c k).2.2.1 = some (tyJx4a65c k) := by decide +kernel
abbrev cJx4a65c_init_da8c8 : ByteArray := prog_23_method_2_code
def yJx4a65c_init_da8c8 : MethodName := ⟨RJx4a65c, "<init>", "()V"⟩
abbrev cJx4a65c_grow_92f84 : ByteArray := prog_23_method_6_code
def yJx4a65c_grow_92f84 : MethodName := ⟨RJx4a65c, "grow", "(I)[Ljava/lang/Object;"⟩
abbrev cJx4a65c_grow_d5877 : ByteArray := prog_23_method_7_code
def yJx4a65c_grow_d5877 : MethodName := ⟨RJx4a65c, "grow", "()[Ljava/lang/Object;"⟩
abbrev cJx4a65c_size_8abf5 : ByteArray := prog_23_method_8_code
def yJx4a65c_size_8abf5 : MethodName := ⟨RJx4a65c, "size", "()I"⟩
abbrev cJx4a65c_isEmpty_aae02 : ByteArray := prog_23_method_9_code
def yJx4a65c_isEmpty_aae02 : MethodName := ⟨RJx4a65c, "isEmpty", "()Z"⟩
abbrev cJx4a65c_elementData_915e3 : ByteArray := prog_23_method_18_code
def yJx4a65c_elementData_915e3 : MethodName := ⟨RJx4a65c, "elementData", "(I)Ljava/lang/Object;"⟩
abbrev cJx4a65c_get_915e3 : ByteArray := prog_23_method_20_code
def yJx4a65c_get_915e3 : MethodName := ⟨RJx4a65c, "get", "(I)Ljava/lang/Object;"⟩
abbrev cJx4a65c_set_bcc79 : ByteArray := prog_23_method_23_code
def yJx4a65c_set_bcc79 : MethodName := ⟨RJx4a65c, "set", "(ILjava/lang/Object;)Ljava/lang/Object;"⟩
abbrev cJx4a65c_add_72be8 : ByteArray := prog_23_method_24_code
def yJx4a65c_add_72be8 : MethodName := ⟨RJx4a65c, "add", "(Ljava/lang/Object;[Ljava/lang/Object;I)V"⟩
abbrev cJx4a65c_add_9ea2d : ByteArray := prog_23_method_25_code
def yJx4a65c_add_9ea2d : MethodName := ⟨RJx4a65c, "add", "(Ljava/lang/Object;)Z"⟩
abbrev cJx4a65c_remove_915e3 : ByteArray := prog_23_method_29_code
def yJx4a65c_remove_915e3 : MethodName := ⟨RJx4a65c, "remove", "(I)Ljava/lang/Object;"⟩
abbrev cJx4a65c_fastRemove_b59b0 : ByteArray := prog_23_method_39_code
def yJx4a65c_fastRemove_b59b0 : MethodName := ⟨RJx4a65c, "fastRemove", "([Ljava/lang/Object;I)V"⟩
def RJ7 : String := "java/util/Arrays"
def TJ7 : u_T := fun k => match k with
  | _ => ("", "", "", false)
def tyJ7 : Nat → FieldType := fun k => match k with
  | _ => .int
abbrev wsJ70 : List Cond := u_ws RJ7 TJ7 0
theorem nmJ7 : ∀ a, a < 0 → ∀ b, b < 0 → a ≠ b → (TJ7 a).2.1 ≠ (TJ7 b).2.1 := by decide +kernel
theorem tyJ7_ok : ∀ k, k < 0 → parseFieldDescriptor (TJ7 k).2.2.1 = some (tyJ7 k) := by decide +kernel
abbrev cJ7_copyOf_1904c : ByteArray := prog_24_method_119_code
def yJ7_copyOf_1904c : MethodName := ⟨RJ7, "copyOf", "([Ljava/lang/Object;I)[Ljava/lang/Object;"⟩
abbrev cJ7_copyOf_6403c : ByteArray := prog_24_method_120_code
def yJ7_copyOf_6403c : MethodName := ⟨RJ7, "copyOf", "([Ljava/lang/Object;ILjava/lang/Class;)[Ljava/lang/Object;"⟩
def RJx5ef63 : String := "java/util/Collection"
def TJx5ef63 : u_T := fun k => match k with
  | _ => ("", "", "", false)
def tyJx5ef63 : Nat → FieldType := fun k => match k with
  | _ => .int
abbrev wsJx5ef630 : List Cond := u_ws RJx5ef63 TJx5ef63 0
theorem nmJx5ef63 : ∀ a, a < 0 → ∀ b, b < 0 → a ≠ b → (TJx5ef63 a).2.1 ≠ (TJx5ef63 b).2.1 := by decide +kernel
theorem tyJx5ef63_ok : ∀ k, k < 0 → parseFieldDescriptor (TJx5ef63 k).2.2.1 = some (tyJx5ef63 k) := by decide +kernel
def RJxbd725 : String := "java/util/List"
def TJxbd725 : u_T := fun k => match k with
  | _ => ("", "", "", false)
def tyJxbd725 : Nat → FieldType := fun k => match k with
  | _ => .int
abbrev wsJxbd7250 : List Cond := u_ws RJxbd725 TJxbd725 0
theorem nmJxbd725 : ∀ a, a < 0 → ∀ b, b < 0 → a ≠ b → (TJxbd725 a).2.1 ≠ (TJxbd725 b).2.1 := by decide +kernel
theorem tyJxbd725_ok : ∀ k, k < 0 → parseFieldDescriptor (TJxbd725 k).2.2.1 = some (tyJxbd725 k) := by decide +kernel
def RJ15 : String := "java/util/Objects"
def TJ15 : u_T := fun k => match k with
  | _ => ("", "", "", false)
def tyJ15 : Nat → FieldType := fun k => match k with
  | _ => .int
abbrev wsJ150 : List Cond := u_ws RJ15 TJ15 0
theorem nmJ15 : ∀ a, a < 0 → ∀ b, b < 0 → a ≠ b → (TJ15 a).2.1 ≠ (TJ15 b).2.1 := by decide +kernel
theorem tyJ15_ok : ∀ k, k < 0 → parseFieldDescriptor (TJ15 k).2.2.1 = some (tyJ15 k) := by decide +kernel
abbrev cJ15_checkIndex_7cf53 : ByteArray := prog_27_method_17_code
def yJ15_checkIndex_7cf53 : MethodName := ⟨RJ15, "checkIndex", "(II)I"⟩
def RJxf0a74 : String := "java/util/RandomAccess"
def TJxf0a74 : u_T := fun k => match k with
  | _ => ("", "", "", false)
def tyJxf0a74 : Nat → FieldType := fun k => match k with
  | _ => .int
abbrev wsJxf0a740 : List Cond := u_ws RJxf0a74 TJxf0a74 0
theorem nmJxf0a74 : ∀ a, a < 0 → ∀ b, b < 0 → a ≠ b → (TJxf0a74 a).2.1 ≠ (TJxf0a74 b).2.1 := by decide +kernel
theorem tyJxf0a74_ok : ∀ k, k < 0 → parseFieldDescriptor (TJxf0a74 k).2.2.1 = some (tyJxf0a74 k) := by decide +kernel
def RJxa66e6 : String := "java/util/SequencedCollection"
def TJxa66e6 : u_T := fun k => match k with
  | _ => ("", "", "", false)
def tyJxa66e6 : Nat → FieldType := fun k => match k with
  | _ => .int
abbrev wsJxa66e60 : List Cond := u_ws RJxa66e6 TJxa66e6 0
theorem nmJxa66e6 : ∀ a, a < 0 → ∀ b, b < 0 → a ≠ b → (TJxa66e6 a).2.1 ≠ (TJxa66e6 b).2.1 := by decide +kernel
theorem tyJxa66e6_ok : ∀ k, k < 0 → parseFieldDescriptor (TJxa66e6 k).2.2.1 = some (tyJxa66e6 k) := by decide +kernel
def RJ8 : String := "jdk/internal/util/ArraysSupport"
def TJ8 : u_T := fun k => match k with
  | _ => ("", "", "", false)
def tyJ8 : Nat → FieldType := fun k => match k with
  | _ => .int
abbrev wsJ80 : List Cond := u_ws RJ8 TJ8 0
theorem nmJ8 : ∀ a, a < 0 → ∀ b, b < 0 → a ≠ b → (TJ8 a).2.1 ≠ (TJ8 b).2.1 := by decide +kernel
theorem tyJ8_ok : ∀ k, k < 0 → parseFieldDescriptor (TJ8 k).2.2.1 = some (tyJ8 k) := by decide +kernel
abbrev cJ8_newLength_cabcc : ByteArray := prog_30_method_27_code
def yJ8_newLength_cabcc : MethodName := ⟨RJ8, "newLength", "(III)I"⟩
abbrev cJ8_hugeLength_7cf53 : ByteArray := prog_30_method_28_code
def yJ8_hugeLength_7cf53 : MethodName := ⟨RJ8, "hugeLength", "(II)I"⟩
def RJ3 : String := "jdk/internal/util/Preconditions"
def TJ3 : u_T := fun k => match k with
  | _ => ("", "", "", false)
def tyJ3 : Nat → FieldType := fun k => match k with
  | _ => .int
abbrev wsJ30 : List Cond := u_ws RJ3 TJ3 0
theorem nmJ3 : ∀ a, a < 0 → ∀ b, b < 0 → a ≠ b → (TJ3 a).2.1 ≠ (TJ3 b).2.1 := by decide +kernel
theorem tyJ3_ok : ∀ k, k < 0 → parseFieldDescriptor (TJ3 k).2.2.1 = some (tyJ3 k) := by decide +kernel
abbrev cJ3_checkIndex_8e157 : ByteArray := prog_31_method_11_code
def yJ3_checkIndex_8e157 : MethodName := ⟨RJ3, "checkIndex", "(IILjava/util/function/BiFunction;)I"⟩
def RL : String := "RhymeTaxLaw"
abbrev cL_word : ByteArray := method_3_code
def yL_word : MethodName := ⟨RL, "word", "(LRhymeTax;IIIIZ[J)I"⟩
abbrev cL_about : ByteArray := method_4_code
def yL_about : MethodName := ⟨RL, "about", "(LRhymeTax;II[J)I"⟩
abbrev cL_line : ByteArray := method_5_code
def yL_line : MethodName := ⟨RL, "line", "(LRhymeTax;III[J)I"⟩
abbrev cL_write : ByteArray := method_6_code
def yL_write : MethodName := ⟨RL, "write", "(LRhymeTax;III[J)I"⟩
abbrev cL_strike : ByteArray := method_7_code
def yL_strike : MethodName := ⟨RL, "strike", "(LRhymeTax;I[J)I"⟩
abbrev cL_written : ByteArray := method_8_code
def yL_written : MethodName := ⟨RL, "written", "(LRhymeTax;II[J)I"⟩
abbrev cL_told : ByteArray := method_9_code
def yL_told : MethodName := ⟨RL, "told", "(LRhymeTax;II[J)I"⟩
abbrev cL_stress : ByteArray := method_10_code
def yL_stress : MethodName := ⟨RL, "stress", "(LRhymeTax;II[J)I"⟩
abbrev cL_melted : ByteArray := method_11_code
def yL_melted : MethodName := ⟨RL, "melted", "(LRhymeTax;I[J)I"⟩
abbrev cL_rhyme : ByteArray := method_12_code
def yL_rhyme : MethodName := ⟨RL, "rhyme", "(LRhymeTax;II[J)I"⟩
abbrev cL_scans : ByteArray := method_13_code
def yL_scans : MethodName := ⟨RL, "scans", "(LRhymeTax;I[J)I"⟩
abbrev cL_count : ByteArray := method_14_code
def yL_count : MethodName := ⟨RL, "count", "(LRhymeTax;I[J)I"⟩
abbrev cL_tries : ByteArray := method_15_code
def yL_tries : MethodName := ⟨RL, "tries", "(LRhymeTax;III[J)I"⟩
abbrev cL_best : ByteArray := method_16_code
def yL_best : MethodName := ⟨RL, "best", "(LRhymeTax;II[J)I"⟩
abbrev cL_law : ByteArray := code
def yL_law : MethodName := ⟨RL, "law", "([I)Z"⟩
abbrev vwCl : List vw_C := [(RJx4a65c, TJx4a65c, 3), (RX0, TX0, 2), (RX1, TX1, 17), (RX2, TX2, 6), (RX3, TX3, 3), (RX4, TX4, 21)]
end
section
set_option maxRecDepth 100000 in
def wsL_law : List Cond := k2_sels lw_privs ++ tables_1.filter goodWord
theorem wsL_of {w : Cond} (h : w ∈ lw_tbl) (hg : goodWord w = true) : w ∈ wsL_law := (List.mem_append.mp h).elim (fun h => List.mem_append_left _ h) (fun h => List.mem_append_right _ (List.mem_filter.mpr ⟨h, hg⟩))
theorem wsL_ot {w : Cond} (h : w ∈ tables_1) (hg : goodWord w = true) : w ∈ wsL_law := List.mem_append_right _ (List.mem_filter.mpr ⟨h, hg⟩)
theorem wsL_law_in : ∀ w ∈ wsL_law, w ∈ lw_tbl := fun w h => (List.mem_append.mp h).elim (fun h => List.mem_append_left _ h) (fun h => List.mem_append_right _ (List.mem_filter.mp h).1)
theorem wsL_gi : GoodIn wsL_law wsL_law := fun w h => ⟨h, (List.mem_append.mp h).elim (fun h => by obtain ⟨q, -, rfl⟩ := List.mem_map.mp h; exact Or.inl rfl) (fun h => good_of_word (List.mem_filter.mp h).2)⟩
theorem q0 : Cond.code yX0_init cX0_init 1 none ∈ wsL_law := wsL_ot (List.mem_of_getElem? (i := 61) (by decide +kernel)) rfl
theorem q1 : Cond.code yX3_lowBits cX3_lowBits 1 (some .long) ∈ wsL_law := wsL_ot (List.mem_of_getElem? (i := 209) (by decide +kernel)) rfl
theorem q2 : Cond.code yX0_cutBehind cX0_cutBehind 3 none ∈ wsL_law := wsL_ot (List.mem_of_getElem? (i := 206) (by decide +kernel)) rfl
theorem q3 : Cond.code yX0_addTo cX0_addTo 4 none ∈ wsL_law := wsL_ot (List.mem_of_getElem? (i := 223) (by decide +kernel)) rfl
theorem q4 : Cond.code yX0_add cX0_add 6 none ∈ wsL_law := wsL_ot (List.mem_of_getElem? (i := 219) (by decide +kernel)) rfl
theorem q5 : Cond.code yX0_cellAt cX0_cellAt 2 (some .long) ∈ wsL_law := wsL_ot (List.mem_of_getElem? (i := 235) (by decide +kernel)) rfl
theorem q6 : Cond.code yX0_read cX0_read 7 (some .long) ∈ wsL_law := wsL_ot (List.mem_of_getElem? (i := 231) (by decide +kernel)) rfl
theorem q7 : Cond.code yJxa1e45_init_da8c8 cJxa1e45_init_da8c8 1 none ∈ wsL_law := wsL_ot (List.mem_of_getElem? (i := 41) (by decide +kernel)) rfl
theorem q8 : Cond.code yJxc12de_init_da8c8 cJxc12de_init_da8c8 1 none ∈ wsL_law := wsL_ot (List.mem_of_getElem? (i := 38) (by decide +kernel)) rfl
theorem q9 : Cond.code yJx4a65c_init_da8c8 cJx4a65c_init_da8c8 1 none ∈ wsL_law := wsL_ot (List.mem_of_getElem? (i := 35) (by decide +kernel)) rfl
theorem q10 : Cond.methodLink RX1 1 objectInit ∈ wsL_law := wsL_ot (List.mem_of_getElem? (i := 508) (by decide +kernel)) rfl
theorem q11 : Cond.instanceMethod objectInit ∈ wsL_law := wsL_ot (List.mem_of_getElem? (i := 29) (by decide +kernel)) rfl
theorem q12 : Cond.code objectInit ⟨#[0xb1]⟩ 1 none ∈ wsL_law := wsL_ot (List.mem_of_getElem? (i := 30) (by decide +kernel)) rfl
theorem q13 : Cond.fieldLink RX1 7 "RhymeTax$Line" "metre" "I" ∈ wsL_law := wsL_ot (List.mem_of_getElem? (i := 511) (by decide +kernel)) rfl
theorem q14 : Cond.fieldLink RX1 13 "RhymeTax$Line" "feet" "I" ∈ wsL_law := wsL_ot (List.mem_of_getElem? (i := 512) (by decide +kernel)) rfl
theorem q15 : Cond.fieldLink RX1 16 "RhymeTax$Line" "mark" "I" ∈ wsL_law := wsL_ot (List.mem_of_getElem? (i := 513) (by decide +kernel)) rfl
theorem q16 : Cond.fieldLink RX1 19 "RhymeTax$Line" "partner" "LRhymeTax$Line;" ∈ wsL_law := wsL_ot (List.mem_of_getElem? (i := 515) (by decide +kernel)) rfl
theorem q17 : Cond.classLink RX1 23 RJx4a65c ∈ wsL_law := wsL_ot (List.mem_of_getElem? (i := 509) (by decide +kernel)) rfl
theorem q18 : Cond.instantiable RJx4a65c 3 ∈ wsL_law := wsL_ot (List.mem_of_getElem? (i := 32) (by decide +kernel)) rfl
theorem q19 : Cond.initialized RJx4a65c ∈ wsL_law := wsL_ot (List.mem_of_getElem? (i := 4) (by decide +kernel)) rfl
theorem q20 : Cond.fieldLink RX1 26 "RhymeTax$Line" "row" "Ljava/util/ArrayList;" ∈ wsL_law := wsL_ot (List.mem_of_getElem? (i := 516) (by decide +kernel)) rfl
theorem q21 : Cond.methodLink RX1 25 yJx4a65c_init_da8c8 ∈ wsL_law := wsL_ot (List.mem_of_getElem? (i := 510) (by decide +kernel)) rfl
theorem q22 : Cond.instanceMethod yJx4a65c_init_da8c8 ∈ wsL_law := wsL_ot (List.mem_of_getElem? (i := 34) (by decide +kernel)) rfl
theorem q23 : Cond.fieldLink RJx4a65c 39 "java/util/ArrayList" "DEFAULTCAPACITY_EMPTY_ELEMENTDATA" "[Ljava/lang/Object;" ∈ wsL_law := wsL_ot (List.mem_of_getElem? (i := 43) (by decide +kernel)) rfl
theorem q24 : Cond.fieldLink RJx4a65c 9 "java/util/ArrayList" "elementData" "[Ljava/lang/Object;" ∈ wsL_law := wsL_ot (List.mem_of_getElem? (i := 45) (by decide +kernel)) rfl
theorem q25 : Cond.methodLink RJx4a65c 1 yJxc12de_init_da8c8 ∈ wsL_law := wsL_ot (List.mem_of_getElem? (i := 36) (by decide +kernel)) rfl
theorem q26 : Cond.instanceMethod yJxc12de_init_da8c8 ∈ wsL_law := wsL_ot (List.mem_of_getElem? (i := 37) (by decide +kernel)) rfl
theorem q27 : Cond.initialized RJxc12de ∈ wsL_law := wsL_ot (List.mem_of_getElem? (i := 3) (by decide +kernel)) rfl
theorem q28 : Cond.fieldLink RJxc12de 7 "java/util/AbstractList" "modCount" "I" ∈ wsL_law := wsL_ot (List.mem_of_getElem? (i := 47) (by decide +kernel)) rfl
theorem q29 : Cond.methodLink RJxc12de 1 yJxa1e45_init_da8c8 ∈ wsL_law := wsL_ot (List.mem_of_getElem? (i := 39) (by decide +kernel)) rfl
theorem q30 : Cond.instanceMethod yJxa1e45_init_da8c8 ∈ wsL_law := wsL_ot (List.mem_of_getElem? (i := 40) (by decide +kernel)) rfl
theorem q31 : Cond.initialized RJxa1e45 ∈ wsL_law := wsL_ot (List.mem_of_getElem? (i := 2) (by decide +kernel)) rfl
theorem q32 : Cond.methodLink RJxa1e45 1 objectInit ∈ wsL_law := wsL_ot (List.mem_of_getElem? (i := 42) (by decide +kernel)) rfl
theorem q33 : Cond.code yX1_init cX1_init 5 none ∈ wsL_law := wsL_ot (List.mem_of_getElem? (i := 507) (by decide +kernel)) rfl
theorem q34 : Cond.code yJx4a65c_size_8abf5 cJx4a65c_size_8abf5 1 (some .int) ∈ wsL_law := wsL_ot (List.mem_of_getElem? (i := 93) (by decide +kernel)) rfl
theorem q35 : Cond.code yJ3_checkIndex_8e157 cJ3_checkIndex_8e157 3 (some .int) ∈ wsL_law := wsL_ot (List.mem_of_getElem? (i := 103) (by decide +kernel)) rfl
theorem q36 : Cond.code yJ15_checkIndex_7cf53 cJ15_checkIndex_7cf53 2 (some .int) ∈ wsL_law := wsL_ot (List.mem_of_getElem? (i := 100) (by decide +kernel)) rfl
theorem q37 : Cond.code yJx4a65c_elementData_915e3 cJx4a65c_elementData_915e3 2 (some (.object "java/lang/Object")) ∈ wsL_law := wsL_ot (List.mem_of_getElem? (i := 107) (by decide +kernel)) rfl
theorem q38 : Cond.code yJx4a65c_get_915e3 cJx4a65c_get_915e3 2 (some (.object "java/lang/Object")) ∈ wsL_law := wsL_ot (List.mem_of_getElem? (i := 97) (by decide +kernel)) rfl
theorem q39 : Cond.classLink RX1 38 "RhymeTax$Word" ∈ wsL_law := wsL_ot (List.mem_of_getElem? (i := 194) (by decide +kernel)) rfl
theorem q40 : Cond.methodLink RX1 30 yJx4a65c_size_8abf5 ∈ wsL_law := wsL_ot (List.mem_of_getElem? (i := 126) (by decide +kernel)) rfl
theorem q41 : Cond.instanceMethod yJx4a65c_size_8abf5 ∈ wsL_law := wsL_ot (List.mem_of_getElem? (i := 91) (by decide +kernel)) rfl
theorem q42 : Cond.selects RJx4a65c yJx4a65c_size_8abf5 yJx4a65c_size_8abf5 ∈ wsL_law := wsL_ot (List.mem_of_getElem? (i := 92) (by decide +kernel)) rfl
theorem q43 : Cond.fieldLink RJx4a65c 48 "java/util/ArrayList" "size" "I" ∈ wsL_law := wsL_ot (List.mem_of_getElem? (i := 46) (by decide +kernel)) rfl
theorem q44 : Cond.methodLink RX1 34 yJx4a65c_get_915e3 ∈ wsL_law := wsL_ot (List.mem_of_getElem? (i := 193) (by decide +kernel)) rfl
theorem q45 : Cond.instanceMethod yJx4a65c_get_915e3 ∈ wsL_law := wsL_ot (List.mem_of_getElem? (i := 95) (by decide +kernel)) rfl
theorem q46 : Cond.selects RJx4a65c yJx4a65c_get_915e3 yJx4a65c_get_915e3 ∈ wsL_law := wsL_ot (List.mem_of_getElem? (i := 96) (by decide +kernel)) rfl
theorem q47 : Cond.methodLink RJx4a65c 118 yJ15_checkIndex_7cf53 ∈ wsL_law := wsL_ot (List.mem_of_getElem? (i := 98) (by decide +kernel)) rfl
theorem q48 : Cond.static yJ15_checkIndex_7cf53 ∈ wsL_law := wsL_ot (List.mem_of_getElem? (i := 99) (by decide +kernel)) rfl
theorem q49 : Cond.initialized RJ15 ∈ wsL_law := wsL_ot (List.mem_of_getElem? (i := 18) (by decide +kernel)) rfl
theorem q50 : Cond.methodLink RJ15 105 yJ3_checkIndex_8e157 ∈ wsL_law := wsL_ot (List.mem_of_getElem? (i := 101) (by decide +kernel)) rfl
theorem q51 : Cond.static yJ3_checkIndex_8e157 ∈ wsL_law := wsL_ot (List.mem_of_getElem? (i := 102) (by decide +kernel)) rfl
theorem q52 : Cond.initialized RJ3 ∈ wsL_law := wsL_ot (List.mem_of_getElem? (i := 19) (by decide +kernel)) rfl
theorem q53 : Cond.methodLink RJx4a65c 123 yJx4a65c_elementData_915e3 ∈ wsL_law := wsL_ot (List.mem_of_getElem? (i := 104) (by decide +kernel)) rfl
theorem q54 : Cond.instanceMethod yJx4a65c_elementData_915e3 ∈ wsL_law := wsL_ot (List.mem_of_getElem? (i := 105) (by decide +kernel)) rfl
theorem q55 : Cond.selects RJx4a65c yJx4a65c_elementData_915e3 yJx4a65c_elementData_915e3 ∈ wsL_law := wsL_ot (List.mem_of_getElem? (i := 106) (by decide +kernel)) rfl
theorem q56 : Cond.code yX1_lastWord cX1_lastWord 2 (some (.object "RhymeTax$Word")) ∈ wsL_law := wsL_ot (List.mem_of_getElem? (i := 263) (by decide +kernel)) rfl
theorem q57 : Cond.fieldLink RX1 40 "RhymeTax$Word" "number" "I" ∈ wsL_law := wsL_ot (List.mem_of_getElem? (i := 434) (by decide +kernel)) rfl
theorem q58 : Cond.code yX1_usesOf cX1_usesOf 4 (some .int) ∈ wsL_law := wsL_ot (List.mem_of_getElem? (i := 321) (by decide +kernel)) rfl
theorem q59 : Cond.code yJ8_hugeLength_7cf53 cJ8_hugeLength_7cf53 3 (some .int) ∈ wsL_law := wsL_ot (List.mem_of_getElem? (i := 152) (by decide +kernel)) rfl
theorem q60 : Cond.code yJ8_newLength_cabcc cJ8_newLength_cabcc 4 (some .int) ∈ wsL_law := wsL_ot (List.mem_of_getElem? (i := 145) (by decide +kernel)) rfl
theorem q61 : Cond.code yJ7_copyOf_6403c cJ7_copyOf_6403c 4 (some (.array (.object "java/lang/Object"))) ∈ wsL_law := wsL_ot (List.mem_of_getElem? (i := 171) (by decide +kernel)) rfl
theorem q62 : Cond.code yJ7_copyOf_1904c cJ7_copyOf_1904c 2 (some (.array (.object "java/lang/Object"))) ∈ wsL_law := wsL_ot (List.mem_of_getElem? (i := 155) (by decide +kernel)) rfl
theorem q63 : Cond.methodLink RJx4a65c 79 Lib.Math.max.name ∈ wsL_law := wsL_ot (List.mem_of_getElem? (i := 181) (by decide +kernel)) rfl
theorem q64 : Cond.static Lib.Math.max.name ∈ wsL_law := wsL_ot (List.mem_of_getElem? (i := 147) (by decide +kernel)) rfl
theorem q65 : Cond.initialized "java/lang/Math" ∈ wsL_law := wsL_ot (List.mem_of_getElem? (i := 14) (by decide +kernel)) rfl
theorem q66 : Cond.code Lib.Math.max.name Lib.Math.max.code 2 (some .int) ∈ wsL_law := wsL_ot (List.mem_of_getElem? (i := 148) (by decide +kernel)) rfl
theorem q67 : Cond.classLink RJx4a65c 7 "java/lang/Object" ∈ wsL_law := wsL_ot (List.mem_of_getElem? (i := 182) (by decide +kernel)) rfl
theorem q68 : Cond.methodLink RJx4a65c 73 yJ8_newLength_cabcc ∈ wsL_law := wsL_ot (List.mem_of_getElem? (i := 143) (by decide +kernel)) rfl
theorem q69 : Cond.static yJ8_newLength_cabcc ∈ wsL_law := wsL_ot (List.mem_of_getElem? (i := 144) (by decide +kernel)) rfl
theorem q70 : Cond.initialized RJ8 ∈ wsL_law := wsL_ot (List.mem_of_getElem? (i := 13) (by decide +kernel)) rfl
theorem q71 : Cond.methodLink RJ8 194 Lib.Math.max.name ∈ wsL_law := wsL_ot (List.mem_of_getElem? (i := 146) (by decide +kernel)) rfl
theorem q72 : Cond.constant RJ8 200 (2147483639) ∈ wsL_law := wsL_ot (List.mem_of_getElem? (i := 149) (by decide +kernel)) rfl
theorem q73 : Cond.methodLink RJ8 201 yJ8_hugeLength_7cf53 ∈ wsL_law := wsL_ot (List.mem_of_getElem? (i := 150) (by decide +kernel)) rfl
theorem q74 : Cond.static yJ8_hugeLength_7cf53 ∈ wsL_law := wsL_ot (List.mem_of_getElem? (i := 151) (by decide +kernel)) rfl
theorem q75 : Cond.methodLink RJx4a65c 66 yJ7_copyOf_1904c ∈ wsL_law := wsL_ot (List.mem_of_getElem? (i := 153) (by decide +kernel)) rfl
theorem q76 : Cond.static yJ7_copyOf_1904c ∈ wsL_law := wsL_ot (List.mem_of_getElem? (i := 154) (by decide +kernel)) rfl
theorem q77 : Cond.initialized RJ7 ∈ wsL_law := wsL_ot (List.mem_of_getElem? (i := 15) (by decide +kernel)) rfl
theorem q78 : Cond.methodLink RJ7 86 ⟨"java/lang/Object", "getClass", "()Ljava/lang/Class;"⟩ ∈ wsL_law := wsL_ot (List.mem_of_getElem? (i := 156) (by decide +kernel)) rfl
theorem q79 : Cond.selects "[Ljava/lang/Object;" ⟨"java/lang/Object", "getClass", "()Ljava/lang/Class;"⟩ ⟨"java/lang/Object", "getClass", "()Ljava/lang/Class;"⟩ ∈ wsL_law := wsL_ot (List.mem_of_getElem? (i := 915) (by decide +kernel)) rfl
theorem q80 : Cond.instanceMethod ⟨"java/lang/Object", "getClass", "()Ljava/lang/Class;"⟩ ∈ wsL_law := wsL_ot (List.mem_of_getElem? (i := 157) (by decide +kernel)) rfl
theorem q81 : Cond.native ⟨"java/lang/Object", "getClass", "()Ljava/lang/Class;"⟩ ∈ wsL_law := wsL_ot (List.mem_of_getElem? (i := 168) (by decide +kernel)) rfl
theorem q82 : Cond.methodLink RJ7 300 yJ7_copyOf_6403c ∈ wsL_law := wsL_ot (List.mem_of_getElem? (i := 169) (by decide +kernel)) rfl
theorem q83 : Cond.static yJ7_copyOf_6403c ∈ wsL_law := wsL_ot (List.mem_of_getElem? (i := 170) (by decide +kernel)) rfl
theorem q84 : Cond.classLink RJ7 110 "[Ljava/lang/Object;" ∈ wsL_law := wsL_ot (List.mem_of_getElem? (i := 172) (by decide +kernel)) rfl
theorem q85 : Cond.classLink RJ7 2 "java/lang/Object" ∈ wsL_law := wsL_ot (List.mem_of_getElem? (i := 174) (by decide +kernel)) rfl
theorem q86 : Cond.methodLink RJ7 304 Lib.Math.min.name ∈ wsL_law := wsL_ot (List.mem_of_getElem? (i := 175) (by decide +kernel)) rfl
theorem q87 : Cond.static Lib.Math.min.name ∈ wsL_law := wsL_ot (List.mem_of_getElem? (i := 176) (by decide +kernel)) rfl
theorem q88 : Cond.code Lib.Math.min.name Lib.Math.min.code 2 (some .int) ∈ wsL_law := wsL_ot (List.mem_of_getElem? (i := 177) (by decide +kernel)) rfl
theorem q89 : Cond.methodLink RJ7 150 arraycopyName ∈ wsL_law := wsL_ot (List.mem_of_getElem? (i := 178) (by decide +kernel)) rfl
theorem q90 : Cond.native arraycopyName ∈ wsL_law := wsL_ot (List.mem_of_getElem? (i := 180) (by decide +kernel)) rfl
theorem q91 : Cond.static arraycopyName ∈ wsL_law := wsL_ot (List.mem_of_getElem? (i := 179) (by decide +kernel)) rfl
theorem q92 : Cond.initialized "java/lang/System" ∈ wsL_law := wsL_ot (List.mem_of_getElem? (i := 16) (by decide +kernel)) rfl
theorem q93 : Cond.code yJx4a65c_grow_92f84 cJx4a65c_grow_92f84 4 (some (.array (.object "java/lang/Object"))) ∈ wsL_law := wsL_ot (List.mem_of_getElem? (i := 142) (by decide +kernel)) rfl
theorem q94 : Cond.methodLink RJx4a65c 69 yJx4a65c_grow_92f84 ∈ wsL_law := wsL_ot (List.mem_of_getElem? (i := 139) (by decide +kernel)) rfl
theorem q95 : Cond.instanceMethod yJx4a65c_grow_92f84 ∈ wsL_law := wsL_ot (List.mem_of_getElem? (i := 141) (by decide +kernel)) rfl
theorem q96 : Cond.selects RJx4a65c yJx4a65c_grow_92f84 yJx4a65c_grow_92f84 ∈ wsL_law := List.mem_append_left _ (List.mem_of_getElem? (i := 5) rfl)
theorem q97 : Cond.code yJx4a65c_grow_d5877 cJx4a65c_grow_d5877 1 (some (.array (.object "java/lang/Object"))) ∈ wsL_law := wsL_ot (List.mem_of_getElem? (i := 138) (by decide +kernel)) rfl
theorem q98 : Cond.methodLink RJx4a65c 129 yJx4a65c_grow_d5877 ∈ wsL_law := wsL_ot (List.mem_of_getElem? (i := 135) (by decide +kernel)) rfl
theorem q99 : Cond.instanceMethod yJx4a65c_grow_d5877 ∈ wsL_law := wsL_ot (List.mem_of_getElem? (i := 137) (by decide +kernel)) rfl
theorem q100 : Cond.selects RJx4a65c yJx4a65c_grow_d5877 yJx4a65c_grow_d5877 ∈ wsL_law := List.mem_append_left _ (List.mem_of_getElem? (i := 4) rfl)
theorem q101 : Cond.code yJx4a65c_add_72be8 cJx4a65c_add_72be8 4 none ∈ wsL_law := wsL_ot (List.mem_of_getElem? (i := 134) (by decide +kernel)) rfl
theorem q102 : Cond.fieldLink RJx4a65c 63 "java/util/ArrayList" "modCount" "I" ∈ wsL_law := wsL_ot (List.mem_of_getElem? (i := 48) (by decide +kernel)) rfl
theorem q103 : Cond.sameField "java/util/ArrayList" "java/util/AbstractList" "modCount" "I" ∈ wsL_law := wsL_ot (List.mem_of_getElem? (i := 49) (by decide +kernel)) rfl
theorem q104 : Cond.methodLink RJx4a65c 131 yJx4a65c_add_72be8 ∈ wsL_law := wsL_ot (List.mem_of_getElem? (i := 131) (by decide +kernel)) rfl
theorem q105 : Cond.instanceMethod yJx4a65c_add_72be8 ∈ wsL_law := wsL_ot (List.mem_of_getElem? (i := 133) (by decide +kernel)) rfl
theorem q106 : Cond.selects RJx4a65c yJx4a65c_add_72be8 yJx4a65c_add_72be8 ∈ wsL_law := List.mem_append_left _ (List.mem_of_getElem? (i := 3) rfl)
theorem q107 : Cond.code yJx4a65c_add_9ea2d cJx4a65c_add_9ea2d 2 (some .boolean) ∈ wsL_law := wsL_ot (List.mem_of_getElem? (i := 130) (by decide +kernel)) rfl
theorem q108 : Cond.code yX3_isBelow cX3_isBelow 2 (some .boolean) ∈ wsL_law := wsL_ot (List.mem_of_getElem? (i := 121) (by decide +kernel)) rfl
theorem q109 : Cond.code yJx4a65c_set_bcc79 cJx4a65c_set_bcc79 4 (some (.object "java/lang/Object")) ∈ wsL_law := wsL_ot (List.mem_of_getElem? (i := 187) (by decide +kernel)) rfl
theorem q110 : Cond.code yX2_meltsInto cX2_meltsInto 2 (some .boolean) ∈ wsL_law := wsL_ot (List.mem_of_getElem? (i := 198) (by decide +kernel)) rfl
theorem q111 : Cond.fieldLink RX1 63 "RhymeTax$Line" "ownStress" "J" ∈ wsL_law := wsL_ot (List.mem_of_getElem? (i := 518) (by decide +kernel)) rfl
theorem q112 : Cond.fieldLink RX1 67 "RhymeTax$Line" "own" "I" ∈ wsL_law := wsL_ot (List.mem_of_getElem? (i := 519) (by decide +kernel)) rfl
theorem q113 : Cond.fieldLink RX1 70 "RhymeTax$Line" "melted" "I" ∈ wsL_law := wsL_ot (List.mem_of_getElem? (i := 520) (by decide +kernel)) rfl
theorem q114 : Cond.fieldLink RX1 77 "RhymeTax$Word" "stress" "I" ∈ wsL_law := wsL_ot (List.mem_of_getElem? (i := 439) (by decide +kernel)) rfl
theorem q115 : Cond.fieldLink RX1 80 "RhymeTax$Word" "syllables" "I" ∈ wsL_law := wsL_ot (List.mem_of_getElem? (i := 436) (by decide +kernel)) rfl
theorem q116 : Cond.methodLink RX1 73 yX2_meltsInto ∈ wsL_law := wsL_ot (List.mem_of_getElem? (i := 195) (by decide +kernel)) rfl
theorem q117 : Cond.instanceMethod yX2_meltsInto ∈ wsL_law := wsL_ot (List.mem_of_getElem? (i := 196) (by decide +kernel)) rfl
theorem q118 : Cond.selects RX2 yX2_meltsInto yX2_meltsInto ∈ wsL_law := wsL_ot (List.mem_of_getElem? (i := 197) (by decide +kernel)) rfl
theorem q119 : Cond.initialized RX2 ∈ wsL_law := wsL_ot (List.mem_of_getElem? (i := 12) (by decide +kernel)) rfl
theorem q120 : Cond.fieldLink RX2 22 "RhymeTax$Word" "end" "I" ∈ wsL_law := wsL_ot (List.mem_of_getElem? (i := 443) (by decide +kernel)) rfl
theorem q121 : Cond.fieldLink RX2 25 "RhymeTax$Word" "open" "Z" ∈ wsL_law := wsL_ot (List.mem_of_getElem? (i := 445) (by decide +kernel)) rfl
theorem q122 : Cond.code yX1_joinWords cX1_joinWords 4 none ∈ wsL_law := wsL_ot (List.mem_of_getElem? (i := 192) (by decide +kernel)) rfl
theorem q123 : Cond.methodLink RX1 43 yJx4a65c_add_9ea2d ∈ wsL_law := wsL_ot (List.mem_of_getElem? (i := 127) (by decide +kernel)) rfl
theorem q124 : Cond.instanceMethod yJx4a65c_add_9ea2d ∈ wsL_law := wsL_ot (List.mem_of_getElem? (i := 128) (by decide +kernel)) rfl
theorem q125 : Cond.selects RJx4a65c yJx4a65c_add_9ea2d yJx4a65c_add_9ea2d ∈ wsL_law := wsL_ot (List.mem_of_getElem? (i := 129) (by decide +kernel)) rfl
theorem q126 : Cond.static yX3_isBelow ∈ wsL_law := wsL_ot (List.mem_of_getElem? (i := 120) (by decide +kernel)) rfl
theorem q127 : Cond.initialized RX3 ∈ wsL_law := wsL_ot (List.mem_of_getElem? (i := 1) (by decide +kernel)) rfl
theorem q128 : Cond.methodLink RX1 53 yJx4a65c_set_bcc79 ∈ wsL_law := wsL_ot (List.mem_of_getElem? (i := 184) (by decide +kernel)) rfl
theorem q129 : Cond.instanceMethod yJx4a65c_set_bcc79 ∈ wsL_law := wsL_ot (List.mem_of_getElem? (i := 185) (by decide +kernel)) rfl
theorem q130 : Cond.selects RJx4a65c yJx4a65c_set_bcc79 yJx4a65c_set_bcc79 ∈ wsL_law := wsL_ot (List.mem_of_getElem? (i := 186) (by decide +kernel)) rfl
theorem q131 : Cond.methodLink RX1 57 yX1_joinWords ∈ wsL_law := wsL_ot (List.mem_of_getElem? (i := 188) (by decide +kernel)) rfl
theorem q132 : Cond.instanceMethod yX1_joinWords ∈ wsL_law := wsL_ot (List.mem_of_getElem? (i := 190) (by decide +kernel)) rfl
theorem q133 : Cond.selects RX1 yX1_joinWords yX1_joinWords ∈ wsL_law := List.mem_append_left _ (List.mem_of_getElem? (i := 6) rfl)
theorem q134 : Cond.initialized RX1 ∈ wsL_law := wsL_ot (List.mem_of_getElem? (i := 20) (by decide +kernel)) rfl
theorem q135 : Cond.code yX1_putWord cX1_putWord 3 none ∈ wsL_law := wsL_ot (List.mem_of_getElem? (i := 125) (by decide +kernel)) rfl
theorem q136 : Cond.code yJx4a65c_fastRemove_b59b0 cJx4a65c_fastRemove_b59b0 4 none ∈ wsL_law := wsL_ot (List.mem_of_getElem? (i := 601) (by decide +kernel)) rfl
theorem q137 : Cond.code yJx4a65c_remove_915e3 cJx4a65c_remove_915e3 4 (some (.object "java/lang/Object")) ∈ wsL_law := wsL_ot (List.mem_of_getElem? (i := 597) (by decide +kernel)) rfl
theorem q138 : Cond.methodLink RX1 60 yJx4a65c_remove_915e3 ∈ wsL_law := wsL_ot (List.mem_of_getElem? (i := 594) (by decide +kernel)) rfl
theorem q139 : Cond.instanceMethod yJx4a65c_remove_915e3 ∈ wsL_law := wsL_ot (List.mem_of_getElem? (i := 595) (by decide +kernel)) rfl
theorem q140 : Cond.selects RJx4a65c yJx4a65c_remove_915e3 yJx4a65c_remove_915e3 ∈ wsL_law := wsL_ot (List.mem_of_getElem? (i := 596) (by decide +kernel)) rfl
theorem q141 : Cond.methodLink RJx4a65c 144 yJx4a65c_fastRemove_b59b0 ∈ wsL_law := wsL_ot (List.mem_of_getElem? (i := 598) (by decide +kernel)) rfl
theorem q142 : Cond.instanceMethod yJx4a65c_fastRemove_b59b0 ∈ wsL_law := wsL_ot (List.mem_of_getElem? (i := 600) (by decide +kernel)) rfl
theorem q143 : Cond.selects RJx4a65c yJx4a65c_fastRemove_b59b0 yJx4a65c_fastRemove_b59b0 ∈ wsL_law := List.mem_append_left _ (List.mem_of_getElem? (i := 20) rfl)
theorem q144 : Cond.methodLink RJx4a65c 112 arraycopyName ∈ wsL_law := wsL_ot (List.mem_of_getElem? (i := 602) (by decide +kernel)) rfl
theorem q145 : Cond.code yX1_dropLast cX1_dropLast 2 none ∈ wsL_law := wsL_ot (List.mem_of_getElem? (i := 593) (by decide +kernel)) rfl
theorem q146 : Cond.code yX3_footSize cX3_footSize 1 (some .int) ∈ wsL_law := wsL_ot (List.mem_of_getElem? (i := 226) (by decide +kernel)) rfl
theorem q147 : Cond.code yX3_askedBy cX3_askedBy 1 (some .long) ∈ wsL_law := wsL_ot (List.mem_of_getElem? (i := 241) (by decide +kernel)) rfl
theorem q148 : Cond.code yJ13_bitCount_95d88 cJ13_bitCount_95d88 2 (some .int) ∈ wsL_law := wsL_ot (List.mem_of_getElem? (i := 249) (by decide +kernel)) rfl
theorem q149 : Cond.code yX1_offBy cX1_offBy 4 (some .int) ∈ wsL_law := wsL_ot (List.mem_of_getElem? (i := 238) (by decide +kernel)) rfl
theorem q150 : Cond.fieldLink RX1 83 "RhymeTax$Line" "start" "I" ∈ wsL_law := wsL_ot (List.mem_of_getElem? (i := 522) (by decide +kernel)) rfl
theorem q151 : Cond.fieldLink RX1 91 "RhymeTax$Line" "carried" "I" ∈ wsL_law := wsL_ot (List.mem_of_getElem? (i := 524) (by decide +kernel)) rfl
theorem q152 : Cond.methodLink RX1 101 Lib.Math.min.name ∈ wsL_law := wsL_ot (List.mem_of_getElem? (i := 227) (by decide +kernel)) rfl
theorem q153 : Cond.fieldLink RX1 107 "RhymeTax$Line" "stays" "I" ∈ wsL_law := wsL_ot (List.mem_of_getElem? (i := 525) (by decide +kernel)) rfl
theorem q154 : Cond.fieldLink RX1 110 "RhymeTax$Line" "over" "I" ∈ wsL_law := wsL_ot (List.mem_of_getElem? (i := 527) (by decide +kernel)) rfl
theorem q155 : Cond.fieldLink RX1 117 "RhymeTax$Line" "staying" "J" ∈ wsL_law := wsL_ot (List.mem_of_getElem? (i := 529) (by decide +kernel)) rfl
theorem q156 : Cond.fieldLink RX1 124 "RhymeTax$Line" "off" "I" ∈ wsL_law := wsL_ot (List.mem_of_getElem? (i := 530) (by decide +kernel)) rfl
theorem q157 : Cond.fieldLink RX1 127 "RhymeTax$Line" "lacks" "I" ∈ wsL_law := wsL_ot (List.mem_of_getElem? (i := 531) (by decide +kernel)) rfl
theorem q158 : Cond.methodLink RX1 94 yX0_add ∈ wsL_law := wsL_ot (List.mem_of_getElem? (i := 216) (by decide +kernel)) rfl
theorem q159 : Cond.instanceMethod yX0_add ∈ wsL_law := wsL_ot (List.mem_of_getElem? (i := 217) (by decide +kernel)) rfl
theorem q160 : Cond.selects RX0 yX0_add yX0_add ∈ wsL_law := wsL_ot (List.mem_of_getElem? (i := 218) (by decide +kernel)) rfl
theorem q161 : Cond.initialized RX0 ∈ wsL_law := wsL_ot (List.mem_of_getElem? (i := 5) (by decide +kernel)) rfl
theorem q162 : Cond.fieldLink RX0 19 "RhymeTax$Flow" "end" "I" ∈ wsL_law := wsL_ot (List.mem_of_getElem? (i := 64) (by decide +kernel)) rfl
theorem q163 : Cond.methodLink RX0 23 yX0_addTo ∈ wsL_law := wsL_ot (List.mem_of_getElem? (i := 220) (by decide +kernel)) rfl
theorem q164 : Cond.instanceMethod yX0_addTo ∈ wsL_law := wsL_ot (List.mem_of_getElem? (i := 222) (by decide +kernel)) rfl
theorem q165 : Cond.selects RX0 yX0_addTo yX0_addTo ∈ wsL_law := List.mem_append_left _ (List.mem_of_getElem? (i := 8) rfl)
theorem q166 : Cond.fieldLink RX0 9 "RhymeTax$Flow" "cells" "[J" ∈ wsL_law := wsL_ot (List.mem_of_getElem? (i := 63) (by decide +kernel)) rfl
theorem q167 : Cond.static yX3_footSize ∈ wsL_law := wsL_ot (List.mem_of_getElem? (i := 225) (by decide +kernel)) rfl
theorem q168 : Cond.methodLink RX1 113 yX0_read ∈ wsL_law := wsL_ot (List.mem_of_getElem? (i := 228) (by decide +kernel)) rfl
theorem q169 : Cond.instanceMethod yX0_read ∈ wsL_law := wsL_ot (List.mem_of_getElem? (i := 229) (by decide +kernel)) rfl
theorem q170 : Cond.selects RX0 yX0_read yX0_read ∈ wsL_law := wsL_ot (List.mem_of_getElem? (i := 230) (by decide +kernel)) rfl
theorem q171 : Cond.methodLink RX0 27 yX0_cellAt ∈ wsL_law := wsL_ot (List.mem_of_getElem? (i := 232) (by decide +kernel)) rfl
theorem q172 : Cond.instanceMethod yX0_cellAt ∈ wsL_law := wsL_ot (List.mem_of_getElem? (i := 234) (by decide +kernel)) rfl
theorem q173 : Cond.selects RX0 yX0_cellAt yX0_cellAt ∈ wsL_law := List.mem_append_left _ (List.mem_of_getElem? (i := 9) rfl)
theorem q174 : Cond.static yX3_lowBits ∈ wsL_law := wsL_ot (List.mem_of_getElem? (i := 208) (by decide +kernel)) rfl
theorem q175 : Cond.constantLong RX3 239 (-1) ∈ wsL_law := wsL_ot (List.mem_of_getElem? (i := 210) (by decide +kernel)) rfl
theorem q176 : Cond.methodLink RX1 120 yX1_offBy ∈ wsL_law := wsL_ot (List.mem_of_getElem? (i := 236) (by decide +kernel)) rfl
theorem q177 : Cond.static yX1_offBy ∈ wsL_law := wsL_ot (List.mem_of_getElem? (i := 237) (by decide +kernel)) rfl
theorem q178 : Cond.static yX3_askedBy ∈ wsL_law := wsL_ot (List.mem_of_getElem? (i := 240) (by decide +kernel)) rfl
theorem q179 : Cond.constantLong RX3 241 (2730) ∈ wsL_law := wsL_ot (List.mem_of_getElem? (i := 242) (by decide +kernel)) rfl
theorem q180 : Cond.constantLong RX3 243 (1365) ∈ wsL_law := wsL_ot (List.mem_of_getElem? (i := 243) (by decide +kernel)) rfl
theorem q181 : Cond.constantLong RX3 245 (149796) ∈ wsL_law := wsL_ot (List.mem_of_getElem? (i := 244) (by decide +kernel)) rfl
theorem q182 : Cond.constantLong RX3 247 (37449) ∈ wsL_law := wsL_ot (List.mem_of_getElem? (i := 245) (by decide +kernel)) rfl
theorem q183 : Cond.methodLink RX1 141 yJ13_bitCount_95d88 ∈ wsL_law := wsL_ot (List.mem_of_getElem? (i := 247) (by decide +kernel)) rfl
theorem q184 : Cond.static yJ13_bitCount_95d88 ∈ wsL_law := wsL_ot (List.mem_of_getElem? (i := 248) (by decide +kernel)) rfl
theorem q185 : Cond.initialized RJ13 ∈ wsL_law := wsL_ot (List.mem_of_getElem? (i := 21) (by decide +kernel)) rfl
theorem q186 : Cond.constantLong RJ13 314 (6148914691236517205) ∈ wsL_law := wsL_ot (List.mem_of_getElem? (i := 250) (by decide +kernel)) rfl
theorem q187 : Cond.constantLong RJ13 316 (3689348814741910323) ∈ wsL_law := wsL_ot (List.mem_of_getElem? (i := 251) (by decide +kernel)) rfl
theorem q188 : Cond.constantLong RJ13 318 (1085102592571150095) ∈ wsL_law := wsL_ot (List.mem_of_getElem? (i := 252) (by decide +kernel)) rfl
theorem q189 : Cond.code yX1_scanIn cX1_scanIn 4 none ∈ wsL_law := wsL_ot (List.mem_of_getElem? (i := 215) (by decide +kernel)) rfl
theorem q190 : Cond.code yX2_lastStress cX2_lastStress 1 (some .int) ∈ wsL_law := wsL_ot (List.mem_of_getElem? (i := 271) (by decide +kernel)) rfl
theorem q191 : Cond.code yX2_rhymeWith cX2_rhymeWith 4 (some .int) ∈ wsL_law := wsL_ot (List.mem_of_getElem? (i := 267) (by decide +kernel)) rfl
theorem q192 : Cond.methodLink RX3 102 yX1_lastWord ∈ wsL_law := wsL_ot (List.mem_of_getElem? (i := 260) (by decide +kernel)) rfl
theorem q193 : Cond.instanceMethod yX1_lastWord ∈ wsL_law := wsL_ot (List.mem_of_getElem? (i := 261) (by decide +kernel)) rfl
theorem q194 : Cond.selects RX1 yX1_lastWord yX1_lastWord ∈ wsL_law := wsL_ot (List.mem_of_getElem? (i := 262) (by decide +kernel)) rfl
theorem q195 : Cond.methodLink RX3 211 yX2_rhymeWith ∈ wsL_law := wsL_ot (List.mem_of_getElem? (i := 264) (by decide +kernel)) rfl
theorem q196 : Cond.instanceMethod yX2_rhymeWith ∈ wsL_law := wsL_ot (List.mem_of_getElem? (i := 265) (by decide +kernel)) rfl
theorem q197 : Cond.selects RX2 yX2_rhymeWith yX2_rhymeWith ∈ wsL_law := wsL_ot (List.mem_of_getElem? (i := 266) (by decide +kernel)) rfl
theorem q198 : Cond.fieldLink RX2 7 "RhymeTax$Word" "number" "I" ∈ wsL_law := wsL_ot (List.mem_of_getElem? (i := 432) (by decide +kernel)) rfl
theorem q199 : Cond.fieldLink RX2 19 "RhymeTax$Word" "vowel" "I" ∈ wsL_law := wsL_ot (List.mem_of_getElem? (i := 441) (by decide +kernel)) rfl
theorem q200 : Cond.methodLink RX2 29 yX2_lastStress ∈ wsL_law := wsL_ot (List.mem_of_getElem? (i := 268) (by decide +kernel)) rfl
theorem q201 : Cond.instanceMethod yX2_lastStress ∈ wsL_law := wsL_ot (List.mem_of_getElem? (i := 269) (by decide +kernel)) rfl
theorem q202 : Cond.selects RX2 yX2_lastStress yX2_lastStress ∈ wsL_law := wsL_ot (List.mem_of_getElem? (i := 270) (by decide +kernel)) rfl
theorem q203 : Cond.fieldLink RX2 16 "RhymeTax$Word" "stress" "I" ∈ wsL_law := wsL_ot (List.mem_of_getElem? (i := 438) (by decide +kernel)) rfl
theorem q204 : Cond.fieldLink RX2 13 "RhymeTax$Word" "syllables" "I" ∈ wsL_law := wsL_ot (List.mem_of_getElem? (i := 435) (by decide +kernel)) rfl
theorem q205 : Cond.code yX3_rhymeBetween cX3_rhymeBetween 4 (some .int) ∈ wsL_law := wsL_ot (List.mem_of_getElem? (i := 259) (by decide +kernel)) rfl
theorem q206 : Cond.code yJx4a65c_isEmpty_aae02 cJx4a65c_isEmpty_aae02 1 (some .boolean) ∈ wsL_law := wsL_ot (List.mem_of_getElem? (i := 275) (by decide +kernel)) rfl
theorem q207 : Cond.fieldLink RX1 134 "RhymeTax$Line" "paid" "I" ∈ wsL_law := wsL_ot (List.mem_of_getElem? (i := 532) (by decide +kernel)) rfl
theorem q208 : Cond.methodLink RX1 147 Lib.Math.max.name ∈ wsL_law := wsL_ot (List.mem_of_getElem? (i := 276) (by decide +kernel)) rfl
theorem q209 : Cond.fieldLink RX1 150 "RhymeTax$Line" "tax" "I" ∈ wsL_law := wsL_ot (List.mem_of_getElem? (i := 533) (by decide +kernel)) rfl
theorem q210 : Cond.static yX3_rhymeBetween ∈ wsL_law := wsL_ot (List.mem_of_getElem? (i := 258) (by decide +kernel)) rfl
theorem q211 : Cond.methodLink RX1 137 yJx4a65c_isEmpty_aae02 ∈ wsL_law := wsL_ot (List.mem_of_getElem? (i := 272) (by decide +kernel)) rfl
theorem q212 : Cond.instanceMethod yJx4a65c_isEmpty_aae02 ∈ wsL_law := wsL_ot (List.mem_of_getElem? (i := 273) (by decide +kernel)) rfl
theorem q213 : Cond.selects RJx4a65c yJx4a65c_isEmpty_aae02 yJx4a65c_isEmpty_aae02 ∈ wsL_law := wsL_ot (List.mem_of_getElem? (i := 274) (by decide +kernel)) rfl
theorem q214 : Cond.code yX1_payRhyme cX1_payRhyme 1 none ∈ wsL_law := wsL_ot (List.mem_of_getElem? (i := 256) (by decide +kernel)) rfl
theorem q215 : Cond.code yX1_faultsBy cX1_faultsBy 5 (some .int) ∈ wsL_law := wsL_ot (List.mem_of_getElem? (i := 652) (by decide +kernel)) rfl
theorem q216 : Cond.code yX1_isFaultless cX1_isFaultless 1 (some .boolean) ∈ wsL_law := wsL_ot (List.mem_of_getElem? (i := 305) (by decide +kernel)) rfl
theorem q217 : Cond.code yX1_stressAt cX1_stressAt 2 (some .int) ∈ wsL_law := wsL_ot (List.mem_of_getElem? (i := 332) (by decide +kernel)) rfl
theorem q218 : Cond.code yX1_tells cX1_tells 2 (some .int) ∈ wsL_law := wsL_ot (List.mem_of_getElem? (i := 328) (by decide +kernel)) rfl
theorem q219 : Cond.code yX2_init cX2_init 7 none ∈ wsL_law := wsL_ot (List.mem_of_getElem? (i := 430) (by decide +kernel)) rfl
theorem q220 : Cond.methodLink RX3 3 objectInit ∈ wsL_law := wsL_ot (List.mem_of_getElem? (i := 28) (by decide +kernel)) rfl
theorem q221 : Cond.classLink RX3 9 RJx4a65c ∈ wsL_law := wsL_ot (List.mem_of_getElem? (i := 31) (by decide +kernel)) rfl
theorem q222 : Cond.fieldLink RX3 12 "RhymeTax" "words" "Ljava/util/ArrayList;" ∈ wsL_law := wsL_ot (List.mem_of_getElem? (i := 72) (by decide +kernel)) rfl
theorem q223 : Cond.fieldLink RX3 16 "RhymeTax" "lines" "Ljava/util/ArrayList;" ∈ wsL_law := wsL_ot (List.mem_of_getElem? (i := 73) (by decide +kernel)) rfl
theorem q224 : Cond.classLink RX3 19 RX0 ∈ wsL_law := wsL_ot (List.mem_of_getElem? (i := 57) (by decide +kernel)) rfl
theorem q225 : Cond.instantiable RX0 2 ∈ wsL_law := wsL_ot (List.mem_of_getElem? (i := 58) (by decide +kernel)) rfl
theorem q226 : Cond.fieldLink RX3 22 "RhymeTax" "flow" "LRhymeTax$Flow;" ∈ wsL_law := wsL_ot (List.mem_of_getElem? (i := 74) (by decide +kernel)) rfl
theorem q227 : Cond.methodLink RX3 11 yJx4a65c_init_da8c8 ∈ wsL_law := wsL_ot (List.mem_of_getElem? (i := 33) (by decide +kernel)) rfl
theorem q228 : Cond.methodLink RX3 21 yX0_init ∈ wsL_law := wsL_ot (List.mem_of_getElem? (i := 59) (by decide +kernel)) rfl
theorem q229 : Cond.instanceMethod yX0_init ∈ wsL_law := wsL_ot (List.mem_of_getElem? (i := 60) (by decide +kernel)) rfl
theorem q230 : Cond.methodLink RX0 3 objectInit ∈ wsL_law := wsL_ot (List.mem_of_getElem? (i := 62) (by decide +kernel)) rfl
theorem q231 : Cond.arrayClass .long ∈ wsL_law := wsL_ot (List.mem_of_getElem? (i := 71) (by decide +kernel)) rfl
theorem q232 : Cond.code yX3_init cX3_init 1 none ∈ wsL_law := wsL_ot (List.mem_of_getElem? (i := 27) (by decide +kernel)) rfl
theorem q233 : Cond.classLink RX3 26 "java/lang/IllegalArgumentException" ∈ wsL_law := wsL_ot (List.mem_of_getElem? (i := 342) (by decide +kernel)) rfl
theorem q234 : Cond.initialized "java/lang/IllegalArgumentException" ∈ wsL_law := wsL_ot (List.mem_of_getElem? (i := 10) (by decide +kernel)) rfl
theorem q235 : Cond.classLink RX3 43 "java/lang/IllegalStateException" ∈ wsL_law := wsL_ot (List.mem_of_getElem? (i := 411) (by decide +kernel)) rfl
theorem q236 : Cond.initialized "java/lang/IllegalStateException" ∈ wsL_law := wsL_ot (List.mem_of_getElem? (i := 11) (by decide +kernel)) rfl
theorem q237 : Cond.classLink RX3 48 RX2 ∈ wsL_law := wsL_ot (List.mem_of_getElem? (i := 109) (by decide +kernel)) rfl
theorem q238 : Cond.instantiable RX2 6 ∈ wsL_law := wsL_ot (List.mem_of_getElem? (i := 427) (by decide +kernel)) rfl
theorem q239 : Cond.fieldLink RX3 57 "RhymeTax$Word" "number" "I" ∈ wsL_law := wsL_ot (List.mem_of_getElem? (i := 433) (by decide +kernel)) rfl
theorem q240 : Cond.methodLink RX3 33 yX3_isBelow ∈ wsL_law := wsL_ot (List.mem_of_getElem? (i := 119) (by decide +kernel)) rfl
theorem q241 : Cond.methodLink RX3 39 yJx4a65c_size_8abf5 ∈ wsL_law := wsL_ot (List.mem_of_getElem? (i := 90) (by decide +kernel)) rfl
theorem q242 : Cond.methodLink RX3 50 yX2_init ∈ wsL_law := wsL_ot (List.mem_of_getElem? (i := 428) (by decide +kernel)) rfl
end
section
theorem q243 : Cond.instanceMethod yX2_init ∈ wsL_law := wsL_ot (List.mem_of_getElem? (i := 429) (by decide +kernel)) rfl
theorem q244 : Cond.methodLink RX2 1 objectInit ∈ wsL_law := wsL_ot (List.mem_of_getElem? (i := 431) (by decide +kernel)) rfl
theorem q245 : Cond.methodLink RX3 53 yJx4a65c_add_9ea2d ∈ wsL_law := wsL_ot (List.mem_of_getElem? (i := 460) (by decide +kernel)) rfl
theorem q246 : Cond.code yX3_word cX3_word 7 (some .int) ∈ wsL_law := wsL_ot (List.mem_of_getElem? (i := 341) (by decide +kernel)) rfl
theorem q247 : Cond.code yX3_refuseOutside cX3_refuseOutside 2 none ∈ wsL_law := wsL_ot (List.mem_of_getElem? (i := 475) (by decide +kernel)) rfl
theorem q248 : Cond.classLink RX3 48 "RhymeTax$Word" ∈ wsL_law := wsL_ot (List.mem_of_getElem? (i := 109) (by decide +kernel)) rfl
theorem q249 : Cond.methodLink RX3 65 yX3_refuseOutside ∈ wsL_law := wsL_ot (List.mem_of_getElem? (i := 473) (by decide +kernel)) rfl
theorem q250 : Cond.static yX3_refuseOutside ∈ wsL_law := wsL_ot (List.mem_of_getElem? (i := 474) (by decide +kernel)) rfl
theorem q251 : Cond.classLink RX3 166 "java/lang/IndexOutOfBoundsException" ∈ wsL_law := wsL_ot (List.mem_of_getElem? (i := 476) (by decide +kernel)) rfl
theorem q252 : Cond.initialized "java/lang/IndexOutOfBoundsException" ∈ wsL_law := wsL_ot (List.mem_of_getElem? (i := 17) (by decide +kernel)) rfl
theorem q253 : Cond.methodLink RX3 150 yJx4a65c_get_915e3 ∈ wsL_law := wsL_ot (List.mem_of_getElem? (i := 94) (by decide +kernel)) rfl
theorem q254 : Cond.code yX3_neededWord cX3_neededWord 2 (some (.object "RhymeTax$Word")) ∈ wsL_law := wsL_ot (List.mem_of_getElem? (i := 472) (by decide +kernel)) rfl
theorem q255 : Cond.classLink RX3 77 "RhymeTax$Line" ∈ wsL_law := wsL_ot (List.mem_of_getElem? (i := 108) (by decide +kernel)) rfl
theorem q256 : Cond.methodLink RX3 194 yX1_usesOf ∈ wsL_law := wsL_ot (List.mem_of_getElem? (i := 318) (by decide +kernel)) rfl
theorem q257 : Cond.instanceMethod yX1_usesOf ∈ wsL_law := wsL_ot (List.mem_of_getElem? (i := 319) (by decide +kernel)) rfl
theorem q258 : Cond.selects RX1 yX1_usesOf yX1_usesOf ∈ wsL_law := wsL_ot (List.mem_of_getElem? (i := 320) (by decide +kernel)) rfl
theorem q259 : Cond.code yX3_usesOf cX3_usesOf 4 (some .int) ∈ wsL_law := wsL_ot (List.mem_of_getElem? (i := 317) (by decide +kernel)) rfl
theorem q260 : Cond.fieldLink RX3 174 "RhymeTax$Word" "syllables" "I" ∈ wsL_law := wsL_ot (List.mem_of_getElem? (i := 437) (by decide +kernel)) rfl
theorem q261 : Cond.fieldLink RX3 177 "RhymeTax$Word" "stress" "I" ∈ wsL_law := wsL_ot (List.mem_of_getElem? (i := 440) (by decide +kernel)) rfl
theorem q262 : Cond.fieldLink RX3 180 "RhymeTax$Word" "vowel" "I" ∈ wsL_law := wsL_ot (List.mem_of_getElem? (i := 442) (by decide +kernel)) rfl
theorem q263 : Cond.fieldLink RX3 183 "RhymeTax$Word" "end" "I" ∈ wsL_law := wsL_ot (List.mem_of_getElem? (i := 444) (by decide +kernel)) rfl
theorem q264 : Cond.fieldLink RX3 186 "RhymeTax$Word" "open" "Z" ∈ wsL_law := wsL_ot (List.mem_of_getElem? (i := 446) (by decide +kernel)) rfl
theorem q265 : Cond.methodLink RX3 190 yX3_usesOf ∈ wsL_law := wsL_ot (List.mem_of_getElem? (i := 314) (by decide +kernel)) rfl
theorem q266 : Cond.instanceMethod yX3_usesOf ∈ wsL_law := wsL_ot (List.mem_of_getElem? (i := 316) (by decide +kernel)) rfl
theorem q267 : Cond.selects RX3 yX3_usesOf yX3_usesOf ∈ wsL_law := List.mem_append_left _ (List.mem_of_getElem? (i := 15) rfl)
theorem q268 : Cond.code yX3_aboutWord cX3_aboutWord 3 (some .int) ∈ wsL_law := wsL_ot (List.mem_of_getElem? (i := 313) (by decide +kernel)) rfl
theorem q269 : Cond.methodLink RX3 61 yX3_neededWord ∈ wsL_law := wsL_ot (List.mem_of_getElem? (i := 469) (by decide +kernel)) rfl
theorem q270 : Cond.instanceMethod yX3_neededWord ∈ wsL_law := wsL_ot (List.mem_of_getElem? (i := 471) (by decide +kernel)) rfl
theorem q271 : Cond.selects RX3 yX3_neededWord yX3_neededWord ∈ wsL_law := List.mem_append_left _ (List.mem_of_getElem? (i := 17) rfl)
theorem q272 : Cond.methodLink RX3 69 yX3_aboutWord ∈ wsL_law := wsL_ot (List.mem_of_getElem? (i := 310) (by decide +kernel)) rfl
theorem q273 : Cond.instanceMethod yX3_aboutWord ∈ wsL_law := wsL_ot (List.mem_of_getElem? (i := 312) (by decide +kernel)) rfl
theorem q274 : Cond.selects RX3 yX3_aboutWord yX3_aboutWord ∈ wsL_law := List.mem_append_left _ (List.mem_of_getElem? (i := 14) rfl)
theorem q275 : Cond.code yX3_about cX3_about 4 (some .int) ∈ wsL_law := wsL_ot (List.mem_of_getElem? (i := 468) (by decide +kernel)) rfl
theorem q276 : Cond.fieldLink RX3 171 "RhymeTax$Line" "mark" "I" ∈ wsL_law := wsL_ot (List.mem_of_getElem? (i := 514) (by decide +kernel)) rfl
theorem q277 : Cond.code yX3_lastWithMark cX3_lastWithMark 4 (some (.object "RhymeTax$Line")) ∈ wsL_law := wsL_ot (List.mem_of_getElem? (i := 504) (by decide +kernel)) rfl
theorem q278 : Cond.fieldLink RX3 220 "RhymeTax$Line" "start" "I" ∈ wsL_law := wsL_ot (List.mem_of_getElem? (i := 523) (by decide +kernel)) rfl
theorem q279 : Cond.fieldLink RX3 119 "RhymeTax$Line" "stays" "I" ∈ wsL_law := wsL_ot (List.mem_of_getElem? (i := 526) (by decide +kernel)) rfl
theorem q280 : Cond.fieldLink RX3 205 "RhymeTax$Line" "over" "I" ∈ wsL_law := wsL_ot (List.mem_of_getElem? (i := 528) (by decide +kernel)) rfl
theorem q281 : Cond.methodLink RX3 226 Lib.Math.max.name ∈ wsL_law := wsL_ot (List.mem_of_getElem? (i := 211) (by decide +kernel)) rfl
theorem q282 : Cond.methodLink RX3 223 yX0_cutBehind ∈ wsL_law := wsL_ot (List.mem_of_getElem? (i := 203) (by decide +kernel)) rfl
theorem q283 : Cond.instanceMethod yX0_cutBehind ∈ wsL_law := wsL_ot (List.mem_of_getElem? (i := 204) (by decide +kernel)) rfl
theorem q284 : Cond.selects RX0 yX0_cutBehind yX0_cutBehind ∈ wsL_law := wsL_ot (List.mem_of_getElem? (i := 205) (by decide +kernel)) rfl
theorem q285 : Cond.methodLink RX3 232 yX1_scanIn ∈ wsL_law := wsL_ot (List.mem_of_getElem? (i := 212) (by decide +kernel)) rfl
theorem q286 : Cond.instanceMethod yX1_scanIn ∈ wsL_law := wsL_ot (List.mem_of_getElem? (i := 213) (by decide +kernel)) rfl
theorem q287 : Cond.selects RX1 yX1_scanIn yX1_scanIn ∈ wsL_law := wsL_ot (List.mem_of_getElem? (i := 214) (by decide +kernel)) rfl
theorem q288 : Cond.methodLink RX3 236 yX1_payRhyme ∈ wsL_law := wsL_ot (List.mem_of_getElem? (i := 253) (by decide +kernel)) rfl
theorem q289 : Cond.instanceMethod yX1_payRhyme ∈ wsL_law := wsL_ot (List.mem_of_getElem? (i := 254) (by decide +kernel)) rfl
theorem q290 : Cond.selects RX1 yX1_payRhyme yX1_payRhyme ∈ wsL_law := wsL_ot (List.mem_of_getElem? (i := 255) (by decide +kernel)) rfl
theorem q291 : Cond.code yX3_scanFrom cX3_scanFrom 6 none ∈ wsL_law := wsL_ot (List.mem_of_getElem? (i := 202) (by decide +kernel)) rfl
theorem q292 : Cond.classLink RX3 77 RX1 ∈ wsL_law := wsL_ot (List.mem_of_getElem? (i := 108) (by decide +kernel)) rfl
theorem q293 : Cond.instantiable RX1 17 ∈ wsL_law := wsL_ot (List.mem_of_getElem? (i := 191) (by decide +kernel)) rfl
theorem q294 : Cond.methodLink RX3 79 yX3_lastWithMark ∈ wsL_law := wsL_ot (List.mem_of_getElem? (i := 501) (by decide +kernel)) rfl
theorem q295 : Cond.instanceMethod yX3_lastWithMark ∈ wsL_law := wsL_ot (List.mem_of_getElem? (i := 503) (by decide +kernel)) rfl
theorem q296 : Cond.selects RX3 yX3_lastWithMark yX3_lastWithMark ∈ wsL_law := List.mem_append_left _ (List.mem_of_getElem? (i := 18) rfl)
theorem q297 : Cond.methodLink RX3 83 yX1_init ∈ wsL_law := wsL_ot (List.mem_of_getElem? (i := 505) (by decide +kernel)) rfl
theorem q298 : Cond.instanceMethod yX1_init ∈ wsL_law := wsL_ot (List.mem_of_getElem? (i := 506) (by decide +kernel)) rfl
theorem q299 : Cond.methodLink RX3 86 yX3_scanFrom ∈ wsL_law := wsL_ot (List.mem_of_getElem? (i := 199) (by decide +kernel)) rfl
theorem q300 : Cond.instanceMethod yX3_scanFrom ∈ wsL_law := wsL_ot (List.mem_of_getElem? (i := 201) (by decide +kernel)) rfl
theorem q301 : Cond.selects RX3 yX3_scanFrom yX3_scanFrom ∈ wsL_law := List.mem_append_left _ (List.mem_of_getElem? (i := 7) rfl)
theorem q302 : Cond.code yX3_line cX3_line 5 (some .int) ∈ wsL_law := wsL_ot (List.mem_of_getElem? (i := 498) (by decide +kernel)) rfl
theorem q303 : Cond.code yX3_neededLine cX3_neededLine 2 (some (.object "RhymeTax$Line")) ∈ wsL_law := wsL_ot (List.mem_of_getElem? (i := 580) (by decide +kernel)) rfl
theorem q304 : Cond.methodLink RX3 214 yX1_putWord ∈ wsL_law := wsL_ot (List.mem_of_getElem? (i := 122) (by decide +kernel)) rfl
theorem q305 : Cond.instanceMethod yX1_putWord ∈ wsL_law := wsL_ot (List.mem_of_getElem? (i := 123) (by decide +kernel)) rfl
theorem q306 : Cond.selects RX1 yX1_putWord yX1_putWord ∈ wsL_law := wsL_ot (List.mem_of_getElem? (i := 124) (by decide +kernel)) rfl
theorem q307 : Cond.code yX3_putWord cX3_putWord 4 none ∈ wsL_law := wsL_ot (List.mem_of_getElem? (i := 118) (by decide +kernel)) rfl
theorem q308 : Cond.fieldLink RX3 93 "RhymeTax$Line" "row" "Ljava/util/ArrayList;" ∈ wsL_law := wsL_ot (List.mem_of_getElem? (i := 517) (by decide +kernel)) rfl
theorem q309 : Cond.methodLink RX3 90 yX3_neededLine ∈ wsL_law := wsL_ot (List.mem_of_getElem? (i := 577) (by decide +kernel)) rfl
theorem q310 : Cond.instanceMethod yX3_neededLine ∈ wsL_law := wsL_ot (List.mem_of_getElem? (i := 579) (by decide +kernel)) rfl
theorem q311 : Cond.selects RX3 yX3_neededLine yX3_neededLine ∈ wsL_law := List.mem_append_left _ (List.mem_of_getElem? (i := 19) rfl)
theorem q312 : Cond.methodLink RX3 98 yX3_putWord ∈ wsL_law := wsL_ot (List.mem_of_getElem? (i := 115) (by decide +kernel)) rfl
theorem q313 : Cond.instanceMethod yX3_putWord ∈ wsL_law := wsL_ot (List.mem_of_getElem? (i := 117) (by decide +kernel)) rfl
theorem q314 : Cond.selects RX3 yX3_putWord yX3_putWord ∈ wsL_law := List.mem_append_left _ (List.mem_of_getElem? (i := 2) rfl)
theorem q315 : Cond.code yX3_write cX3_write 7 (some .int) ∈ wsL_law := wsL_ot (List.mem_of_getElem? (i := 576) (by decide +kernel)) rfl
theorem q316 : Cond.methodLink RX3 108 yX1_dropLast ∈ wsL_law := wsL_ot (List.mem_of_getElem? (i := 590) (by decide +kernel)) rfl
theorem q317 : Cond.instanceMethod yX1_dropLast ∈ wsL_law := wsL_ot (List.mem_of_getElem? (i := 591) (by decide +kernel)) rfl
theorem q318 : Cond.selects RX1 yX1_dropLast yX1_dropLast ∈ wsL_law := wsL_ot (List.mem_of_getElem? (i := 592) (by decide +kernel)) rfl
theorem q319 : Cond.code yX3_strike cX3_strike 4 (some .int) ∈ wsL_law := wsL_ot (List.mem_of_getElem? (i := 588) (by decide +kernel)) rfl
theorem q320 : Cond.code yX3_neededWordOf cX3_neededWordOf 2 (some (.object "RhymeTax$Word")) ∈ wsL_law := wsL_ot (List.mem_of_getElem? (i := 612) (by decide +kernel)) rfl
theorem q321 : Cond.methodLink RX3 111 yX3_neededWordOf ∈ wsL_law := wsL_ot (List.mem_of_getElem? (i := 610) (by decide +kernel)) rfl
theorem q322 : Cond.static yX3_neededWordOf ∈ wsL_law := wsL_ot (List.mem_of_getElem? (i := 611) (by decide +kernel)) rfl
theorem q323 : Cond.code yX3_written cX3_written 3 (some .int) ∈ wsL_law := wsL_ot (List.mem_of_getElem? (i := 609) (by decide +kernel)) rfl
theorem q324 : Cond.methodLink RX3 115 yX1_tells ∈ wsL_law := wsL_ot (List.mem_of_getElem? (i := 325) (by decide +kernel)) rfl
theorem q325 : Cond.instanceMethod yX1_tells ∈ wsL_law := wsL_ot (List.mem_of_getElem? (i := 326) (by decide +kernel)) rfl
theorem q326 : Cond.selects RX1 yX1_tells yX1_tells ∈ wsL_law := wsL_ot (List.mem_of_getElem? (i := 327) (by decide +kernel)) rfl
theorem q327 : Cond.code yX3_told cX3_told 4 (some .int) ∈ wsL_law := wsL_ot (List.mem_of_getElem? (i := 619) (by decide +kernel)) rfl
theorem q328 : Cond.methodLink RX3 122 yX1_stressAt ∈ wsL_law := wsL_ot (List.mem_of_getElem? (i := 329) (by decide +kernel)) rfl
theorem q329 : Cond.instanceMethod yX1_stressAt ∈ wsL_law := wsL_ot (List.mem_of_getElem? (i := 330) (by decide +kernel)) rfl
theorem q330 : Cond.selects RX1 yX1_stressAt yX1_stressAt ∈ wsL_law := wsL_ot (List.mem_of_getElem? (i := 331) (by decide +kernel)) rfl
theorem q331 : Cond.code yX3_stress cX3_stress 4 (some .int) ∈ wsL_law := wsL_ot (List.mem_of_getElem? (i := 626) (by decide +kernel)) rfl
theorem q332 : Cond.fieldLink RX3 125 "RhymeTax$Line" "melted" "I" ∈ wsL_law := wsL_ot (List.mem_of_getElem? (i := 521) (by decide +kernel)) rfl
theorem q333 : Cond.code yX3_melted cX3_melted 2 (some .int) ∈ wsL_law := wsL_ot (List.mem_of_getElem? (i := 633) (by decide +kernel)) rfl
theorem q334 : Cond.methodLink RX3 128 yX3_rhymeBetween ∈ wsL_law := wsL_ot (List.mem_of_getElem? (i := 641) (by decide +kernel)) rfl
theorem q335 : Cond.code yX3_rhyme cX3_rhyme 3 (some .int) ∈ wsL_law := wsL_ot (List.mem_of_getElem? (i := 640) (by decide +kernel)) rfl
theorem q336 : Cond.methodLink RX3 132 yX1_faultsBy ∈ wsL_law := wsL_ot (List.mem_of_getElem? (i := 649) (by decide +kernel)) rfl
theorem q337 : Cond.instanceMethod yX1_faultsBy ∈ wsL_law := wsL_ot (List.mem_of_getElem? (i := 650) (by decide +kernel)) rfl
theorem q338 : Cond.selects RX1 yX1_faultsBy yX1_faultsBy ∈ wsL_law := wsL_ot (List.mem_of_getElem? (i := 651) (by decide +kernel)) rfl
theorem q339 : Cond.code yX3_scans cX3_scans 7 (some .int) ∈ wsL_law := wsL_ot (List.mem_of_getElem? (i := 648) (by decide +kernel)) rfl
theorem q340 : Cond.code yX3_lost cX3_lost 2 (some .int) ∈ wsL_law := wsL_ot (List.mem_of_getElem? (i := 297) (by decide +kernel)) rfl
theorem q341 : Cond.fieldLink RX3 208 "RhymeTax$Line" "tax" "I" ∈ wsL_law := wsL_ot (List.mem_of_getElem? (i := 534) (by decide +kernel)) rfl
theorem q342 : Cond.code yX3_allTaxes cX3_allTaxes 3 (some .int) ∈ wsL_law := wsL_ot (List.mem_of_getElem? (i := 89) (by decide +kernel)) rfl
theorem q343 : Cond.methodLink RX3 201 yX1_isFaultless ∈ wsL_law := wsL_ot (List.mem_of_getElem? (i := 302) (by decide +kernel)) rfl
theorem q344 : Cond.instanceMethod yX1_isFaultless ∈ wsL_law := wsL_ot (List.mem_of_getElem? (i := 303) (by decide +kernel)) rfl
theorem q345 : Cond.selects RX1 yX1_isFaultless yX1_isFaultless ∈ wsL_law := wsL_ot (List.mem_of_getElem? (i := 304) (by decide +kernel)) rfl
theorem q346 : Cond.code yX3_countInLines cX3_countInLines 5 (some .int) ∈ wsL_law := wsL_ot (List.mem_of_getElem? (i := 301) (by decide +kernel)) rfl
theorem q347 : Cond.methodLink RX3 195 yX3_lost ∈ wsL_law := wsL_ot (List.mem_of_getElem? (i := 294) (by decide +kernel)) rfl
theorem q348 : Cond.instanceMethod yX3_lost ∈ wsL_law := wsL_ot (List.mem_of_getElem? (i := 296) (by decide +kernel)) rfl
theorem q349 : Cond.selects RX3 yX3_lost yX3_lost ∈ wsL_law := List.mem_append_left _ (List.mem_of_getElem? (i := 12) rfl)
theorem q350 : Cond.methodLink RX3 147 yX3_allTaxes ∈ wsL_law := wsL_ot (List.mem_of_getElem? (i := 86) (by decide +kernel)) rfl
theorem q351 : Cond.instanceMethod yX3_allTaxes ∈ wsL_law := wsL_ot (List.mem_of_getElem? (i := 88) (by decide +kernel)) rfl
theorem q352 : Cond.selects RX3 yX3_allTaxes yX3_allTaxes ∈ wsL_law := List.mem_append_left _ (List.mem_of_getElem? (i := 0) rfl)
theorem q353 : Cond.methodLink RX3 198 yX3_countInLines ∈ wsL_law := wsL_ot (List.mem_of_getElem? (i := 298) (by decide +kernel)) rfl
theorem q354 : Cond.instanceMethod yX3_countInLines ∈ wsL_law := wsL_ot (List.mem_of_getElem? (i := 300) (by decide +kernel)) rfl
theorem q355 : Cond.selects RX3 yX3_countInLines yX3_countInLines ∈ wsL_law := List.mem_append_left _ (List.mem_of_getElem? (i := 13) rfl)
theorem q356 : Cond.code yX3_countAll cX3_countAll 2 (some .int) ∈ wsL_law := wsL_ot (List.mem_of_getElem? (i := 293) (by decide +kernel)) rfl
theorem q357 : Cond.methodLink RX3 136 yX3_countAll ∈ wsL_law := wsL_ot (List.mem_of_getElem? (i := 290) (by decide +kernel)) rfl
theorem q358 : Cond.instanceMethod yX3_countAll ∈ wsL_law := wsL_ot (List.mem_of_getElem? (i := 292) (by decide +kernel)) rfl
theorem q359 : Cond.selects RX3 yX3_countAll yX3_countAll ∈ wsL_law := List.mem_append_left _ (List.mem_of_getElem? (i := 11) rfl)
theorem q360 : Cond.code yX3_count cX3_count 2 (some .int) ∈ wsL_law := wsL_ot (List.mem_of_getElem? (i := 659) (by decide +kernel)) rfl
theorem q361 : Cond.code yX3_taxesWith cX3_taxesWith 6 (some .int) ∈ wsL_law := wsL_ot (List.mem_of_getElem? (i := 280) (by decide +kernel)) rfl
theorem q362 : Cond.methodLink RX3 139 yX3_taxesWith ∈ wsL_law := wsL_ot (List.mem_of_getElem? (i := 277) (by decide +kernel)) rfl
theorem q363 : Cond.instanceMethod yX3_taxesWith ∈ wsL_law := wsL_ot (List.mem_of_getElem? (i := 279) (by decide +kernel)) rfl
theorem q364 : Cond.selects RX3 yX3_taxesWith yX3_taxesWith ∈ wsL_law := List.mem_append_left _ (List.mem_of_getElem? (i := 10) rfl)
theorem q365 : Cond.code yX3_tries cX3_tries 5 (some .int) ∈ wsL_law := wsL_ot (List.mem_of_getElem? (i := 666) (by decide +kernel)) rfl
theorem q366 : Cond.constant RX3 219 (2147483647) ∈ wsL_law := wsL_ot (List.mem_of_getElem? (i := 114) (by decide +kernel)) rfl
theorem q367 : Cond.code yX3_bestWord cX3_bestWord 9 (some (.object "RhymeTax$Word")) ∈ wsL_law := wsL_ot (List.mem_of_getElem? (i := 113) (by decide +kernel)) rfl
theorem q368 : Cond.methodLink RX3 143 yX3_bestWord ∈ wsL_law := wsL_ot (List.mem_of_getElem? (i := 110) (by decide +kernel)) rfl
theorem q369 : Cond.instanceMethod yX3_bestWord ∈ wsL_law := wsL_ot (List.mem_of_getElem? (i := 112) (by decide +kernel)) rfl
theorem q370 : Cond.selects RX3 yX3_bestWord yX3_bestWord ∈ wsL_law := List.mem_append_left _ (List.mem_of_getElem? (i := 1) rfl)
theorem q371 : Cond.code yX3_best cX3_best 4 (some .int) ∈ wsL_law := wsL_ot (List.mem_of_getElem? (i := 673) (by decide +kernel)) rfl
theorem q372 : Cond.code yX3_worst cX3_worst 8 (some .int) ∈ wsL_law := wsL_ot (List.mem_of_getElem? (i := 85) (by decide +kernel)) rfl
theorem q373 : Cond.code yX3_mean cX3_mean 2 (some .double) ∈ wsL_law := wsL_ot (List.mem_of_getElem? (i := 284) (by decide +kernel)) rfl
theorem q374 : Cond.code yX3_mix cX3_mix 4 (some .long) ∈ wsL_law := wsL_ot (List.mem_of_getElem? (i := 308) (by decide +kernel)) rfl
theorem q375 : Cond.methodLink RX3 156 yX3_mix ∈ wsL_law := wsL_ot (List.mem_of_getElem? (i := 306) (by decide +kernel)) rfl
theorem q376 : Cond.static yX3_mix ∈ wsL_law := wsL_ot (List.mem_of_getElem? (i := 307) (by decide +kernel)) rfl
theorem q377 : Cond.constantLong RX3 164 (31) ∈ wsL_law := wsL_ot (List.mem_of_getElem? (i := 309) (by decide +kernel)) rfl
theorem q378 : Cond.code yX3_mixLine cX3_mixLine 6 (some .long) ∈ wsL_law := wsL_ot (List.mem_of_getElem? (i := 324) (by decide +kernel)) rfl
theorem q379 : Cond.constantLong RX3 154 (977) ∈ wsL_law := wsL_ot (List.mem_of_getElem? (i := 289) (by decide +kernel)) rfl
theorem q380 : Cond.methodLink RX3 160 yX3_mixLine ∈ wsL_law := wsL_ot (List.mem_of_getElem? (i := 322) (by decide +kernel)) rfl
theorem q381 : Cond.static yX3_mixLine ∈ wsL_law := wsL_ot (List.mem_of_getElem? (i := 323) (by decide +kernel)) rfl
theorem q382 : Cond.code yX3_digest cX3_digest 6 (some .long) ∈ wsL_law := wsL_ot (List.mem_of_getElem? (i := 288) (by decide +kernel)) rfl
theorem q383 : Cond.code yX4_init cX4_init 1 none ∈ wsL_law := wsL_ot (List.mem_of_getElem? (i := 678) (by decide +kernel)) rfl
theorem q384 : Cond.code yX4_thrown cX4_thrown 1 (some .int) ∈ wsL_law := wsL_ot (List.mem_of_getElem? (i := 748) (by decide +kernel)) rfl
theorem q385 : Cond.code yX4_no cX4_no 2 (some .int) ∈ wsL_law := wsL_ot (List.mem_of_getElem? (i := 759) (by decide +kernel)) rfl
theorem q386 : Cond.code yX4_isIn cX4_isIn 3 (some .boolean) ∈ wsL_law := wsL_ot (List.mem_of_getElem? (i := 755) (by decide +kernel)) rfl
theorem q387 : Cond.code yX4_isWord cX4_isWord 2 (some .boolean) ∈ wsL_law := wsL_ot (List.mem_of_getElem? (i := 767) (by decide +kernel)) rfl
theorem q388 : Cond.code yX4_isLine cX4_isLine 2 (some .boolean) ∈ wsL_law := wsL_ot (List.mem_of_getElem? (i := 783) (by decide +kernel)) rfl
theorem q389 : Cond.code yX4_word cX4_word 6 (some .int) ∈ wsL_law := wsL_ot (List.mem_of_getElem? (i := 752) (by decide +kernel)) rfl
theorem q390 : Cond.code yX4_aboutTold cX4_aboutTold 6 (some .int) ∈ wsL_law := wsL_ot (List.mem_of_getElem? (i := 771) (by decide +kernel)) rfl
theorem q391 : Cond.fieldLink RX4 61 "RhymeTaxModel" "thrown" "I" ∈ wsL_law := wsL_ot (List.mem_of_getElem? (i := 680) (by decide +kernel)) rfl
theorem q392 : Cond.methodLink RX4 79 yX4_isWord ∈ wsL_law := wsL_ot (List.mem_of_getElem? (i := 764) (by decide +kernel)) rfl
theorem q393 : Cond.instanceMethod yX4_isWord ∈ wsL_law := wsL_ot (List.mem_of_getElem? (i := 766) (by decide +kernel)) rfl
theorem q394 : Cond.selects RX4 yX4_isWord yX4_isWord ∈ wsL_law := List.mem_append_left _ (List.mem_of_getElem? (i := 22) rfl)
theorem q395 : Cond.initialized RX4 ∈ wsL_law := wsL_ot (List.mem_of_getElem? (i := 6) (by decide +kernel)) rfl
theorem q396 : Cond.fieldLink RX4 65 "RhymeTaxModel" "words" "I" ∈ wsL_law := wsL_ot (List.mem_of_getElem? (i := 681) (by decide +kernel)) rfl
theorem q397 : Cond.methodLink RX4 68 yX4_isIn ∈ wsL_law := wsL_ot (List.mem_of_getElem? (i := 753) (by decide +kernel)) rfl
theorem q398 : Cond.static yX4_isIn ∈ wsL_law := wsL_ot (List.mem_of_getElem? (i := 754) (by decide +kernel)) rfl
theorem q399 : Cond.methodLink RX4 83 yX4_aboutTold ∈ wsL_law := wsL_ot (List.mem_of_getElem? (i := 768) (by decide +kernel)) rfl
theorem q400 : Cond.instanceMethod yX4_aboutTold ∈ wsL_law := wsL_ot (List.mem_of_getElem? (i := 770) (by decide +kernel)) rfl
theorem q401 : Cond.selects RX4 yX4_aboutTold yX4_aboutTold ∈ wsL_law := List.mem_append_left _ (List.mem_of_getElem? (i := 23) rfl)
theorem q402 : Cond.fieldLink RX4 72 "RhymeTaxModel" "lines" "I" ∈ wsL_law := wsL_ot (List.mem_of_getElem? (i := 687) (by decide +kernel)) rfl
theorem q403 : Cond.fieldLink RX4 34 "RhymeTaxModel" "many" "[I" ∈ wsL_law := wsL_ot (List.mem_of_getElem? (i := 691) (by decide +kernel)) rfl
theorem q404 : Cond.fieldLink RX4 37 "RhymeTaxModel" "row" "[I" ∈ wsL_law := wsL_ot (List.mem_of_getElem? (i := 692) (by decide +kernel)) rfl
theorem q405 : Cond.arrayClass .int ∈ wsL_law := wsL_ot (List.mem_of_getElem? (i := 744) (by decide +kernel)) rfl
theorem q406 : Cond.fieldLink RX4 9 "RhymeTaxModel" "syllables" "[I" ∈ wsL_law := wsL_ot (List.mem_of_getElem? (i := 682) (by decide +kernel)) rfl
theorem q407 : Cond.fieldLink RX4 13 "RhymeTaxModel" "stresses" "[I" ∈ wsL_law := wsL_ot (List.mem_of_getElem? (i := 683) (by decide +kernel)) rfl
theorem q408 : Cond.fieldLink RX4 16 "RhymeTaxModel" "vowel" "[I" ∈ wsL_law := wsL_ot (List.mem_of_getElem? (i := 684) (by decide +kernel)) rfl
theorem q409 : Cond.fieldLink RX4 19 "RhymeTaxModel" "end" "[I" ∈ wsL_law := wsL_ot (List.mem_of_getElem? (i := 685) (by decide +kernel)) rfl
theorem q410 : Cond.fieldLink RX4 22 "RhymeTaxModel" "isOpen" "[I" ∈ wsL_law := wsL_ot (List.mem_of_getElem? (i := 686) (by decide +kernel)) rfl
theorem q411 : Cond.methodLink RX4 75 yX4_no ∈ wsL_law := wsL_ot (List.mem_of_getElem? (i := 756) (by decide +kernel)) rfl
theorem q412 : Cond.instanceMethod yX4_no ∈ wsL_law := wsL_ot (List.mem_of_getElem? (i := 758) (by decide +kernel)) rfl
theorem q413 : Cond.selects RX4 yX4_no yX4_no ∈ wsL_law := List.mem_append_left _ (List.mem_of_getElem? (i := 21) rfl)
theorem q414 : Cond.code yX4_about cX4_about 3 (some .int) ∈ wsL_law := wsL_ot (List.mem_of_getElem? (i := 763) (by decide +kernel)) rfl
theorem q415 : Cond.code yX4_line cX4_line 4 (some .int) ∈ wsL_law := wsL_ot (List.mem_of_getElem? (i := 775) (by decide +kernel)) rfl
theorem q416 : Cond.code yX4_write cX4_write 4 (some .int) ∈ wsL_law := wsL_ot (List.mem_of_getElem? (i := 779) (by decide +kernel)) rfl
theorem q417 : Cond.code yX4_strike cX4_strike 2 (some .int) ∈ wsL_law := wsL_ot (List.mem_of_getElem? (i := 787) (by decide +kernel)) rfl
theorem q418 : Cond.code yX4_written cX4_written 3 (some .int) ∈ wsL_law := wsL_ot (List.mem_of_getElem? (i := 791) (by decide +kernel)) rfl
theorem q419 : Cond.code yX4_melts cX4_melts 3 (some .boolean) ∈ wsL_law := wsL_ot (List.mem_of_getElem? (i := 807) (by decide +kernel)) rfl
theorem q420 : Cond.code yX4_putOwn cX4_putOwn 8 (some .int) ∈ wsL_law := wsL_ot (List.mem_of_getElem? (i := 803) (by decide +kernel)) rfl
theorem q421 : Cond.code yX4_beat cX4_beat 2 (some .int) ∈ wsL_law := wsL_ot (List.mem_of_getElem? (i := 817) (by decide +kernel)) rfl
theorem q422 : Cond.code yX4_room cX4_room 2 (some .int) ∈ wsL_law := wsL_ot (List.mem_of_getElem? (i := 811) (by decide +kernel)) rfl
theorem q423 : Cond.code yX4_lacks cX4_lacks 2 (some .int) ∈ wsL_law := wsL_ot (List.mem_of_getElem? (i := 830) (by decide +kernel)) rfl
theorem q424 : Cond.code yX4_last cX4_last 2 (some .int) ∈ wsL_law := wsL_ot (List.mem_of_getElem? (i := 842) (by decide +kernel)) rfl
theorem q425 : Cond.code yX4_lastStress cX4_lastStress 2 (some .int) ∈ wsL_law := wsL_ot (List.mem_of_getElem? (i := 845) (by decide +kernel)) rfl
theorem q426 : Cond.code yX4_rhymeOf cX4_rhymeOf 5 (some .int) ∈ wsL_law := wsL_ot (List.mem_of_getElem? (i := 838) (by decide +kernel)) rfl
theorem q427 : Cond.code yX4_rhymeAhead cX4_rhymeAhead 3 (some .int) ∈ wsL_law := wsL_ot (List.mem_of_getElem? (i := 834) (by decide +kernel)) rfl
theorem q428 : Cond.code yJ6_bitCount_0f7a4 cJ6_bitCount_0f7a4 1 (some .int) ∈ wsL_law := wsL_ot (List.mem_of_getElem? (i := 823) (by decide +kernel)) rfl
theorem q429 : Cond.fieldLink RX4 43 "RhymeTaxModel" "comes" "[I" ∈ wsL_law := wsL_ot (List.mem_of_getElem? (i := 694) (by decide +kernel)) rfl
theorem q430 : Cond.fieldLink RX4 40 "RhymeTaxModel" "own" "[I" ∈ wsL_law := wsL_ot (List.mem_of_getElem? (i := 693) (by decide +kernel)) rfl
theorem q431 : Cond.fieldLink RX4 46 "RhymeTaxModel" "stays" "[I" ∈ wsL_law := wsL_ot (List.mem_of_getElem? (i := 695) (by decide +kernel)) rfl
theorem q432 : Cond.methodLink RX4 115 Lib.Math.min.name ∈ wsL_law := wsL_ot (List.mem_of_getElem? (i := 814) (by decide +kernel)) rfl
theorem q433 : Cond.fieldLink RX4 49 "RhymeTaxModel" "bits" "[I" ∈ wsL_law := wsL_ot (List.mem_of_getElem? (i := 696) (by decide +kernel)) rfl
theorem q434 : Cond.fieldLink RX4 52 "RhymeTaxModel" "off" "[I" ∈ wsL_law := wsL_ot (List.mem_of_getElem? (i := 697) (by decide +kernel)) rfl
theorem q435 : Cond.fieldLink RX4 58 "RhymeTaxModel" "going" "[I" ∈ wsL_law := wsL_ot (List.mem_of_getElem? (i := 699) (by decide +kernel)) rfl
theorem q436 : Cond.fieldLink RX4 25 "RhymeTaxModel" "metre" "[I" ∈ wsL_law := wsL_ot (List.mem_of_getElem? (i := 688) (by decide +kernel)) rfl
theorem q437 : Cond.methodLink RX4 123 arraycopyName ∈ wsL_law := wsL_ot (List.mem_of_getElem? (i := 820) (by decide +kernel)) rfl
theorem q438 : Cond.fieldLink RX4 55 "RhymeTaxModel" "tax" "[I" ∈ wsL_law := wsL_ot (List.mem_of_getElem? (i := 698) (by decide +kernel)) rfl
theorem q439 : Cond.fieldLink RX4 28 "RhymeTaxModel" "feet" "[I" ∈ wsL_law := wsL_ot (List.mem_of_getElem? (i := 689) (by decide +kernel)) rfl
theorem q440 : Cond.methodLink RX4 140 Lib.Math.max.name ∈ wsL_law := wsL_ot (List.mem_of_getElem? (i := 846) (by decide +kernel)) rfl
theorem q441 : Cond.fieldLink RX4 143 "RhymeTaxModel" "lost" "I" ∈ wsL_law := wsL_ot (List.mem_of_getElem? (i := 700) (by decide +kernel)) rfl
theorem q442 : Cond.methodLink RX4 112 yX4_putOwn ∈ wsL_law := wsL_ot (List.mem_of_getElem? (i := 800) (by decide +kernel)) rfl
theorem q443 : Cond.instanceMethod yX4_putOwn ∈ wsL_law := wsL_ot (List.mem_of_getElem? (i := 802) (by decide +kernel)) rfl
theorem q444 : Cond.selects RX4 yX4_putOwn yX4_putOwn ∈ wsL_law := List.mem_append_left _ (List.mem_of_getElem? (i := 26) rfl)
theorem q445 : Cond.methodLink RX4 90 yX4_melts ∈ wsL_law := wsL_ot (List.mem_of_getElem? (i := 804) (by decide +kernel)) rfl
theorem q446 : Cond.instanceMethod yX4_melts ∈ wsL_law := wsL_ot (List.mem_of_getElem? (i := 806) (by decide +kernel)) rfl
theorem q447 : Cond.selects RX4 yX4_melts yX4_melts ∈ wsL_law := List.mem_append_left _ (List.mem_of_getElem? (i := 27) rfl)
theorem q448 : Cond.methodLink RX4 100 yX4_room ∈ wsL_law := wsL_ot (List.mem_of_getElem? (i := 808) (by decide +kernel)) rfl
theorem q449 : Cond.instanceMethod yX4_room ∈ wsL_law := wsL_ot (List.mem_of_getElem? (i := 810) (by decide +kernel)) rfl
theorem q450 : Cond.selects RX4 yX4_room yX4_room ∈ wsL_law := List.mem_append_left _ (List.mem_of_getElem? (i := 28) rfl)
theorem q451 : Cond.fieldLink RX4 94 "RhymeTaxModel" "FOOT" "[I" ∈ wsL_law := wsL_ot (List.mem_of_getElem? (i := 812) (by decide +kernel)) rfl
theorem q452 : Cond.methodLink RX4 120 yX4_beat ∈ wsL_law := wsL_ot (List.mem_of_getElem? (i := 815) (by decide +kernel)) rfl
theorem q453 : Cond.static yX4_beat ∈ wsL_law := wsL_ot (List.mem_of_getElem? (i := 816) (by decide +kernel)) rfl
theorem q454 : Cond.fieldLink RX4 97 "RhymeTaxModel" "BEAT" "[I" ∈ wsL_law := wsL_ot (List.mem_of_getElem? (i := 818) (by decide +kernel)) rfl
theorem q455 : Cond.methodLink RX4 129 yJ6_bitCount_0f7a4 ∈ wsL_law := wsL_ot (List.mem_of_getElem? (i := 821) (by decide +kernel)) rfl
theorem q456 : Cond.static yJ6_bitCount_0f7a4 ∈ wsL_law := wsL_ot (List.mem_of_getElem? (i := 822) (by decide +kernel)) rfl
theorem q457 : Cond.initialized RJ6 ∈ wsL_law := wsL_ot (List.mem_of_getElem? (i := 22) (by decide +kernel)) rfl
theorem q458 : Cond.constant RJ6 265 (1431655765) ∈ wsL_law := wsL_ot (List.mem_of_getElem? (i := 824) (by decide +kernel)) rfl
theorem q459 : Cond.constant RJ6 266 (858993459) ∈ wsL_law := wsL_ot (List.mem_of_getElem? (i := 825) (by decide +kernel)) rfl
theorem q460 : Cond.constant RJ6 267 (252645135) ∈ wsL_law := wsL_ot (List.mem_of_getElem? (i := 826) (by decide +kernel)) rfl
theorem q461 : Cond.methodLink RX4 134 yX4_lacks ∈ wsL_law := wsL_ot (List.mem_of_getElem? (i := 827) (by decide +kernel)) rfl
theorem q462 : Cond.instanceMethod yX4_lacks ∈ wsL_law := wsL_ot (List.mem_of_getElem? (i := 829) (by decide +kernel)) rfl
theorem q463 : Cond.selects RX4 yX4_lacks yX4_lacks ∈ wsL_law := List.mem_append_left _ (List.mem_of_getElem? (i := 29) rfl)
theorem q464 : Cond.methodLink RX4 137 yX4_rhymeAhead ∈ wsL_law := wsL_ot (List.mem_of_getElem? (i := 831) (by decide +kernel)) rfl
theorem q465 : Cond.instanceMethod yX4_rhymeAhead ∈ wsL_law := wsL_ot (List.mem_of_getElem? (i := 833) (by decide +kernel)) rfl
theorem q466 : Cond.selects RX4 yX4_rhymeAhead yX4_rhymeAhead ∈ wsL_law := List.mem_append_left _ (List.mem_of_getElem? (i := 30) rfl)
theorem q467 : Cond.fieldLink RX4 31 "RhymeTaxModel" "mark" "[I" ∈ wsL_law := wsL_ot (List.mem_of_getElem? (i := 690) (by decide +kernel)) rfl
theorem q468 : Cond.methodLink RX4 109 yX4_rhymeOf ∈ wsL_law := wsL_ot (List.mem_of_getElem? (i := 835) (by decide +kernel)) rfl
theorem q469 : Cond.instanceMethod yX4_rhymeOf ∈ wsL_law := wsL_ot (List.mem_of_getElem? (i := 837) (by decide +kernel)) rfl
theorem q470 : Cond.selects RX4 yX4_rhymeOf yX4_rhymeOf ∈ wsL_law := List.mem_append_left _ (List.mem_of_getElem? (i := 31) rfl)
theorem q471 : Cond.methodLink RX4 103 yX4_last ∈ wsL_law := wsL_ot (List.mem_of_getElem? (i := 839) (by decide +kernel)) rfl
theorem q472 : Cond.instanceMethod yX4_last ∈ wsL_law := wsL_ot (List.mem_of_getElem? (i := 841) (by decide +kernel)) rfl
theorem q473 : Cond.selects RX4 yX4_last yX4_last ∈ wsL_law := List.mem_append_left _ (List.mem_of_getElem? (i := 32) rfl)
theorem q474 : Cond.methodLink RX4 106 yX4_lastStress ∈ wsL_law := wsL_ot (List.mem_of_getElem? (i := 843) (by decide +kernel)) rfl
theorem q475 : Cond.static yX4_lastStress ∈ wsL_law := wsL_ot (List.mem_of_getElem? (i := 844) (by decide +kernel)) rfl
theorem q476 : Cond.code yX4_scan cX4_scan 5 (some .int) ∈ wsL_law := wsL_ot (List.mem_of_getElem? (i := 799) (by decide +kernel)) rfl
theorem q477 : Cond.code yX4_toldOf cX4_toldOf 4 (some .int) ∈ wsL_law := wsL_ot (List.mem_of_getElem? (i := 850) (by decide +kernel)) rfl
theorem q478 : Cond.methodLink RX4 87 yX4_isLine ∈ wsL_law := wsL_ot (List.mem_of_getElem? (i := 780) (by decide +kernel)) rfl
theorem q479 : Cond.instanceMethod yX4_isLine ∈ wsL_law := wsL_ot (List.mem_of_getElem? (i := 782) (by decide +kernel)) rfl
theorem q480 : Cond.selects RX4 yX4_isLine yX4_isLine ∈ wsL_law := List.mem_append_left _ (List.mem_of_getElem? (i := 24) rfl)
theorem q481 : Cond.methodLink RX4 146 yX4_scan ∈ wsL_law := wsL_ot (List.mem_of_getElem? (i := 796) (by decide +kernel)) rfl
theorem q482 : Cond.instanceMethod yX4_scan ∈ wsL_law := wsL_ot (List.mem_of_getElem? (i := 798) (by decide +kernel)) rfl
theorem q483 : Cond.selects RX4 yX4_scan yX4_scan ∈ wsL_law := List.mem_append_left _ (List.mem_of_getElem? (i := 25) rfl)
theorem q484 : Cond.methodLink RX4 150 yX4_toldOf ∈ wsL_law := wsL_ot (List.mem_of_getElem? (i := 847) (by decide +kernel)) rfl
theorem q485 : Cond.instanceMethod yX4_toldOf ∈ wsL_law := wsL_ot (List.mem_of_getElem? (i := 849) (by decide +kernel)) rfl
end
section
theorem q486 : Cond.selects RX4 yX4_toldOf yX4_toldOf ∈ wsL_law := List.mem_append_left _ (List.mem_of_getElem? (i := 33) rfl)
theorem q487 : Cond.code yX4_told cX4_told 3 (some .int) ∈ wsL_law := wsL_ot (List.mem_of_getElem? (i := 795) (by decide +kernel)) rfl
theorem q488 : Cond.code yX4_stress cX4_stress 3 (some .int) ∈ wsL_law := wsL_ot (List.mem_of_getElem? (i := 854) (by decide +kernel)) rfl
theorem q489 : Cond.code yX4_melted cX4_melted 4 (some .int) ∈ wsL_law := wsL_ot (List.mem_of_getElem? (i := 858) (by decide +kernel)) rfl
theorem q490 : Cond.code yX4_rhyme cX4_rhyme 3 (some .int) ∈ wsL_law := wsL_ot (List.mem_of_getElem? (i := 862) (by decide +kernel)) rfl
theorem q491 : Cond.constant RX4 153 (2147483647) ∈ wsL_law := wsL_ot (List.mem_of_getElem? (i := 867) (by decide +kernel)) rfl
theorem q492 : Cond.code yX4_scans cX4_scans 6 (some .int) ∈ wsL_law := wsL_ot (List.mem_of_getElem? (i := 866) (by decide +kernel)) rfl
theorem q493 : Cond.code yX4_counted cX4_counted 7 (some .int) ∈ wsL_law := wsL_ot (List.mem_of_getElem? (i := 875) (by decide +kernel)) rfl
theorem q494 : Cond.methodLink RX4 154 yX4_counted ∈ wsL_law := wsL_ot (List.mem_of_getElem? (i := 872) (by decide +kernel)) rfl
theorem q495 : Cond.instanceMethod yX4_counted ∈ wsL_law := wsL_ot (List.mem_of_getElem? (i := 874) (by decide +kernel)) rfl
theorem q496 : Cond.selects RX4 yX4_counted yX4_counted ∈ wsL_law := List.mem_append_left _ (List.mem_of_getElem? (i := 34) rfl)
theorem q497 : Cond.code yX4_count cX4_count 2 (some .int) ∈ wsL_law := wsL_ot (List.mem_of_getElem? (i := 871) (by decide +kernel)) rfl
theorem q498 : Cond.code yX4_taxesWith cX4_taxesWith 5 (some .int) ∈ wsL_law := wsL_ot (List.mem_of_getElem? (i := 883) (by decide +kernel)) rfl
theorem q499 : Cond.methodLink RX4 157 yX4_taxesWith ∈ wsL_law := wsL_ot (List.mem_of_getElem? (i := 880) (by decide +kernel)) rfl
theorem q500 : Cond.instanceMethod yX4_taxesWith ∈ wsL_law := wsL_ot (List.mem_of_getElem? (i := 882) (by decide +kernel)) rfl
theorem q501 : Cond.selects RX4 yX4_taxesWith yX4_taxesWith ∈ wsL_law := List.mem_append_left _ (List.mem_of_getElem? (i := 35) rfl)
theorem q502 : Cond.code yX4_tries cX4_tries 4 (some .int) ∈ wsL_law := wsL_ot (List.mem_of_getElem? (i := 879) (by decide +kernel)) rfl
theorem q503 : Cond.code yX4_best cX4_best 7 (some .int) ∈ wsL_law := wsL_ot (List.mem_of_getElem? (i := 887) (by decide +kernel)) rfl
theorem q504 : Cond.code yX4_worst cX4_worst 7 (some .int) ∈ wsL_law := wsL_ot (List.mem_of_getElem? (i := 891) (by decide +kernel)) rfl
theorem q505 : Cond.code yX4_mean cX4_mean 1 (some .double) ∈ wsL_law := wsL_ot (List.mem_of_getElem? (i := 895) (by decide +kernel)) rfl
theorem q506 : Cond.constantLong RX4 160 (977) ∈ wsL_law := wsL_ot (List.mem_of_getElem? (i := 900) (by decide +kernel)) rfl
theorem q507 : Cond.constantLong RX4 162 (31) ∈ wsL_law := wsL_ot (List.mem_of_getElem? (i := 901) (by decide +kernel)) rfl
theorem q508 : Cond.code yX4_digest cX4_digest 5 (some .long) ∈ wsL_law := wsL_ot (List.mem_of_getElem? (i := 899) (by decide +kernel)) rfl
theorem q509 : Cond.code yJ9_max_7cf53 cJ9_max_7cf53 2 (some .int) ∈ wsL_law := wsL_ot (List.mem_of_getElem? (i := 148) (by decide +kernel)) rfl
theorem q510 : Cond.code yJ9_min_7cf53 cJ9_min_7cf53 2 (some .int) ∈ wsL_law := wsL_ot (List.mem_of_getElem? (i := 177) (by decide +kernel)) rfl
theorem q511 : Cond.classLink RL 13 "java/lang/IllegalArgumentException" ∈ wsL_law := wsL_ot (List.mem_of_getElem? (i := 336) (by decide +kernel)) rfl
theorem q512 : Cond.classLink RL 15 "java/lang/IllegalStateException" ∈ wsL_law := wsL_ot (List.mem_of_getElem? (i := 337) (by decide +kernel)) rfl
theorem q513 : Cond.methodLink RL 7 yX3_word ∈ wsL_law := wsL_ot (List.mem_of_getElem? (i := 338) (by decide +kernel)) rfl
theorem q514 : Cond.instanceMethod yX3_word ∈ wsL_law := wsL_ot (List.mem_of_getElem? (i := 339) (by decide +kernel)) rfl
theorem q515 : Cond.selects RX3 yX3_word yX3_word ∈ wsL_law := wsL_ot (List.mem_of_getElem? (i := 340) (by decide +kernel)) rfl
theorem q516 : Cond.codeWith yL_word cL_word 8 (some .int) [(0, 16, 19, 13), (0, 16, 23, 15)] ∈ wsL_law := wsL_ot (List.mem_of_getElem? (i := 335) (by decide +kernel)) rfl
theorem q517 : Cond.classLink RL 21 "java/lang/IndexOutOfBoundsException" ∈ wsL_law := wsL_ot (List.mem_of_getElem? (i := 464) (by decide +kernel)) rfl
theorem q518 : Cond.methodLink RL 17 yX3_about ∈ wsL_law := wsL_ot (List.mem_of_getElem? (i := 465) (by decide +kernel)) rfl
theorem q519 : Cond.instanceMethod yX3_about ∈ wsL_law := wsL_ot (List.mem_of_getElem? (i := 466) (by decide +kernel)) rfl
theorem q520 : Cond.selects RX3 yX3_about yX3_about ∈ wsL_law := wsL_ot (List.mem_of_getElem? (i := 467) (by decide +kernel)) rfl
theorem q521 : Cond.codeWith yL_about cL_about 5 (some .int) [(0, 10, 13, 21)] ∈ wsL_law := wsL_ot (List.mem_of_getElem? (i := 463) (by decide +kernel)) rfl
theorem q522 : Cond.methodLink RL 23 yX3_line ∈ wsL_law := wsL_ot (List.mem_of_getElem? (i := 495) (by decide +kernel)) rfl
theorem q523 : Cond.instanceMethod yX3_line ∈ wsL_law := wsL_ot (List.mem_of_getElem? (i := 496) (by decide +kernel)) rfl
theorem q524 : Cond.selects RX3 yX3_line yX3_line ∈ wsL_law := wsL_ot (List.mem_of_getElem? (i := 497) (by decide +kernel)) rfl
theorem q525 : Cond.codeWith yL_line cL_line 6 (some .int) [(0, 12, 15, 13), (0, 12, 19, 15)] ∈ wsL_law := wsL_ot (List.mem_of_getElem? (i := 494) (by decide +kernel)) rfl
theorem q526 : Cond.methodLink RL 27 yX3_write ∈ wsL_law := wsL_ot (List.mem_of_getElem? (i := 573) (by decide +kernel)) rfl
theorem q527 : Cond.instanceMethod yX3_write ∈ wsL_law := wsL_ot (List.mem_of_getElem? (i := 574) (by decide +kernel)) rfl
theorem q528 : Cond.selects RX3 yX3_write yX3_write ∈ wsL_law := wsL_ot (List.mem_of_getElem? (i := 575) (by decide +kernel)) rfl
theorem q529 : Cond.codeWith yL_write cL_write 6 (some .int) [(0, 12, 15, 21), (0, 12, 19, 15)] ∈ wsL_law := wsL_ot (List.mem_of_getElem? (i := 572) (by decide +kernel)) rfl
theorem q530 : Cond.methodLink RL 30 yX3_strike ∈ wsL_law := wsL_ot (List.mem_of_getElem? (i := 585) (by decide +kernel)) rfl
theorem q531 : Cond.instanceMethod yX3_strike ∈ wsL_law := wsL_ot (List.mem_of_getElem? (i := 586) (by decide +kernel)) rfl
theorem q532 : Cond.selects RX3 yX3_strike yX3_strike ∈ wsL_law := wsL_ot (List.mem_of_getElem? (i := 587) (by decide +kernel)) rfl
theorem q533 : Cond.codeWith yL_strike cL_strike 4 (some .int) [(0, 9, 12, 21), (0, 9, 15, 15)] ∈ wsL_law := wsL_ot (List.mem_of_getElem? (i := 584) (by decide +kernel)) rfl
theorem q534 : Cond.methodLink RL 34 yX3_written ∈ wsL_law := wsL_ot (List.mem_of_getElem? (i := 606) (by decide +kernel)) rfl
theorem q535 : Cond.instanceMethod yX3_written ∈ wsL_law := wsL_ot (List.mem_of_getElem? (i := 607) (by decide +kernel)) rfl
theorem q536 : Cond.selects RX3 yX3_written yX3_written ∈ wsL_law := wsL_ot (List.mem_of_getElem? (i := 608) (by decide +kernel)) rfl
theorem q537 : Cond.codeWith yL_written cL_written 5 (some .int) [(0, 10, 13, 21)] ∈ wsL_law := wsL_ot (List.mem_of_getElem? (i := 605) (by decide +kernel)) rfl
theorem q538 : Cond.methodLink RL 37 yX3_told ∈ wsL_law := wsL_ot (List.mem_of_getElem? (i := 616) (by decide +kernel)) rfl
theorem q539 : Cond.instanceMethod yX3_told ∈ wsL_law := wsL_ot (List.mem_of_getElem? (i := 617) (by decide +kernel)) rfl
theorem q540 : Cond.selects RX3 yX3_told yX3_told ∈ wsL_law := wsL_ot (List.mem_of_getElem? (i := 618) (by decide +kernel)) rfl
theorem q541 : Cond.codeWith yL_told cL_told 5 (some .int) [(0, 10, 13, 21)] ∈ wsL_law := wsL_ot (List.mem_of_getElem? (i := 615) (by decide +kernel)) rfl
theorem q542 : Cond.methodLink RL 40 yX3_stress ∈ wsL_law := wsL_ot (List.mem_of_getElem? (i := 623) (by decide +kernel)) rfl
theorem q543 : Cond.instanceMethod yX3_stress ∈ wsL_law := wsL_ot (List.mem_of_getElem? (i := 624) (by decide +kernel)) rfl
theorem q544 : Cond.selects RX3 yX3_stress yX3_stress ∈ wsL_law := wsL_ot (List.mem_of_getElem? (i := 625) (by decide +kernel)) rfl
theorem q545 : Cond.codeWith yL_stress cL_stress 5 (some .int) [(0, 10, 13, 21)] ∈ wsL_law := wsL_ot (List.mem_of_getElem? (i := 622) (by decide +kernel)) rfl
theorem q546 : Cond.methodLink RL 43 yX3_melted ∈ wsL_law := wsL_ot (List.mem_of_getElem? (i := 630) (by decide +kernel)) rfl
theorem q547 : Cond.instanceMethod yX3_melted ∈ wsL_law := wsL_ot (List.mem_of_getElem? (i := 631) (by decide +kernel)) rfl
theorem q548 : Cond.selects RX3 yX3_melted yX3_melted ∈ wsL_law := wsL_ot (List.mem_of_getElem? (i := 632) (by decide +kernel)) rfl
theorem q549 : Cond.codeWith yL_melted cL_melted 4 (some .int) [(0, 9, 12, 21)] ∈ wsL_law := wsL_ot (List.mem_of_getElem? (i := 629) (by decide +kernel)) rfl
theorem q550 : Cond.methodLink RL 46 yX3_rhyme ∈ wsL_law := wsL_ot (List.mem_of_getElem? (i := 637) (by decide +kernel)) rfl
theorem q551 : Cond.instanceMethod yX3_rhyme ∈ wsL_law := wsL_ot (List.mem_of_getElem? (i := 638) (by decide +kernel)) rfl
theorem q552 : Cond.selects RX3 yX3_rhyme yX3_rhyme ∈ wsL_law := wsL_ot (List.mem_of_getElem? (i := 639) (by decide +kernel)) rfl
theorem q553 : Cond.codeWith yL_rhyme cL_rhyme 5 (some .int) [(0, 10, 13, 21)] ∈ wsL_law := wsL_ot (List.mem_of_getElem? (i := 636) (by decide +kernel)) rfl
theorem q554 : Cond.methodLink RL 49 yX3_scans ∈ wsL_law := wsL_ot (List.mem_of_getElem? (i := 645) (by decide +kernel)) rfl
theorem q555 : Cond.instanceMethod yX3_scans ∈ wsL_law := wsL_ot (List.mem_of_getElem? (i := 646) (by decide +kernel)) rfl
theorem q556 : Cond.selects RX3 yX3_scans yX3_scans ∈ wsL_law := wsL_ot (List.mem_of_getElem? (i := 647) (by decide +kernel)) rfl
theorem q557 : Cond.codeWith yL_scans cL_scans 4 (some .int) [(0, 9, 12, 21)] ∈ wsL_law := wsL_ot (List.mem_of_getElem? (i := 644) (by decide +kernel)) rfl
theorem q558 : Cond.methodLink RL 52 yX3_count ∈ wsL_law := wsL_ot (List.mem_of_getElem? (i := 656) (by decide +kernel)) rfl
theorem q559 : Cond.instanceMethod yX3_count ∈ wsL_law := wsL_ot (List.mem_of_getElem? (i := 657) (by decide +kernel)) rfl
theorem q560 : Cond.selects RX3 yX3_count yX3_count ∈ wsL_law := wsL_ot (List.mem_of_getElem? (i := 658) (by decide +kernel)) rfl
theorem q561 : Cond.codeWith yL_count cL_count 4 (some .int) [(0, 9, 12, 21)] ∈ wsL_law := wsL_ot (List.mem_of_getElem? (i := 655) (by decide +kernel)) rfl
theorem q562 : Cond.methodLink RL 55 yX3_tries ∈ wsL_law := wsL_ot (List.mem_of_getElem? (i := 663) (by decide +kernel)) rfl
theorem q563 : Cond.instanceMethod yX3_tries ∈ wsL_law := wsL_ot (List.mem_of_getElem? (i := 664) (by decide +kernel)) rfl
theorem q564 : Cond.selects RX3 yX3_tries yX3_tries ∈ wsL_law := wsL_ot (List.mem_of_getElem? (i := 665) (by decide +kernel)) rfl
theorem q565 : Cond.codeWith yL_tries cL_tries 6 (some .int) [(0, 12, 15, 21)] ∈ wsL_law := wsL_ot (List.mem_of_getElem? (i := 662) (by decide +kernel)) rfl
theorem q566 : Cond.methodLink RL 58 yX3_best ∈ wsL_law := wsL_ot (List.mem_of_getElem? (i := 670) (by decide +kernel)) rfl
theorem q567 : Cond.instanceMethod yX3_best ∈ wsL_law := wsL_ot (List.mem_of_getElem? (i := 671) (by decide +kernel)) rfl
theorem q568 : Cond.selects RX3 yX3_best yX3_best ∈ wsL_law := wsL_ot (List.mem_of_getElem? (i := 672) (by decide +kernel)) rfl
theorem q569 : Cond.codeWith yL_best cL_best 5 (some .int) [(0, 10, 13, 21)] ∈ wsL_law := wsL_ot (List.mem_of_getElem? (i := 669) (by decide +kernel)) rfl
theorem q570 : Cond.classLink RL 8 RX3 ∈ wsL_law := wsL_ot (List.mem_of_getElem? (i := 23) (by decide +kernel)) rfl
theorem q571 : Cond.instantiable RX3 3 ∈ wsL_law := wsL_ot (List.mem_of_getElem? (i := 24) (by decide +kernel)) rfl
theorem q572 : Cond.classLink RL 62 RX4 ∈ wsL_law := wsL_ot (List.mem_of_getElem? (i := 674) (by decide +kernel)) rfl
theorem q573 : Cond.instantiable RX4 21 ∈ wsL_law := wsL_ot (List.mem_of_getElem? (i := 675) (by decide +kernel)) rfl
theorem q574 : Cond.methodLink RL 61 yX3_init ∈ wsL_law := wsL_ot (List.mem_of_getElem? (i := 25) (by decide +kernel)) rfl
theorem q575 : Cond.instanceMethod yX3_init ∈ wsL_law := wsL_ot (List.mem_of_getElem? (i := 26) (by decide +kernel)) rfl
theorem q576 : Cond.methodLink RL 64 yX4_init ∈ wsL_law := wsL_ot (List.mem_of_getElem? (i := 676) (by decide +kernel)) rfl
theorem q577 : Cond.instanceMethod yX4_init ∈ wsL_law := wsL_ot (List.mem_of_getElem? (i := 677) (by decide +kernel)) rfl
theorem q578 : Cond.methodLink RX4 1 objectInit ∈ wsL_law := wsL_ot (List.mem_of_getElem? (i := 679) (by decide +kernel)) rfl
theorem q579 : Cond.methodLink RL 65 yL_word ∈ wsL_law := wsL_ot (List.mem_of_getElem? (i := 333) (by decide +kernel)) rfl
theorem q580 : Cond.static yL_word ∈ wsL_law := wsL_ot (List.mem_of_getElem? (i := 334) (by decide +kernel)) rfl
theorem q581 : Cond.initialized RL ∈ wsL_law := wsL_ot (List.mem_of_getElem? (i := 0) (by decide +kernel)) rfl
theorem q582 : Cond.methodLink RL 70 yX4_word ∈ wsL_law := wsL_ot (List.mem_of_getElem? (i := 749) (by decide +kernel)) rfl
theorem q583 : Cond.instanceMethod yX4_word ∈ wsL_law := wsL_ot (List.mem_of_getElem? (i := 750) (by decide +kernel)) rfl
theorem q584 : Cond.selects RX4 yX4_word yX4_word ∈ wsL_law := wsL_ot (List.mem_of_getElem? (i := 751) (by decide +kernel)) rfl
theorem q585 : Cond.methodLink RL 71 yX4_thrown ∈ wsL_law := wsL_ot (List.mem_of_getElem? (i := 745) (by decide +kernel)) rfl
theorem q586 : Cond.instanceMethod yX4_thrown ∈ wsL_law := wsL_ot (List.mem_of_getElem? (i := 746) (by decide +kernel)) rfl
theorem q587 : Cond.selects RX4 yX4_thrown yX4_thrown ∈ wsL_law := wsL_ot (List.mem_of_getElem? (i := 747) (by decide +kernel)) rfl
theorem q588 : Cond.methodLink RL 75 yL_about ∈ wsL_law := wsL_ot (List.mem_of_getElem? (i := 461) (by decide +kernel)) rfl
theorem q589 : Cond.static yL_about ∈ wsL_law := wsL_ot (List.mem_of_getElem? (i := 462) (by decide +kernel)) rfl
theorem q590 : Cond.methodLink RL 78 yX4_about ∈ wsL_law := wsL_ot (List.mem_of_getElem? (i := 760) (by decide +kernel)) rfl
theorem q591 : Cond.instanceMethod yX4_about ∈ wsL_law := wsL_ot (List.mem_of_getElem? (i := 761) (by decide +kernel)) rfl
theorem q592 : Cond.selects RX4 yX4_about yX4_about ∈ wsL_law := wsL_ot (List.mem_of_getElem? (i := 762) (by decide +kernel)) rfl
theorem q593 : Cond.methodLink RL 79 yL_line ∈ wsL_law := wsL_ot (List.mem_of_getElem? (i := 492) (by decide +kernel)) rfl
theorem q594 : Cond.static yL_line ∈ wsL_law := wsL_ot (List.mem_of_getElem? (i := 493) (by decide +kernel)) rfl
theorem q595 : Cond.methodLink RL 82 yX4_line ∈ wsL_law := wsL_ot (List.mem_of_getElem? (i := 772) (by decide +kernel)) rfl
theorem q596 : Cond.instanceMethod yX4_line ∈ wsL_law := wsL_ot (List.mem_of_getElem? (i := 773) (by decide +kernel)) rfl
theorem q597 : Cond.selects RX4 yX4_line yX4_line ∈ wsL_law := wsL_ot (List.mem_of_getElem? (i := 774) (by decide +kernel)) rfl
theorem q598 : Cond.methodLink RL 83 yL_write ∈ wsL_law := wsL_ot (List.mem_of_getElem? (i := 570) (by decide +kernel)) rfl
theorem q599 : Cond.static yL_write ∈ wsL_law := wsL_ot (List.mem_of_getElem? (i := 571) (by decide +kernel)) rfl
theorem q600 : Cond.methodLink RL 85 yX4_write ∈ wsL_law := wsL_ot (List.mem_of_getElem? (i := 776) (by decide +kernel)) rfl
theorem q601 : Cond.instanceMethod yX4_write ∈ wsL_law := wsL_ot (List.mem_of_getElem? (i := 777) (by decide +kernel)) rfl
theorem q602 : Cond.selects RX4 yX4_write yX4_write ∈ wsL_law := wsL_ot (List.mem_of_getElem? (i := 778) (by decide +kernel)) rfl
theorem q603 : Cond.methodLink RL 86 yL_strike ∈ wsL_law := wsL_ot (List.mem_of_getElem? (i := 582) (by decide +kernel)) rfl
theorem q604 : Cond.static yL_strike ∈ wsL_law := wsL_ot (List.mem_of_getElem? (i := 583) (by decide +kernel)) rfl
theorem q605 : Cond.methodLink RL 89 yX4_strike ∈ wsL_law := wsL_ot (List.mem_of_getElem? (i := 784) (by decide +kernel)) rfl
theorem q606 : Cond.instanceMethod yX4_strike ∈ wsL_law := wsL_ot (List.mem_of_getElem? (i := 785) (by decide +kernel)) rfl
theorem q607 : Cond.selects RX4 yX4_strike yX4_strike ∈ wsL_law := wsL_ot (List.mem_of_getElem? (i := 786) (by decide +kernel)) rfl
theorem q608 : Cond.methodLink RL 90 yL_written ∈ wsL_law := wsL_ot (List.mem_of_getElem? (i := 603) (by decide +kernel)) rfl
theorem q609 : Cond.static yL_written ∈ wsL_law := wsL_ot (List.mem_of_getElem? (i := 604) (by decide +kernel)) rfl
theorem q610 : Cond.methodLink RL 92 yX4_written ∈ wsL_law := wsL_ot (List.mem_of_getElem? (i := 788) (by decide +kernel)) rfl
theorem q611 : Cond.instanceMethod yX4_written ∈ wsL_law := wsL_ot (List.mem_of_getElem? (i := 789) (by decide +kernel)) rfl
theorem q612 : Cond.selects RX4 yX4_written yX4_written ∈ wsL_law := wsL_ot (List.mem_of_getElem? (i := 790) (by decide +kernel)) rfl
theorem q613 : Cond.methodLink RL 93 yL_told ∈ wsL_law := wsL_ot (List.mem_of_getElem? (i := 613) (by decide +kernel)) rfl
theorem q614 : Cond.static yL_told ∈ wsL_law := wsL_ot (List.mem_of_getElem? (i := 614) (by decide +kernel)) rfl
theorem q615 : Cond.methodLink RL 95 yX4_told ∈ wsL_law := wsL_ot (List.mem_of_getElem? (i := 792) (by decide +kernel)) rfl
theorem q616 : Cond.instanceMethod yX4_told ∈ wsL_law := wsL_ot (List.mem_of_getElem? (i := 793) (by decide +kernel)) rfl
theorem q617 : Cond.selects RX4 yX4_told yX4_told ∈ wsL_law := wsL_ot (List.mem_of_getElem? (i := 794) (by decide +kernel)) rfl
theorem q618 : Cond.methodLink RL 96 yL_stress ∈ wsL_law := wsL_ot (List.mem_of_getElem? (i := 620) (by decide +kernel)) rfl
theorem q619 : Cond.static yL_stress ∈ wsL_law := wsL_ot (List.mem_of_getElem? (i := 621) (by decide +kernel)) rfl
theorem q620 : Cond.methodLink RL 98 yX4_stress ∈ wsL_law := wsL_ot (List.mem_of_getElem? (i := 851) (by decide +kernel)) rfl
theorem q621 : Cond.instanceMethod yX4_stress ∈ wsL_law := wsL_ot (List.mem_of_getElem? (i := 852) (by decide +kernel)) rfl
theorem q622 : Cond.selects RX4 yX4_stress yX4_stress ∈ wsL_law := wsL_ot (List.mem_of_getElem? (i := 853) (by decide +kernel)) rfl
theorem q623 : Cond.methodLink RL 99 yL_melted ∈ wsL_law := wsL_ot (List.mem_of_getElem? (i := 627) (by decide +kernel)) rfl
theorem q624 : Cond.static yL_melted ∈ wsL_law := wsL_ot (List.mem_of_getElem? (i := 628) (by decide +kernel)) rfl
theorem q625 : Cond.methodLink RL 101 yX4_melted ∈ wsL_law := wsL_ot (List.mem_of_getElem? (i := 855) (by decide +kernel)) rfl
theorem q626 : Cond.instanceMethod yX4_melted ∈ wsL_law := wsL_ot (List.mem_of_getElem? (i := 856) (by decide +kernel)) rfl
theorem q627 : Cond.selects RX4 yX4_melted yX4_melted ∈ wsL_law := wsL_ot (List.mem_of_getElem? (i := 857) (by decide +kernel)) rfl
theorem q628 : Cond.methodLink RL 102 yL_rhyme ∈ wsL_law := wsL_ot (List.mem_of_getElem? (i := 634) (by decide +kernel)) rfl
theorem q629 : Cond.static yL_rhyme ∈ wsL_law := wsL_ot (List.mem_of_getElem? (i := 635) (by decide +kernel)) rfl
theorem q630 : Cond.methodLink RL 104 yX4_rhyme ∈ wsL_law := wsL_ot (List.mem_of_getElem? (i := 859) (by decide +kernel)) rfl
theorem q631 : Cond.instanceMethod yX4_rhyme ∈ wsL_law := wsL_ot (List.mem_of_getElem? (i := 860) (by decide +kernel)) rfl
theorem q632 : Cond.selects RX4 yX4_rhyme yX4_rhyme ∈ wsL_law := wsL_ot (List.mem_of_getElem? (i := 861) (by decide +kernel)) rfl
theorem q633 : Cond.methodLink RL 105 yL_scans ∈ wsL_law := wsL_ot (List.mem_of_getElem? (i := 642) (by decide +kernel)) rfl
theorem q634 : Cond.static yL_scans ∈ wsL_law := wsL_ot (List.mem_of_getElem? (i := 643) (by decide +kernel)) rfl
theorem q635 : Cond.methodLink RL 107 yX4_scans ∈ wsL_law := wsL_ot (List.mem_of_getElem? (i := 863) (by decide +kernel)) rfl
theorem q636 : Cond.instanceMethod yX4_scans ∈ wsL_law := wsL_ot (List.mem_of_getElem? (i := 864) (by decide +kernel)) rfl
theorem q637 : Cond.selects RX4 yX4_scans yX4_scans ∈ wsL_law := wsL_ot (List.mem_of_getElem? (i := 865) (by decide +kernel)) rfl
theorem q638 : Cond.methodLink RL 108 yL_count ∈ wsL_law := wsL_ot (List.mem_of_getElem? (i := 653) (by decide +kernel)) rfl
theorem q639 : Cond.static yL_count ∈ wsL_law := wsL_ot (List.mem_of_getElem? (i := 654) (by decide +kernel)) rfl
theorem q640 : Cond.methodLink RL 110 yX4_count ∈ wsL_law := wsL_ot (List.mem_of_getElem? (i := 868) (by decide +kernel)) rfl
theorem q641 : Cond.instanceMethod yX4_count ∈ wsL_law := wsL_ot (List.mem_of_getElem? (i := 869) (by decide +kernel)) rfl
theorem q642 : Cond.selects RX4 yX4_count yX4_count ∈ wsL_law := wsL_ot (List.mem_of_getElem? (i := 870) (by decide +kernel)) rfl
theorem q643 : Cond.methodLink RL 111 yL_tries ∈ wsL_law := wsL_ot (List.mem_of_getElem? (i := 660) (by decide +kernel)) rfl
theorem q644 : Cond.static yL_tries ∈ wsL_law := wsL_ot (List.mem_of_getElem? (i := 661) (by decide +kernel)) rfl
theorem q645 : Cond.methodLink RL 113 yX4_tries ∈ wsL_law := wsL_ot (List.mem_of_getElem? (i := 876) (by decide +kernel)) rfl
theorem q646 : Cond.instanceMethod yX4_tries ∈ wsL_law := wsL_ot (List.mem_of_getElem? (i := 877) (by decide +kernel)) rfl
theorem q647 : Cond.selects RX4 yX4_tries yX4_tries ∈ wsL_law := wsL_ot (List.mem_of_getElem? (i := 878) (by decide +kernel)) rfl
theorem q648 : Cond.methodLink RL 114 yL_best ∈ wsL_law := wsL_ot (List.mem_of_getElem? (i := 667) (by decide +kernel)) rfl
theorem q649 : Cond.static yL_best ∈ wsL_law := wsL_ot (List.mem_of_getElem? (i := 668) (by decide +kernel)) rfl
theorem q650 : Cond.methodLink RL 116 yX4_best ∈ wsL_law := wsL_ot (List.mem_of_getElem? (i := 884) (by decide +kernel)) rfl
theorem q651 : Cond.instanceMethod yX4_best ∈ wsL_law := wsL_ot (List.mem_of_getElem? (i := 885) (by decide +kernel)) rfl
theorem q652 : Cond.selects RX4 yX4_best yX4_best ∈ wsL_law := wsL_ot (List.mem_of_getElem? (i := 886) (by decide +kernel)) rfl
theorem q653 : Cond.methodLink RL 117 yX3_worst ∈ wsL_law := wsL_ot (List.mem_of_getElem? (i := 82) (by decide +kernel)) rfl
theorem q654 : Cond.instanceMethod yX3_worst ∈ wsL_law := wsL_ot (List.mem_of_getElem? (i := 83) (by decide +kernel)) rfl
theorem q655 : Cond.selects RX3 yX3_worst yX3_worst ∈ wsL_law := wsL_ot (List.mem_of_getElem? (i := 84) (by decide +kernel)) rfl
theorem q656 : Cond.methodLink RL 120 yX4_worst ∈ wsL_law := wsL_ot (List.mem_of_getElem? (i := 888) (by decide +kernel)) rfl
theorem q657 : Cond.instanceMethod yX4_worst ∈ wsL_law := wsL_ot (List.mem_of_getElem? (i := 889) (by decide +kernel)) rfl
theorem q658 : Cond.selects RX4 yX4_worst yX4_worst ∈ wsL_law := wsL_ot (List.mem_of_getElem? (i := 890) (by decide +kernel)) rfl
theorem q659 : Cond.methodLink RL 121 yX3_mean ∈ wsL_law := wsL_ot (List.mem_of_getElem? (i := 281) (by decide +kernel)) rfl
theorem q660 : Cond.instanceMethod yX3_mean ∈ wsL_law := wsL_ot (List.mem_of_getElem? (i := 282) (by decide +kernel)) rfl
theorem q661 : Cond.selects RX3 yX3_mean yX3_mean ∈ wsL_law := wsL_ot (List.mem_of_getElem? (i := 283) (by decide +kernel)) rfl
theorem q662 : Cond.methodLink RL 125 yX4_mean ∈ wsL_law := wsL_ot (List.mem_of_getElem? (i := 892) (by decide +kernel)) rfl
theorem q663 : Cond.instanceMethod yX4_mean ∈ wsL_law := wsL_ot (List.mem_of_getElem? (i := 893) (by decide +kernel)) rfl
theorem q664 : Cond.selects RX4 yX4_mean yX4_mean ∈ wsL_law := wsL_ot (List.mem_of_getElem? (i := 894) (by decide +kernel)) rfl
theorem q665 : Cond.methodLink RL 126 yX3_digest ∈ wsL_law := wsL_ot (List.mem_of_getElem? (i := 285) (by decide +kernel)) rfl
theorem q666 : Cond.instanceMethod yX3_digest ∈ wsL_law := wsL_ot (List.mem_of_getElem? (i := 286) (by decide +kernel)) rfl
theorem q667 : Cond.selects RX3 yX3_digest yX3_digest ∈ wsL_law := wsL_ot (List.mem_of_getElem? (i := 287) (by decide +kernel)) rfl
theorem q668 : Cond.methodLink RL 130 yX4_digest ∈ wsL_law := wsL_ot (List.mem_of_getElem? (i := 896) (by decide +kernel)) rfl
theorem q669 : Cond.instanceMethod yX4_digest ∈ wsL_law := wsL_ot (List.mem_of_getElem? (i := 897) (by decide +kernel)) rfl
theorem q670 : Cond.selects RX4 yX4_digest yX4_digest ∈ wsL_law := wsL_ot (List.mem_of_getElem? (i := 898) (by decide +kernel)) rfl
theorem qfX0_0 : u_lay RX0 TX0 0 ∈ wsL_law := wsL_ot (List.mem_of_getElem? (i := 66) (by decide +kernel)) rfl
theorem qfX0_1 : u_lay RX0 TX0 1 ∈ wsL_law := wsL_ot (List.mem_of_getElem? (i := 68) (by decide +kernel)) rfl
theorem inX0 : ∀ w ∈ wsX00, w ∈ wsL_law := List.forall_mem_cons.mpr ⟨qfX0_0, List.forall_mem_cons.mpr ⟨qfX0_1, fun _ h => absurd h List.not_mem_nil⟩⟩
theorem qfX1_0 : u_lay RX1 TX1 0 ∈ wsL_law := wsL_ot (List.mem_of_getElem? (i := 535) (by decide +kernel)) rfl
theorem qfX1_1 : u_lay RX1 TX1 1 ∈ wsL_law := wsL_ot (List.mem_of_getElem? (i := 537) (by decide +kernel)) rfl
theorem qfX1_2 : u_lay RX1 TX1 2 ∈ wsL_law := wsL_ot (List.mem_of_getElem? (i := 539) (by decide +kernel)) rfl
theorem qfX1_3 : u_lay RX1 TX1 3 ∈ wsL_law := wsL_ot (List.mem_of_getElem? (i := 541) (by decide +kernel)) rfl
theorem qfX1_4 : u_lay RX1 TX1 4 ∈ wsL_law := wsL_ot (List.mem_of_getElem? (i := 543) (by decide +kernel)) rfl
theorem qfX1_5 : u_lay RX1 TX1 5 ∈ wsL_law := wsL_ot (List.mem_of_getElem? (i := 545) (by decide +kernel)) rfl
theorem qfX1_6 : u_lay RX1 TX1 6 ∈ wsL_law := wsL_ot (List.mem_of_getElem? (i := 547) (by decide +kernel)) rfl
theorem qfX1_7 : u_lay RX1 TX1 7 ∈ wsL_law := wsL_ot (List.mem_of_getElem? (i := 549) (by decide +kernel)) rfl
theorem qfX1_8 : u_lay RX1 TX1 8 ∈ wsL_law := wsL_ot (List.mem_of_getElem? (i := 551) (by decide +kernel)) rfl
theorem qfX1_9 : u_lay RX1 TX1 9 ∈ wsL_law := wsL_ot (List.mem_of_getElem? (i := 553) (by decide +kernel)) rfl
theorem qfX1_10 : u_lay RX1 TX1 10 ∈ wsL_law := wsL_ot (List.mem_of_getElem? (i := 555) (by decide +kernel)) rfl
theorem qfX1_11 : u_lay RX1 TX1 11 ∈ wsL_law := wsL_ot (List.mem_of_getElem? (i := 557) (by decide +kernel)) rfl
theorem qfX1_12 : u_lay RX1 TX1 12 ∈ wsL_law := wsL_ot (List.mem_of_getElem? (i := 559) (by decide +kernel)) rfl
theorem qfX1_13 : u_lay RX1 TX1 13 ∈ wsL_law := wsL_ot (List.mem_of_getElem? (i := 561) (by decide +kernel)) rfl
theorem qfX1_14 : u_lay RX1 TX1 14 ∈ wsL_law := wsL_ot (List.mem_of_getElem? (i := 563) (by decide +kernel)) rfl
theorem qfX1_15 : u_lay RX1 TX1 15 ∈ wsL_law := wsL_ot (List.mem_of_getElem? (i := 565) (by decide +kernel)) rfl
theorem qfX1_16 : u_lay RX1 TX1 16 ∈ wsL_law := wsL_ot (List.mem_of_getElem? (i := 567) (by decide +kernel)) rfl
theorem inX1 : ∀ w ∈ wsX10, w ∈ wsL_law := List.forall_mem_cons.mpr ⟨qfX1_0, List.forall_mem_cons.mpr ⟨qfX1_1, List.forall_mem_cons.mpr ⟨qfX1_2, List.forall_mem_cons.mpr ⟨qfX1_3, List.forall_mem_cons.mpr ⟨qfX1_4, List.forall_mem_cons.mpr ⟨qfX1_5, List.forall_mem_cons.mpr ⟨qfX1_6, List.forall_mem_cons.mpr ⟨qfX1_7, List.forall_mem_cons.mpr ⟨qfX1_8, List.forall_mem_cons.mpr ⟨qfX1_9, List.forall_mem_cons.mpr ⟨qfX1_10, List.forall_mem_cons.mpr ⟨qfX1_11, List.forall_mem_cons.mpr ⟨qfX1_12, List.forall_mem_cons.mpr ⟨qfX1_13, List.forall_mem_cons.mpr ⟨qfX1_14, List.forall_mem_cons.mpr ⟨qfX1_15, List.forall_mem_cons.mpr ⟨qfX1_16, fun _ h => absurd h List.not_mem_nil⟩⟩⟩⟩⟩⟩⟩⟩⟩⟩⟩⟩⟩⟩⟩⟩⟩
theorem qfX2_0 : u_lay RX2 TX2 0 ∈ wsL_law := wsL_ot (List.mem_of_getElem? (i := 447) (by decide +kernel)) rfl
theorem qfX2_1 : u_lay RX2 TX2 1 ∈ wsL_law := wsL_ot (List.mem_of_getElem? (i := 449) (by decide +kernel)) rfl
theorem qfX2_2 : u_lay RX2 TX2 2 ∈ wsL_law := wsL_ot (List.mem_of_getElem? (i := 451) (by decide +kernel)) rfl
theorem qfX2_3 : u_lay RX2 TX2 3 ∈ wsL_law := wsL_ot (List.mem_of_getElem? (i := 453) (by decide +kernel)) rfl
theorem qfX2_4 : u_lay RX2 TX2 4 ∈ wsL_law := wsL_ot (List.mem_of_getElem? (i := 455) (by decide +kernel)) rfl
theorem qfX2_5 : u_lay RX2 TX2 5 ∈ wsL_law := wsL_ot (List.mem_of_getElem? (i := 457) (by decide +kernel)) rfl
theorem inX2 : ∀ w ∈ wsX20, w ∈ wsL_law := List.forall_mem_cons.mpr ⟨qfX2_0, List.forall_mem_cons.mpr ⟨qfX2_1, List.forall_mem_cons.mpr ⟨qfX2_2, List.forall_mem_cons.mpr ⟨qfX2_3, List.forall_mem_cons.mpr ⟨qfX2_4, List.forall_mem_cons.mpr ⟨qfX2_5, fun _ h => absurd h List.not_mem_nil⟩⟩⟩⟩⟩⟩
theorem qfX3_0 : u_lay RX3 TX3 0 ∈ wsL_law := wsL_ot (List.mem_of_getElem? (i := 75) (by decide +kernel)) rfl
theorem qfX3_1 : u_lay RX3 TX3 1 ∈ wsL_law := wsL_ot (List.mem_of_getElem? (i := 77) (by decide +kernel)) rfl
theorem qfX3_2 : u_lay RX3 TX3 2 ∈ wsL_law := wsL_ot (List.mem_of_getElem? (i := 79) (by decide +kernel)) rfl
theorem inX3 : ∀ w ∈ wsX30, w ∈ wsL_law := List.forall_mem_cons.mpr ⟨qfX3_0, List.forall_mem_cons.mpr ⟨qfX3_1, List.forall_mem_cons.mpr ⟨qfX3_2, fun _ h => absurd h List.not_mem_nil⟩⟩⟩
theorem qfX4_0 : u_lay RX4 TX4 0 ∈ wsL_law := wsL_ot (List.mem_of_getElem? (i := 701) (by decide +kernel)) rfl
theorem qfX4_1 : u_lay RX4 TX4 1 ∈ wsL_law := wsL_ot (List.mem_of_getElem? (i := 703) (by decide +kernel)) rfl
theorem qfX4_2 : u_lay RX4 TX4 2 ∈ wsL_law := wsL_ot (List.mem_of_getElem? (i := 705) (by decide +kernel)) rfl
theorem qfX4_3 : u_lay RX4 TX4 3 ∈ wsL_law := wsL_ot (List.mem_of_getElem? (i := 707) (by decide +kernel)) rfl
theorem qfX4_4 : u_lay RX4 TX4 4 ∈ wsL_law := wsL_ot (List.mem_of_getElem? (i := 709) (by decide +kernel)) rfl
theorem qfX4_5 : u_lay RX4 TX4 5 ∈ wsL_law := wsL_ot (List.mem_of_getElem? (i := 711) (by decide +kernel)) rfl
theorem qfX4_6 : u_lay RX4 TX4 6 ∈ wsL_law := wsL_ot (List.mem_of_getElem? (i := 713) (by decide +kernel)) rfl
theorem qfX4_7 : u_lay RX4 TX4 7 ∈ wsL_law := wsL_ot (List.mem_of_getElem? (i := 715) (by decide +kernel)) rfl
theorem qfX4_8 : u_lay RX4 TX4 8 ∈ wsL_law := wsL_ot (List.mem_of_getElem? (i := 717) (by decide +kernel)) rfl
theorem qfX4_9 : u_lay RX4 TX4 9 ∈ wsL_law := wsL_ot (List.mem_of_getElem? (i := 719) (by decide +kernel)) rfl
theorem qfX4_10 : u_lay RX4 TX4 10 ∈ wsL_law := wsL_ot (List.mem_of_getElem? (i := 721) (by decide +kernel)) rfl
theorem qfX4_11 : u_lay RX4 TX4 11 ∈ wsL_law := wsL_ot (List.mem_of_getElem? (i := 723) (by decide +kernel)) rfl
theorem qfX4_12 : u_lay RX4 TX4 12 ∈ wsL_law := wsL_ot (List.mem_of_getElem? (i := 725) (by decide +kernel)) rfl
theorem qfX4_13 : u_lay RX4 TX4 13 ∈ wsL_law := wsL_ot (List.mem_of_getElem? (i := 727) (by decide +kernel)) rfl
theorem qfX4_14 : u_lay RX4 TX4 14 ∈ wsL_law := wsL_ot (List.mem_of_getElem? (i := 729) (by decide +kernel)) rfl
theorem qfX4_15 : u_lay RX4 TX4 15 ∈ wsL_law := wsL_ot (List.mem_of_getElem? (i := 731) (by decide +kernel)) rfl
theorem qfX4_16 : u_lay RX4 TX4 16 ∈ wsL_law := wsL_ot (List.mem_of_getElem? (i := 733) (by decide +kernel)) rfl
theorem qfX4_17 : u_lay RX4 TX4 17 ∈ wsL_law := wsL_ot (List.mem_of_getElem? (i := 735) (by decide +kernel)) rfl
theorem qfX4_18 : u_lay RX4 TX4 18 ∈ wsL_law := wsL_ot (List.mem_of_getElem? (i := 737) (by decide +kernel)) rfl
theorem qfX4_19 : u_lay RX4 TX4 19 ∈ wsL_law := wsL_ot (List.mem_of_getElem? (i := 739) (by decide +kernel)) rfl
theorem qfX4_20 : u_lay RX4 TX4 20 ∈ wsL_law := wsL_ot (List.mem_of_getElem? (i := 741) (by decide +kernel)) rfl
theorem inX4 : ∀ w ∈ wsX40, w ∈ wsL_law := List.forall_mem_cons.mpr ⟨qfX4_0, List.forall_mem_cons.mpr ⟨qfX4_1, List.forall_mem_cons.mpr ⟨qfX4_2, List.forall_mem_cons.mpr ⟨qfX4_3, List.forall_mem_cons.mpr ⟨qfX4_4, List.forall_mem_cons.mpr ⟨qfX4_5, List.forall_mem_cons.mpr ⟨qfX4_6, List.forall_mem_cons.mpr ⟨qfX4_7, List.forall_mem_cons.mpr ⟨qfX4_8, List.forall_mem_cons.mpr ⟨qfX4_9, List.forall_mem_cons.mpr ⟨qfX4_10, List.forall_mem_cons.mpr ⟨qfX4_11, List.forall_mem_cons.mpr ⟨qfX4_12, List.forall_mem_cons.mpr ⟨qfX4_13, List.forall_mem_cons.mpr ⟨qfX4_14, List.forall_mem_cons.mpr ⟨qfX4_15, List.forall_mem_cons.mpr ⟨qfX4_16, List.forall_mem_cons.mpr ⟨qfX4_17, List.forall_mem_cons.mpr ⟨qfX4_18, List.forall_mem_cons.mpr ⟨qfX4_19, List.forall_mem_cons.mpr ⟨qfX4_20, fun _ h => absurd h List.not_mem_nil⟩⟩⟩⟩⟩⟩⟩⟩⟩⟩⟩⟩⟩⟩⟩⟩⟩⟩⟩⟩⟩
theorem qfJx4a65c_0 : u_lay RJx4a65c TJx4a65c 0 ∈ wsL_law := wsL_ot (List.mem_of_getElem? (i := 54) (by decide +kernel)) rfl
theorem qfJx4a65c_1 : u_lay RJx4a65c TJx4a65c 1 ∈ wsL_law := wsL_ot (List.mem_of_getElem? (i := 50) (by decide +kernel)) rfl
theorem qfJx4a65c_2 : u_lay RJx4a65c TJx4a65c 2 ∈ wsL_law := wsL_ot (List.mem_of_getElem? (i := 52) (by decide +kernel)) rfl
theorem inJx4a65c : ∀ w ∈ wsJx4a65c0, w ∈ wsL_law := List.forall_mem_cons.mpr ⟨qfJx4a65c_0, List.forall_mem_cons.mpr ⟨qfJx4a65c_1, List.forall_mem_cons.mpr ⟨qfJx4a65c_2, fun _ h => absurd h List.not_mem_nil⟩⟩⟩
end
section
theorem qn0 : (Jvm.Cond.fieldLinkNest "RhymeTax$Line" (86 : Nat) "RhymeTax$Flow" "end" "I" "RhymeTax") ∈ tables_1 := List.mem_of_getElem? (i := 65) (by decide +kernel)
theorem qn1 : (Jvm.Cond.arrayOver (Jvm.ClassFile.FieldType.object "java/lang/Object")) ∈ tables_1 := List.mem_of_getElem? (i := 173) (by decide +kernel)
theorem qn2 : (Jvm.Cond.methodLinkNest "RhymeTax$Line" (47 : Nat) ({ cls := "RhymeTax", name := "isBelow", desc := "(II)Z" } : Jvm.MethodName) "RhymeTax") ∈ tables_1 := List.mem_of_getElem? (i := 183) (by decide +kernel)
theorem qn3 : (Jvm.Cond.methodLinkNest "RhymeTax$Flow" (15 : Nat) ({ cls := "RhymeTax", name := "lowBits", desc := "(I)J" } : Jvm.MethodName) "RhymeTax") ∈ tables_1 := List.mem_of_getElem? (i := 207) (by decide +kernel)
theorem qn4 : (Jvm.Cond.methodLinkNest "RhymeTax$Line" (97 : Nat) ({ cls := "RhymeTax", name := "footSize", desc := "(I)I" } : Jvm.MethodName) "RhymeTax") ∈ tables_1 := List.mem_of_getElem? (i := 224) (by decide +kernel)
theorem qn5 : (Jvm.Cond.methodLinkNest "RhymeTax$Line" (153 : Nat) ({ cls := "RhymeTax", name := "askedBy", desc := "(I)J" } : Jvm.MethodName) "RhymeTax") ∈ tables_1 := List.mem_of_getElem? (i := 239) (by decide +kernel)
theorem qn6 : (Jvm.Cond.methodLinkNest "RhymeTax$Line" (157 : Nat) ({ cls := "RhymeTax", name := "lowBits", desc := "(I)J" } : Jvm.MethodName) "RhymeTax") ∈ tables_1 := List.mem_of_getElem? (i := 246) (by decide +kernel)
theorem qn7 : (Jvm.Cond.methodLinkNest "RhymeTax$Line" (130 : Nat) ({ cls := "RhymeTax", name := "rhymeBetween", desc := "(LRhymeTax$Line;LRhymeTax$Line;)I" } : Jvm.MethodName) "RhymeTax") ∈ tables_1 := List.mem_of_getElem? (i := 257) (by decide +kernel)
theorem qn8 : (Jvm.Cond.castable "java/lang/IllegalArgumentException" "java/lang/IllegalArgumentException") ∈ tables_1 := List.mem_of_getElem? (i := 344) (by decide +kernel)
theorem qn9 : (Jvm.Cond.declares ({ cls := "java/lang/RuntimeException", name := "<init>", desc := "()V" } : Jvm.MethodName)) ∈ tables_1 := List.mem_of_getElem? (i := 345) (by decide +kernel)
theorem qn10 : (Jvm.Cond.declares ({ cls := "java/lang/RuntimeException", name := "<init>", desc := "(Ljava/lang/String;)V" } : Jvm.MethodName)) ∈ tables_1 := List.mem_of_getElem? (i := 346) (by decide +kernel)
theorem qn11 : (Jvm.Cond.declares ({ cls := "java/lang/Exception", name := "<init>", desc := "()V" } : Jvm.MethodName)) ∈ tables_1 := List.mem_of_getElem? (i := 347) (by decide +kernel)
theorem qn12 : (Jvm.Cond.declares ({ cls := "java/lang/Exception", name := "<init>", desc := "(Ljava/lang/String;)V" } : Jvm.MethodName)) ∈ tables_1 := List.mem_of_getElem? (i := 348) (by decide +kernel)
theorem qn13 : (Jvm.Cond.declares ({ cls := "java/lang/Throwable", name := "<init>", desc := "()V" } : Jvm.MethodName)) ∈ tables_1 := List.mem_of_getElem? (i := 349) (by decide +kernel)
theorem qn14 : (Jvm.Cond.declares ({ cls := "java/lang/Throwable", name := "<init>", desc := "(Ljava/lang/String;)V" } : Jvm.MethodName)) ∈ tables_1 := List.mem_of_getElem? (i := 350) (by decide +kernel)
theorem qn15 : (Jvm.Cond.castable "java/lang/IllegalStateException" "java/lang/IllegalStateException") ∈ tables_1 := List.mem_of_getElem? (i := 413) (by decide +kernel)
theorem qn16 : (Jvm.Cond.castable "java/lang/IndexOutOfBoundsException" "java/lang/IndexOutOfBoundsException") ∈ tables_1 := List.mem_of_getElem? (i := 478) (by decide +kernel)
theorem qn17 : (Jvm.Cond.castable "RhymeTax" "java/lang/Object") ∈ tables_1 := List.mem_of_getElem? (i := 903) (by decide +kernel)
theorem qn18 : (Jvm.Cond.castable "java/util/ArrayList" "java/lang/Object") ∈ tables_1 := List.mem_of_getElem? (i := 904) (by decide +kernel)
theorem qn19 : (Jvm.Cond.castable "RhymeTax$Flow" "java/lang/Object") ∈ tables_1 := List.mem_of_getElem? (i := 905) (by decide +kernel)
theorem qn20 : (Jvm.Cond.castable "RhymeTaxModel" "java/lang/Object") ∈ tables_1 := List.mem_of_getElem? (i := 906) (by decide +kernel)
theorem qn21 : (Jvm.Cond.castable "java/lang/IllegalArgumentException" "java/lang/Object") ∈ tables_1 := List.mem_of_getElem? (i := 907) (by decide +kernel)
theorem qn22 : (Jvm.Cond.castable "java/lang/IllegalStateException" "java/lang/Object") ∈ tables_1 := List.mem_of_getElem? (i := 908) (by decide +kernel)
theorem qn23 : (Jvm.Cond.castable "RhymeTax$Word" "java/lang/Object") ∈ tables_1 := List.mem_of_getElem? (i := 909) (by decide +kernel)
theorem qn24 : (Jvm.Cond.castable "java/lang/IndexOutOfBoundsException" "java/lang/Object") ∈ tables_1 := List.mem_of_getElem? (i := 910) (by decide +kernel)
theorem qn25 : (Jvm.Cond.castable "RhymeTax$Line" "java/lang/Object") ∈ tables_1 := List.mem_of_getElem? (i := 911) (by decide +kernel)
theorem qn26 : (Jvm.Cond.castable "java/lang/Throwable" "java/lang/Object") ∈ tables_1 := List.mem_of_getElem? (i := 912) (by decide +kernel)
theorem qn27 : (Jvm.Cond.castable "java/lang/String" "java/lang/Object") ∈ tables_1 := List.mem_of_getElem? (i := 913) (by decide +kernel)
theorem qn28 : (Jvm.Cond.declares ({ cls := "java/lang/Object", name := "getClass", desc := "()Ljava/lang/Class;" } : Jvm.MethodName)) ∈ tables_1 := List.mem_of_getElem? (i := 916) (by decide +kernel)
theorem qn29 : (Jvm.Cond.castable "[J" "java/lang/Object") ∈ tables_1 := List.mem_of_getElem? (i := 917) (by decide +kernel)
theorem qn30 : (Jvm.Cond.castable "[Ljava/lang/Object;" "java/lang/Object") ∈ tables_1 := List.mem_of_getElem? (i := 918) (by decide +kernel)
theorem qn31 : (Jvm.Cond.castable "[B" "java/lang/Object") ∈ tables_1 := List.mem_of_getElem? (i := 919) (by decide +kernel)
theorem qn32 : (Jvm.Cond.castable "[I" "java/lang/Object") ∈ tables_1 := List.mem_of_getElem? (i := 920) (by decide +kernel)
end
section
theorem dX0_init_0 : decode cX0_init 0 = .ok (.aload_n 0, 1) := by decide +kernel
theorem dX0_init_1 : decode cX0_init 1 = .ok (.invokespecial 3, 3) := by decide +kernel
theorem dX0_init_4 : decode cX0_init 4 = .ok (.aload_n 0, 1) := by decide +kernel
theorem dX0_init_5 : decode cX0_init 5 = .ok (.iconst 5, 1) := by decide +kernel
theorem dX0_init_6 : decode cX0_init 6 = .ok (.newarray .long, 2) := by decide +kernel
theorem dX0_init_8 : decode cX0_init 8 = .ok (.putfield 9, 3) := by decide +kernel
theorem dX0_init_11 : decode cX0_init 11 = .ok (.return_, 1) := by decide +kernel
theorem dX0_cutBehind_0 : decode cX0_cutBehind 0 = .ok (.iconst 0, 1) := by decide +kernel
theorem dX0_cutBehind_1 : decode cX0_cutBehind 1 = .ok (.istore_n 2, 1) := by decide +kernel
theorem dX0_cutBehind_2 : decode cX0_cutBehind 2 = .ok (.iload_n 2, 1) := by decide +kernel
theorem dX0_cutBehind_3 : decode cX0_cutBehind 3 = .ok (.aload_n 0, 1) := by decide +kernel
theorem dX0_cutBehind_4 : decode cX0_cutBehind 4 = .ok (.getfield 9, 3) := by decide +kernel
theorem dX0_cutBehind_7 : decode cX0_cutBehind 7 = .ok (.arraylength, 1) := by decide +kernel
theorem dX0_cutBehind_8 : decode cX0_cutBehind 8 = .ok (.if_icmp .ge 27, 3) := by decide +kernel
theorem dX0_cutBehind_11 : decode cX0_cutBehind 11 = .ok (.aload_n 0, 1) := by decide +kernel
theorem dX0_cutBehind_12 : decode cX0_cutBehind 12 = .ok (.getfield 9, 3) := by decide +kernel
theorem dX0_cutBehind_15 : decode cX0_cutBehind 15 = .ok (.iload_n 2, 1) := by decide +kernel
theorem dX0_cutBehind_16 : decode cX0_cutBehind 16 = .ok (.dup2, 1) := by decide +kernel
theorem dX0_cutBehind_17 : decode cX0_cutBehind 17 = .ok (.laload, 1) := by decide +kernel
theorem dX0_cutBehind_18 : decode cX0_cutBehind 18 = .ok (.iload_n 1, 1) := by decide +kernel
theorem dX0_cutBehind_19 : decode cX0_cutBehind 19 = .ok (.iload_n 2, 1) := by decide +kernel
theorem dX0_cutBehind_20 : decode cX0_cutBehind 20 = .ok (.bipush 64, 2) := by decide +kernel
theorem dX0_cutBehind_22 : decode cX0_cutBehind 22 = .ok (.imul, 1) := by decide +kernel
theorem dX0_cutBehind_23 : decode cX0_cutBehind 23 = .ok (.isub, 1) := by decide +kernel
theorem dX0_cutBehind_24 : decode cX0_cutBehind 24 = .ok (.invokestatic 15, 3) := by decide +kernel
theorem dX0_cutBehind_27 : decode cX0_cutBehind 27 = .ok (.land, 1) := by decide +kernel
theorem dX0_cutBehind_28 : decode cX0_cutBehind 28 = .ok (.lastore, 1) := by decide +kernel
theorem dX0_cutBehind_29 : decode cX0_cutBehind 29 = .ok (.iinc 2 1, 3) := by decide +kernel
theorem dX0_cutBehind_32 : decode cX0_cutBehind 32 = .ok (.goto (-30), 3) := by decide +kernel
theorem dX0_cutBehind_35 : decode cX0_cutBehind 35 = .ok (.aload_n 0, 1) := by decide +kernel
theorem dX0_cutBehind_36 : decode cX0_cutBehind 36 = .ok (.iload_n 1, 1) := by decide +kernel
theorem dX0_cutBehind_37 : decode cX0_cutBehind 37 = .ok (.putfield 19, 3) := by decide +kernel
theorem dX0_cutBehind_40 : decode cX0_cutBehind 40 = .ok (.return_, 1) := by decide +kernel
theorem dX0_add_0 : decode cX0_add 0 = .ok (.aload_n 0, 1) := by decide +kernel
theorem dX0_add_1 : decode cX0_add 1 = .ok (.getfield 19, 3) := by decide +kernel
theorem dX0_add_4 : decode cX0_add 4 = .ok (.bipush 64, 2) := by decide +kernel
theorem dX0_add_6 : decode cX0_add 6 = .ok (.idiv, 1) := by decide +kernel
theorem dX0_add_7 : decode cX0_add 7 = .ok (.istore 4, 2) := by decide +kernel
theorem dX0_add_9 : decode cX0_add 9 = .ok (.aload_n 0, 1) := by decide +kernel
theorem dX0_add_10 : decode cX0_add 10 = .ok (.getfield 19, 3) := by decide +kernel
theorem dX0_add_13 : decode cX0_add 13 = .ok (.bipush 64, 2) := by decide +kernel
theorem dX0_add_15 : decode cX0_add 15 = .ok (.irem, 1) := by decide +kernel
theorem dX0_add_16 : decode cX0_add 16 = .ok (.istore 5, 2) := by decide +kernel
theorem dX0_add_18 : decode cX0_add 18 = .ok (.aload_n 0, 1) := by decide +kernel
theorem dX0_add_19 : decode cX0_add 19 = .ok (.iload 4, 2) := by decide +kernel
theorem dX0_add_21 : decode cX0_add 21 = .ok (.lload_n 1, 1) := by decide +kernel
theorem dX0_add_22 : decode cX0_add 22 = .ok (.iload 5, 2) := by decide +kernel
theorem dX0_add_24 : decode cX0_add 24 = .ok (.lshl, 1) := by decide +kernel
theorem dX0_add_25 : decode cX0_add 25 = .ok (.invokevirtual 23, 3) := by decide +kernel
theorem dX0_add_28 : decode cX0_add 28 = .ok (.iload 5, 2) := by decide +kernel
theorem dX0_add_30 : decode cX0_add 30 = .ok (.iload_n 3, 1) := by decide +kernel
theorem dX0_add_31 : decode cX0_add 31 = .ok (.iadd, 1) := by decide +kernel
theorem dX0_add_32 : decode cX0_add 32 = .ok (.bipush 64, 2) := by decide +kernel
theorem dX0_add_34 : decode cX0_add 34 = .ok (.if_icmp .le 18, 3) := by decide +kernel
theorem dX0_add_37 : decode cX0_add 37 = .ok (.aload_n 0, 1) := by decide +kernel
theorem dX0_add_38 : decode cX0_add 38 = .ok (.iload 4, 2) := by decide +kernel
theorem dX0_add_40 : decode cX0_add 40 = .ok (.iconst 1, 1) := by decide +kernel
theorem dX0_add_41 : decode cX0_add 41 = .ok (.iadd, 1) := by decide +kernel
theorem dX0_add_42 : decode cX0_add 42 = .ok (.lload_n 1, 1) := by decide +kernel
theorem dX0_add_43 : decode cX0_add 43 = .ok (.bipush 64, 2) := by decide +kernel
theorem dX0_add_45 : decode cX0_add 45 = .ok (.iload 5, 2) := by decide +kernel
theorem dX0_add_47 : decode cX0_add 47 = .ok (.isub, 1) := by decide +kernel
theorem dX0_add_48 : decode cX0_add 48 = .ok (.lushr, 1) := by decide +kernel
theorem dX0_add_49 : decode cX0_add 49 = .ok (.invokevirtual 23, 3) := by decide +kernel
theorem dX0_add_52 : decode cX0_add 52 = .ok (.aload_n 0, 1) := by decide +kernel
theorem dX0_add_53 : decode cX0_add 53 = .ok (.dup, 1) := by decide +kernel
theorem dX0_add_54 : decode cX0_add 54 = .ok (.getfield 19, 3) := by decide +kernel
theorem dX0_add_57 : decode cX0_add 57 = .ok (.iload_n 3, 1) := by decide +kernel
theorem dX0_add_58 : decode cX0_add 58 = .ok (.iadd, 1) := by decide +kernel
theorem dX0_add_59 : decode cX0_add 59 = .ok (.putfield 19, 3) := by decide +kernel
theorem dX0_add_62 : decode cX0_add 62 = .ok (.return_, 1) := by decide +kernel
theorem dX0_read_0 : decode cX0_read 0 = .ok (.iload_n 1, 1) := by decide +kernel
theorem dX0_read_1 : decode cX0_read 1 = .ok (.bipush 64, 2) := by decide +kernel
theorem dX0_read_3 : decode cX0_read 3 = .ok (.idiv, 1) := by decide +kernel
theorem dX0_read_4 : decode cX0_read 4 = .ok (.istore_n 3, 1) := by decide +kernel
theorem dX0_read_5 : decode cX0_read 5 = .ok (.iload_n 1, 1) := by decide +kernel
theorem dX0_read_6 : decode cX0_read 6 = .ok (.bipush 64, 2) := by decide +kernel
theorem dX0_read_8 : decode cX0_read 8 = .ok (.irem, 1) := by decide +kernel
theorem dX0_read_9 : decode cX0_read 9 = .ok (.istore 4, 2) := by decide +kernel
theorem dX0_read_11 : decode cX0_read 11 = .ok (.aload_n 0, 1) := by decide +kernel
theorem dX0_read_12 : decode cX0_read 12 = .ok (.iload_n 3, 1) := by decide +kernel
theorem dX0_read_13 : decode cX0_read 13 = .ok (.invokevirtual 27, 3) := by decide +kernel
theorem dX0_read_16 : decode cX0_read 16 = .ok (.iload 4, 2) := by decide +kernel
theorem dX0_read_18 : decode cX0_read 18 = .ok (.lushr, 1) := by decide +kernel
theorem dX0_read_19 : decode cX0_read 19 = .ok (.lstore 5, 2) := by decide +kernel
theorem dX0_read_21 : decode cX0_read 21 = .ok (.iload 4, 2) := by decide +kernel
theorem dX0_read_23 : decode cX0_read 23 = .ok (.iload_n 2, 1) := by decide +kernel
theorem dX0_read_24 : decode cX0_read 24 = .ok (.iadd, 1) := by decide +kernel
theorem dX0_read_25 : decode cX0_read 25 = .ok (.bipush 64, 2) := by decide +kernel
theorem dX0_read_27 : decode cX0_read 27 = .ok (.if_icmp .le 21, 3) := by decide +kernel
theorem dX0_read_30 : decode cX0_read 30 = .ok (.lload 5, 2) := by decide +kernel
theorem dX0_read_32 : decode cX0_read 32 = .ok (.aload_n 0, 1) := by decide +kernel
theorem dX0_read_33 : decode cX0_read 33 = .ok (.iload_n 3, 1) := by decide +kernel
theorem dX0_read_34 : decode cX0_read 34 = .ok (.iconst 1, 1) := by decide +kernel
theorem dX0_read_35 : decode cX0_read 35 = .ok (.iadd, 1) := by decide +kernel
theorem dX0_read_36 : decode cX0_read 36 = .ok (.invokevirtual 27, 3) := by decide +kernel
theorem dX0_read_39 : decode cX0_read 39 = .ok (.bipush 64, 2) := by decide +kernel
theorem dX0_read_41 : decode cX0_read 41 = .ok (.iload 4, 2) := by decide +kernel
theorem dX0_read_43 : decode cX0_read 43 = .ok (.isub, 1) := by decide +kernel
theorem dX0_read_44 : decode cX0_read 44 = .ok (.lshl, 1) := by decide +kernel
theorem dX0_read_45 : decode cX0_read 45 = .ok (.lor, 1) := by decide +kernel
theorem dX0_read_46 : decode cX0_read 46 = .ok (.lstore 5, 2) := by decide +kernel
theorem dX0_read_48 : decode cX0_read 48 = .ok (.lload 5, 2) := by decide +kernel
theorem dX0_read_50 : decode cX0_read 50 = .ok (.iload_n 2, 1) := by decide +kernel
theorem dX0_read_51 : decode cX0_read 51 = .ok (.invokestatic 15, 3) := by decide +kernel
theorem dX0_read_54 : decode cX0_read 54 = .ok (.land, 1) := by decide +kernel
theorem dX0_read_55 : decode cX0_read 55 = .ok (.lreturn, 1) := by decide +kernel
theorem dX0_addTo_0 : decode cX0_addTo 0 = .ok (.iload_n 1, 1) := by decide +kernel
theorem dX0_addTo_1 : decode cX0_addTo 1 = .ok (.ifCond .lt 22, 3) := by decide +kernel
theorem dX0_addTo_4 : decode cX0_addTo 4 = .ok (.iload_n 1, 1) := by decide +kernel
theorem dX0_addTo_5 : decode cX0_addTo 5 = .ok (.aload_n 0, 1) := by decide +kernel
theorem dX0_addTo_6 : decode cX0_addTo 6 = .ok (.getfield 9, 3) := by decide +kernel
theorem dX0_addTo_9 : decode cX0_addTo 9 = .ok (.arraylength, 1) := by decide +kernel
theorem dX0_addTo_10 : decode cX0_addTo 10 = .ok (.if_icmp .ge 13, 3) := by decide +kernel
theorem dX0_addTo_13 : decode cX0_addTo 13 = .ok (.aload_n 0, 1) := by decide +kernel
theorem dX0_addTo_14 : decode cX0_addTo 14 = .ok (.getfield 9, 3) := by decide +kernel
theorem dX0_addTo_17 : decode cX0_addTo 17 = .ok (.iload_n 1, 1) := by decide +kernel
theorem dX0_addTo_18 : decode cX0_addTo 18 = .ok (.dup2, 1) := by decide +kernel
theorem dX0_addTo_19 : decode cX0_addTo 19 = .ok (.laload, 1) := by decide +kernel
theorem dX0_addTo_20 : decode cX0_addTo 20 = .ok (.lload_n 2, 1) := by decide +kernel
theorem dX0_addTo_21 : decode cX0_addTo 21 = .ok (.lor, 1) := by decide +kernel
theorem dX0_addTo_22 : decode cX0_addTo 22 = .ok (.lastore, 1) := by decide +kernel
theorem dX0_addTo_23 : decode cX0_addTo 23 = .ok (.return_, 1) := by decide +kernel
theorem dX0_cellAt_0 : decode cX0_cellAt 0 = .ok (.iload_n 1, 1) := by decide +kernel
theorem dX0_cellAt_1 : decode cX0_cellAt 1 = .ok (.ifCond .lt 21, 3) := by decide +kernel
theorem dX0_cellAt_4 : decode cX0_cellAt 4 = .ok (.iload_n 1, 1) := by decide +kernel
theorem dX0_cellAt_5 : decode cX0_cellAt 5 = .ok (.aload_n 0, 1) := by decide +kernel
theorem dX0_cellAt_6 : decode cX0_cellAt 6 = .ok (.getfield 9, 3) := by decide +kernel
theorem dX0_cellAt_9 : decode cX0_cellAt 9 = .ok (.arraylength, 1) := by decide +kernel
theorem dX0_cellAt_10 : decode cX0_cellAt 10 = .ok (.if_icmp .ge 12, 3) := by decide +kernel
theorem dX0_cellAt_13 : decode cX0_cellAt 13 = .ok (.aload_n 0, 1) := by decide +kernel
theorem dX0_cellAt_14 : decode cX0_cellAt 14 = .ok (.getfield 9, 3) := by decide +kernel
theorem dX0_cellAt_17 : decode cX0_cellAt 17 = .ok (.iload_n 1, 1) := by decide +kernel
theorem dX0_cellAt_18 : decode cX0_cellAt 18 = .ok (.laload, 1) := by decide +kernel
theorem dX0_cellAt_19 : decode cX0_cellAt 19 = .ok (.goto 4, 3) := by decide +kernel
theorem dX0_cellAt_22 : decode cX0_cellAt 22 = .ok (.lconst 0, 1) := by decide +kernel
theorem dX0_cellAt_23 : decode cX0_cellAt 23 = .ok (.lreturn, 1) := by decide +kernel
theorem dX1_init_0 : decode cX1_init 0 = .ok (.aload_n 0, 1) := by decide +kernel
theorem dX1_init_1 : decode cX1_init 1 = .ok (.invokespecial 1, 3) := by decide +kernel
theorem dX1_init_4 : decode cX1_init 4 = .ok (.aload_n 0, 1) := by decide +kernel
theorem dX1_init_5 : decode cX1_init 5 = .ok (.iload_n 1, 1) := by decide +kernel
theorem dX1_init_6 : decode cX1_init 6 = .ok (.putfield 7, 3) := by decide +kernel
theorem dX1_init_9 : decode cX1_init 9 = .ok (.aload_n 0, 1) := by decide +kernel
theorem dX1_init_10 : decode cX1_init 10 = .ok (.iload_n 2, 1) := by decide +kernel
theorem dX1_init_11 : decode cX1_init 11 = .ok (.putfield 13, 3) := by decide +kernel
theorem dX1_init_14 : decode cX1_init 14 = .ok (.aload_n 0, 1) := by decide +kernel
theorem dX1_init_15 : decode cX1_init 15 = .ok (.iload_n 3, 1) := by decide +kernel
theorem dX1_init_16 : decode cX1_init 16 = .ok (.putfield 16, 3) := by decide +kernel
theorem dX1_init_19 : decode cX1_init 19 = .ok (.aload_n 0, 1) := by decide +kernel
theorem dX1_init_20 : decode cX1_init 20 = .ok (.aload 4, 2) := by decide +kernel
theorem dX1_init_22 : decode cX1_init 22 = .ok (.putfield 19, 3) := by decide +kernel
theorem dX1_init_25 : decode cX1_init 25 = .ok (.aload_n 0, 1) := by decide +kernel
theorem dX1_init_26 : decode cX1_init 26 = .ok (.new 23, 3) := by decide +kernel
theorem dX1_init_29 : decode cX1_init 29 = .ok (.dup, 1) := by decide +kernel
theorem dX1_init_30 : decode cX1_init 30 = .ok (.invokespecial 25, 3) := by decide +kernel
theorem dX1_init_33 : decode cX1_init 33 = .ok (.putfield 26, 3) := by decide +kernel
theorem dX1_init_36 : decode cX1_init 36 = .ok (.return_, 1) := by decide +kernel
theorem dX1_lastWord_0 : decode cX1_lastWord 0 = .ok (.aload_n 0, 1) := by decide +kernel
theorem dX1_lastWord_1 : decode cX1_lastWord 1 = .ok (.getfield 26, 3) := by decide +kernel
theorem dX1_lastWord_4 : decode cX1_lastWord 4 = .ok (.invokevirtual 30, 3) := by decide +kernel
theorem dX1_lastWord_7 : decode cX1_lastWord 7 = .ok (.istore_n 1, 1) := by decide +kernel
theorem dX1_lastWord_8 : decode cX1_lastWord 8 = .ok (.iload_n 1, 1) := by decide +kernel
theorem dX1_lastWord_9 : decode cX1_lastWord 9 = .ok (.ifCond .le 19, 3) := by decide +kernel
theorem dX1_lastWord_12 : decode cX1_lastWord 12 = .ok (.aload_n 0, 1) := by decide +kernel
theorem dX1_lastWord_13 : decode cX1_lastWord 13 = .ok (.getfield 26, 3) := by decide +kernel
theorem dX1_lastWord_16 : decode cX1_lastWord 16 = .ok (.iload_n 1, 1) := by decide +kernel
theorem dX1_lastWord_17 : decode cX1_lastWord 17 = .ok (.iconst 1, 1) := by decide +kernel
theorem dX1_lastWord_18 : decode cX1_lastWord 18 = .ok (.isub, 1) := by decide +kernel
theorem dX1_lastWord_19 : decode cX1_lastWord 19 = .ok (.invokevirtual 34, 3) := by decide +kernel
theorem dX1_lastWord_22 : decode cX1_lastWord 22 = .ok (.checkcast 38, 3) := by decide +kernel
theorem dX1_lastWord_25 : decode cX1_lastWord 25 = .ok (.goto 4, 3) := by decide +kernel
theorem dX1_lastWord_28 : decode cX1_lastWord 28 = .ok (.aconst_null, 1) := by decide +kernel
theorem dX1_lastWord_29 : decode cX1_lastWord 29 = .ok (.areturn, 1) := by decide +kernel
theorem dX1_usesOf_0 : decode cX1_usesOf 0 = .ok (.iconst 0, 1) := by decide +kernel
theorem dX1_usesOf_1 : decode cX1_usesOf 1 = .ok (.istore_n 2, 1) := by decide +kernel
theorem dX1_usesOf_2 : decode cX1_usesOf 2 = .ok (.iconst 0, 1) := by decide +kernel
theorem dX1_usesOf_3 : decode cX1_usesOf 3 = .ok (.istore_n 3, 1) := by decide +kernel
theorem dX1_usesOf_4 : decode cX1_usesOf 4 = .ok (.iload_n 3, 1) := by decide +kernel
theorem dX1_usesOf_5 : decode cX1_usesOf 5 = .ok (.aload_n 0, 1) := by decide +kernel
theorem dX1_usesOf_6 : decode cX1_usesOf 6 = .ok (.getfield 26, 3) := by decide +kernel
theorem dX1_usesOf_9 : decode cX1_usesOf 9 = .ok (.invokevirtual 30, 3) := by decide +kernel
theorem dX1_usesOf_12 : decode cX1_usesOf 12 = .ok (.if_icmp .ge 33, 3) := by decide +kernel
theorem dX1_usesOf_15 : decode cX1_usesOf 15 = .ok (.aload_n 0, 1) := by decide +kernel
theorem dX1_usesOf_16 : decode cX1_usesOf 16 = .ok (.getfield 26, 3) := by decide +kernel
theorem dX1_usesOf_19 : decode cX1_usesOf 19 = .ok (.iload_n 3, 1) := by decide +kernel
theorem dX1_usesOf_20 : decode cX1_usesOf 20 = .ok (.invokevirtual 34, 3) := by decide +kernel
theorem dX1_usesOf_23 : decode cX1_usesOf 23 = .ok (.checkcast 38, 3) := by decide +kernel
theorem dX1_usesOf_26 : decode cX1_usesOf 26 = .ok (.getfield 40, 3) := by decide +kernel
theorem dX1_usesOf_29 : decode cX1_usesOf 29 = .ok (.aload_n 1, 1) := by decide +kernel
theorem dX1_usesOf_30 : decode cX1_usesOf 30 = .ok (.getfield 40, 3) := by decide +kernel
theorem dX1_usesOf_33 : decode cX1_usesOf 33 = .ok (.if_icmp .ne 6, 3) := by decide +kernel
theorem dX1_usesOf_36 : decode cX1_usesOf 36 = .ok (.iinc 2 1, 3) := by decide +kernel
theorem dX1_usesOf_39 : decode cX1_usesOf 39 = .ok (.iinc 3 1, 3) := by decide +kernel
theorem dX1_usesOf_42 : decode cX1_usesOf 42 = .ok (.goto (-38), 3) := by decide +kernel
theorem dX1_usesOf_45 : decode cX1_usesOf 45 = .ok (.iload_n 2, 1) := by decide +kernel
theorem dX1_usesOf_46 : decode cX1_usesOf 46 = .ok (.ireturn, 1) := by decide +kernel
theorem dX1_putWord_0 : decode cX1_putWord 0 = .ok (.iload_n 1, 1) := by decide +kernel
theorem dX1_putWord_1 : decode cX1_putWord 1 = .ok (.aload_n 0, 1) := by decide +kernel
theorem dX1_putWord_2 : decode cX1_putWord 2 = .ok (.getfield 26, 3) := by decide +kernel
theorem dX1_putWord_5 : decode cX1_putWord 5 = .ok (.invokevirtual 30, 3) := by decide +kernel
theorem dX1_putWord_8 : decode cX1_putWord 8 = .ok (.if_icmp .ne 15, 3) := by decide +kernel
theorem dX1_putWord_11 : decode cX1_putWord 11 = .ok (.aload_n 0, 1) := by decide +kernel
theorem dX1_putWord_12 : decode cX1_putWord 12 = .ok (.getfield 26, 3) := by decide +kernel
theorem dX1_putWord_15 : decode cX1_putWord 15 = .ok (.aload_n 2, 1) := by decide +kernel
theorem dX1_putWord_16 : decode cX1_putWord 16 = .ok (.invokevirtual 43, 3) := by decide +kernel
theorem dX1_putWord_19 : decode cX1_putWord 19 = .ok (.pop, 1) := by decide +kernel
theorem dX1_putWord_20 : decode cX1_putWord 20 = .ok (.goto 27, 3) := by decide +kernel
theorem dX1_putWord_23 : decode cX1_putWord 23 = .ok (.iload_n 1, 1) := by decide +kernel
theorem dX1_putWord_24 : decode cX1_putWord 24 = .ok (.aload_n 0, 1) := by decide +kernel
theorem dX1_putWord_25 : decode cX1_putWord 25 = .ok (.getfield 26, 3) := by decide +kernel
theorem dX1_putWord_28 : decode cX1_putWord 28 = .ok (.invokevirtual 30, 3) := by decide +kernel
theorem dX1_putWord_31 : decode cX1_putWord 31 = .ok (.invokestatic 47, 3) := by decide +kernel
theorem dX1_putWord_34 : decode cX1_putWord 34 = .ok (.ifCond .eq 13, 3) := by decide +kernel
theorem dX1_putWord_37 : decode cX1_putWord 37 = .ok (.aload_n 0, 1) := by decide +kernel
theorem dX1_putWord_38 : decode cX1_putWord 38 = .ok (.getfield 26, 3) := by decide +kernel
theorem dX1_putWord_41 : decode cX1_putWord 41 = .ok (.iload_n 1, 1) := by decide +kernel
theorem dX1_putWord_42 : decode cX1_putWord 42 = .ok (.aload_n 2, 1) := by decide +kernel
theorem dX1_putWord_43 : decode cX1_putWord 43 = .ok (.invokevirtual 53, 3) := by decide +kernel
theorem dX1_putWord_46 : decode cX1_putWord 46 = .ok (.pop, 1) := by decide +kernel
theorem dX1_putWord_47 : decode cX1_putWord 47 = .ok (.aload_n 0, 1) := by decide +kernel
theorem dX1_putWord_48 : decode cX1_putWord 48 = .ok (.invokevirtual 57, 3) := by decide +kernel
theorem dX1_putWord_51 : decode cX1_putWord 51 = .ok (.return_, 1) := by decide +kernel
theorem dX1_dropLast_0 : decode cX1_dropLast 0 = .ok (.aload_n 0, 1) := by decide +kernel
theorem dX1_dropLast_1 : decode cX1_dropLast 1 = .ok (.getfield 26, 3) := by decide +kernel
theorem dX1_dropLast_4 : decode cX1_dropLast 4 = .ok (.invokevirtual 30, 3) := by decide +kernel
theorem dX1_dropLast_7 : decode cX1_dropLast 7 = .ok (.istore_n 1, 1) := by decide +kernel
theorem dX1_dropLast_8 : decode cX1_dropLast 8 = .ok (.iload_n 1, 1) := by decide +kernel
theorem dX1_dropLast_9 : decode cX1_dropLast 9 = .ok (.ifCond .le 14, 3) := by decide +kernel
theorem dX1_dropLast_12 : decode cX1_dropLast 12 = .ok (.aload_n 0, 1) := by decide +kernel
theorem dX1_dropLast_13 : decode cX1_dropLast 13 = .ok (.getfield 26, 3) := by decide +kernel
theorem dX1_dropLast_16 : decode cX1_dropLast 16 = .ok (.iload_n 1, 1) := by decide +kernel
theorem dX1_dropLast_17 : decode cX1_dropLast 17 = .ok (.iconst 1, 1) := by decide +kernel
theorem dX1_dropLast_18 : decode cX1_dropLast 18 = .ok (.isub, 1) := by decide +kernel
theorem dX1_dropLast_19 : decode cX1_dropLast 19 = .ok (.invokevirtual 60, 3) := by decide +kernel
theorem dX1_dropLast_22 : decode cX1_dropLast 22 = .ok (.pop, 1) := by decide +kernel
theorem dX1_dropLast_23 : decode cX1_dropLast 23 = .ok (.aload_n 0, 1) := by decide +kernel
theorem dX1_dropLast_24 : decode cX1_dropLast 24 = .ok (.invokevirtual 57, 3) := by decide +kernel
theorem dX1_dropLast_27 : decode cX1_dropLast 27 = .ok (.return_, 1) := by decide +kernel
theorem dX1_joinWords_0 : decode cX1_joinWords 0 = .ok (.aload_n 0, 1) := by decide +kernel
theorem dX1_joinWords_1 : decode cX1_joinWords 1 = .ok (.lconst 0, 1) := by decide +kernel
theorem dX1_joinWords_2 : decode cX1_joinWords 2 = .ok (.putfield 63, 3) := by decide +kernel
theorem dX1_joinWords_5 : decode cX1_joinWords 5 = .ok (.aload_n 0, 1) := by decide +kernel
theorem dX1_joinWords_6 : decode cX1_joinWords 6 = .ok (.iconst 0, 1) := by decide +kernel
theorem dX1_joinWords_7 : decode cX1_joinWords 7 = .ok (.putfield 67, 3) := by decide +kernel
theorem dX1_joinWords_10 : decode cX1_joinWords 10 = .ok (.aload_n 0, 1) := by decide +kernel
theorem dX1_joinWords_11 : decode cX1_joinWords 11 = .ok (.iconst 0, 1) := by decide +kernel
theorem dX1_joinWords_12 : decode cX1_joinWords 12 = .ok (.putfield 70, 3) := by decide +kernel
theorem dX1_joinWords_15 : decode cX1_joinWords 15 = .ok (.aconst_null, 1) := by decide +kernel
theorem dX1_joinWords_16 : decode cX1_joinWords 16 = .ok (.astore_n 1, 1) := by decide +kernel
theorem dX1_joinWords_17 : decode cX1_joinWords 17 = .ok (.iconst 0, 1) := by decide +kernel
theorem dX1_joinWords_18 : decode cX1_joinWords 18 = .ok (.istore_n 2, 1) := by decide +kernel
theorem dX1_joinWords_19 : decode cX1_joinWords 19 = .ok (.iload_n 2, 1) := by decide +kernel
theorem dX1_joinWords_20 : decode cX1_joinWords 20 = .ok (.aload_n 0, 1) := by decide +kernel
theorem dX1_joinWords_21 : decode cX1_joinWords 21 = .ok (.getfield 26, 3) := by decide +kernel
theorem dX1_joinWords_24 : decode cX1_joinWords 24 = .ok (.invokevirtual 30, 3) := by decide +kernel
theorem dX1_joinWords_27 : decode cX1_joinWords 27 = .ok (.if_icmp .ge 87, 3) := by decide +kernel
theorem dX1_joinWords_30 : decode cX1_joinWords 30 = .ok (.aload_n 0, 1) := by decide +kernel
theorem dX1_joinWords_31 : decode cX1_joinWords 31 = .ok (.getfield 26, 3) := by decide +kernel
theorem dX1_joinWords_34 : decode cX1_joinWords 34 = .ok (.iload_n 2, 1) := by decide +kernel
theorem dX1_joinWords_35 : decode cX1_joinWords 35 = .ok (.invokevirtual 34, 3) := by decide +kernel
theorem dX1_joinWords_38 : decode cX1_joinWords 38 = .ok (.checkcast 38, 3) := by decide +kernel
theorem dX1_joinWords_41 : decode cX1_joinWords 41 = .ok (.astore_n 3, 1) := by decide +kernel
theorem dX1_joinWords_42 : decode cX1_joinWords 42 = .ok (.aload_n 1, 1) := by decide +kernel
theorem dX1_joinWords_43 : decode cX1_joinWords 43 = .ok (.ifnull 31, 3) := by decide +kernel
theorem dX1_joinWords_46 : decode cX1_joinWords 46 = .ok (.aload_n 1, 1) := by decide +kernel
theorem dX1_joinWords_47 : decode cX1_joinWords 47 = .ok (.aload_n 3, 1) := by decide +kernel
theorem dX1_joinWords_48 : decode cX1_joinWords 48 = .ok (.invokevirtual 73, 3) := by decide +kernel
theorem dX1_joinWords_51 : decode cX1_joinWords 51 = .ok (.ifCond .eq 23, 3) := by decide +kernel
theorem dX1_joinWords_54 : decode cX1_joinWords 54 = .ok (.aload_n 0, 1) := by decide +kernel
theorem dX1_joinWords_55 : decode cX1_joinWords 55 = .ok (.dup, 1) := by decide +kernel
theorem dX1_joinWords_56 : decode cX1_joinWords 56 = .ok (.getfield 70, 3) := by decide +kernel
theorem dX1_joinWords_59 : decode cX1_joinWords 59 = .ok (.iconst 1, 1) := by decide +kernel
theorem dX1_joinWords_60 : decode cX1_joinWords 60 = .ok (.iadd, 1) := by decide +kernel
theorem dX1_joinWords_61 : decode cX1_joinWords 61 = .ok (.putfield 70, 3) := by decide +kernel
theorem dX1_joinWords_64 : decode cX1_joinWords 64 = .ok (.aload_n 0, 1) := by decide +kernel
theorem dX1_joinWords_65 : decode cX1_joinWords 65 = .ok (.dup, 1) := by decide +kernel
theorem dX1_joinWords_66 : decode cX1_joinWords 66 = .ok (.getfield 67, 3) := by decide +kernel
theorem dX1_joinWords_69 : decode cX1_joinWords 69 = .ok (.iconst 1, 1) := by decide +kernel
theorem dX1_joinWords_70 : decode cX1_joinWords 70 = .ok (.isub, 1) := by decide +kernel
theorem dX1_joinWords_71 : decode cX1_joinWords 71 = .ok (.putfield 67, 3) := by decide +kernel
theorem dX1_joinWords_74 : decode cX1_joinWords 74 = .ok (.aload_n 0, 1) := by decide +kernel
theorem dX1_joinWords_75 : decode cX1_joinWords 75 = .ok (.dup, 1) := by decide +kernel
theorem dX1_joinWords_76 : decode cX1_joinWords 76 = .ok (.getfield 63, 3) := by decide +kernel
theorem dX1_joinWords_79 : decode cX1_joinWords 79 = .ok (.aload_n 3, 1) := by decide +kernel
theorem dX1_joinWords_80 : decode cX1_joinWords 80 = .ok (.getfield 77, 3) := by decide +kernel
theorem dX1_joinWords_83 : decode cX1_joinWords 83 = .ok (.i2l, 1) := by decide +kernel
theorem dX1_joinWords_84 : decode cX1_joinWords 84 = .ok (.aload_n 0, 1) := by decide +kernel
theorem dX1_joinWords_85 : decode cX1_joinWords 85 = .ok (.getfield 67, 3) := by decide +kernel
theorem dX1_joinWords_88 : decode cX1_joinWords 88 = .ok (.lshl, 1) := by decide +kernel
theorem dX1_joinWords_89 : decode cX1_joinWords 89 = .ok (.lor, 1) := by decide +kernel
theorem dX1_joinWords_90 : decode cX1_joinWords 90 = .ok (.putfield 63, 3) := by decide +kernel
theorem dX1_joinWords_93 : decode cX1_joinWords 93 = .ok (.aload_n 0, 1) := by decide +kernel
theorem dX1_joinWords_94 : decode cX1_joinWords 94 = .ok (.dup, 1) := by decide +kernel
theorem dX1_joinWords_95 : decode cX1_joinWords 95 = .ok (.getfield 67, 3) := by decide +kernel
theorem dX1_joinWords_98 : decode cX1_joinWords 98 = .ok (.aload_n 3, 1) := by decide +kernel
theorem dX1_joinWords_99 : decode cX1_joinWords 99 = .ok (.getfield 80, 3) := by decide +kernel
theorem dX1_joinWords_102 : decode cX1_joinWords 102 = .ok (.iadd, 1) := by decide +kernel
theorem dX1_joinWords_103 : decode cX1_joinWords 103 = .ok (.putfield 67, 3) := by decide +kernel
theorem dX1_joinWords_106 : decode cX1_joinWords 106 = .ok (.aload_n 3, 1) := by decide +kernel
theorem dX1_joinWords_107 : decode cX1_joinWords 107 = .ok (.astore_n 1, 1) := by decide +kernel
theorem dX1_joinWords_108 : decode cX1_joinWords 108 = .ok (.iinc 2 1, 3) := by decide +kernel
theorem dX1_joinWords_111 : decode cX1_joinWords 111 = .ok (.goto (-92), 3) := by decide +kernel
theorem dX1_joinWords_114 : decode cX1_joinWords 114 = .ok (.return_, 1) := by decide +kernel
theorem dX1_scanIn_0 : decode cX1_scanIn 0 = .ok (.aload_n 0, 1) := by decide +kernel
theorem dX1_scanIn_1 : decode cX1_scanIn 1 = .ok (.iload_n 2, 1) := by decide +kernel
theorem dX1_scanIn_2 : decode cX1_scanIn 2 = .ok (.putfield 83, 3) := by decide +kernel
theorem dX1_scanIn_5 : decode cX1_scanIn 5 = .ok (.aload_n 0, 1) := by decide +kernel
theorem dX1_scanIn_6 : decode cX1_scanIn 6 = .ok (.aload_n 1, 1) := by decide +kernel
theorem dX1_scanIn_7 : decode cX1_scanIn 7 = .ok (.getfield 86, 3) := by decide +kernel
theorem dX1_scanIn_10 : decode cX1_scanIn 10 = .ok (.iload_n 2, 1) := by decide +kernel
theorem dX1_scanIn_11 : decode cX1_scanIn 11 = .ok (.isub, 1) := by decide +kernel
theorem dX1_scanIn_12 : decode cX1_scanIn 12 = .ok (.putfield 91, 3) := by decide +kernel
theorem dX1_scanIn_15 : decode cX1_scanIn 15 = .ok (.aload_n 1, 1) := by decide +kernel
theorem dX1_scanIn_16 : decode cX1_scanIn 16 = .ok (.aload_n 0, 1) := by decide +kernel
theorem dX1_scanIn_17 : decode cX1_scanIn 17 = .ok (.getfield 63, 3) := by decide +kernel
theorem dX1_scanIn_20 : decode cX1_scanIn 20 = .ok (.aload_n 0, 1) := by decide +kernel
theorem dX1_scanIn_21 : decode cX1_scanIn 21 = .ok (.getfield 67, 3) := by decide +kernel
theorem dX1_scanIn_24 : decode cX1_scanIn 24 = .ok (.invokevirtual 94, 3) := by decide +kernel
theorem dX1_scanIn_27 : decode cX1_scanIn 27 = .ok (.aload_n 0, 1) := by decide +kernel
theorem dX1_scanIn_28 : decode cX1_scanIn 28 = .ok (.getfield 7, 3) := by decide +kernel
theorem dX1_scanIn_31 : decode cX1_scanIn 31 = .ok (.invokestatic 97, 3) := by decide +kernel
theorem dX1_scanIn_34 : decode cX1_scanIn 34 = .ok (.aload_n 0, 1) := by decide +kernel
theorem dX1_scanIn_35 : decode cX1_scanIn 35 = .ok (.getfield 13, 3) := by decide +kernel
theorem dX1_scanIn_38 : decode cX1_scanIn 38 = .ok (.imul, 1) := by decide +kernel
theorem dX1_scanIn_39 : decode cX1_scanIn 39 = .ok (.istore_n 3, 1) := by decide +kernel
theorem dX1_scanIn_40 : decode cX1_scanIn 40 = .ok (.aload_n 0, 1) := by decide +kernel
theorem dX1_scanIn_41 : decode cX1_scanIn 41 = .ok (.aload_n 0, 1) := by decide +kernel
theorem dX1_scanIn_42 : decode cX1_scanIn 42 = .ok (.getfield 91, 3) := by decide +kernel
theorem dX1_scanIn_45 : decode cX1_scanIn 45 = .ok (.aload_n 0, 1) := by decide +kernel
theorem dX1_scanIn_46 : decode cX1_scanIn 46 = .ok (.getfield 67, 3) := by decide +kernel
theorem dX1_scanIn_49 : decode cX1_scanIn 49 = .ok (.iadd, 1) := by decide +kernel
theorem dX1_scanIn_50 : decode cX1_scanIn 50 = .ok (.iload_n 3, 1) := by decide +kernel
theorem dX1_scanIn_51 : decode cX1_scanIn 51 = .ok (.invokestatic 101, 3) := by decide +kernel
theorem dX1_scanIn_54 : decode cX1_scanIn 54 = .ok (.putfield 107, 3) := by decide +kernel
theorem dX1_scanIn_57 : decode cX1_scanIn 57 = .ok (.aload_n 0, 1) := by decide +kernel
theorem dX1_scanIn_58 : decode cX1_scanIn 58 = .ok (.aload_n 0, 1) := by decide +kernel
theorem dX1_scanIn_59 : decode cX1_scanIn 59 = .ok (.getfield 91, 3) := by decide +kernel
theorem dX1_scanIn_62 : decode cX1_scanIn 62 = .ok (.aload_n 0, 1) := by decide +kernel
theorem dX1_scanIn_63 : decode cX1_scanIn 63 = .ok (.getfield 67, 3) := by decide +kernel
theorem dX1_scanIn_66 : decode cX1_scanIn 66 = .ok (.iadd, 1) := by decide +kernel
theorem dX1_scanIn_67 : decode cX1_scanIn 67 = .ok (.aload_n 0, 1) := by decide +kernel
theorem dX1_scanIn_68 : decode cX1_scanIn 68 = .ok (.getfield 107, 3) := by decide +kernel
theorem dX1_scanIn_71 : decode cX1_scanIn 71 = .ok (.isub, 1) := by decide +kernel
theorem dX1_scanIn_72 : decode cX1_scanIn 72 = .ok (.putfield 110, 3) := by decide +kernel
theorem dX1_scanIn_75 : decode cX1_scanIn 75 = .ok (.aload_n 0, 1) := by decide +kernel
theorem dX1_scanIn_76 : decode cX1_scanIn 76 = .ok (.aload_n 1, 1) := by decide +kernel
theorem dX1_scanIn_77 : decode cX1_scanIn 77 = .ok (.iload_n 2, 1) := by decide +kernel
theorem dX1_scanIn_78 : decode cX1_scanIn 78 = .ok (.aload_n 0, 1) := by decide +kernel
theorem dX1_scanIn_79 : decode cX1_scanIn 79 = .ok (.getfield 107, 3) := by decide +kernel
theorem dX1_scanIn_82 : decode cX1_scanIn 82 = .ok (.invokevirtual 113, 3) := by decide +kernel
theorem dX1_scanIn_85 : decode cX1_scanIn 85 = .ok (.putfield 117, 3) := by decide +kernel
theorem dX1_scanIn_88 : decode cX1_scanIn 88 = .ok (.aload_n 0, 1) := by decide +kernel
theorem dX1_scanIn_89 : decode cX1_scanIn 89 = .ok (.aload_n 0, 1) := by decide +kernel
theorem dX1_scanIn_90 : decode cX1_scanIn 90 = .ok (.getfield 7, 3) := by decide +kernel
theorem dX1_scanIn_93 : decode cX1_scanIn 93 = .ok (.aload_n 0, 1) := by decide +kernel
theorem dX1_scanIn_94 : decode cX1_scanIn 94 = .ok (.getfield 117, 3) := by decide +kernel
theorem dX1_scanIn_97 : decode cX1_scanIn 97 = .ok (.aload_n 0, 1) := by decide +kernel
theorem dX1_scanIn_98 : decode cX1_scanIn 98 = .ok (.getfield 107, 3) := by decide +kernel
theorem dX1_scanIn_101 : decode cX1_scanIn 101 = .ok (.invokestatic 120, 3) := by decide +kernel
theorem dX1_scanIn_104 : decode cX1_scanIn 104 = .ok (.putfield 124, 3) := by decide +kernel
theorem dX1_scanIn_107 : decode cX1_scanIn 107 = .ok (.aload_n 0, 1) := by decide +kernel
theorem dX1_scanIn_108 : decode cX1_scanIn 108 = .ok (.iload_n 3, 1) := by decide +kernel
theorem dX1_scanIn_109 : decode cX1_scanIn 109 = .ok (.aload_n 0, 1) := by decide +kernel
theorem dX1_scanIn_110 : decode cX1_scanIn 110 = .ok (.getfield 107, 3) := by decide +kernel
theorem dX1_scanIn_113 : decode cX1_scanIn 113 = .ok (.isub, 1) := by decide +kernel
theorem dX1_scanIn_114 : decode cX1_scanIn 114 = .ok (.putfield 127, 3) := by decide +kernel
theorem dX1_scanIn_117 : decode cX1_scanIn 117 = .ok (.return_, 1) := by decide +kernel
theorem dX1_payRhyme_0 : decode cX1_payRhyme 0 = .ok (.aload_n 0, 1) := by decide +kernel
theorem dX1_payRhyme_1 : decode cX1_payRhyme 1 = .ok (.aload_n 0, 1) := by decide +kernel
theorem dX1_payRhyme_2 : decode cX1_payRhyme 2 = .ok (.aload_n 0, 1) := by decide +kernel
theorem dX1_payRhyme_3 : decode cX1_payRhyme 3 = .ok (.getfield 19, 3) := by decide +kernel
theorem dX1_payRhyme_6 : decode cX1_payRhyme 6 = .ok (.invokestatic 130, 3) := by decide +kernel
theorem dX1_payRhyme_9 : decode cX1_payRhyme 9 = .ok (.putfield 134, 3) := by decide +kernel
theorem dX1_payRhyme_12 : decode cX1_payRhyme 12 = .ok (.aload_n 0, 1) := by decide +kernel
theorem dX1_payRhyme_13 : decode cX1_payRhyme 13 = .ok (.aload_n 0, 1) := by decide +kernel
theorem dX1_payRhyme_14 : decode cX1_payRhyme 14 = .ok (.getfield 26, 3) := by decide +kernel
theorem dX1_payRhyme_17 : decode cX1_payRhyme 17 = .ok (.invokevirtual 137, 3) := by decide +kernel
theorem dX1_payRhyme_20 : decode cX1_payRhyme 20 = .ok (.ifCond .eq 10, 3) := by decide +kernel
theorem dX1_payRhyme_23 : decode cX1_payRhyme 23 = .ok (.aload_n 0, 1) := by decide +kernel
theorem dX1_payRhyme_24 : decode cX1_payRhyme 24 = .ok (.getfield 13, 3) := by decide +kernel
theorem dX1_payRhyme_27 : decode cX1_payRhyme 27 = .ok (.goto 37, 3) := by decide +kernel
theorem dX1_payRhyme_30 : decode cX1_payRhyme 30 = .ok (.iconst 0, 1) := by decide +kernel
theorem dX1_payRhyme_31 : decode cX1_payRhyme 31 = .ok (.iconst 2, 1) := by decide +kernel
theorem dX1_payRhyme_32 : decode cX1_payRhyme 32 = .ok (.aload_n 0, 1) := by decide +kernel
theorem dX1_payRhyme_33 : decode cX1_payRhyme 33 = .ok (.getfield 117, 3) := by decide +kernel
theorem dX1_payRhyme_36 : decode cX1_payRhyme 36 = .ok (.invokestatic 141, 3) := by decide +kernel
theorem dX1_payRhyme_39 : decode cX1_payRhyme 39 = .ok (.imul, 1) := by decide +kernel
theorem dX1_payRhyme_40 : decode cX1_payRhyme 40 = .ok (.iconst 3, 1) := by decide +kernel
theorem dX1_payRhyme_41 : decode cX1_payRhyme 41 = .ok (.aload_n 0, 1) := by decide +kernel
theorem dX1_payRhyme_42 : decode cX1_payRhyme 42 = .ok (.getfield 124, 3) := by decide +kernel
theorem dX1_payRhyme_45 : decode cX1_payRhyme 45 = .ok (.imul, 1) := by decide +kernel
theorem dX1_payRhyme_46 : decode cX1_payRhyme 46 = .ok (.iadd, 1) := by decide +kernel
theorem dX1_payRhyme_47 : decode cX1_payRhyme 47 = .ok (.iconst 5, 1) := by decide +kernel
theorem dX1_payRhyme_48 : decode cX1_payRhyme 48 = .ok (.aload_n 0, 1) := by decide +kernel
theorem dX1_payRhyme_49 : decode cX1_payRhyme 49 = .ok (.getfield 127, 3) := by decide +kernel
theorem dX1_payRhyme_52 : decode cX1_payRhyme 52 = .ok (.imul, 1) := by decide +kernel
theorem dX1_payRhyme_53 : decode cX1_payRhyme 53 = .ok (.iadd, 1) := by decide +kernel
theorem dX1_payRhyme_54 : decode cX1_payRhyme 54 = .ok (.iconst 4, 1) := by decide +kernel
theorem dX1_payRhyme_55 : decode cX1_payRhyme 55 = .ok (.aload_n 0, 1) := by decide +kernel
theorem dX1_payRhyme_56 : decode cX1_payRhyme 56 = .ok (.getfield 134, 3) := by decide +kernel
theorem dX1_payRhyme_59 : decode cX1_payRhyme 59 = .ok (.imul, 1) := by decide +kernel
theorem dX1_payRhyme_60 : decode cX1_payRhyme 60 = .ok (.isub, 1) := by decide +kernel
theorem dX1_payRhyme_61 : decode cX1_payRhyme 61 = .ok (.invokestatic 147, 3) := by decide +kernel
theorem dX1_payRhyme_64 : decode cX1_payRhyme 64 = .ok (.putfield 150, 3) := by decide +kernel
theorem dX1_payRhyme_67 : decode cX1_payRhyme 67 = .ok (.return_, 1) := by decide +kernel
theorem dX1_faultsBy_0 : decode cX1_faultsBy 0 = .ok (.iload_n 1, 1) := by decide +kernel
theorem dX1_faultsBy_1 : decode cX1_faultsBy 1 = .ok (.invokestatic 97, 3) := by decide +kernel
theorem dX1_faultsBy_4 : decode cX1_faultsBy 4 = .ok (.aload_n 0, 1) := by decide +kernel
theorem dX1_faultsBy_5 : decode cX1_faultsBy 5 = .ok (.getfield 13, 3) := by decide +kernel
theorem dX1_faultsBy_8 : decode cX1_faultsBy 8 = .ok (.imul, 1) := by decide +kernel
theorem dX1_faultsBy_9 : decode cX1_faultsBy 9 = .ok (.istore_n 3, 1) := by decide +kernel
theorem dX1_faultsBy_10 : decode cX1_faultsBy 10 = .ok (.aload_n 0, 1) := by decide +kernel
theorem dX1_faultsBy_11 : decode cX1_faultsBy 11 = .ok (.getfield 91, 3) := by decide +kernel
theorem dX1_faultsBy_14 : decode cX1_faultsBy 14 = .ok (.aload_n 0, 1) := by decide +kernel
theorem dX1_faultsBy_15 : decode cX1_faultsBy 15 = .ok (.getfield 67, 3) := by decide +kernel
theorem dX1_faultsBy_18 : decode cX1_faultsBy 18 = .ok (.iadd, 1) := by decide +kernel
theorem dX1_faultsBy_19 : decode cX1_faultsBy 19 = .ok (.iload_n 3, 1) := by decide +kernel
theorem dX1_faultsBy_20 : decode cX1_faultsBy 20 = .ok (.invokestatic 101, 3) := by decide +kernel
theorem dX1_faultsBy_23 : decode cX1_faultsBy 23 = .ok (.istore 4, 2) := by decide +kernel
theorem dX1_faultsBy_25 : decode cX1_faultsBy 25 = .ok (.iload_n 1, 1) := by decide +kernel
theorem dX1_faultsBy_26 : decode cX1_faultsBy 26 = .ok (.aload_n 2, 1) := by decide +kernel
theorem dX1_faultsBy_27 : decode cX1_faultsBy 27 = .ok (.aload_n 0, 1) := by decide +kernel
theorem dX1_faultsBy_28 : decode cX1_faultsBy 28 = .ok (.getfield 83, 3) := by decide +kernel
theorem dX1_faultsBy_31 : decode cX1_faultsBy 31 = .ok (.iload 4, 2) := by decide +kernel
theorem dX1_faultsBy_33 : decode cX1_faultsBy 33 = .ok (.invokevirtual 113, 3) := by decide +kernel
theorem dX1_faultsBy_36 : decode cX1_faultsBy 36 = .ok (.iload 4, 2) := by decide +kernel
theorem dX1_faultsBy_38 : decode cX1_faultsBy 38 = .ok (.invokestatic 120, 3) := by decide +kernel
theorem dX1_faultsBy_41 : decode cX1_faultsBy 41 = .ok (.iload_n 3, 1) := by decide +kernel
theorem dX1_faultsBy_42 : decode cX1_faultsBy 42 = .ok (.iadd, 1) := by decide +kernel
theorem dX1_faultsBy_43 : decode cX1_faultsBy 43 = .ok (.iload 4, 2) := by decide +kernel
theorem dX1_faultsBy_45 : decode cX1_faultsBy 45 = .ok (.isub, 1) := by decide +kernel
theorem dX1_faultsBy_46 : decode cX1_faultsBy 46 = .ok (.ireturn, 1) := by decide +kernel
theorem dX1_offBy_0 : decode cX1_offBy 0 = .ok (.lload_n 1, 1) := by decide +kernel
theorem dX1_offBy_1 : decode cX1_offBy 1 = .ok (.iload_n 0, 1) := by decide +kernel
theorem dX1_offBy_2 : decode cX1_offBy 2 = .ok (.invokestatic 153, 3) := by decide +kernel
theorem dX1_offBy_5 : decode cX1_offBy 5 = .ok (.lxor, 1) := by decide +kernel
theorem dX1_offBy_6 : decode cX1_offBy 6 = .ok (.iload_n 3, 1) := by decide +kernel
theorem dX1_offBy_7 : decode cX1_offBy 7 = .ok (.invokestatic 157, 3) := by decide +kernel
theorem dX1_offBy_10 : decode cX1_offBy 10 = .ok (.land, 1) := by decide +kernel
theorem dX1_offBy_11 : decode cX1_offBy 11 = .ok (.invokestatic 141, 3) := by decide +kernel
theorem dX1_offBy_14 : decode cX1_offBy 14 = .ok (.ireturn, 1) := by decide +kernel
theorem dX1_isFaultless_0 : decode cX1_isFaultless 0 = .ok (.aload_n 0, 1) := by decide +kernel
theorem dX1_isFaultless_1 : decode cX1_isFaultless 1 = .ok (.getfield 124, 3) := by decide +kernel
theorem dX1_isFaultless_4 : decode cX1_isFaultless 4 = .ok (.ifCond .ne 14, 3) := by decide +kernel
theorem dX1_isFaultless_7 : decode cX1_isFaultless 7 = .ok (.aload_n 0, 1) := by decide +kernel
theorem dX1_isFaultless_8 : decode cX1_isFaultless 8 = .ok (.getfield 127, 3) := by decide +kernel
theorem dX1_isFaultless_11 : decode cX1_isFaultless 11 = .ok (.ifCond .ne 7, 3) := by decide +kernel
theorem dX1_isFaultless_14 : decode cX1_isFaultless 14 = .ok (.iconst 1, 1) := by decide +kernel
theorem dX1_isFaultless_15 : decode cX1_isFaultless 15 = .ok (.goto 4, 3) := by decide +kernel
theorem dX1_isFaultless_18 : decode cX1_isFaultless 18 = .ok (.iconst 0, 1) := by decide +kernel
theorem dX1_isFaultless_19 : decode cX1_isFaultless 19 = .ok (.ireturn, 1) := by decide +kernel
theorem dX1_stressAt_0 : decode cX1_stressAt 0 = .ok (.aload_n 0, 1) := by decide +kernel
theorem dX1_stressAt_1 : decode cX1_stressAt 1 = .ok (.getfield 117, 3) := by decide +kernel
theorem dX1_stressAt_4 : decode cX1_stressAt 4 = .ok (.iload_n 1, 1) := by decide +kernel
theorem dX1_stressAt_5 : decode cX1_stressAt 5 = .ok (.lushr, 1) := by decide +kernel
theorem dX1_stressAt_6 : decode cX1_stressAt 6 = .ok (.lconst 1, 1) := by decide +kernel
theorem dX1_stressAt_7 : decode cX1_stressAt 7 = .ok (.land, 1) := by decide +kernel
theorem dX1_stressAt_8 : decode cX1_stressAt 8 = .ok (.l2i, 1) := by decide +kernel
theorem dX1_stressAt_9 : decode cX1_stressAt 9 = .ok (.ireturn, 1) := by decide +kernel
theorem dX1_tells_0 : decode cX1_tells 0 = .ok (.iload_n 1, 1) := by decide +kernel
theorem dX1_tells_1 : decode cX1_tells 1 = .ok (.tableswitch 117 0 10 #[59, 64, 69, 74, 82, 87, 92, 97, 102, 107, 112], 59) := by decide +kernel
theorem dX1_tells_60 : decode cX1_tells 60 = .ok (.aload_n 0, 1) := by decide +kernel
theorem dX1_tells_61 : decode cX1_tells 61 = .ok (.getfield 7, 3) := by decide +kernel
theorem dX1_tells_64 : decode cX1_tells 64 = .ok (.ireturn, 1) := by decide +kernel
theorem dX1_tells_65 : decode cX1_tells 65 = .ok (.aload_n 0, 1) := by decide +kernel
theorem dX1_tells_66 : decode cX1_tells 66 = .ok (.getfield 13, 3) := by decide +kernel
theorem dX1_tells_69 : decode cX1_tells 69 = .ok (.ireturn, 1) := by decide +kernel
theorem dX1_tells_70 : decode cX1_tells 70 = .ok (.aload_n 0, 1) := by decide +kernel
theorem dX1_tells_71 : decode cX1_tells 71 = .ok (.getfield 16, 3) := by decide +kernel
theorem dX1_tells_74 : decode cX1_tells 74 = .ok (.ireturn, 1) := by decide +kernel
theorem dX1_tells_75 : decode cX1_tells 75 = .ok (.aload_n 0, 1) := by decide +kernel
theorem dX1_tells_76 : decode cX1_tells 76 = .ok (.getfield 26, 3) := by decide +kernel
theorem dX1_tells_79 : decode cX1_tells 79 = .ok (.invokevirtual 30, 3) := by decide +kernel
theorem dX1_tells_82 : decode cX1_tells 82 = .ok (.ireturn, 1) := by decide +kernel
theorem dX1_tells_83 : decode cX1_tells 83 = .ok (.aload_n 0, 1) := by decide +kernel
theorem dX1_tells_84 : decode cX1_tells 84 = .ok (.getfield 67, 3) := by decide +kernel
theorem dX1_tells_87 : decode cX1_tells 87 = .ok (.ireturn, 1) := by decide +kernel
theorem dX1_tells_88 : decode cX1_tells 88 = .ok (.aload_n 0, 1) := by decide +kernel
theorem dX1_tells_89 : decode cX1_tells 89 = .ok (.getfield 91, 3) := by decide +kernel
theorem dX1_tells_92 : decode cX1_tells 92 = .ok (.ireturn, 1) := by decide +kernel
theorem dX1_tells_93 : decode cX1_tells 93 = .ok (.aload_n 0, 1) := by decide +kernel
theorem dX1_tells_94 : decode cX1_tells 94 = .ok (.getfield 107, 3) := by decide +kernel
theorem dX1_tells_97 : decode cX1_tells 97 = .ok (.ireturn, 1) := by decide +kernel
theorem dX1_tells_98 : decode cX1_tells 98 = .ok (.aload_n 0, 1) := by decide +kernel
theorem dX1_tells_99 : decode cX1_tells 99 = .ok (.getfield 110, 3) := by decide +kernel
theorem dX1_tells_102 : decode cX1_tells 102 = .ok (.ireturn, 1) := by decide +kernel
theorem dX1_tells_103 : decode cX1_tells 103 = .ok (.aload_n 0, 1) := by decide +kernel
theorem dX1_tells_104 : decode cX1_tells 104 = .ok (.getfield 124, 3) := by decide +kernel
theorem dX1_tells_107 : decode cX1_tells 107 = .ok (.ireturn, 1) := by decide +kernel
theorem dX1_tells_108 : decode cX1_tells 108 = .ok (.aload_n 0, 1) := by decide +kernel
theorem dX1_tells_109 : decode cX1_tells 109 = .ok (.getfield 127, 3) := by decide +kernel
theorem dX1_tells_112 : decode cX1_tells 112 = .ok (.ireturn, 1) := by decide +kernel
theorem dX1_tells_113 : decode cX1_tells 113 = .ok (.aload_n 0, 1) := by decide +kernel
theorem dX1_tells_114 : decode cX1_tells 114 = .ok (.getfield 134, 3) := by decide +kernel
theorem dX1_tells_117 : decode cX1_tells 117 = .ok (.ireturn, 1) := by decide +kernel
theorem dX1_tells_118 : decode cX1_tells 118 = .ok (.aload_n 0, 1) := by decide +kernel
theorem dX1_tells_119 : decode cX1_tells 119 = .ok (.getfield 150, 3) := by decide +kernel
theorem dX1_tells_122 : decode cX1_tells 122 = .ok (.ireturn, 1) := by decide +kernel
theorem dX2_init_0 : decode cX2_init 0 = .ok (.aload_n 0, 1) := by decide +kernel
theorem dX2_init_1 : decode cX2_init 1 = .ok (.invokespecial 1, 3) := by decide +kernel
theorem dX2_init_4 : decode cX2_init 4 = .ok (.aload_n 0, 1) := by decide +kernel
theorem dX2_init_5 : decode cX2_init 5 = .ok (.iload_n 1, 1) := by decide +kernel
theorem dX2_init_6 : decode cX2_init 6 = .ok (.putfield 7, 3) := by decide +kernel
theorem dX2_init_9 : decode cX2_init 9 = .ok (.aload_n 0, 1) := by decide +kernel
theorem dX2_init_10 : decode cX2_init 10 = .ok (.iload_n 2, 1) := by decide +kernel
theorem dX2_init_11 : decode cX2_init 11 = .ok (.putfield 13, 3) := by decide +kernel
theorem dX2_init_14 : decode cX2_init 14 = .ok (.aload_n 0, 1) := by decide +kernel
theorem dX2_init_15 : decode cX2_init 15 = .ok (.iload_n 3, 1) := by decide +kernel
theorem dX2_init_16 : decode cX2_init 16 = .ok (.putfield 16, 3) := by decide +kernel
theorem dX2_init_19 : decode cX2_init 19 = .ok (.aload_n 0, 1) := by decide +kernel
theorem dX2_init_20 : decode cX2_init 20 = .ok (.iload 4, 2) := by decide +kernel
theorem dX2_init_22 : decode cX2_init 22 = .ok (.putfield 19, 3) := by decide +kernel
theorem dX2_init_25 : decode cX2_init 25 = .ok (.aload_n 0, 1) := by decide +kernel
theorem dX2_init_26 : decode cX2_init 26 = .ok (.iload 5, 2) := by decide +kernel
theorem dX2_init_28 : decode cX2_init 28 = .ok (.putfield 22, 3) := by decide +kernel
theorem dX2_init_31 : decode cX2_init 31 = .ok (.aload_n 0, 1) := by decide +kernel
theorem dX2_init_32 : decode cX2_init 32 = .ok (.iload 6, 2) := by decide +kernel
theorem dX2_init_34 : decode cX2_init 34 = .ok (.putfield 25, 3) := by decide +kernel
theorem dX2_init_37 : decode cX2_init 37 = .ok (.return_, 1) := by decide +kernel
theorem dX2_meltsInto_0 : decode cX2_meltsInto 0 = .ok (.aload_n 0, 1) := by decide +kernel
theorem dX2_meltsInto_1 : decode cX2_meltsInto 1 = .ok (.getfield 22, 3) := by decide +kernel
theorem dX2_meltsInto_4 : decode cX2_meltsInto 4 = .ok (.ifCond .ne 14, 3) := by decide +kernel
theorem dX2_meltsInto_7 : decode cX2_meltsInto 7 = .ok (.aload_n 1, 1) := by decide +kernel
theorem dX2_meltsInto_8 : decode cX2_meltsInto 8 = .ok (.getfield 25, 3) := by decide +kernel
theorem dX2_meltsInto_11 : decode cX2_meltsInto 11 = .ok (.ifCond .eq 7, 3) := by decide +kernel
theorem dX2_meltsInto_14 : decode cX2_meltsInto 14 = .ok (.iconst 1, 1) := by decide +kernel
theorem dX2_meltsInto_15 : decode cX2_meltsInto 15 = .ok (.goto 4, 3) := by decide +kernel
theorem dX2_meltsInto_18 : decode cX2_meltsInto 18 = .ok (.iconst 0, 1) := by decide +kernel
theorem dX2_meltsInto_19 : decode cX2_meltsInto 19 = .ok (.ireturn, 1) := by decide +kernel
theorem dX2_lastStress_0 : decode cX2_lastStress 0 = .ok (.aload_n 0, 1) := by decide +kernel
theorem dX2_lastStress_1 : decode cX2_lastStress 1 = .ok (.getfield 16, 3) := by decide +kernel
theorem dX2_lastStress_4 : decode cX2_lastStress 4 = .ok (.aload_n 0, 1) := by decide +kernel
theorem dX2_lastStress_5 : decode cX2_lastStress 5 = .ok (.getfield 13, 3) := by decide +kernel
theorem dX2_lastStress_8 : decode cX2_lastStress 8 = .ok (.iconst 1, 1) := by decide +kernel
theorem dX2_lastStress_9 : decode cX2_lastStress 9 = .ok (.isub, 1) := by decide +kernel
theorem dX2_lastStress_10 : decode cX2_lastStress 10 = .ok (.ishr, 1) := by decide +kernel
theorem dX2_lastStress_11 : decode cX2_lastStress 11 = .ok (.iconst 1, 1) := by decide +kernel
theorem dX2_lastStress_12 : decode cX2_lastStress 12 = .ok (.iand, 1) := by decide +kernel
theorem dX2_lastStress_13 : decode cX2_lastStress 13 = .ok (.ireturn, 1) := by decide +kernel
theorem dX2_rhymeWith_0 : decode cX2_rhymeWith 0 = .ok (.aload_n 0, 1) := by decide +kernel
theorem dX2_rhymeWith_1 : decode cX2_rhymeWith 1 = .ok (.getfield 7, 3) := by decide +kernel
theorem dX2_rhymeWith_4 : decode cX2_rhymeWith 4 = .ok (.aload_n 1, 1) := by decide +kernel
theorem dX2_rhymeWith_5 : decode cX2_rhymeWith 5 = .ok (.getfield 7, 3) := by decide +kernel
theorem dX2_rhymeWith_8 : decode cX2_rhymeWith 8 = .ok (.if_icmp .eq 14, 3) := by decide +kernel
theorem dX2_rhymeWith_11 : decode cX2_rhymeWith 11 = .ok (.aload_n 0, 1) := by decide +kernel
theorem dX2_rhymeWith_12 : decode cX2_rhymeWith 12 = .ok (.getfield 19, 3) := by decide +kernel
theorem dX2_rhymeWith_15 : decode cX2_rhymeWith 15 = .ok (.aload_n 1, 1) := by decide +kernel
theorem dX2_rhymeWith_16 : decode cX2_rhymeWith 16 = .ok (.getfield 19, 3) := by decide +kernel
theorem dX2_rhymeWith_19 : decode cX2_rhymeWith 19 = .ok (.if_icmp .eq 5, 3) := by decide +kernel
theorem dX2_rhymeWith_22 : decode cX2_rhymeWith 22 = .ok (.iconst 0, 1) := by decide +kernel
theorem dX2_rhymeWith_23 : decode cX2_rhymeWith 23 = .ok (.ireturn, 1) := by decide +kernel
theorem dX2_rhymeWith_24 : decode cX2_rhymeWith 24 = .ok (.aload_n 0, 1) := by decide +kernel
theorem dX2_rhymeWith_25 : decode cX2_rhymeWith 25 = .ok (.getfield 22, 3) := by decide +kernel
theorem dX2_rhymeWith_28 : decode cX2_rhymeWith 28 = .ok (.aload_n 1, 1) := by decide +kernel
theorem dX2_rhymeWith_29 : decode cX2_rhymeWith 29 = .ok (.getfield 22, 3) := by decide +kernel
theorem dX2_rhymeWith_32 : decode cX2_rhymeWith 32 = .ok (.if_icmp .ne 7, 3) := by decide +kernel
theorem dX2_rhymeWith_35 : decode cX2_rhymeWith 35 = .ok (.iconst 1, 1) := by decide +kernel
theorem dX2_rhymeWith_36 : decode cX2_rhymeWith 36 = .ok (.goto 4, 3) := by decide +kernel
theorem dX2_rhymeWith_39 : decode cX2_rhymeWith 39 = .ok (.iconst 0, 1) := by decide +kernel
theorem dX2_rhymeWith_40 : decode cX2_rhymeWith 40 = .ok (.istore_n 2, 1) := by decide +kernel
theorem dX2_rhymeWith_41 : decode cX2_rhymeWith 41 = .ok (.aload_n 0, 1) := by decide +kernel
theorem dX2_rhymeWith_42 : decode cX2_rhymeWith 42 = .ok (.invokevirtual 29, 3) := by decide +kernel
theorem dX2_rhymeWith_45 : decode cX2_rhymeWith 45 = .ok (.aload_n 1, 1) := by decide +kernel
theorem dX2_rhymeWith_46 : decode cX2_rhymeWith 46 = .ok (.invokevirtual 29, 3) := by decide +kernel
theorem dX2_rhymeWith_49 : decode cX2_rhymeWith 49 = .ok (.if_icmp .ne 7, 3) := by decide +kernel
theorem dX2_rhymeWith_52 : decode cX2_rhymeWith 52 = .ok (.iconst 1, 1) := by decide +kernel
theorem dX2_rhymeWith_53 : decode cX2_rhymeWith 53 = .ok (.goto 4, 3) := by decide +kernel
theorem dX2_rhymeWith_56 : decode cX2_rhymeWith 56 = .ok (.iconst 0, 1) := by decide +kernel
theorem dX2_rhymeWith_57 : decode cX2_rhymeWith 57 = .ok (.istore_n 3, 1) := by decide +kernel
theorem dX2_rhymeWith_58 : decode cX2_rhymeWith 58 = .ok (.iconst 1, 1) := by decide +kernel
theorem dX2_rhymeWith_59 : decode cX2_rhymeWith 59 = .ok (.iload_n 2, 1) := by decide +kernel
theorem dX2_rhymeWith_60 : decode cX2_rhymeWith 60 = .ok (.iadd, 1) := by decide +kernel
theorem dX2_rhymeWith_61 : decode cX2_rhymeWith 61 = .ok (.iload_n 3, 1) := by decide +kernel
theorem dX2_rhymeWith_62 : decode cX2_rhymeWith 62 = .ok (.iadd, 1) := by decide +kernel
theorem dX2_rhymeWith_63 : decode cX2_rhymeWith 63 = .ok (.ireturn, 1) := by decide +kernel
theorem dX3_init_0 : decode cX3_init 0 = .ok (.aload_n 0, 1) := by decide +kernel
theorem dX3_init_1 : decode cX3_init 1 = .ok (.invokespecial 3, 3) := by decide +kernel
theorem dX3_init_4 : decode cX3_init 4 = .ok (.aload_n 0, 1) := by decide +kernel
theorem dX3_init_5 : decode cX3_init 5 = .ok (.new 9, 3) := by decide +kernel
theorem dX3_init_8 : decode cX3_init 8 = .ok (.dup, 1) := by decide +kernel
theorem dX3_init_9 : decode cX3_init 9 = .ok (.invokespecial 11, 3) := by decide +kernel
theorem dX3_init_12 : decode cX3_init 12 = .ok (.putfield 12, 3) := by decide +kernel
theorem dX3_init_15 : decode cX3_init 15 = .ok (.aload_n 0, 1) := by decide +kernel
theorem dX3_init_16 : decode cX3_init 16 = .ok (.new 9, 3) := by decide +kernel
theorem dX3_init_19 : decode cX3_init 19 = .ok (.dup, 1) := by decide +kernel
theorem dX3_init_20 : decode cX3_init 20 = .ok (.invokespecial 11, 3) := by decide +kernel
theorem dX3_init_23 : decode cX3_init 23 = .ok (.putfield 16, 3) := by decide +kernel
theorem dX3_init_26 : decode cX3_init 26 = .ok (.aload_n 0, 1) := by decide +kernel
theorem dX3_init_27 : decode cX3_init 27 = .ok (.new 19, 3) := by decide +kernel
theorem dX3_init_30 : decode cX3_init 30 = .ok (.dup, 1) := by decide +kernel
theorem dX3_init_31 : decode cX3_init 31 = .ok (.invokespecial 21, 3) := by decide +kernel
theorem dX3_init_34 : decode cX3_init 34 = .ok (.putfield 22, 3) := by decide +kernel
theorem dX3_init_37 : decode cX3_init 37 = .ok (.return_, 1) := by decide +kernel
theorem dX3_word_0 : decode cX3_word 0 = .ok (.iload_n 1, 1) := by decide +kernel
theorem dX3_word_1 : decode cX3_word 1 = .ok (.iconst 1, 1) := by decide +kernel
theorem dX3_word_2 : decode cX3_word 2 = .ok (.if_icmp .lt 19, 3) := by decide +kernel
theorem dX3_word_5 : decode cX3_word 5 = .ok (.iload_n 1, 1) := by decide +kernel
theorem dX3_word_6 : decode cX3_word 6 = .ok (.iconst 4, 1) := by decide +kernel
theorem dX3_word_7 : decode cX3_word 7 = .ok (.if_icmp .gt 14, 3) := by decide +kernel
theorem dX3_word_10 : decode cX3_word 10 = .ok (.iload_n 2, 1) := by decide +kernel
theorem dX3_word_11 : decode cX3_word 11 = .ok (.ifCond .lt 10, 3) := by decide +kernel
theorem dX3_word_14 : decode cX3_word 14 = .ok (.iload_n 2, 1) := by decide +kernel
theorem dX3_word_15 : decode cX3_word 15 = .ok (.iconst 1, 1) := by decide +kernel
theorem dX3_word_16 : decode cX3_word 16 = .ok (.iload_n 1, 1) := by decide +kernel
theorem dX3_word_17 : decode cX3_word 17 = .ok (.ishl, 1) := by decide +kernel
theorem dX3_word_18 : decode cX3_word 18 = .ok (.if_icmp .lt 13, 3) := by decide +kernel
theorem dX3_word_21 : decode cX3_word 21 = .ok (.new 26, 3) := by decide +kernel
theorem dX3_word_24 : decode cX3_word 24 = .ok (.dup, 1) := by decide +kernel
theorem dX3_word_25 : decode cX3_word 25 = .ok (.ldc 28, 2) := by decide +kernel
theorem dX3_word_27 : decode cX3_word 27 = .ok (.invokespecial 30, 3) := by decide +kernel
theorem dX3_word_30 : decode cX3_word 30 = .ok (.athrow, 1) := by decide +kernel
theorem dX3_word_31 : decode cX3_word 31 = .ok (.iload_n 3, 1) := by decide +kernel
theorem dX3_word_32 : decode cX3_word 32 = .ok (.bipush 10, 2) := by decide +kernel
theorem dX3_word_34 : decode cX3_word 34 = .ok (.invokestatic 33, 3) := by decide +kernel
theorem dX3_word_37 : decode cX3_word 37 = .ok (.ifCond .eq 13, 3) := by decide +kernel
theorem dX3_word_40 : decode cX3_word 40 = .ok (.iload 4, 2) := by decide +kernel
theorem dX3_word_42 : decode cX3_word 42 = .ok (.bipush 10, 2) := by decide +kernel
theorem dX3_word_44 : decode cX3_word 44 = .ok (.invokestatic 33, 3) := by decide +kernel
theorem dX3_word_47 : decode cX3_word 47 = .ok (.ifCond .ne 13, 3) := by decide +kernel
theorem dX3_word_50 : decode cX3_word 50 = .ok (.new 26, 3) := by decide +kernel
theorem dX3_word_53 : decode cX3_word 53 = .ok (.dup, 1) := by decide +kernel
theorem dX3_word_54 : decode cX3_word 54 = .ok (.ldc 37, 2) := by decide +kernel
theorem dX3_word_56 : decode cX3_word 56 = .ok (.invokespecial 30, 3) := by decide +kernel
theorem dX3_word_59 : decode cX3_word 59 = .ok (.athrow, 1) := by decide +kernel
theorem dX3_word_60 : decode cX3_word 60 = .ok (.aload_n 0, 1) := by decide +kernel
theorem dX3_word_61 : decode cX3_word 61 = .ok (.getfield 12, 3) := by decide +kernel
theorem dX3_word_64 : decode cX3_word 64 = .ok (.invokevirtual 39, 3) := by decide +kernel
theorem dX3_word_67 : decode cX3_word 67 = .ok (.bipush 30, 2) := by decide +kernel
theorem dX3_word_69 : decode cX3_word 69 = .ok (.if_icmp .lt 13, 3) := by decide +kernel
theorem dX3_word_72 : decode cX3_word 72 = .ok (.new 43, 3) := by decide +kernel
theorem dX3_word_75 : decode cX3_word 75 = .ok (.dup, 1) := by decide +kernel
theorem dX3_word_76 : decode cX3_word 76 = .ok (.ldc 45, 2) := by decide +kernel
theorem dX3_word_78 : decode cX3_word 78 = .ok (.invokespecial 47, 3) := by decide +kernel
theorem dX3_word_81 : decode cX3_word 81 = .ok (.athrow, 1) := by decide +kernel
theorem dX3_word_82 : decode cX3_word 82 = .ok (.new 48, 3) := by decide +kernel
theorem dX3_word_85 : decode cX3_word 85 = .ok (.dup, 1) := by decide +kernel
theorem dX3_word_86 : decode cX3_word 86 = .ok (.aload_n 0, 1) := by decide +kernel
theorem dX3_word_87 : decode cX3_word 87 = .ok (.getfield 12, 3) := by decide +kernel
theorem dX3_word_90 : decode cX3_word 90 = .ok (.invokevirtual 39, 3) := by decide +kernel
theorem dX3_word_93 : decode cX3_word 93 = .ok (.iload_n 1, 1) := by decide +kernel
theorem dX3_word_94 : decode cX3_word 94 = .ok (.iload_n 2, 1) := by decide +kernel
theorem dX3_word_95 : decode cX3_word 95 = .ok (.iload_n 3, 1) := by decide +kernel
theorem dX3_word_96 : decode cX3_word 96 = .ok (.iload 4, 2) := by decide +kernel
theorem dX3_word_98 : decode cX3_word 98 = .ok (.iload 5, 2) := by decide +kernel
theorem dX3_word_100 : decode cX3_word 100 = .ok (.invokespecial 50, 3) := by decide +kernel
theorem dX3_word_103 : decode cX3_word 103 = .ok (.astore 6, 2) := by decide +kernel
theorem dX3_word_105 : decode cX3_word 105 = .ok (.aload_n 0, 1) := by decide +kernel
theorem dX3_word_106 : decode cX3_word 106 = .ok (.getfield 12, 3) := by decide +kernel
theorem dX3_word_109 : decode cX3_word 109 = .ok (.aload 6, 2) := by decide +kernel
theorem dX3_word_111 : decode cX3_word 111 = .ok (.invokevirtual 53, 3) := by decide +kernel
theorem dX3_word_114 : decode cX3_word 114 = .ok (.pop, 1) := by decide +kernel
theorem dX3_word_115 : decode cX3_word 115 = .ok (.aload 6, 2) := by decide +kernel
theorem dX3_word_117 : decode cX3_word 117 = .ok (.getfield 57, 3) := by decide +kernel
theorem dX3_word_120 : decode cX3_word 120 = .ok (.ireturn, 1) := by decide +kernel
theorem dX3_about_0 : decode cX3_about 0 = .ok (.aload_n 0, 1) := by decide +kernel
theorem dX3_about_1 : decode cX3_about 1 = .ok (.iload_n 1, 1) := by decide +kernel
theorem dX3_about_2 : decode cX3_about 2 = .ok (.invokevirtual 61, 3) := by decide +kernel
theorem dX3_about_5 : decode cX3_about 5 = .ok (.astore_n 3, 1) := by decide +kernel
theorem dX3_about_6 : decode cX3_about 6 = .ok (.iload_n 2, 1) := by decide +kernel
theorem dX3_about_7 : decode cX3_about 7 = .ok (.bipush 6, 2) := by decide +kernel
theorem dX3_about_9 : decode cX3_about 9 = .ok (.invokestatic 65, 3) := by decide +kernel
theorem dX3_about_12 : decode cX3_about 12 = .ok (.aload_n 0, 1) := by decide +kernel
theorem dX3_about_13 : decode cX3_about 13 = .ok (.aload_n 3, 1) := by decide +kernel
theorem dX3_about_14 : decode cX3_about 14 = .ok (.iload_n 2, 1) := by decide +kernel
theorem dX3_about_15 : decode cX3_about 15 = .ok (.invokevirtual 69, 3) := by decide +kernel
theorem dX3_about_18 : decode cX3_about 18 = .ok (.ireturn, 1) := by decide +kernel
theorem dX3_line_0 : decode cX3_line 0 = .ok (.iload_n 1, 1) := by decide +kernel
theorem dX3_line_1 : decode cX3_line 1 = .ok (.iconst 4, 1) := by decide +kernel
theorem dX3_line_2 : decode cX3_line 2 = .ok (.invokestatic 33, 3) := by decide +kernel
theorem dX3_line_5 : decode cX3_line 5 = .ok (.ifCond .eq 23, 3) := by decide +kernel
theorem dX3_line_8 : decode cX3_line 8 = .ok (.iload_n 2, 1) := by decide +kernel
theorem dX3_line_9 : decode cX3_line 9 = .ok (.iconst 1, 1) := by decide +kernel
theorem dX3_line_10 : decode cX3_line 10 = .ok (.if_icmp .lt 18, 3) := by decide +kernel
theorem dX3_line_13 : decode cX3_line 13 = .ok (.iload_n 2, 1) := by decide +kernel
theorem dX3_line_14 : decode cX3_line 14 = .ok (.bipush 6, 2) := by decide +kernel
theorem dX3_line_16 : decode cX3_line 16 = .ok (.if_icmp .gt 12, 3) := by decide +kernel
theorem dX3_line_19 : decode cX3_line 19 = .ok (.iload_n 3, 1) := by decide +kernel
theorem dX3_line_20 : decode cX3_line 20 = .ok (.bipush 6, 2) := by decide +kernel
theorem dX3_line_22 : decode cX3_line 22 = .ok (.invokestatic 33, 3) := by decide +kernel
theorem dX3_line_25 : decode cX3_line 25 = .ok (.ifCond .ne 13, 3) := by decide +kernel
theorem dX3_line_28 : decode cX3_line 28 = .ok (.new 26, 3) := by decide +kernel
theorem dX3_line_31 : decode cX3_line 31 = .ok (.dup, 1) := by decide +kernel
theorem dX3_line_32 : decode cX3_line 32 = .ok (.ldc 73, 2) := by decide +kernel
theorem dX3_line_34 : decode cX3_line 34 = .ok (.invokespecial 30, 3) := by decide +kernel
theorem dX3_line_37 : decode cX3_line 37 = .ok (.athrow, 1) := by decide +kernel
theorem dX3_line_38 : decode cX3_line 38 = .ok (.aload_n 0, 1) := by decide +kernel
theorem dX3_line_39 : decode cX3_line 39 = .ok (.getfield 16, 3) := by decide +kernel
theorem dX3_line_42 : decode cX3_line 42 = .ok (.invokevirtual 39, 3) := by decide +kernel
theorem dX3_line_45 : decode cX3_line 45 = .ok (.istore 4, 2) := by decide +kernel
theorem dX3_line_47 : decode cX3_line 47 = .ok (.iload 4, 2) := by decide +kernel
theorem dX3_line_49 : decode cX3_line 49 = .ok (.bipush 10, 2) := by decide +kernel
theorem dX3_line_51 : decode cX3_line 51 = .ok (.if_icmp .lt 13, 3) := by decide +kernel
theorem dX3_line_54 : decode cX3_line 54 = .ok (.new 43, 3) := by decide +kernel
theorem dX3_line_57 : decode cX3_line 57 = .ok (.dup, 1) := by decide +kernel
theorem dX3_line_58 : decode cX3_line 58 = .ok (.ldc 75, 2) := by decide +kernel
theorem dX3_line_60 : decode cX3_line 60 = .ok (.invokespecial 47, 3) := by decide +kernel
theorem dX3_line_63 : decode cX3_line 63 = .ok (.athrow, 1) := by decide +kernel
theorem dX3_line_64 : decode cX3_line 64 = .ok (.aload_n 0, 1) := by decide +kernel
theorem dX3_line_65 : decode cX3_line 65 = .ok (.getfield 16, 3) := by decide +kernel
theorem dX3_line_68 : decode cX3_line 68 = .ok (.new 77, 3) := by decide +kernel
theorem dX3_line_71 : decode cX3_line 71 = .ok (.dup, 1) := by decide +kernel
theorem dX3_line_72 : decode cX3_line 72 = .ok (.iload_n 1, 1) := by decide +kernel
theorem dX3_line_73 : decode cX3_line 73 = .ok (.iload_n 2, 1) := by decide +kernel
theorem dX3_line_74 : decode cX3_line 74 = .ok (.iload_n 3, 1) := by decide +kernel
theorem dX3_line_75 : decode cX3_line 75 = .ok (.aload_n 0, 1) := by decide +kernel
theorem dX3_line_76 : decode cX3_line 76 = .ok (.iload_n 3, 1) := by decide +kernel
theorem dX3_line_77 : decode cX3_line 77 = .ok (.invokevirtual 79, 3) := by decide +kernel
theorem dX3_line_80 : decode cX3_line 80 = .ok (.invokespecial 83, 3) := by decide +kernel
theorem dX3_line_83 : decode cX3_line 83 = .ok (.invokevirtual 53, 3) := by decide +kernel
theorem dX3_line_86 : decode cX3_line 86 = .ok (.pop, 1) := by decide +kernel
theorem dX3_line_87 : decode cX3_line 87 = .ok (.aload_n 0, 1) := by decide +kernel
theorem dX3_line_88 : decode cX3_line 88 = .ok (.iload 4, 2) := by decide +kernel
theorem dX3_line_90 : decode cX3_line 90 = .ok (.invokevirtual 86, 3) := by decide +kernel
theorem dX3_line_93 : decode cX3_line 93 = .ok (.iload 4, 2) := by decide +kernel
theorem dX3_line_95 : decode cX3_line 95 = .ok (.ireturn, 1) := by decide +kernel
theorem dX3_write_0 : decode cX3_write 0 = .ok (.aload_n 0, 1) := by decide +kernel
theorem dX3_write_1 : decode cX3_write 1 = .ok (.iload_n 1, 1) := by decide +kernel
theorem dX3_write_2 : decode cX3_write 2 = .ok (.invokevirtual 90, 3) := by decide +kernel
theorem dX3_write_5 : decode cX3_write 5 = .ok (.astore 4, 2) := by decide +kernel
theorem dX3_write_7 : decode cX3_write 7 = .ok (.aload 4, 2) := by decide +kernel
theorem dX3_write_9 : decode cX3_write 9 = .ok (.getfield 93, 3) := by decide +kernel
theorem dX3_write_12 : decode cX3_write 12 = .ok (.invokevirtual 39, 3) := by decide +kernel
theorem dX3_write_15 : decode cX3_write 15 = .ok (.istore 5, 2) := by decide +kernel
theorem dX3_write_17 : decode cX3_write 17 = .ok (.iload_n 2, 1) := by decide +kernel
theorem dX3_write_18 : decode cX3_write 18 = .ok (.iload 5, 2) := by decide +kernel
theorem dX3_write_20 : decode cX3_write 20 = .ok (.iconst 1, 1) := by decide +kernel
theorem dX3_write_21 : decode cX3_write 21 = .ok (.iadd, 1) := by decide +kernel
theorem dX3_write_22 : decode cX3_write 22 = .ok (.invokestatic 65, 3) := by decide +kernel
theorem dX3_write_25 : decode cX3_write 25 = .ok (.aload_n 0, 1) := by decide +kernel
theorem dX3_write_26 : decode cX3_write 26 = .ok (.iload_n 3, 1) := by decide +kernel
theorem dX3_write_27 : decode cX3_write 27 = .ok (.invokevirtual 61, 3) := by decide +kernel
theorem dX3_write_30 : decode cX3_write 30 = .ok (.astore 6, 2) := by decide +kernel
theorem dX3_write_32 : decode cX3_write 32 = .ok (.iload_n 2, 1) := by decide +kernel
theorem dX3_write_33 : decode cX3_write 33 = .ok (.iload 5, 2) := by decide +kernel
theorem dX3_write_35 : decode cX3_write 35 = .ok (.if_icmp .ne 20, 3) := by decide +kernel
theorem dX3_write_38 : decode cX3_write 38 = .ok (.iload 5, 2) := by decide +kernel
theorem dX3_write_40 : decode cX3_write 40 = .ok (.bipush 8, 2) := by decide +kernel
theorem dX3_write_42 : decode cX3_write 42 = .ok (.if_icmp .lt 13, 3) := by decide +kernel
theorem dX3_write_45 : decode cX3_write 45 = .ok (.new 43, 3) := by decide +kernel
theorem dX3_write_48 : decode cX3_write 48 = .ok (.dup, 1) := by decide +kernel
theorem dX3_write_49 : decode cX3_write 49 = .ok (.ldc 96, 2) := by decide +kernel
theorem dX3_write_51 : decode cX3_write 51 = .ok (.invokespecial 47, 3) := by decide +kernel
theorem dX3_write_54 : decode cX3_write 54 = .ok (.athrow, 1) := by decide +kernel
theorem dX3_write_55 : decode cX3_write 55 = .ok (.aload_n 0, 1) := by decide +kernel
theorem dX3_write_56 : decode cX3_write 56 = .ok (.iload_n 1, 1) := by decide +kernel
theorem dX3_write_57 : decode cX3_write 57 = .ok (.iload_n 2, 1) := by decide +kernel
theorem dX3_write_58 : decode cX3_write 58 = .ok (.aload 6, 2) := by decide +kernel
theorem dX3_write_60 : decode cX3_write 60 = .ok (.invokevirtual 98, 3) := by decide +kernel
theorem dX3_write_63 : decode cX3_write 63 = .ok (.aload 4, 2) := by decide +kernel
theorem dX3_write_65 : decode cX3_write 65 = .ok (.getfield 93, 3) := by decide +kernel
theorem dX3_write_68 : decode cX3_write 68 = .ok (.invokevirtual 39, 3) := by decide +kernel
theorem dX3_write_71 : decode cX3_write 71 = .ok (.ireturn, 1) := by decide +kernel
theorem dX3_strike_0 : decode cX3_strike 0 = .ok (.aload_n 0, 1) := by decide +kernel
theorem dX3_strike_1 : decode cX3_strike 1 = .ok (.iload_n 1, 1) := by decide +kernel
theorem dX3_strike_2 : decode cX3_strike 2 = .ok (.invokevirtual 90, 3) := by decide +kernel
theorem dX3_strike_5 : decode cX3_strike 5 = .ok (.astore_n 2, 1) := by decide +kernel
theorem dX3_strike_6 : decode cX3_strike 6 = .ok (.aload_n 2, 1) := by decide +kernel
theorem dX3_strike_7 : decode cX3_strike 7 = .ok (.invokevirtual 102, 3) := by decide +kernel
theorem dX3_strike_10 : decode cX3_strike 10 = .ok (.astore_n 3, 1) := by decide +kernel
theorem dX3_strike_11 : decode cX3_strike 11 = .ok (.aload_n 3, 1) := by decide +kernel
theorem dX3_strike_12 : decode cX3_strike 12 = .ok (.ifnonnull 13, 3) := by decide +kernel
theorem dX3_strike_15 : decode cX3_strike 15 = .ok (.new 43, 3) := by decide +kernel
theorem dX3_strike_18 : decode cX3_strike 18 = .ok (.dup, 1) := by decide +kernel
theorem dX3_strike_19 : decode cX3_strike 19 = .ok (.ldc 106, 2) := by decide +kernel
theorem dX3_strike_21 : decode cX3_strike 21 = .ok (.invokespecial 47, 3) := by decide +kernel
theorem dX3_strike_24 : decode cX3_strike 24 = .ok (.athrow, 1) := by decide +kernel
theorem dX3_strike_25 : decode cX3_strike 25 = .ok (.aload_n 2, 1) := by decide +kernel
theorem dX3_strike_26 : decode cX3_strike 26 = .ok (.invokevirtual 108, 3) := by decide +kernel
theorem dX3_strike_29 : decode cX3_strike 29 = .ok (.aload_n 0, 1) := by decide +kernel
theorem dX3_strike_30 : decode cX3_strike 30 = .ok (.iload_n 1, 1) := by decide +kernel
theorem dX3_strike_31 : decode cX3_strike 31 = .ok (.invokevirtual 86, 3) := by decide +kernel
theorem dX3_strike_34 : decode cX3_strike 34 = .ok (.aload_n 3, 1) := by decide +kernel
theorem dX3_strike_35 : decode cX3_strike 35 = .ok (.getfield 57, 3) := by decide +kernel
theorem dX3_strike_38 : decode cX3_strike 38 = .ok (.ireturn, 1) := by decide +kernel
theorem dX3_written_0 : decode cX3_written 0 = .ok (.aload_n 0, 1) := by decide +kernel
theorem dX3_written_1 : decode cX3_written 1 = .ok (.iload_n 1, 1) := by decide +kernel
theorem dX3_written_2 : decode cX3_written 2 = .ok (.invokevirtual 90, 3) := by decide +kernel
theorem dX3_written_5 : decode cX3_written 5 = .ok (.iload_n 2, 1) := by decide +kernel
theorem dX3_written_6 : decode cX3_written 6 = .ok (.invokestatic 111, 3) := by decide +kernel
theorem dX3_written_9 : decode cX3_written 9 = .ok (.getfield 57, 3) := by decide +kernel
theorem dX3_written_12 : decode cX3_written 12 = .ok (.ireturn, 1) := by decide +kernel
theorem dX3_told_0 : decode cX3_told 0 = .ok (.aload_n 0, 1) := by decide +kernel
theorem dX3_told_1 : decode cX3_told 1 = .ok (.iload_n 1, 1) := by decide +kernel
theorem dX3_told_2 : decode cX3_told 2 = .ok (.invokevirtual 90, 3) := by decide +kernel
theorem dX3_told_5 : decode cX3_told 5 = .ok (.astore_n 3, 1) := by decide +kernel
theorem dX3_told_6 : decode cX3_told 6 = .ok (.iload_n 2, 1) := by decide +kernel
theorem dX3_told_7 : decode cX3_told 7 = .ok (.bipush 12, 2) := by decide +kernel
theorem dX3_told_9 : decode cX3_told 9 = .ok (.invokestatic 65, 3) := by decide +kernel
theorem dX3_told_12 : decode cX3_told 12 = .ok (.aload_n 3, 1) := by decide +kernel
theorem dX3_told_13 : decode cX3_told 13 = .ok (.iload_n 2, 1) := by decide +kernel
theorem dX3_told_14 : decode cX3_told 14 = .ok (.invokevirtual 115, 3) := by decide +kernel
theorem dX3_told_17 : decode cX3_told 17 = .ok (.ireturn, 1) := by decide +kernel
theorem dX3_stress_0 : decode cX3_stress 0 = .ok (.aload_n 0, 1) := by decide +kernel
theorem dX3_stress_1 : decode cX3_stress 1 = .ok (.iload_n 1, 1) := by decide +kernel
theorem dX3_stress_2 : decode cX3_stress 2 = .ok (.invokevirtual 90, 3) := by decide +kernel
theorem dX3_stress_5 : decode cX3_stress 5 = .ok (.astore_n 3, 1) := by decide +kernel
theorem dX3_stress_6 : decode cX3_stress 6 = .ok (.iload_n 2, 1) := by decide +kernel
theorem dX3_stress_7 : decode cX3_stress 7 = .ok (.aload_n 3, 1) := by decide +kernel
theorem dX3_stress_8 : decode cX3_stress 8 = .ok (.getfield 119, 3) := by decide +kernel
theorem dX3_stress_11 : decode cX3_stress 11 = .ok (.invokestatic 65, 3) := by decide +kernel
theorem dX3_stress_14 : decode cX3_stress 14 = .ok (.aload_n 3, 1) := by decide +kernel
theorem dX3_stress_15 : decode cX3_stress 15 = .ok (.iload_n 2, 1) := by decide +kernel
theorem dX3_stress_16 : decode cX3_stress 16 = .ok (.invokevirtual 122, 3) := by decide +kernel
theorem dX3_stress_19 : decode cX3_stress 19 = .ok (.ireturn, 1) := by decide +kernel
theorem dX3_melted_0 : decode cX3_melted 0 = .ok (.aload_n 0, 1) := by decide +kernel
theorem dX3_melted_1 : decode cX3_melted 1 = .ok (.iload_n 1, 1) := by decide +kernel
theorem dX3_melted_2 : decode cX3_melted 2 = .ok (.invokevirtual 90, 3) := by decide +kernel
theorem dX3_melted_5 : decode cX3_melted 5 = .ok (.getfield 125, 3) := by decide +kernel
theorem dX3_melted_8 : decode cX3_melted 8 = .ok (.ireturn, 1) := by decide +kernel
theorem dX3_rhyme_0 : decode cX3_rhyme 0 = .ok (.aload_n 0, 1) := by decide +kernel
theorem dX3_rhyme_1 : decode cX3_rhyme 1 = .ok (.iload_n 1, 1) := by decide +kernel
theorem dX3_rhyme_2 : decode cX3_rhyme 2 = .ok (.invokevirtual 90, 3) := by decide +kernel
theorem dX3_rhyme_5 : decode cX3_rhyme 5 = .ok (.aload_n 0, 1) := by decide +kernel
theorem dX3_rhyme_6 : decode cX3_rhyme 6 = .ok (.iload_n 2, 1) := by decide +kernel
theorem dX3_rhyme_7 : decode cX3_rhyme 7 = .ok (.invokevirtual 90, 3) := by decide +kernel
theorem dX3_rhyme_10 : decode cX3_rhyme 10 = .ok (.invokestatic 128, 3) := by decide +kernel
theorem dX3_rhyme_13 : decode cX3_rhyme 13 = .ok (.ireturn, 1) := by decide +kernel
theorem dX3_scans_0 : decode cX3_scans 0 = .ok (.aload_n 0, 1) := by decide +kernel
theorem dX3_scans_1 : decode cX3_scans 1 = .ok (.iload_n 1, 1) := by decide +kernel
theorem dX3_scans_2 : decode cX3_scans 2 = .ok (.invokevirtual 90, 3) := by decide +kernel
theorem dX3_scans_5 : decode cX3_scans 5 = .ok (.astore_n 2, 1) := by decide +kernel
theorem dX3_scans_6 : decode cX3_scans 6 = .ok (.iconst 0, 1) := by decide +kernel
theorem dX3_scans_7 : decode cX3_scans 7 = .ok (.istore_n 3, 1) := by decide +kernel
theorem dX3_scans_8 : decode cX3_scans 8 = .ok (.aload_n 2, 1) := by decide +kernel
theorem dX3_scans_9 : decode cX3_scans 9 = .ok (.iload_n 3, 1) := by decide +kernel
theorem dX3_scans_10 : decode cX3_scans 10 = .ok (.aload_n 0, 1) := by decide +kernel
theorem dX3_scans_11 : decode cX3_scans 11 = .ok (.getfield 22, 3) := by decide +kernel
theorem dX3_scans_14 : decode cX3_scans 14 = .ok (.invokevirtual 132, 3) := by decide +kernel
theorem dX3_scans_17 : decode cX3_scans 17 = .ok (.istore 4, 2) := by decide +kernel
theorem dX3_scans_19 : decode cX3_scans 19 = .ok (.iconst 1, 1) := by decide +kernel
theorem dX3_scans_20 : decode cX3_scans 20 = .ok (.istore 5, 2) := by decide +kernel
theorem dX3_scans_22 : decode cX3_scans 22 = .ok (.iload 5, 2) := by decide +kernel
theorem dX3_scans_24 : decode cX3_scans 24 = .ok (.iconst 4, 1) := by decide +kernel
theorem dX3_scans_25 : decode cX3_scans 25 = .ok (.if_icmp .ge 35, 3) := by decide +kernel
theorem dX3_scans_28 : decode cX3_scans 28 = .ok (.aload_n 2, 1) := by decide +kernel
theorem dX3_scans_29 : decode cX3_scans 29 = .ok (.iload 5, 2) := by decide +kernel
theorem dX3_scans_31 : decode cX3_scans 31 = .ok (.aload_n 0, 1) := by decide +kernel
theorem dX3_scans_32 : decode cX3_scans 32 = .ok (.getfield 22, 3) := by decide +kernel
theorem dX3_scans_35 : decode cX3_scans 35 = .ok (.invokevirtual 132, 3) := by decide +kernel
theorem dX3_scans_38 : decode cX3_scans 38 = .ok (.istore 6, 2) := by decide +kernel
theorem dX3_scans_40 : decode cX3_scans 40 = .ok (.iload 6, 2) := by decide +kernel
theorem dX3_scans_42 : decode cX3_scans 42 = .ok (.iload 4, 2) := by decide +kernel
theorem dX3_scans_44 : decode cX3_scans 44 = .ok (.if_icmp .ge 10, 3) := by decide +kernel
theorem dX3_scans_47 : decode cX3_scans 47 = .ok (.iload 6, 2) := by decide +kernel
theorem dX3_scans_49 : decode cX3_scans 49 = .ok (.istore 4, 2) := by decide +kernel
theorem dX3_scans_51 : decode cX3_scans 51 = .ok (.iload 5, 2) := by decide +kernel
theorem dX3_scans_53 : decode cX3_scans 53 = .ok (.istore_n 3, 1) := by decide +kernel
theorem dX3_scans_54 : decode cX3_scans 54 = .ok (.iinc 5 1, 3) := by decide +kernel
theorem dX3_scans_57 : decode cX3_scans 57 = .ok (.goto (-35), 3) := by decide +kernel
theorem dX3_scans_60 : decode cX3_scans 60 = .ok (.iload_n 3, 1) := by decide +kernel
theorem dX3_scans_61 : decode cX3_scans 61 = .ok (.ireturn, 1) := by decide +kernel
theorem dX3_count_0 : decode cX3_count 0 = .ok (.iload_n 1, 1) := by decide +kernel
theorem dX3_count_1 : decode cX3_count 1 = .ok (.bipush 7, 2) := by decide +kernel
theorem dX3_count_3 : decode cX3_count 3 = .ok (.invokestatic 65, 3) := by decide +kernel
theorem dX3_count_6 : decode cX3_count 6 = .ok (.aload_n 0, 1) := by decide +kernel
theorem dX3_count_7 : decode cX3_count 7 = .ok (.iload_n 1, 1) := by decide +kernel
theorem dX3_count_8 : decode cX3_count 8 = .ok (.invokevirtual 136, 3) := by decide +kernel
theorem dX3_count_11 : decode cX3_count 11 = .ok (.ireturn, 1) := by decide +kernel
theorem dX3_tries_0 : decode cX3_tries 0 = .ok (.aload_n 0, 1) := by decide +kernel
theorem dX3_tries_1 : decode cX3_tries 1 = .ok (.iload_n 1, 1) := by decide +kernel
theorem dX3_tries_2 : decode cX3_tries 2 = .ok (.invokevirtual 90, 3) := by decide +kernel
theorem dX3_tries_5 : decode cX3_tries 5 = .ok (.iload_n 2, 1) := by decide +kernel
theorem dX3_tries_6 : decode cX3_tries 6 = .ok (.invokestatic 111, 3) := by decide +kernel
theorem dX3_tries_9 : decode cX3_tries 9 = .ok (.astore 4, 2) := by decide +kernel
theorem dX3_tries_11 : decode cX3_tries 11 = .ok (.aload_n 0, 1) := by decide +kernel
theorem dX3_tries_12 : decode cX3_tries 12 = .ok (.iload_n 1, 1) := by decide +kernel
theorem dX3_tries_13 : decode cX3_tries 13 = .ok (.iload_n 2, 1) := by decide +kernel
theorem dX3_tries_14 : decode cX3_tries 14 = .ok (.aload_n 0, 1) := by decide +kernel
theorem dX3_tries_15 : decode cX3_tries 15 = .ok (.iload_n 3, 1) := by decide +kernel
theorem dX3_tries_16 : decode cX3_tries 16 = .ok (.invokevirtual 61, 3) := by decide +kernel
theorem dX3_tries_19 : decode cX3_tries 19 = .ok (.aload 4, 2) := by decide +kernel
theorem dX3_tries_21 : decode cX3_tries 21 = .ok (.invokevirtual 139, 3) := by decide +kernel
theorem dX3_tries_24 : decode cX3_tries 24 = .ok (.ireturn, 1) := by decide +kernel
theorem dX3_best_0 : decode cX3_best 0 = .ok (.aload_n 0, 1) := by decide +kernel
theorem dX3_best_1 : decode cX3_best 1 = .ok (.iload_n 1, 1) := by decide +kernel
theorem dX3_best_2 : decode cX3_best 2 = .ok (.invokevirtual 90, 3) := by decide +kernel
theorem dX3_best_5 : decode cX3_best 5 = .ok (.iload_n 2, 1) := by decide +kernel
theorem dX3_best_6 : decode cX3_best 6 = .ok (.invokestatic 111, 3) := by decide +kernel
theorem dX3_best_9 : decode cX3_best 9 = .ok (.astore_n 3, 1) := by decide +kernel
theorem dX3_best_10 : decode cX3_best 10 = .ok (.aload_n 0, 1) := by decide +kernel
theorem dX3_best_11 : decode cX3_best 11 = .ok (.iload_n 1, 1) := by decide +kernel
theorem dX3_best_12 : decode cX3_best 12 = .ok (.iload_n 2, 1) := by decide +kernel
theorem dX3_best_13 : decode cX3_best 13 = .ok (.aload_n 3, 1) := by decide +kernel
theorem dX3_best_14 : decode cX3_best 14 = .ok (.invokevirtual 143, 3) := by decide +kernel
theorem dX3_best_17 : decode cX3_best 17 = .ok (.getfield 57, 3) := by decide +kernel
theorem dX3_best_20 : decode cX3_best 20 = .ok (.ireturn, 1) := by decide +kernel
theorem dX3_worst_0 : decode cX3_worst 0 = .ok (.iconst (-1), 1) := by decide +kernel
theorem dX3_worst_1 : decode cX3_worst 1 = .ok (.istore_n 1, 1) := by decide +kernel
theorem dX3_worst_2 : decode cX3_worst 2 = .ok (.aload_n 0, 1) := by decide +kernel
theorem dX3_worst_3 : decode cX3_worst 3 = .ok (.invokevirtual 147, 3) := by decide +kernel
theorem dX3_worst_6 : decode cX3_worst 6 = .ok (.istore_n 2, 1) := by decide +kernel
theorem dX3_worst_7 : decode cX3_worst 7 = .ok (.iconst 0, 1) := by decide +kernel
theorem dX3_worst_8 : decode cX3_worst 8 = .ok (.istore_n 3, 1) := by decide +kernel
theorem dX3_worst_9 : decode cX3_worst 9 = .ok (.iload_n 3, 1) := by decide +kernel
theorem dX3_worst_10 : decode cX3_worst 10 = .ok (.aload_n 0, 1) := by decide +kernel
theorem dX3_worst_11 : decode cX3_worst 11 = .ok (.getfield 16, 3) := by decide +kernel
theorem dX3_worst_14 : decode cX3_worst 14 = .ok (.invokevirtual 39, 3) := by decide +kernel
theorem dX3_worst_17 : decode cX3_worst 17 = .ok (.if_icmp .ge 96, 3) := by decide +kernel
theorem dX3_worst_20 : decode cX3_worst 20 = .ok (.aload_n 0, 1) := by decide +kernel
theorem dX3_worst_21 : decode cX3_worst 21 = .ok (.getfield 16, 3) := by decide +kernel
theorem dX3_worst_24 : decode cX3_worst 24 = .ok (.iload_n 3, 1) := by decide +kernel
theorem dX3_worst_25 : decode cX3_worst 25 = .ok (.invokevirtual 150, 3) := by decide +kernel
theorem dX3_worst_28 : decode cX3_worst 28 = .ok (.checkcast 77, 3) := by decide +kernel
theorem dX3_worst_31 : decode cX3_worst 31 = .ok (.astore 4, 2) := by decide +kernel
theorem dX3_worst_33 : decode cX3_worst 33 = .ok (.iconst 0, 1) := by decide +kernel
theorem dX3_worst_34 : decode cX3_worst 34 = .ok (.istore 5, 2) := by decide +kernel
theorem dX3_worst_36 : decode cX3_worst 36 = .ok (.iload 5, 2) := by decide +kernel
theorem dX3_worst_38 : decode cX3_worst 38 = .ok (.aload 4, 2) := by decide +kernel
theorem dX3_worst_40 : decode cX3_worst 40 = .ok (.getfield 93, 3) := by decide +kernel
theorem dX3_worst_43 : decode cX3_worst 43 = .ok (.invokevirtual 39, 3) := by decide +kernel
theorem dX3_worst_46 : decode cX3_worst 46 = .ok (.if_icmp .ge 61, 3) := by decide +kernel
theorem dX3_worst_49 : decode cX3_worst 49 = .ok (.aload 4, 2) := by decide +kernel
theorem dX3_worst_51 : decode cX3_worst 51 = .ok (.getfield 93, 3) := by decide +kernel
theorem dX3_worst_54 : decode cX3_worst 54 = .ok (.iload 5, 2) := by decide +kernel
theorem dX3_worst_56 : decode cX3_worst 56 = .ok (.invokevirtual 150, 3) := by decide +kernel
theorem dX3_worst_59 : decode cX3_worst 59 = .ok (.checkcast 48, 3) := by decide +kernel
theorem dX3_worst_62 : decode cX3_worst 62 = .ok (.astore 6, 2) := by decide +kernel
theorem dX3_worst_64 : decode cX3_worst 64 = .ok (.aload_n 0, 1) := by decide +kernel
theorem dX3_worst_65 : decode cX3_worst 65 = .ok (.iload_n 3, 1) := by decide +kernel
theorem dX3_worst_66 : decode cX3_worst 66 = .ok (.iload 5, 2) := by decide +kernel
theorem dX3_worst_68 : decode cX3_worst 68 = .ok (.aload_n 0, 1) := by decide +kernel
theorem dX3_worst_69 : decode cX3_worst 69 = .ok (.iload_n 3, 1) := by decide +kernel
theorem dX3_worst_70 : decode cX3_worst 70 = .ok (.iload 5, 2) := by decide +kernel
theorem dX3_worst_72 : decode cX3_worst 72 = .ok (.aload 6, 2) := by decide +kernel
theorem dX3_worst_74 : decode cX3_worst 74 = .ok (.invokevirtual 143, 3) := by decide +kernel
theorem dX3_worst_77 : decode cX3_worst 77 = .ok (.aload 6, 2) := by decide +kernel
theorem dX3_worst_79 : decode cX3_worst 79 = .ok (.invokevirtual 139, 3) := by decide +kernel
theorem dX3_worst_82 : decode cX3_worst 82 = .ok (.istore 7, 2) := by decide +kernel
theorem dX3_worst_84 : decode cX3_worst 84 = .ok (.iload 7, 2) := by decide +kernel
theorem dX3_worst_86 : decode cX3_worst 86 = .ok (.iload_n 2, 1) := by decide +kernel
theorem dX3_worst_87 : decode cX3_worst 87 = .ok (.if_icmp .ge 14, 3) := by decide +kernel
theorem dX3_worst_90 : decode cX3_worst 90 = .ok (.iload 7, 2) := by decide +kernel
theorem dX3_worst_92 : decode cX3_worst 92 = .ok (.istore_n 2, 1) := by decide +kernel
theorem dX3_worst_93 : decode cX3_worst 93 = .ok (.bipush 10, 2) := by decide +kernel
theorem dX3_worst_95 : decode cX3_worst 95 = .ok (.iload_n 3, 1) := by decide +kernel
theorem dX3_worst_96 : decode cX3_worst 96 = .ok (.imul, 1) := by decide +kernel
theorem dX3_worst_97 : decode cX3_worst 97 = .ok (.iload 5, 2) := by decide +kernel
theorem dX3_worst_99 : decode cX3_worst 99 = .ok (.iadd, 1) := by decide +kernel
theorem dX3_worst_100 : decode cX3_worst 100 = .ok (.istore_n 1, 1) := by decide +kernel
theorem dX3_worst_101 : decode cX3_worst 101 = .ok (.iinc 5 1, 3) := by decide +kernel
theorem dX3_worst_104 : decode cX3_worst 104 = .ok (.goto (-68), 3) := by decide +kernel
theorem dX3_worst_107 : decode cX3_worst 107 = .ok (.iinc 3 1, 3) := by decide +kernel
theorem dX3_worst_110 : decode cX3_worst 110 = .ok (.goto (-101), 3) := by decide +kernel
theorem dX3_worst_113 : decode cX3_worst 113 = .ok (.iload_n 1, 1) := by decide +kernel
theorem dX3_worst_114 : decode cX3_worst 114 = .ok (.ireturn, 1) := by decide +kernel
theorem dX3_mean_0 : decode cX3_mean 0 = .ok (.aload_n 0, 1) := by decide +kernel
theorem dX3_mean_1 : decode cX3_mean 1 = .ok (.getfield 16, 3) := by decide +kernel
theorem dX3_mean_4 : decode cX3_mean 4 = .ok (.invokevirtual 39, 3) := by decide +kernel
theorem dX3_mean_7 : decode cX3_mean 7 = .ok (.istore_n 1, 1) := by decide +kernel
theorem dX3_mean_8 : decode cX3_mean 8 = .ok (.iload_n 1, 1) := by decide +kernel
theorem dX3_mean_9 : decode cX3_mean 9 = .ok (.ifCond .le 14, 3) := by decide +kernel
theorem dX3_mean_12 : decode cX3_mean 12 = .ok (.aload_n 0, 1) := by decide +kernel
theorem dX3_mean_13 : decode cX3_mean 13 = .ok (.invokevirtual 147, 3) := by decide +kernel
theorem dX3_mean_16 : decode cX3_mean 16 = .ok (.i2d, 1) := by decide +kernel
theorem dX3_mean_17 : decode cX3_mean 17 = .ok (.iload_n 1, 1) := by decide +kernel
theorem dX3_mean_18 : decode cX3_mean 18 = .ok (.i2d, 1) := by decide +kernel
theorem dX3_mean_19 : decode cX3_mean 19 = .ok (.ddiv, 1) := by decide +kernel
theorem dX3_mean_20 : decode cX3_mean 20 = .ok (.goto 4, 3) := by decide +kernel
theorem dX3_mean_23 : decode cX3_mean 23 = .ok (.dconst 0, 1) := by decide +kernel
theorem dX3_mean_24 : decode cX3_mean 24 = .ok (.dreturn, 1) := by decide +kernel
theorem dX3_digest_0 : decode cX3_digest 0 = .ok (.ldc2_w 154, 3) := by decide +kernel
theorem dX3_digest_3 : decode cX3_digest 3 = .ok (.lstore_n 1, 1) := by decide +kernel
theorem dX3_digest_4 : decode cX3_digest 4 = .ok (.iconst 0, 1) := by decide +kernel
theorem dX3_digest_5 : decode cX3_digest 5 = .ok (.istore_n 3, 1) := by decide +kernel
theorem dX3_digest_6 : decode cX3_digest 6 = .ok (.iload_n 3, 1) := by decide +kernel
theorem dX3_digest_7 : decode cX3_digest 7 = .ok (.bipush 7, 2) := by decide +kernel
theorem dX3_digest_9 : decode cX3_digest 9 = .ok (.if_icmp .ge 20, 3) := by decide +kernel
theorem dX3_digest_12 : decode cX3_digest 12 = .ok (.lload_n 1, 1) := by decide +kernel
theorem dX3_digest_13 : decode cX3_digest 13 = .ok (.aload_n 0, 1) := by decide +kernel
theorem dX3_digest_14 : decode cX3_digest 14 = .ok (.iload_n 3, 1) := by decide +kernel
theorem dX3_digest_15 : decode cX3_digest 15 = .ok (.invokevirtual 136, 3) := by decide +kernel
theorem dX3_digest_18 : decode cX3_digest 18 = .ok (.i2l, 1) := by decide +kernel
theorem dX3_digest_19 : decode cX3_digest 19 = .ok (.invokestatic 156, 3) := by decide +kernel
theorem dX3_digest_22 : decode cX3_digest 22 = .ok (.lstore_n 1, 1) := by decide +kernel
theorem dX3_digest_23 : decode cX3_digest 23 = .ok (.iinc 3 1, 3) := by decide +kernel
theorem dX3_digest_26 : decode cX3_digest 26 = .ok (.goto (-20), 3) := by decide +kernel
theorem dX3_digest_29 : decode cX3_digest 29 = .ok (.iconst 0, 1) := by decide +kernel
theorem dX3_digest_30 : decode cX3_digest 30 = .ok (.istore_n 3, 1) := by decide +kernel
theorem dX3_digest_31 : decode cX3_digest 31 = .ok (.iload_n 3, 1) := by decide +kernel
theorem dX3_digest_32 : decode cX3_digest 32 = .ok (.aload_n 0, 1) := by decide +kernel
theorem dX3_digest_33 : decode cX3_digest 33 = .ok (.getfield 12, 3) := by decide +kernel
theorem dX3_digest_36 : decode cX3_digest 36 = .ok (.invokevirtual 39, 3) := by decide +kernel
theorem dX3_digest_39 : decode cX3_digest 39 = .ok (.if_icmp .ge 52, 3) := by decide +kernel
theorem dX3_digest_42 : decode cX3_digest 42 = .ok (.aload_n 0, 1) := by decide +kernel
theorem dX3_digest_43 : decode cX3_digest 43 = .ok (.getfield 12, 3) := by decide +kernel
theorem dX3_digest_46 : decode cX3_digest 46 = .ok (.iload_n 3, 1) := by decide +kernel
theorem dX3_digest_47 : decode cX3_digest 47 = .ok (.invokevirtual 150, 3) := by decide +kernel
theorem dX3_digest_50 : decode cX3_digest 50 = .ok (.checkcast 48, 3) := by decide +kernel
theorem dX3_digest_53 : decode cX3_digest 53 = .ok (.astore 4, 2) := by decide +kernel
theorem dX3_digest_55 : decode cX3_digest 55 = .ok (.iconst 0, 1) := by decide +kernel
theorem dX3_digest_56 : decode cX3_digest 56 = .ok (.istore 5, 2) := by decide +kernel
theorem dX3_digest_58 : decode cX3_digest 58 = .ok (.iload 5, 2) := by decide +kernel
theorem dX3_digest_60 : decode cX3_digest 60 = .ok (.bipush 6, 2) := by decide +kernel
theorem dX3_digest_62 : decode cX3_digest 62 = .ok (.if_icmp .ge 23, 3) := by decide +kernel
theorem dX3_digest_65 : decode cX3_digest 65 = .ok (.lload_n 1, 1) := by decide +kernel
theorem dX3_digest_66 : decode cX3_digest 66 = .ok (.aload_n 0, 1) := by decide +kernel
theorem dX3_digest_67 : decode cX3_digest 67 = .ok (.aload 4, 2) := by decide +kernel
theorem dX3_digest_69 : decode cX3_digest 69 = .ok (.iload 5, 2) := by decide +kernel
theorem dX3_digest_71 : decode cX3_digest 71 = .ok (.invokevirtual 69, 3) := by decide +kernel
theorem dX3_digest_74 : decode cX3_digest 74 = .ok (.i2l, 1) := by decide +kernel
theorem dX3_digest_75 : decode cX3_digest 75 = .ok (.invokestatic 156, 3) := by decide +kernel
theorem dX3_digest_78 : decode cX3_digest 78 = .ok (.lstore_n 1, 1) := by decide +kernel
theorem dX3_digest_79 : decode cX3_digest 79 = .ok (.iinc 5 1, 3) := by decide +kernel
theorem dX3_digest_82 : decode cX3_digest 82 = .ok (.goto (-24), 3) := by decide +kernel
theorem dX3_digest_85 : decode cX3_digest 85 = .ok (.iinc 3 1, 3) := by decide +kernel
theorem dX3_digest_88 : decode cX3_digest 88 = .ok (.goto (-57), 3) := by decide +kernel
theorem dX3_digest_91 : decode cX3_digest 91 = .ok (.iconst 0, 1) := by decide +kernel
theorem dX3_digest_92 : decode cX3_digest 92 = .ok (.istore_n 3, 1) := by decide +kernel
theorem dX3_digest_93 : decode cX3_digest 93 = .ok (.iload_n 3, 1) := by decide +kernel
theorem dX3_digest_94 : decode cX3_digest 94 = .ok (.aload_n 0, 1) := by decide +kernel
theorem dX3_digest_95 : decode cX3_digest 95 = .ok (.getfield 16, 3) := by decide +kernel
theorem dX3_digest_98 : decode cX3_digest 98 = .ok (.invokevirtual 39, 3) := by decide +kernel
theorem dX3_digest_101 : decode cX3_digest 101 = .ok (.if_icmp .ge 25, 3) := by decide +kernel
theorem dX3_digest_104 : decode cX3_digest 104 = .ok (.lload_n 1, 1) := by decide +kernel
theorem dX3_digest_105 : decode cX3_digest 105 = .ok (.aload_n 0, 1) := by decide +kernel
theorem dX3_digest_106 : decode cX3_digest 106 = .ok (.getfield 16, 3) := by decide +kernel
theorem dX3_digest_109 : decode cX3_digest 109 = .ok (.iload_n 3, 1) := by decide +kernel
theorem dX3_digest_110 : decode cX3_digest 110 = .ok (.invokevirtual 150, 3) := by decide +kernel
theorem dX3_digest_113 : decode cX3_digest 113 = .ok (.checkcast 77, 3) := by decide +kernel
theorem dX3_digest_116 : decode cX3_digest 116 = .ok (.invokestatic 160, 3) := by decide +kernel
theorem dX3_digest_119 : decode cX3_digest 119 = .ok (.lstore_n 1, 1) := by decide +kernel
theorem dX3_digest_120 : decode cX3_digest 120 = .ok (.iinc 3 1, 3) := by decide +kernel
theorem dX3_digest_123 : decode cX3_digest 123 = .ok (.goto (-30), 3) := by decide +kernel
theorem dX3_digest_126 : decode cX3_digest 126 = .ok (.lload_n 1, 1) := by decide +kernel
theorem dX3_digest_127 : decode cX3_digest 127 = .ok (.lreturn, 1) := by decide +kernel
theorem dX3_mixLine_0 : decode cX3_mixLine 0 = .ok (.lload_n 0, 1) := by decide +kernel
theorem dX3_mixLine_1 : decode cX3_mixLine 1 = .ok (.lstore_n 3, 1) := by decide +kernel
theorem dX3_mixLine_2 : decode cX3_mixLine 2 = .ok (.iconst 0, 1) := by decide +kernel
theorem dX3_mixLine_3 : decode cX3_mixLine 3 = .ok (.istore 5, 2) := by decide +kernel
theorem dX3_mixLine_5 : decode cX3_mixLine 5 = .ok (.iload 5, 2) := by decide +kernel
theorem dX3_mixLine_7 : decode cX3_mixLine 7 = .ok (.bipush 12, 2) := by decide +kernel
theorem dX3_mixLine_9 : decode cX3_mixLine 9 = .ok (.if_icmp .ge 21, 3) := by decide +kernel
theorem dX3_mixLine_12 : decode cX3_mixLine 12 = .ok (.lload_n 3, 1) := by decide +kernel
theorem dX3_mixLine_13 : decode cX3_mixLine 13 = .ok (.aload_n 2, 1) := by decide +kernel
theorem dX3_mixLine_14 : decode cX3_mixLine 14 = .ok (.iload 5, 2) := by decide +kernel
theorem dX3_mixLine_16 : decode cX3_mixLine 16 = .ok (.invokevirtual 115, 3) := by decide +kernel
theorem dX3_mixLine_19 : decode cX3_mixLine 19 = .ok (.i2l, 1) := by decide +kernel
theorem dX3_mixLine_20 : decode cX3_mixLine 20 = .ok (.invokestatic 156, 3) := by decide +kernel
theorem dX3_mixLine_23 : decode cX3_mixLine 23 = .ok (.lstore_n 3, 1) := by decide +kernel
theorem dX3_mixLine_24 : decode cX3_mixLine 24 = .ok (.iinc 5 1, 3) := by decide +kernel
theorem dX3_mixLine_27 : decode cX3_mixLine 27 = .ok (.goto (-22), 3) := by decide +kernel
theorem dX3_mixLine_30 : decode cX3_mixLine 30 = .ok (.iconst 0, 1) := by decide +kernel
theorem dX3_mixLine_31 : decode cX3_mixLine 31 = .ok (.istore 5, 2) := by decide +kernel
theorem dX3_mixLine_33 : decode cX3_mixLine 33 = .ok (.iload 5, 2) := by decide +kernel
theorem dX3_mixLine_35 : decode cX3_mixLine 35 = .ok (.aload_n 2, 1) := by decide +kernel
theorem dX3_mixLine_36 : decode cX3_mixLine 36 = .ok (.getfield 93, 3) := by decide +kernel
theorem dX3_mixLine_39 : decode cX3_mixLine 39 = .ok (.invokevirtual 39, 3) := by decide +kernel
theorem dX3_mixLine_42 : decode cX3_mixLine 42 = .ok (.if_icmp .ge 30, 3) := by decide +kernel
theorem dX3_mixLine_45 : decode cX3_mixLine 45 = .ok (.lload_n 3, 1) := by decide +kernel
theorem dX3_mixLine_46 : decode cX3_mixLine 46 = .ok (.aload_n 2, 1) := by decide +kernel
theorem dX3_mixLine_47 : decode cX3_mixLine 47 = .ok (.getfield 93, 3) := by decide +kernel
theorem dX3_mixLine_50 : decode cX3_mixLine 50 = .ok (.iload 5, 2) := by decide +kernel
theorem dX3_mixLine_52 : decode cX3_mixLine 52 = .ok (.invokevirtual 150, 3) := by decide +kernel
theorem dX3_mixLine_55 : decode cX3_mixLine 55 = .ok (.checkcast 48, 3) := by decide +kernel
theorem dX3_mixLine_58 : decode cX3_mixLine 58 = .ok (.getfield 57, 3) := by decide +kernel
theorem dX3_mixLine_61 : decode cX3_mixLine 61 = .ok (.i2l, 1) := by decide +kernel
theorem dX3_mixLine_62 : decode cX3_mixLine 62 = .ok (.invokestatic 156, 3) := by decide +kernel
theorem dX3_mixLine_65 : decode cX3_mixLine 65 = .ok (.lstore_n 3, 1) := by decide +kernel
theorem dX3_mixLine_66 : decode cX3_mixLine 66 = .ok (.iinc 5 1, 3) := by decide +kernel
theorem dX3_mixLine_69 : decode cX3_mixLine 69 = .ok (.goto (-36), 3) := by decide +kernel
theorem dX3_mixLine_72 : decode cX3_mixLine 72 = .ok (.iconst 0, 1) := by decide +kernel
theorem dX3_mixLine_73 : decode cX3_mixLine 73 = .ok (.istore 5, 2) := by decide +kernel
theorem dX3_mixLine_75 : decode cX3_mixLine 75 = .ok (.iload 5, 2) := by decide +kernel
theorem dX3_mixLine_77 : decode cX3_mixLine 77 = .ok (.aload_n 2, 1) := by decide +kernel
theorem dX3_mixLine_78 : decode cX3_mixLine 78 = .ok (.getfield 119, 3) := by decide +kernel
theorem dX3_mixLine_81 : decode cX3_mixLine 81 = .ok (.if_icmp .ge 21, 3) := by decide +kernel
theorem dX3_mixLine_84 : decode cX3_mixLine 84 = .ok (.lload_n 3, 1) := by decide +kernel
theorem dX3_mixLine_85 : decode cX3_mixLine 85 = .ok (.aload_n 2, 1) := by decide +kernel
theorem dX3_mixLine_86 : decode cX3_mixLine 86 = .ok (.iload 5, 2) := by decide +kernel
theorem dX3_mixLine_88 : decode cX3_mixLine 88 = .ok (.invokevirtual 122, 3) := by decide +kernel
theorem dX3_mixLine_91 : decode cX3_mixLine 91 = .ok (.i2l, 1) := by decide +kernel
theorem dX3_mixLine_92 : decode cX3_mixLine 92 = .ok (.invokestatic 156, 3) := by decide +kernel
theorem dX3_mixLine_95 : decode cX3_mixLine 95 = .ok (.lstore_n 3, 1) := by decide +kernel
theorem dX3_mixLine_96 : decode cX3_mixLine 96 = .ok (.iinc 5 1, 3) := by decide +kernel
theorem dX3_mixLine_99 : decode cX3_mixLine 99 = .ok (.goto (-24), 3) := by decide +kernel
theorem dX3_mixLine_102 : decode cX3_mixLine 102 = .ok (.lload_n 3, 1) := by decide +kernel
theorem dX3_mixLine_103 : decode cX3_mixLine 103 = .ok (.lreturn, 1) := by decide +kernel
theorem dX3_mix_0 : decode cX3_mix 0 = .ok (.lload_n 0, 1) := by decide +kernel
theorem dX3_mix_1 : decode cX3_mix 1 = .ok (.ldc2_w 164, 3) := by decide +kernel
theorem dX3_mix_4 : decode cX3_mix 4 = .ok (.lmul, 1) := by decide +kernel
theorem dX3_mix_5 : decode cX3_mix 5 = .ok (.lload_n 2, 1) := by decide +kernel
theorem dX3_mix_6 : decode cX3_mix 6 = .ok (.ladd, 1) := by decide +kernel
theorem dX3_mix_7 : decode cX3_mix 7 = .ok (.lreturn, 1) := by decide +kernel
theorem dX3_isBelow_0 : decode cX3_isBelow 0 = .ok (.iload_n 0, 1) := by decide +kernel
theorem dX3_isBelow_1 : decode cX3_isBelow 1 = .ok (.ifCond .lt 12, 3) := by decide +kernel
theorem dX3_isBelow_4 : decode cX3_isBelow 4 = .ok (.iload_n 0, 1) := by decide +kernel
theorem dX3_isBelow_5 : decode cX3_isBelow 5 = .ok (.iload_n 1, 1) := by decide +kernel
theorem dX3_isBelow_6 : decode cX3_isBelow 6 = .ok (.if_icmp .ge 7, 3) := by decide +kernel
theorem dX3_isBelow_9 : decode cX3_isBelow 9 = .ok (.iconst 1, 1) := by decide +kernel
theorem dX3_isBelow_10 : decode cX3_isBelow 10 = .ok (.goto 4, 3) := by decide +kernel
theorem dX3_isBelow_13 : decode cX3_isBelow 13 = .ok (.iconst 0, 1) := by decide +kernel
theorem dX3_isBelow_14 : decode cX3_isBelow 14 = .ok (.ireturn, 1) := by decide +kernel
theorem dX3_refuseOutside_0 : decode cX3_refuseOutside 0 = .ok (.iload_n 0, 1) := by decide +kernel
theorem dX3_refuseOutside_1 : decode cX3_refuseOutside 1 = .ok (.iload_n 1, 1) := by decide +kernel
theorem dX3_refuseOutside_2 : decode cX3_refuseOutside 2 = .ok (.invokestatic 33, 3) := by decide +kernel
theorem dX3_refuseOutside_5 : decode cX3_refuseOutside 5 = .ok (.ifCond .ne 13, 3) := by decide +kernel
theorem dX3_refuseOutside_8 : decode cX3_refuseOutside 8 = .ok (.new 166, 3) := by decide +kernel
theorem dX3_refuseOutside_11 : decode cX3_refuseOutside 11 = .ok (.dup, 1) := by decide +kernel
theorem dX3_refuseOutside_12 : decode cX3_refuseOutside 12 = .ok (.ldc 168, 2) := by decide +kernel
theorem dX3_refuseOutside_14 : decode cX3_refuseOutside 14 = .ok (.invokespecial 170, 3) := by decide +kernel
theorem dX3_refuseOutside_17 : decode cX3_refuseOutside 17 = .ok (.athrow, 1) := by decide +kernel
theorem dX3_refuseOutside_18 : decode cX3_refuseOutside 18 = .ok (.return_, 1) := by decide +kernel
theorem dX3_neededWord_0 : decode cX3_neededWord 0 = .ok (.iload_n 1, 1) := by decide +kernel
theorem dX3_neededWord_1 : decode cX3_neededWord 1 = .ok (.aload_n 0, 1) := by decide +kernel
theorem dX3_neededWord_2 : decode cX3_neededWord 2 = .ok (.getfield 12, 3) := by decide +kernel
theorem dX3_neededWord_5 : decode cX3_neededWord 5 = .ok (.invokevirtual 39, 3) := by decide +kernel
theorem dX3_neededWord_8 : decode cX3_neededWord 8 = .ok (.invokestatic 65, 3) := by decide +kernel
theorem dX3_neededWord_11 : decode cX3_neededWord 11 = .ok (.aload_n 0, 1) := by decide +kernel
theorem dX3_neededWord_12 : decode cX3_neededWord 12 = .ok (.getfield 12, 3) := by decide +kernel
theorem dX3_neededWord_15 : decode cX3_neededWord 15 = .ok (.iload_n 1, 1) := by decide +kernel
theorem dX3_neededWord_16 : decode cX3_neededWord 16 = .ok (.invokevirtual 150, 3) := by decide +kernel
theorem dX3_neededWord_19 : decode cX3_neededWord 19 = .ok (.checkcast 48, 3) := by decide +kernel
theorem dX3_neededWord_22 : decode cX3_neededWord 22 = .ok (.areturn, 1) := by decide +kernel
theorem dX3_neededLine_0 : decode cX3_neededLine 0 = .ok (.iload_n 1, 1) := by decide +kernel
theorem dX3_neededLine_1 : decode cX3_neededLine 1 = .ok (.aload_n 0, 1) := by decide +kernel
theorem dX3_neededLine_2 : decode cX3_neededLine 2 = .ok (.getfield 16, 3) := by decide +kernel
theorem dX3_neededLine_5 : decode cX3_neededLine 5 = .ok (.invokevirtual 39, 3) := by decide +kernel
theorem dX3_neededLine_8 : decode cX3_neededLine 8 = .ok (.invokestatic 65, 3) := by decide +kernel
theorem dX3_neededLine_11 : decode cX3_neededLine 11 = .ok (.aload_n 0, 1) := by decide +kernel
theorem dX3_neededLine_12 : decode cX3_neededLine 12 = .ok (.getfield 16, 3) := by decide +kernel
theorem dX3_neededLine_15 : decode cX3_neededLine 15 = .ok (.iload_n 1, 1) := by decide +kernel
theorem dX3_neededLine_16 : decode cX3_neededLine 16 = .ok (.invokevirtual 150, 3) := by decide +kernel
theorem dX3_neededLine_19 : decode cX3_neededLine 19 = .ok (.checkcast 77, 3) := by decide +kernel
theorem dX3_neededLine_22 : decode cX3_neededLine 22 = .ok (.areturn, 1) := by decide +kernel
theorem dX3_neededWordOf_0 : decode cX3_neededWordOf 0 = .ok (.iload_n 1, 1) := by decide +kernel
theorem dX3_neededWordOf_1 : decode cX3_neededWordOf 1 = .ok (.aload_n 0, 1) := by decide +kernel
theorem dX3_neededWordOf_2 : decode cX3_neededWordOf 2 = .ok (.getfield 93, 3) := by decide +kernel
theorem dX3_neededWordOf_5 : decode cX3_neededWordOf 5 = .ok (.invokevirtual 39, 3) := by decide +kernel
theorem dX3_neededWordOf_8 : decode cX3_neededWordOf 8 = .ok (.invokestatic 65, 3) := by decide +kernel
theorem dX3_neededWordOf_11 : decode cX3_neededWordOf 11 = .ok (.aload_n 0, 1) := by decide +kernel
theorem dX3_neededWordOf_12 : decode cX3_neededWordOf 12 = .ok (.getfield 93, 3) := by decide +kernel
theorem dX3_neededWordOf_15 : decode cX3_neededWordOf 15 = .ok (.iload_n 1, 1) := by decide +kernel
theorem dX3_neededWordOf_16 : decode cX3_neededWordOf 16 = .ok (.invokevirtual 150, 3) := by decide +kernel
theorem dX3_neededWordOf_19 : decode cX3_neededWordOf 19 = .ok (.checkcast 48, 3) := by decide +kernel
theorem dX3_neededWordOf_22 : decode cX3_neededWordOf 22 = .ok (.areturn, 1) := by decide +kernel
theorem dX3_lastWithMark_0 : decode cX3_lastWithMark 0 = .ok (.aload_n 0, 1) := by decide +kernel
theorem dX3_lastWithMark_1 : decode cX3_lastWithMark 1 = .ok (.getfield 16, 3) := by decide +kernel
theorem dX3_lastWithMark_4 : decode cX3_lastWithMark 4 = .ok (.invokevirtual 39, 3) := by decide +kernel
theorem dX3_lastWithMark_7 : decode cX3_lastWithMark 7 = .ok (.iconst 1, 1) := by decide +kernel
theorem dX3_lastWithMark_8 : decode cX3_lastWithMark 8 = .ok (.isub, 1) := by decide +kernel
theorem dX3_lastWithMark_9 : decode cX3_lastWithMark 9 = .ok (.istore_n 2, 1) := by decide +kernel
theorem dX3_lastWithMark_10 : decode cX3_lastWithMark 10 = .ok (.iload_n 2, 1) := by decide +kernel
theorem dX3_lastWithMark_11 : decode cX3_lastWithMark 11 = .ok (.ifCond .lt 31, 3) := by decide +kernel
theorem dX3_lastWithMark_14 : decode cX3_lastWithMark 14 = .ok (.aload_n 0, 1) := by decide +kernel
theorem dX3_lastWithMark_15 : decode cX3_lastWithMark 15 = .ok (.getfield 16, 3) := by decide +kernel
theorem dX3_lastWithMark_18 : decode cX3_lastWithMark 18 = .ok (.iload_n 2, 1) := by decide +kernel
theorem dX3_lastWithMark_19 : decode cX3_lastWithMark 19 = .ok (.invokevirtual 150, 3) := by decide +kernel
theorem dX3_lastWithMark_22 : decode cX3_lastWithMark 22 = .ok (.checkcast 77, 3) := by decide +kernel
theorem dX3_lastWithMark_25 : decode cX3_lastWithMark 25 = .ok (.astore_n 3, 1) := by decide +kernel
theorem dX3_lastWithMark_26 : decode cX3_lastWithMark 26 = .ok (.aload_n 3, 1) := by decide +kernel
theorem dX3_lastWithMark_27 : decode cX3_lastWithMark 27 = .ok (.getfield 171, 3) := by decide +kernel
theorem dX3_lastWithMark_30 : decode cX3_lastWithMark 30 = .ok (.iload_n 1, 1) := by decide +kernel
theorem dX3_lastWithMark_31 : decode cX3_lastWithMark 31 = .ok (.if_icmp .ne 5, 3) := by decide +kernel
theorem dX3_lastWithMark_34 : decode cX3_lastWithMark 34 = .ok (.aload_n 3, 1) := by decide +kernel
theorem dX3_lastWithMark_35 : decode cX3_lastWithMark 35 = .ok (.areturn, 1) := by decide +kernel
theorem dX3_lastWithMark_36 : decode cX3_lastWithMark 36 = .ok (.iinc 2 (-1), 3) := by decide +kernel
theorem dX3_lastWithMark_39 : decode cX3_lastWithMark 39 = .ok (.goto (-29), 3) := by decide +kernel
theorem dX3_lastWithMark_42 : decode cX3_lastWithMark 42 = .ok (.aconst_null, 1) := by decide +kernel
theorem dX3_lastWithMark_43 : decode cX3_lastWithMark 43 = .ok (.areturn, 1) := by decide +kernel
theorem dX3_aboutWord_0 : decode cX3_aboutWord 0 = .ok (.iload_n 2, 1) := by decide +kernel
theorem dX3_aboutWord_1 : decode cX3_aboutWord 1 = .ok (.tableswitch 68 0 4 #[35, 40, 45, 50, 55], 35) := by decide +kernel
theorem dX3_aboutWord_36 : decode cX3_aboutWord 36 = .ok (.aload_n 1, 1) := by decide +kernel
theorem dX3_aboutWord_37 : decode cX3_aboutWord 37 = .ok (.getfield 174, 3) := by decide +kernel
theorem dX3_aboutWord_40 : decode cX3_aboutWord 40 = .ok (.ireturn, 1) := by decide +kernel
theorem dX3_aboutWord_41 : decode cX3_aboutWord 41 = .ok (.aload_n 1, 1) := by decide +kernel
theorem dX3_aboutWord_42 : decode cX3_aboutWord 42 = .ok (.getfield 177, 3) := by decide +kernel
theorem dX3_aboutWord_45 : decode cX3_aboutWord 45 = .ok (.ireturn, 1) := by decide +kernel
theorem dX3_aboutWord_46 : decode cX3_aboutWord 46 = .ok (.aload_n 1, 1) := by decide +kernel
theorem dX3_aboutWord_47 : decode cX3_aboutWord 47 = .ok (.getfield 180, 3) := by decide +kernel
theorem dX3_aboutWord_50 : decode cX3_aboutWord 50 = .ok (.ireturn, 1) := by decide +kernel
theorem dX3_aboutWord_51 : decode cX3_aboutWord 51 = .ok (.aload_n 1, 1) := by decide +kernel
theorem dX3_aboutWord_52 : decode cX3_aboutWord 52 = .ok (.getfield 183, 3) := by decide +kernel
theorem dX3_aboutWord_55 : decode cX3_aboutWord 55 = .ok (.ireturn, 1) := by decide +kernel
theorem dX3_aboutWord_56 : decode cX3_aboutWord 56 = .ok (.aload_n 1, 1) := by decide +kernel
theorem dX3_aboutWord_57 : decode cX3_aboutWord 57 = .ok (.getfield 186, 3) := by decide +kernel
theorem dX3_aboutWord_60 : decode cX3_aboutWord 60 = .ok (.ifCond .eq 7, 3) := by decide +kernel
theorem dX3_aboutWord_63 : decode cX3_aboutWord 63 = .ok (.iconst 1, 1) := by decide +kernel
theorem dX3_aboutWord_64 : decode cX3_aboutWord 64 = .ok (.goto 4, 3) := by decide +kernel
theorem dX3_aboutWord_67 : decode cX3_aboutWord 67 = .ok (.iconst 0, 1) := by decide +kernel
theorem dX3_aboutWord_68 : decode cX3_aboutWord 68 = .ok (.ireturn, 1) := by decide +kernel
theorem dX3_aboutWord_69 : decode cX3_aboutWord 69 = .ok (.aload_n 0, 1) := by decide +kernel
theorem dX3_aboutWord_70 : decode cX3_aboutWord 70 = .ok (.aload_n 1, 1) := by decide +kernel
theorem dX3_aboutWord_71 : decode cX3_aboutWord 71 = .ok (.invokevirtual 190, 3) := by decide +kernel
theorem dX3_aboutWord_74 : decode cX3_aboutWord 74 = .ok (.ireturn, 1) := by decide +kernel
theorem dX3_usesOf_0 : decode cX3_usesOf 0 = .ok (.iconst 0, 1) := by decide +kernel
theorem dX3_usesOf_1 : decode cX3_usesOf 1 = .ok (.istore_n 2, 1) := by decide +kernel
theorem dX3_usesOf_2 : decode cX3_usesOf 2 = .ok (.iconst 0, 1) := by decide +kernel
theorem dX3_usesOf_3 : decode cX3_usesOf 3 = .ok (.istore_n 3, 1) := by decide +kernel
theorem dX3_usesOf_4 : decode cX3_usesOf 4 = .ok (.iload_n 3, 1) := by decide +kernel
theorem dX3_usesOf_5 : decode cX3_usesOf 5 = .ok (.aload_n 0, 1) := by decide +kernel
theorem dX3_usesOf_6 : decode cX3_usesOf 6 = .ok (.getfield 16, 3) := by decide +kernel
theorem dX3_usesOf_9 : decode cX3_usesOf 9 = .ok (.invokevirtual 39, 3) := by decide +kernel
theorem dX3_usesOf_12 : decode cX3_usesOf 12 = .ok (.if_icmp .ge 27, 3) := by decide +kernel
theorem dX3_usesOf_15 : decode cX3_usesOf 15 = .ok (.iload_n 2, 1) := by decide +kernel
theorem dX3_usesOf_16 : decode cX3_usesOf 16 = .ok (.aload_n 0, 1) := by decide +kernel
theorem dX3_usesOf_17 : decode cX3_usesOf 17 = .ok (.getfield 16, 3) := by decide +kernel
theorem dX3_usesOf_20 : decode cX3_usesOf 20 = .ok (.iload_n 3, 1) := by decide +kernel
theorem dX3_usesOf_21 : decode cX3_usesOf 21 = .ok (.invokevirtual 150, 3) := by decide +kernel
theorem dX3_usesOf_24 : decode cX3_usesOf 24 = .ok (.checkcast 77, 3) := by decide +kernel
theorem dX3_usesOf_27 : decode cX3_usesOf 27 = .ok (.aload_n 1, 1) := by decide +kernel
theorem dX3_usesOf_28 : decode cX3_usesOf 28 = .ok (.invokevirtual 194, 3) := by decide +kernel
theorem dX3_usesOf_31 : decode cX3_usesOf 31 = .ok (.iadd, 1) := by decide +kernel
theorem dX3_usesOf_32 : decode cX3_usesOf 32 = .ok (.istore_n 2, 1) := by decide +kernel
theorem dX3_usesOf_33 : decode cX3_usesOf 33 = .ok (.iinc 3 1, 3) := by decide +kernel
theorem dX3_usesOf_36 : decode cX3_usesOf 36 = .ok (.goto (-32), 3) := by decide +kernel
theorem dX3_usesOf_39 : decode cX3_usesOf 39 = .ok (.iload_n 2, 1) := by decide +kernel
theorem dX3_usesOf_40 : decode cX3_usesOf 40 = .ok (.ireturn, 1) := by decide +kernel
theorem dX3_countAll_0 : decode cX3_countAll 0 = .ok (.iload_n 1, 1) := by decide +kernel
theorem dX3_countAll_1 : decode cX3_countAll 1 = .ok (.tableswitch 69 0 6 #[43, 51, 69, 69, 69, 59, 64], 43) := by decide +kernel
theorem dX3_countAll_44 : decode cX3_countAll 44 = .ok (.aload_n 0, 1) := by decide +kernel
theorem dX3_countAll_45 : decode cX3_countAll 45 = .ok (.getfield 12, 3) := by decide +kernel
theorem dX3_countAll_48 : decode cX3_countAll 48 = .ok (.invokevirtual 39, 3) := by decide +kernel
theorem dX3_countAll_51 : decode cX3_countAll 51 = .ok (.ireturn, 1) := by decide +kernel
theorem dX3_countAll_52 : decode cX3_countAll 52 = .ok (.aload_n 0, 1) := by decide +kernel
theorem dX3_countAll_53 : decode cX3_countAll 53 = .ok (.getfield 16, 3) := by decide +kernel
theorem dX3_countAll_56 : decode cX3_countAll 56 = .ok (.invokevirtual 39, 3) := by decide +kernel
theorem dX3_countAll_59 : decode cX3_countAll 59 = .ok (.ireturn, 1) := by decide +kernel
theorem dX3_countAll_60 : decode cX3_countAll 60 = .ok (.aload_n 0, 1) := by decide +kernel
theorem dX3_countAll_61 : decode cX3_countAll 61 = .ok (.invokevirtual 195, 3) := by decide +kernel
theorem dX3_countAll_64 : decode cX3_countAll 64 = .ok (.ireturn, 1) := by decide +kernel
theorem dX3_countAll_65 : decode cX3_countAll 65 = .ok (.aload_n 0, 1) := by decide +kernel
theorem dX3_countAll_66 : decode cX3_countAll 66 = .ok (.invokevirtual 147, 3) := by decide +kernel
theorem dX3_countAll_69 : decode cX3_countAll 69 = .ok (.ireturn, 1) := by decide +kernel
theorem dX3_countAll_70 : decode cX3_countAll 70 = .ok (.aload_n 0, 1) := by decide +kernel
theorem dX3_countAll_71 : decode cX3_countAll 71 = .ok (.iload_n 1, 1) := by decide +kernel
theorem dX3_countAll_72 : decode cX3_countAll 72 = .ok (.invokevirtual 198, 3) := by decide +kernel
theorem dX3_countAll_75 : decode cX3_countAll 75 = .ok (.ireturn, 1) := by decide +kernel
theorem dX3_countInLines_0 : decode cX3_countInLines 0 = .ok (.iconst 0, 1) := by decide +kernel
theorem dX3_countInLines_1 : decode cX3_countInLines 1 = .ok (.istore_n 2, 1) := by decide +kernel
theorem dX3_countInLines_2 : decode cX3_countInLines 2 = .ok (.iconst 0, 1) := by decide +kernel
theorem dX3_countInLines_3 : decode cX3_countInLines 3 = .ok (.istore_n 3, 1) := by decide +kernel
theorem dX3_countInLines_4 : decode cX3_countInLines 4 = .ok (.iload_n 3, 1) := by decide +kernel
theorem dX3_countInLines_5 : decode cX3_countInLines 5 = .ok (.aload_n 0, 1) := by decide +kernel
theorem dX3_countInLines_6 : decode cX3_countInLines 6 = .ok (.getfield 16, 3) := by decide +kernel
theorem dX3_countInLines_9 : decode cX3_countInLines 9 = .ok (.invokevirtual 39, 3) := by decide +kernel
theorem dX3_countInLines_12 : decode cX3_countInLines 12 = .ok (.if_icmp .ge 91, 3) := by decide +kernel
theorem dX3_countInLines_15 : decode cX3_countInLines 15 = .ok (.aload_n 0, 1) := by decide +kernel
theorem dX3_countInLines_16 : decode cX3_countInLines 16 = .ok (.getfield 16, 3) := by decide +kernel
theorem dX3_countInLines_19 : decode cX3_countInLines 19 = .ok (.iload_n 3, 1) := by decide +kernel
theorem dX3_countInLines_20 : decode cX3_countInLines 20 = .ok (.invokevirtual 150, 3) := by decide +kernel
theorem dX3_countInLines_23 : decode cX3_countInLines 23 = .ok (.checkcast 77, 3) := by decide +kernel
theorem dX3_countInLines_26 : decode cX3_countInLines 26 = .ok (.astore 4, 2) := by decide +kernel
theorem dX3_countInLines_28 : decode cX3_countInLines 28 = .ok (.iload_n 1, 1) := by decide +kernel
theorem dX3_countInLines_29 : decode cX3_countInLines 29 = .ok (.lookupswitch 60 #[(2, 27), (3, 41)], 27) := by decide +kernel
theorem dX3_countInLines_56 : decode cX3_countInLines 56 = .ok (.iload_n 2, 1) := by decide +kernel
theorem dX3_countInLines_57 : decode cX3_countInLines 57 = .ok (.aload 4, 2) := by decide +kernel
theorem dX3_countInLines_59 : decode cX3_countInLines 59 = .ok (.getfield 93, 3) := by decide +kernel
theorem dX3_countInLines_62 : decode cX3_countInLines 62 = .ok (.invokevirtual 39, 3) := by decide +kernel
theorem dX3_countInLines_65 : decode cX3_countInLines 65 = .ok (.iadd, 1) := by decide +kernel
theorem dX3_countInLines_66 : decode cX3_countInLines 66 = .ok (.istore_n 2, 1) := by decide +kernel
theorem dX3_countInLines_67 : decode cX3_countInLines 67 = .ok (.goto 30, 3) := by decide +kernel
theorem dX3_countInLines_70 : decode cX3_countInLines 70 = .ok (.iload_n 2, 1) := by decide +kernel
theorem dX3_countInLines_71 : decode cX3_countInLines 71 = .ok (.aload 4, 2) := by decide +kernel
theorem dX3_countInLines_73 : decode cX3_countInLines 73 = .ok (.invokevirtual 201, 3) := by decide +kernel
theorem dX3_countInLines_76 : decode cX3_countInLines 76 = .ok (.ifCond .eq 7, 3) := by decide +kernel
theorem dX3_countInLines_79 : decode cX3_countInLines 79 = .ok (.iconst 1, 1) := by decide +kernel
theorem dX3_countInLines_80 : decode cX3_countInLines 80 = .ok (.goto 4, 3) := by decide +kernel
theorem dX3_countInLines_83 : decode cX3_countInLines 83 = .ok (.iconst 0, 1) := by decide +kernel
theorem dX3_countInLines_84 : decode cX3_countInLines 84 = .ok (.iadd, 1) := by decide +kernel
theorem dX3_countInLines_85 : decode cX3_countInLines 85 = .ok (.istore_n 2, 1) := by decide +kernel
theorem dX3_countInLines_86 : decode cX3_countInLines 86 = .ok (.goto 11, 3) := by decide +kernel
theorem dX3_countInLines_89 : decode cX3_countInLines 89 = .ok (.iload_n 2, 1) := by decide +kernel
theorem dX3_countInLines_90 : decode cX3_countInLines 90 = .ok (.aload 4, 2) := by decide +kernel
theorem dX3_countInLines_92 : decode cX3_countInLines 92 = .ok (.getfield 119, 3) := by decide +kernel
theorem dX3_countInLines_95 : decode cX3_countInLines 95 = .ok (.iadd, 1) := by decide +kernel
theorem dX3_countInLines_96 : decode cX3_countInLines 96 = .ok (.istore_n 2, 1) := by decide +kernel
theorem dX3_countInLines_97 : decode cX3_countInLines 97 = .ok (.iinc 3 1, 3) := by decide +kernel
theorem dX3_countInLines_100 : decode cX3_countInLines 100 = .ok (.goto (-96), 3) := by decide +kernel
theorem dX3_countInLines_103 : decode cX3_countInLines 103 = .ok (.iload_n 2, 1) := by decide +kernel
theorem dX3_countInLines_104 : decode cX3_countInLines 104 = .ok (.ireturn, 1) := by decide +kernel
theorem dX3_lost_0 : decode cX3_lost 0 = .ok (.aload_n 0, 1) := by decide +kernel
theorem dX3_lost_1 : decode cX3_lost 1 = .ok (.getfield 16, 3) := by decide +kernel
theorem dX3_lost_4 : decode cX3_lost 4 = .ok (.invokevirtual 39, 3) := by decide +kernel
theorem dX3_lost_7 : decode cX3_lost 7 = .ok (.istore_n 1, 1) := by decide +kernel
theorem dX3_lost_8 : decode cX3_lost 8 = .ok (.iload_n 1, 1) := by decide +kernel
theorem dX3_lost_9 : decode cX3_lost 9 = .ok (.ifCond .le 22, 3) := by decide +kernel
theorem dX3_lost_12 : decode cX3_lost 12 = .ok (.aload_n 0, 1) := by decide +kernel
theorem dX3_lost_13 : decode cX3_lost 13 = .ok (.getfield 16, 3) := by decide +kernel
theorem dX3_lost_16 : decode cX3_lost 16 = .ok (.iload_n 1, 1) := by decide +kernel
theorem dX3_lost_17 : decode cX3_lost 17 = .ok (.iconst 1, 1) := by decide +kernel
theorem dX3_lost_18 : decode cX3_lost 18 = .ok (.isub, 1) := by decide +kernel
theorem dX3_lost_19 : decode cX3_lost 19 = .ok (.invokevirtual 150, 3) := by decide +kernel
theorem dX3_lost_22 : decode cX3_lost 22 = .ok (.checkcast 77, 3) := by decide +kernel
theorem dX3_lost_25 : decode cX3_lost 25 = .ok (.getfield 205, 3) := by decide +kernel
theorem dX3_lost_28 : decode cX3_lost 28 = .ok (.goto 4, 3) := by decide +kernel
theorem dX3_lost_31 : decode cX3_lost 31 = .ok (.iconst 0, 1) := by decide +kernel
theorem dX3_lost_32 : decode cX3_lost 32 = .ok (.ireturn, 1) := by decide +kernel
theorem dX3_allTaxes_0 : decode cX3_allTaxes 0 = .ok (.iconst 0, 1) := by decide +kernel
theorem dX3_allTaxes_1 : decode cX3_allTaxes 1 = .ok (.istore_n 1, 1) := by decide +kernel
theorem dX3_allTaxes_2 : decode cX3_allTaxes 2 = .ok (.iconst 0, 1) := by decide +kernel
theorem dX3_allTaxes_3 : decode cX3_allTaxes 3 = .ok (.istore_n 2, 1) := by decide +kernel
theorem dX3_allTaxes_4 : decode cX3_allTaxes 4 = .ok (.iload_n 2, 1) := by decide +kernel
theorem dX3_allTaxes_5 : decode cX3_allTaxes 5 = .ok (.aload_n 0, 1) := by decide +kernel
theorem dX3_allTaxes_6 : decode cX3_allTaxes 6 = .ok (.getfield 16, 3) := by decide +kernel
theorem dX3_allTaxes_9 : decode cX3_allTaxes 9 = .ok (.invokevirtual 39, 3) := by decide +kernel
theorem dX3_allTaxes_12 : decode cX3_allTaxes 12 = .ok (.if_icmp .ge 26, 3) := by decide +kernel
theorem dX3_allTaxes_15 : decode cX3_allTaxes 15 = .ok (.iload_n 1, 1) := by decide +kernel
theorem dX3_allTaxes_16 : decode cX3_allTaxes 16 = .ok (.aload_n 0, 1) := by decide +kernel
theorem dX3_allTaxes_17 : decode cX3_allTaxes 17 = .ok (.getfield 16, 3) := by decide +kernel
theorem dX3_allTaxes_20 : decode cX3_allTaxes 20 = .ok (.iload_n 2, 1) := by decide +kernel
theorem dX3_allTaxes_21 : decode cX3_allTaxes 21 = .ok (.invokevirtual 150, 3) := by decide +kernel
theorem dX3_allTaxes_24 : decode cX3_allTaxes 24 = .ok (.checkcast 77, 3) := by decide +kernel
theorem dX3_allTaxes_27 : decode cX3_allTaxes 27 = .ok (.getfield 208, 3) := by decide +kernel
theorem dX3_allTaxes_30 : decode cX3_allTaxes 30 = .ok (.iadd, 1) := by decide +kernel
theorem dX3_allTaxes_31 : decode cX3_allTaxes 31 = .ok (.istore_n 1, 1) := by decide +kernel
theorem dX3_allTaxes_32 : decode cX3_allTaxes 32 = .ok (.iinc 2 1, 3) := by decide +kernel
theorem dX3_allTaxes_35 : decode cX3_allTaxes 35 = .ok (.goto (-31), 3) := by decide +kernel
theorem dX3_allTaxes_38 : decode cX3_allTaxes 38 = .ok (.iload_n 1, 1) := by decide +kernel
theorem dX3_allTaxes_39 : decode cX3_allTaxes 39 = .ok (.ireturn, 1) := by decide +kernel
theorem dX3_rhymeBetween_0 : decode cX3_rhymeBetween 0 = .ok (.aload_n 0, 1) := by decide +kernel
theorem dX3_rhymeBetween_1 : decode cX3_rhymeBetween 1 = .ok (.ifnull 7, 3) := by decide +kernel
theorem dX3_rhymeBetween_4 : decode cX3_rhymeBetween 4 = .ok (.aload_n 1, 1) := by decide +kernel
theorem dX3_rhymeBetween_5 : decode cX3_rhymeBetween 5 = .ok (.ifnonnull 5, 3) := by decide +kernel
theorem dX3_rhymeBetween_8 : decode cX3_rhymeBetween 8 = .ok (.iconst 0, 1) := by decide +kernel
theorem dX3_rhymeBetween_9 : decode cX3_rhymeBetween 9 = .ok (.ireturn, 1) := by decide +kernel
theorem dX3_rhymeBetween_10 : decode cX3_rhymeBetween 10 = .ok (.aload_n 0, 1) := by decide +kernel
theorem dX3_rhymeBetween_11 : decode cX3_rhymeBetween 11 = .ok (.invokevirtual 102, 3) := by decide +kernel
theorem dX3_rhymeBetween_14 : decode cX3_rhymeBetween 14 = .ok (.astore_n 2, 1) := by decide +kernel
theorem dX3_rhymeBetween_15 : decode cX3_rhymeBetween 15 = .ok (.aload_n 1, 1) := by decide +kernel
theorem dX3_rhymeBetween_16 : decode cX3_rhymeBetween 16 = .ok (.invokevirtual 102, 3) := by decide +kernel
theorem dX3_rhymeBetween_19 : decode cX3_rhymeBetween 19 = .ok (.astore_n 3, 1) := by decide +kernel
theorem dX3_rhymeBetween_20 : decode cX3_rhymeBetween 20 = .ok (.aload_n 2, 1) := by decide +kernel
theorem dX3_rhymeBetween_21 : decode cX3_rhymeBetween 21 = .ok (.ifnull 7, 3) := by decide +kernel
theorem dX3_rhymeBetween_24 : decode cX3_rhymeBetween 24 = .ok (.aload_n 3, 1) := by decide +kernel
theorem dX3_rhymeBetween_25 : decode cX3_rhymeBetween 25 = .ok (.ifnonnull 7, 3) := by decide +kernel
theorem dX3_rhymeBetween_28 : decode cX3_rhymeBetween 28 = .ok (.iconst 0, 1) := by decide +kernel
theorem dX3_rhymeBetween_29 : decode cX3_rhymeBetween 29 = .ok (.goto 8, 3) := by decide +kernel
theorem dX3_rhymeBetween_32 : decode cX3_rhymeBetween 32 = .ok (.aload_n 2, 1) := by decide +kernel
theorem dX3_rhymeBetween_33 : decode cX3_rhymeBetween 33 = .ok (.aload_n 3, 1) := by decide +kernel
theorem dX3_rhymeBetween_34 : decode cX3_rhymeBetween 34 = .ok (.invokevirtual 211, 3) := by decide +kernel
theorem dX3_rhymeBetween_37 : decode cX3_rhymeBetween 37 = .ok (.ireturn, 1) := by decide +kernel
theorem dX3_putWord_0 : decode cX3_putWord 0 = .ok (.iload_n 1, 1) := by decide +kernel
theorem dX3_putWord_1 : decode cX3_putWord 1 = .ok (.aload_n 0, 1) := by decide +kernel
theorem dX3_putWord_2 : decode cX3_putWord 2 = .ok (.getfield 16, 3) := by decide +kernel
theorem dX3_putWord_5 : decode cX3_putWord 5 = .ok (.invokevirtual 39, 3) := by decide +kernel
theorem dX3_putWord_8 : decode cX3_putWord 8 = .ok (.invokestatic 33, 3) := by decide +kernel
theorem dX3_putWord_11 : decode cX3_putWord 11 = .ok (.ifCond .ne 4, 3) := by decide +kernel
theorem dX3_putWord_14 : decode cX3_putWord 14 = .ok (.return_, 1) := by decide +kernel
theorem dX3_putWord_15 : decode cX3_putWord 15 = .ok (.aload_n 0, 1) := by decide +kernel
theorem dX3_putWord_16 : decode cX3_putWord 16 = .ok (.getfield 16, 3) := by decide +kernel
theorem dX3_putWord_19 : decode cX3_putWord 19 = .ok (.iload_n 1, 1) := by decide +kernel
theorem dX3_putWord_20 : decode cX3_putWord 20 = .ok (.invokevirtual 150, 3) := by decide +kernel
theorem dX3_putWord_23 : decode cX3_putWord 23 = .ok (.checkcast 77, 3) := by decide +kernel
theorem dX3_putWord_26 : decode cX3_putWord 26 = .ok (.iload_n 2, 1) := by decide +kernel
theorem dX3_putWord_27 : decode cX3_putWord 27 = .ok (.aload_n 3, 1) := by decide +kernel
theorem dX3_putWord_28 : decode cX3_putWord 28 = .ok (.invokevirtual 214, 3) := by decide +kernel
theorem dX3_putWord_31 : decode cX3_putWord 31 = .ok (.aload_n 0, 1) := by decide +kernel
theorem dX3_putWord_32 : decode cX3_putWord 32 = .ok (.iload_n 1, 1) := by decide +kernel
theorem dX3_putWord_33 : decode cX3_putWord 33 = .ok (.invokevirtual 86, 3) := by decide +kernel
theorem dX3_putWord_36 : decode cX3_putWord 36 = .ok (.return_, 1) := by decide +kernel
theorem dX3_taxesWith_0 : decode cX3_taxesWith 0 = .ok (.aload_n 0, 1) := by decide +kernel
theorem dX3_taxesWith_1 : decode cX3_taxesWith 1 = .ok (.iload_n 1, 1) := by decide +kernel
theorem dX3_taxesWith_2 : decode cX3_taxesWith 2 = .ok (.iload_n 2, 1) := by decide +kernel
theorem dX3_taxesWith_3 : decode cX3_taxesWith 3 = .ok (.aload_n 3, 1) := by decide +kernel
theorem dX3_taxesWith_4 : decode cX3_taxesWith 4 = .ok (.invokevirtual 98, 3) := by decide +kernel
theorem dX3_taxesWith_7 : decode cX3_taxesWith 7 = .ok (.aload_n 0, 1) := by decide +kernel
theorem dX3_taxesWith_8 : decode cX3_taxesWith 8 = .ok (.invokevirtual 147, 3) := by decide +kernel
theorem dX3_taxesWith_11 : decode cX3_taxesWith 11 = .ok (.istore 5, 2) := by decide +kernel
theorem dX3_taxesWith_13 : decode cX3_taxesWith 13 = .ok (.aload_n 0, 1) := by decide +kernel
theorem dX3_taxesWith_14 : decode cX3_taxesWith 14 = .ok (.iload_n 1, 1) := by decide +kernel
theorem dX3_taxesWith_15 : decode cX3_taxesWith 15 = .ok (.iload_n 2, 1) := by decide +kernel
theorem dX3_taxesWith_16 : decode cX3_taxesWith 16 = .ok (.aload 4, 2) := by decide +kernel
theorem dX3_taxesWith_18 : decode cX3_taxesWith 18 = .ok (.invokevirtual 98, 3) := by decide +kernel
theorem dX3_taxesWith_21 : decode cX3_taxesWith 21 = .ok (.iload 5, 2) := by decide +kernel
theorem dX3_taxesWith_23 : decode cX3_taxesWith 23 = .ok (.ireturn, 1) := by decide +kernel
theorem dX3_bestWord_0 : decode cX3_bestWord 0 = .ok (.aload_n 3, 1) := by decide +kernel
theorem dX3_bestWord_1 : decode cX3_bestWord 1 = .ok (.astore 4, 2) := by decide +kernel
theorem dX3_bestWord_3 : decode cX3_bestWord 3 = .ok (.ldc 219, 2) := by decide +kernel
theorem dX3_bestWord_5 : decode cX3_bestWord 5 = .ok (.istore 5, 2) := by decide +kernel
theorem dX3_bestWord_7 : decode cX3_bestWord 7 = .ok (.iconst 0, 1) := by decide +kernel
theorem dX3_bestWord_8 : decode cX3_bestWord 8 = .ok (.istore 6, 2) := by decide +kernel
theorem dX3_bestWord_10 : decode cX3_bestWord 10 = .ok (.iload 6, 2) := by decide +kernel
theorem dX3_bestWord_12 : decode cX3_bestWord 12 = .ok (.aload_n 0, 1) := by decide +kernel
theorem dX3_bestWord_13 : decode cX3_bestWord 13 = .ok (.getfield 12, 3) := by decide +kernel
theorem dX3_bestWord_16 : decode cX3_bestWord 16 = .ok (.invokevirtual 39, 3) := by decide +kernel
theorem dX3_bestWord_19 : decode cX3_bestWord 19 = .ok (.if_icmp .ge 52, 3) := by decide +kernel
theorem dX3_bestWord_22 : decode cX3_bestWord 22 = .ok (.aload_n 0, 1) := by decide +kernel
theorem dX3_bestWord_23 : decode cX3_bestWord 23 = .ok (.getfield 12, 3) := by decide +kernel
theorem dX3_bestWord_26 : decode cX3_bestWord 26 = .ok (.iload 6, 2) := by decide +kernel
theorem dX3_bestWord_28 : decode cX3_bestWord 28 = .ok (.invokevirtual 150, 3) := by decide +kernel
theorem dX3_bestWord_31 : decode cX3_bestWord 31 = .ok (.checkcast 48, 3) := by decide +kernel
theorem dX3_bestWord_34 : decode cX3_bestWord 34 = .ok (.astore 7, 2) := by decide +kernel
theorem dX3_bestWord_36 : decode cX3_bestWord 36 = .ok (.aload_n 0, 1) := by decide +kernel
theorem dX3_bestWord_37 : decode cX3_bestWord 37 = .ok (.iload_n 1, 1) := by decide +kernel
theorem dX3_bestWord_38 : decode cX3_bestWord 38 = .ok (.iload_n 2, 1) := by decide +kernel
theorem dX3_bestWord_39 : decode cX3_bestWord 39 = .ok (.aload 7, 2) := by decide +kernel
theorem dX3_bestWord_41 : decode cX3_bestWord 41 = .ok (.invokevirtual 98, 3) := by decide +kernel
theorem dX3_bestWord_44 : decode cX3_bestWord 44 = .ok (.aload_n 0, 1) := by decide +kernel
theorem dX3_bestWord_45 : decode cX3_bestWord 45 = .ok (.invokevirtual 147, 3) := by decide +kernel
theorem dX3_bestWord_48 : decode cX3_bestWord 48 = .ok (.istore 8, 2) := by decide +kernel
theorem dX3_bestWord_50 : decode cX3_bestWord 50 = .ok (.iload 8, 2) := by decide +kernel
theorem dX3_bestWord_52 : decode cX3_bestWord 52 = .ok (.iload 5, 2) := by decide +kernel
theorem dX3_bestWord_54 : decode cX3_bestWord 54 = .ok (.if_icmp .ge 11, 3) := by decide +kernel
theorem dX3_bestWord_57 : decode cX3_bestWord 57 = .ok (.iload 8, 2) := by decide +kernel
theorem dX3_bestWord_59 : decode cX3_bestWord 59 = .ok (.istore 5, 2) := by decide +kernel
theorem dX3_bestWord_61 : decode cX3_bestWord 61 = .ok (.aload 7, 2) := by decide +kernel
theorem dX3_bestWord_63 : decode cX3_bestWord 63 = .ok (.astore 4, 2) := by decide +kernel
theorem dX3_bestWord_65 : decode cX3_bestWord 65 = .ok (.iinc 6 1, 3) := by decide +kernel
theorem dX3_bestWord_68 : decode cX3_bestWord 68 = .ok (.goto (-58), 3) := by decide +kernel
theorem dX3_bestWord_71 : decode cX3_bestWord 71 = .ok (.aload_n 0, 1) := by decide +kernel
theorem dX3_bestWord_72 : decode cX3_bestWord 72 = .ok (.iload_n 1, 1) := by decide +kernel
theorem dX3_bestWord_73 : decode cX3_bestWord 73 = .ok (.iload_n 2, 1) := by decide +kernel
theorem dX3_bestWord_74 : decode cX3_bestWord 74 = .ok (.aload_n 3, 1) := by decide +kernel
theorem dX3_bestWord_75 : decode cX3_bestWord 75 = .ok (.invokevirtual 98, 3) := by decide +kernel
theorem dX3_bestWord_78 : decode cX3_bestWord 78 = .ok (.aload 4, 2) := by decide +kernel
theorem dX3_bestWord_80 : decode cX3_bestWord 80 = .ok (.areturn, 1) := by decide +kernel
theorem dX3_scanFrom_0 : decode cX3_scanFrom 0 = .ok (.iconst 0, 1) := by decide +kernel
theorem dX3_scanFrom_1 : decode cX3_scanFrom 1 = .ok (.istore_n 2, 1) := by decide +kernel
theorem dX3_scanFrom_2 : decode cX3_scanFrom 2 = .ok (.iconst 0, 1) := by decide +kernel
theorem dX3_scanFrom_3 : decode cX3_scanFrom 3 = .ok (.istore_n 3, 1) := by decide +kernel
theorem dX3_scanFrom_4 : decode cX3_scanFrom 4 = .ok (.iload_n 1, 1) := by decide +kernel
theorem dX3_scanFrom_5 : decode cX3_scanFrom 5 = .ok (.ifCond .le 49, 3) := by decide +kernel
theorem dX3_scanFrom_8 : decode cX3_scanFrom 8 = .ok (.iload_n 1, 1) := by decide +kernel
theorem dX3_scanFrom_9 : decode cX3_scanFrom 9 = .ok (.aload_n 0, 1) := by decide +kernel
theorem dX3_scanFrom_10 : decode cX3_scanFrom 10 = .ok (.getfield 16, 3) := by decide +kernel
theorem dX3_scanFrom_13 : decode cX3_scanFrom 13 = .ok (.invokevirtual 39, 3) := by decide +kernel
theorem dX3_scanFrom_16 : decode cX3_scanFrom 16 = .ok (.if_icmp .gt 38, 3) := by decide +kernel
theorem dX3_scanFrom_19 : decode cX3_scanFrom 19 = .ok (.aload_n 0, 1) := by decide +kernel
theorem dX3_scanFrom_20 : decode cX3_scanFrom 20 = .ok (.getfield 16, 3) := by decide +kernel
theorem dX3_scanFrom_23 : decode cX3_scanFrom 23 = .ok (.iload_n 1, 1) := by decide +kernel
theorem dX3_scanFrom_24 : decode cX3_scanFrom 24 = .ok (.iconst 1, 1) := by decide +kernel
theorem dX3_scanFrom_25 : decode cX3_scanFrom 25 = .ok (.isub, 1) := by decide +kernel
theorem dX3_scanFrom_26 : decode cX3_scanFrom 26 = .ok (.invokevirtual 150, 3) := by decide +kernel
theorem dX3_scanFrom_29 : decode cX3_scanFrom 29 = .ok (.checkcast 77, 3) := by decide +kernel
theorem dX3_scanFrom_32 : decode cX3_scanFrom 32 = .ok (.astore 4, 2) := by decide +kernel
theorem dX3_scanFrom_34 : decode cX3_scanFrom 34 = .ok (.aload 4, 2) := by decide +kernel
theorem dX3_scanFrom_36 : decode cX3_scanFrom 36 = .ok (.getfield 220, 3) := by decide +kernel
theorem dX3_scanFrom_39 : decode cX3_scanFrom 39 = .ok (.aload 4, 2) := by decide +kernel
theorem dX3_scanFrom_41 : decode cX3_scanFrom 41 = .ok (.getfield 119, 3) := by decide +kernel
theorem dX3_scanFrom_44 : decode cX3_scanFrom 44 = .ok (.iadd, 1) := by decide +kernel
theorem dX3_scanFrom_45 : decode cX3_scanFrom 45 = .ok (.istore_n 2, 1) := by decide +kernel
theorem dX3_scanFrom_46 : decode cX3_scanFrom 46 = .ok (.iload_n 2, 1) := by decide +kernel
theorem dX3_scanFrom_47 : decode cX3_scanFrom 47 = .ok (.aload 4, 2) := by decide +kernel
theorem dX3_scanFrom_49 : decode cX3_scanFrom 49 = .ok (.getfield 205, 3) := by decide +kernel
theorem dX3_scanFrom_52 : decode cX3_scanFrom 52 = .ok (.iadd, 1) := by decide +kernel
theorem dX3_scanFrom_53 : decode cX3_scanFrom 53 = .ok (.istore_n 3, 1) := by decide +kernel
theorem dX3_scanFrom_54 : decode cX3_scanFrom 54 = .ok (.aload_n 0, 1) := by decide +kernel
theorem dX3_scanFrom_55 : decode cX3_scanFrom 55 = .ok (.getfield 22, 3) := by decide +kernel
theorem dX3_scanFrom_58 : decode cX3_scanFrom 58 = .ok (.iload_n 3, 1) := by decide +kernel
theorem dX3_scanFrom_59 : decode cX3_scanFrom 59 = .ok (.invokevirtual 223, 3) := by decide +kernel
theorem dX3_scanFrom_62 : decode cX3_scanFrom 62 = .ok (.iload_n 1, 1) := by decide +kernel
theorem dX3_scanFrom_63 : decode cX3_scanFrom 63 = .ok (.iconst 0, 1) := by decide +kernel
theorem dX3_scanFrom_64 : decode cX3_scanFrom 64 = .ok (.invokestatic 226, 3) := by decide +kernel
theorem dX3_scanFrom_67 : decode cX3_scanFrom 67 = .ok (.istore 4, 2) := by decide +kernel
theorem dX3_scanFrom_69 : decode cX3_scanFrom 69 = .ok (.iload 4, 2) := by decide +kernel
theorem dX3_scanFrom_71 : decode cX3_scanFrom 71 = .ok (.aload_n 0, 1) := by decide +kernel
theorem dX3_scanFrom_72 : decode cX3_scanFrom 72 = .ok (.getfield 16, 3) := by decide +kernel
theorem dX3_scanFrom_75 : decode cX3_scanFrom 75 = .ok (.invokevirtual 39, 3) := by decide +kernel
theorem dX3_scanFrom_78 : decode cX3_scanFrom 78 = .ok (.if_icmp .ge 46, 3) := by decide +kernel
theorem dX3_scanFrom_81 : decode cX3_scanFrom 81 = .ok (.aload_n 0, 1) := by decide +kernel
theorem dX3_scanFrom_82 : decode cX3_scanFrom 82 = .ok (.getfield 16, 3) := by decide +kernel
theorem dX3_scanFrom_85 : decode cX3_scanFrom 85 = .ok (.iload 4, 2) := by decide +kernel
theorem dX3_scanFrom_87 : decode cX3_scanFrom 87 = .ok (.invokevirtual 150, 3) := by decide +kernel
theorem dX3_scanFrom_90 : decode cX3_scanFrom 90 = .ok (.checkcast 77, 3) := by decide +kernel
theorem dX3_scanFrom_93 : decode cX3_scanFrom 93 = .ok (.astore 5, 2) := by decide +kernel
theorem dX3_scanFrom_95 : decode cX3_scanFrom 95 = .ok (.aload 5, 2) := by decide +kernel
theorem dX3_scanFrom_97 : decode cX3_scanFrom 97 = .ok (.aload_n 0, 1) := by decide +kernel
theorem dX3_scanFrom_98 : decode cX3_scanFrom 98 = .ok (.getfield 22, 3) := by decide +kernel
theorem dX3_scanFrom_101 : decode cX3_scanFrom 101 = .ok (.iload_n 2, 1) := by decide +kernel
theorem dX3_scanFrom_102 : decode cX3_scanFrom 102 = .ok (.invokevirtual 232, 3) := by decide +kernel
theorem dX3_scanFrom_105 : decode cX3_scanFrom 105 = .ok (.aload 5, 2) := by decide +kernel
theorem dX3_scanFrom_107 : decode cX3_scanFrom 107 = .ok (.invokevirtual 236, 3) := by decide +kernel
theorem dX3_scanFrom_110 : decode cX3_scanFrom 110 = .ok (.iload_n 2, 1) := by decide +kernel
theorem dX3_scanFrom_111 : decode cX3_scanFrom 111 = .ok (.aload 5, 2) := by decide +kernel
theorem dX3_scanFrom_113 : decode cX3_scanFrom 113 = .ok (.getfield 119, 3) := by decide +kernel
theorem dX3_scanFrom_116 : decode cX3_scanFrom 116 = .ok (.iadd, 1) := by decide +kernel
theorem dX3_scanFrom_117 : decode cX3_scanFrom 117 = .ok (.istore_n 2, 1) := by decide +kernel
theorem dX3_scanFrom_118 : decode cX3_scanFrom 118 = .ok (.iinc 4 1, 3) := by decide +kernel
theorem dX3_scanFrom_121 : decode cX3_scanFrom 121 = .ok (.goto (-52), 3) := by decide +kernel
theorem dX3_scanFrom_124 : decode cX3_scanFrom 124 = .ok (.return_, 1) := by decide +kernel
theorem dX3_lowBits_0 : decode cX3_lowBits 0 = .ok (.iload_n 0, 1) := by decide +kernel
theorem dX3_lowBits_1 : decode cX3_lowBits 1 = .ok (.ifCond .gt 5, 3) := by decide +kernel
theorem dX3_lowBits_4 : decode cX3_lowBits 4 = .ok (.lconst 0, 1) := by decide +kernel
theorem dX3_lowBits_5 : decode cX3_lowBits 5 = .ok (.lreturn, 1) := by decide +kernel
theorem dX3_lowBits_6 : decode cX3_lowBits 6 = .ok (.iload_n 0, 1) := by decide +kernel
theorem dX3_lowBits_7 : decode cX3_lowBits 7 = .ok (.bipush 64, 2) := by decide +kernel
theorem dX3_lowBits_9 : decode cX3_lowBits 9 = .ok (.if_icmp .lt 9, 3) := by decide +kernel
theorem dX3_lowBits_12 : decode cX3_lowBits 12 = .ok (.ldc2_w 239, 3) := by decide +kernel
theorem dX3_lowBits_15 : decode cX3_lowBits 15 = .ok (.goto 8, 3) := by decide +kernel
theorem dX3_lowBits_18 : decode cX3_lowBits 18 = .ok (.lconst 1, 1) := by decide +kernel
theorem dX3_lowBits_19 : decode cX3_lowBits 19 = .ok (.iload_n 0, 1) := by decide +kernel
theorem dX3_lowBits_20 : decode cX3_lowBits 20 = .ok (.lshl, 1) := by decide +kernel
theorem dX3_lowBits_21 : decode cX3_lowBits 21 = .ok (.lconst 1, 1) := by decide +kernel
theorem dX3_lowBits_22 : decode cX3_lowBits 22 = .ok (.lsub, 1) := by decide +kernel
theorem dX3_lowBits_23 : decode cX3_lowBits 23 = .ok (.lreturn, 1) := by decide +kernel
theorem dX3_footSize_0 : decode cX3_footSize 0 = .ok (.iload_n 0, 1) := by decide +kernel
theorem dX3_footSize_1 : decode cX3_footSize 1 = .ok (.iconst 2, 1) := by decide +kernel
theorem dX3_footSize_2 : decode cX3_footSize 2 = .ok (.if_icmp .ge 7, 3) := by decide +kernel
theorem dX3_footSize_5 : decode cX3_footSize 5 = .ok (.iconst 2, 1) := by decide +kernel
theorem dX3_footSize_6 : decode cX3_footSize 6 = .ok (.goto 4, 3) := by decide +kernel
theorem dX3_footSize_9 : decode cX3_footSize 9 = .ok (.iconst 3, 1) := by decide +kernel
theorem dX3_footSize_10 : decode cX3_footSize 10 = .ok (.ireturn, 1) := by decide +kernel
theorem dX3_askedBy_0 : decode cX3_askedBy 0 = .ok (.iload_n 0, 1) := by decide +kernel
theorem dX3_askedBy_1 : decode cX3_askedBy 1 = .ok (.tableswitch 39 0 2 #[27, 31, 35], 27) := by decide +kernel
theorem dX3_askedBy_28 : decode cX3_askedBy 28 = .ok (.ldc2_w 241, 3) := by decide +kernel
theorem dX3_askedBy_31 : decode cX3_askedBy 31 = .ok (.lreturn, 1) := by decide +kernel
theorem dX3_askedBy_32 : decode cX3_askedBy 32 = .ok (.ldc2_w 243, 3) := by decide +kernel
theorem dX3_askedBy_35 : decode cX3_askedBy 35 = .ok (.lreturn, 1) := by decide +kernel
theorem dX3_askedBy_36 : decode cX3_askedBy 36 = .ok (.ldc2_w 245, 3) := by decide +kernel
theorem dX3_askedBy_39 : decode cX3_askedBy 39 = .ok (.lreturn, 1) := by decide +kernel
end
section
theorem dX3_askedBy_40 : decode cX3_askedBy 40 = .ok (.ldc2_w 247, 3) := by decide +kernel
theorem dX3_askedBy_43 : decode cX3_askedBy 43 = .ok (.lreturn, 1) := by decide +kernel
theorem dX4_init_0 : decode cX4_init 0 = .ok (.aload_n 0, 1) := by decide +kernel
theorem dX4_init_1 : decode cX4_init 1 = .ok (.invokespecial 1, 3) := by decide +kernel
theorem dX4_init_4 : decode cX4_init 4 = .ok (.aload_n 0, 1) := by decide +kernel
theorem dX4_init_5 : decode cX4_init 5 = .ok (.bipush 30, 2) := by decide +kernel
theorem dX4_init_7 : decode cX4_init 7 = .ok (.newarray .int, 2) := by decide +kernel
theorem dX4_init_9 : decode cX4_init 9 = .ok (.putfield 9, 3) := by decide +kernel
theorem dX4_init_12 : decode cX4_init 12 = .ok (.aload_n 0, 1) := by decide +kernel
theorem dX4_init_13 : decode cX4_init 13 = .ok (.bipush 30, 2) := by decide +kernel
theorem dX4_init_15 : decode cX4_init 15 = .ok (.newarray .int, 2) := by decide +kernel
theorem dX4_init_17 : decode cX4_init 17 = .ok (.putfield 13, 3) := by decide +kernel
theorem dX4_init_20 : decode cX4_init 20 = .ok (.aload_n 0, 1) := by decide +kernel
theorem dX4_init_21 : decode cX4_init 21 = .ok (.bipush 30, 2) := by decide +kernel
theorem dX4_init_23 : decode cX4_init 23 = .ok (.newarray .int, 2) := by decide +kernel
theorem dX4_init_25 : decode cX4_init 25 = .ok (.putfield 16, 3) := by decide +kernel
theorem dX4_init_28 : decode cX4_init 28 = .ok (.aload_n 0, 1) := by decide +kernel
theorem dX4_init_29 : decode cX4_init 29 = .ok (.bipush 30, 2) := by decide +kernel
theorem dX4_init_31 : decode cX4_init 31 = .ok (.newarray .int, 2) := by decide +kernel
theorem dX4_init_33 : decode cX4_init 33 = .ok (.putfield 19, 3) := by decide +kernel
theorem dX4_init_36 : decode cX4_init 36 = .ok (.aload_n 0, 1) := by decide +kernel
theorem dX4_init_37 : decode cX4_init 37 = .ok (.bipush 30, 2) := by decide +kernel
theorem dX4_init_39 : decode cX4_init 39 = .ok (.newarray .int, 2) := by decide +kernel
theorem dX4_init_41 : decode cX4_init 41 = .ok (.putfield 22, 3) := by decide +kernel
theorem dX4_init_44 : decode cX4_init 44 = .ok (.aload_n 0, 1) := by decide +kernel
theorem dX4_init_45 : decode cX4_init 45 = .ok (.bipush 10, 2) := by decide +kernel
theorem dX4_init_47 : decode cX4_init 47 = .ok (.newarray .int, 2) := by decide +kernel
theorem dX4_init_49 : decode cX4_init 49 = .ok (.putfield 25, 3) := by decide +kernel
theorem dX4_init_52 : decode cX4_init 52 = .ok (.aload_n 0, 1) := by decide +kernel
theorem dX4_init_53 : decode cX4_init 53 = .ok (.bipush 10, 2) := by decide +kernel
theorem dX4_init_55 : decode cX4_init 55 = .ok (.newarray .int, 2) := by decide +kernel
theorem dX4_init_57 : decode cX4_init 57 = .ok (.putfield 28, 3) := by decide +kernel
theorem dX4_init_60 : decode cX4_init 60 = .ok (.aload_n 0, 1) := by decide +kernel
theorem dX4_init_61 : decode cX4_init 61 = .ok (.bipush 10, 2) := by decide +kernel
theorem dX4_init_63 : decode cX4_init 63 = .ok (.newarray .int, 2) := by decide +kernel
theorem dX4_init_65 : decode cX4_init 65 = .ok (.putfield 31, 3) := by decide +kernel
theorem dX4_init_68 : decode cX4_init 68 = .ok (.aload_n 0, 1) := by decide +kernel
theorem dX4_init_69 : decode cX4_init 69 = .ok (.bipush 10, 2) := by decide +kernel
theorem dX4_init_71 : decode cX4_init 71 = .ok (.newarray .int, 2) := by decide +kernel
theorem dX4_init_73 : decode cX4_init 73 = .ok (.putfield 34, 3) := by decide +kernel
theorem dX4_init_76 : decode cX4_init 76 = .ok (.aload_n 0, 1) := by decide +kernel
theorem dX4_init_77 : decode cX4_init 77 = .ok (.bipush 80, 2) := by decide +kernel
theorem dX4_init_79 : decode cX4_init 79 = .ok (.newarray .int, 2) := by decide +kernel
theorem dX4_init_81 : decode cX4_init 81 = .ok (.putfield 37, 3) := by decide +kernel
theorem dX4_init_84 : decode cX4_init 84 = .ok (.aload_n 0, 1) := by decide +kernel
theorem dX4_init_85 : decode cX4_init 85 = .ok (.bipush 10, 2) := by decide +kernel
theorem dX4_init_87 : decode cX4_init 87 = .ok (.newarray .int, 2) := by decide +kernel
theorem dX4_init_89 : decode cX4_init 89 = .ok (.putfield 40, 3) := by decide +kernel
theorem dX4_init_92 : decode cX4_init 92 = .ok (.aload_n 0, 1) := by decide +kernel
theorem dX4_init_93 : decode cX4_init 93 = .ok (.bipush 10, 2) := by decide +kernel
theorem dX4_init_95 : decode cX4_init 95 = .ok (.newarray .int, 2) := by decide +kernel
theorem dX4_init_97 : decode cX4_init 97 = .ok (.putfield 43, 3) := by decide +kernel
theorem dX4_init_100 : decode cX4_init 100 = .ok (.aload_n 0, 1) := by decide +kernel
theorem dX4_init_101 : decode cX4_init 101 = .ok (.bipush 10, 2) := by decide +kernel
theorem dX4_init_103 : decode cX4_init 103 = .ok (.newarray .int, 2) := by decide +kernel
theorem dX4_init_105 : decode cX4_init 105 = .ok (.putfield 46, 3) := by decide +kernel
theorem dX4_init_108 : decode cX4_init 108 = .ok (.aload_n 0, 1) := by decide +kernel
theorem dX4_init_109 : decode cX4_init 109 = .ok (.bipush 10, 2) := by decide +kernel
theorem dX4_init_111 : decode cX4_init 111 = .ok (.newarray .int, 2) := by decide +kernel
theorem dX4_init_113 : decode cX4_init 113 = .ok (.putfield 49, 3) := by decide +kernel
theorem dX4_init_116 : decode cX4_init 116 = .ok (.aload_n 0, 1) := by decide +kernel
theorem dX4_init_117 : decode cX4_init 117 = .ok (.bipush 10, 2) := by decide +kernel
theorem dX4_init_119 : decode cX4_init 119 = .ok (.newarray .int, 2) := by decide +kernel
theorem dX4_init_121 : decode cX4_init 121 = .ok (.putfield 52, 3) := by decide +kernel
theorem dX4_init_124 : decode cX4_init 124 = .ok (.aload_n 0, 1) := by decide +kernel
theorem dX4_init_125 : decode cX4_init 125 = .ok (.bipush 10, 2) := by decide +kernel
theorem dX4_init_127 : decode cX4_init 127 = .ok (.newarray .int, 2) := by decide +kernel
theorem dX4_init_129 : decode cX4_init 129 = .ok (.putfield 55, 3) := by decide +kernel
theorem dX4_init_132 : decode cX4_init 132 = .ok (.aload_n 0, 1) := by decide +kernel
theorem dX4_init_133 : decode cX4_init 133 = .ok (.sipush 320, 3) := by decide +kernel
theorem dX4_init_136 : decode cX4_init 136 = .ok (.newarray .int, 2) := by decide +kernel
theorem dX4_init_138 : decode cX4_init 138 = .ok (.putfield 58, 3) := by decide +kernel
theorem dX4_init_141 : decode cX4_init 141 = .ok (.return_, 1) := by decide +kernel
theorem dX4_thrown_0 : decode cX4_thrown 0 = .ok (.aload_n 0, 1) := by decide +kernel
theorem dX4_thrown_1 : decode cX4_thrown 1 = .ok (.getfield 61, 3) := by decide +kernel
theorem dX4_thrown_4 : decode cX4_thrown 4 = .ok (.ireturn, 1) := by decide +kernel
theorem dX4_no_0 : decode cX4_no 0 = .ok (.aload_n 0, 1) := by decide +kernel
theorem dX4_no_1 : decode cX4_no 1 = .ok (.iload_n 1, 1) := by decide +kernel
theorem dX4_no_2 : decode cX4_no 2 = .ok (.putfield 61, 3) := by decide +kernel
theorem dX4_no_5 : decode cX4_no 5 = .ok (.iconst 0, 1) := by decide +kernel
theorem dX4_no_6 : decode cX4_no 6 = .ok (.ireturn, 1) := by decide +kernel
theorem dX4_isIn_0 : decode cX4_isIn 0 = .ok (.iload_n 0, 1) := by decide +kernel
theorem dX4_isIn_1 : decode cX4_isIn 1 = .ok (.iload_n 1, 1) := by decide +kernel
theorem dX4_isIn_2 : decode cX4_isIn 2 = .ok (.if_icmp .lt 12, 3) := by decide +kernel
theorem dX4_isIn_5 : decode cX4_isIn 5 = .ok (.iload_n 0, 1) := by decide +kernel
theorem dX4_isIn_6 : decode cX4_isIn 6 = .ok (.iload_n 2, 1) := by decide +kernel
theorem dX4_isIn_7 : decode cX4_isIn 7 = .ok (.if_icmp .gt 7, 3) := by decide +kernel
theorem dX4_isIn_10 : decode cX4_isIn 10 = .ok (.iconst 1, 1) := by decide +kernel
theorem dX4_isIn_11 : decode cX4_isIn 11 = .ok (.goto 4, 3) := by decide +kernel
theorem dX4_isIn_14 : decode cX4_isIn 14 = .ok (.iconst 0, 1) := by decide +kernel
theorem dX4_isIn_15 : decode cX4_isIn 15 = .ok (.ireturn, 1) := by decide +kernel
theorem dX4_isWord_0 : decode cX4_isWord 0 = .ok (.iload_n 1, 1) := by decide +kernel
theorem dX4_isWord_1 : decode cX4_isWord 1 = .ok (.iconst 0, 1) := by decide +kernel
theorem dX4_isWord_2 : decode cX4_isWord 2 = .ok (.aload_n 0, 1) := by decide +kernel
theorem dX4_isWord_3 : decode cX4_isWord 3 = .ok (.getfield 65, 3) := by decide +kernel
theorem dX4_isWord_6 : decode cX4_isWord 6 = .ok (.iconst 1, 1) := by decide +kernel
theorem dX4_isWord_7 : decode cX4_isWord 7 = .ok (.isub, 1) := by decide +kernel
theorem dX4_isWord_8 : decode cX4_isWord 8 = .ok (.invokestatic 68, 3) := by decide +kernel
theorem dX4_isWord_11 : decode cX4_isWord 11 = .ok (.ireturn, 1) := by decide +kernel
theorem dX4_isLine_0 : decode cX4_isLine 0 = .ok (.iload_n 1, 1) := by decide +kernel
theorem dX4_isLine_1 : decode cX4_isLine 1 = .ok (.iconst 0, 1) := by decide +kernel
theorem dX4_isLine_2 : decode cX4_isLine 2 = .ok (.aload_n 0, 1) := by decide +kernel
theorem dX4_isLine_3 : decode cX4_isLine 3 = .ok (.getfield 72, 3) := by decide +kernel
theorem dX4_isLine_6 : decode cX4_isLine 6 = .ok (.iconst 1, 1) := by decide +kernel
theorem dX4_isLine_7 : decode cX4_isLine 7 = .ok (.isub, 1) := by decide +kernel
theorem dX4_isLine_8 : decode cX4_isLine 8 = .ok (.invokestatic 68, 3) := by decide +kernel
theorem dX4_isLine_11 : decode cX4_isLine 11 = .ok (.ireturn, 1) := by decide +kernel
theorem dX4_word_0 : decode cX4_word 0 = .ok (.aload_n 0, 1) := by decide +kernel
theorem dX4_word_1 : decode cX4_word 1 = .ok (.iconst 0, 1) := by decide +kernel
theorem dX4_word_2 : decode cX4_word 2 = .ok (.putfield 61, 3) := by decide +kernel
theorem dX4_word_5 : decode cX4_word 5 = .ok (.iload_n 1, 1) := by decide +kernel
theorem dX4_word_6 : decode cX4_word 6 = .ok (.iconst 1, 1) := by decide +kernel
theorem dX4_word_7 : decode cX4_word 7 = .ok (.iconst 4, 1) := by decide +kernel
theorem dX4_word_8 : decode cX4_word 8 = .ok (.invokestatic 68, 3) := by decide +kernel
theorem dX4_word_11 : decode cX4_word 11 = .ok (.ifCond .eq 37, 3) := by decide +kernel
theorem dX4_word_14 : decode cX4_word 14 = .ok (.iload_n 2, 1) := by decide +kernel
theorem dX4_word_15 : decode cX4_word 15 = .ok (.iconst 0, 1) := by decide +kernel
theorem dX4_word_16 : decode cX4_word 16 = .ok (.iconst 1, 1) := by decide +kernel
theorem dX4_word_17 : decode cX4_word 17 = .ok (.iload_n 1, 1) := by decide +kernel
theorem dX4_word_18 : decode cX4_word 18 = .ok (.ishl, 1) := by decide +kernel
theorem dX4_word_19 : decode cX4_word 19 = .ok (.iconst 1, 1) := by decide +kernel
theorem dX4_word_20 : decode cX4_word 20 = .ok (.isub, 1) := by decide +kernel
theorem dX4_word_21 : decode cX4_word 21 = .ok (.invokestatic 68, 3) := by decide +kernel
theorem dX4_word_24 : decode cX4_word 24 = .ok (.ifCond .eq 24, 3) := by decide +kernel
theorem dX4_word_27 : decode cX4_word 27 = .ok (.iload_n 3, 1) := by decide +kernel
theorem dX4_word_28 : decode cX4_word 28 = .ok (.iconst 0, 1) := by decide +kernel
theorem dX4_word_29 : decode cX4_word 29 = .ok (.bipush 9, 2) := by decide +kernel
theorem dX4_word_31 : decode cX4_word 31 = .ok (.invokestatic 68, 3) := by decide +kernel
theorem dX4_word_34 : decode cX4_word 34 = .ok (.ifCond .eq 14, 3) := by decide +kernel
theorem dX4_word_37 : decode cX4_word 37 = .ok (.iload 4, 2) := by decide +kernel
theorem dX4_word_39 : decode cX4_word 39 = .ok (.iconst 0, 1) := by decide +kernel
theorem dX4_word_40 : decode cX4_word 40 = .ok (.bipush 9, 2) := by decide +kernel
theorem dX4_word_42 : decode cX4_word 42 = .ok (.invokestatic 68, 3) := by decide +kernel
theorem dX4_word_45 : decode cX4_word 45 = .ok (.ifCond .ne 9, 3) := by decide +kernel
theorem dX4_word_48 : decode cX4_word 48 = .ok (.aload_n 0, 1) := by decide +kernel
theorem dX4_word_49 : decode cX4_word 49 = .ok (.iconst 1, 1) := by decide +kernel
theorem dX4_word_50 : decode cX4_word 50 = .ok (.invokevirtual 75, 3) := by decide +kernel
theorem dX4_word_53 : decode cX4_word 53 = .ok (.ireturn, 1) := by decide +kernel
theorem dX4_word_54 : decode cX4_word 54 = .ok (.aload_n 0, 1) := by decide +kernel
theorem dX4_word_55 : decode cX4_word 55 = .ok (.getfield 65, 3) := by decide +kernel
theorem dX4_word_58 : decode cX4_word 58 = .ok (.bipush 30, 2) := by decide +kernel
theorem dX4_word_60 : decode cX4_word 60 = .ok (.if_icmp .ne 9, 3) := by decide +kernel
theorem dX4_word_63 : decode cX4_word 63 = .ok (.aload_n 0, 1) := by decide +kernel
theorem dX4_word_64 : decode cX4_word 64 = .ok (.iconst 2, 1) := by decide +kernel
theorem dX4_word_65 : decode cX4_word 65 = .ok (.invokevirtual 75, 3) := by decide +kernel
theorem dX4_word_68 : decode cX4_word 68 = .ok (.ireturn, 1) := by decide +kernel
theorem dX4_word_69 : decode cX4_word 69 = .ok (.aload_n 0, 1) := by decide +kernel
theorem dX4_word_70 : decode cX4_word 70 = .ok (.getfield 9, 3) := by decide +kernel
theorem dX4_word_73 : decode cX4_word 73 = .ok (.aload_n 0, 1) := by decide +kernel
theorem dX4_word_74 : decode cX4_word 74 = .ok (.getfield 65, 3) := by decide +kernel
theorem dX4_word_77 : decode cX4_word 77 = .ok (.iload_n 1, 1) := by decide +kernel
theorem dX4_word_78 : decode cX4_word 78 = .ok (.iastore, 1) := by decide +kernel
theorem dX4_word_79 : decode cX4_word 79 = .ok (.aload_n 0, 1) := by decide +kernel
theorem dX4_word_80 : decode cX4_word 80 = .ok (.getfield 13, 3) := by decide +kernel
theorem dX4_word_83 : decode cX4_word 83 = .ok (.aload_n 0, 1) := by decide +kernel
theorem dX4_word_84 : decode cX4_word 84 = .ok (.getfield 65, 3) := by decide +kernel
theorem dX4_word_87 : decode cX4_word 87 = .ok (.iload_n 2, 1) := by decide +kernel
theorem dX4_word_88 : decode cX4_word 88 = .ok (.iastore, 1) := by decide +kernel
theorem dX4_word_89 : decode cX4_word 89 = .ok (.aload_n 0, 1) := by decide +kernel
theorem dX4_word_90 : decode cX4_word 90 = .ok (.getfield 16, 3) := by decide +kernel
theorem dX4_word_93 : decode cX4_word 93 = .ok (.aload_n 0, 1) := by decide +kernel
theorem dX4_word_94 : decode cX4_word 94 = .ok (.getfield 65, 3) := by decide +kernel
theorem dX4_word_97 : decode cX4_word 97 = .ok (.iload_n 3, 1) := by decide +kernel
theorem dX4_word_98 : decode cX4_word 98 = .ok (.iastore, 1) := by decide +kernel
theorem dX4_word_99 : decode cX4_word 99 = .ok (.aload_n 0, 1) := by decide +kernel
theorem dX4_word_100 : decode cX4_word 100 = .ok (.getfield 19, 3) := by decide +kernel
theorem dX4_word_103 : decode cX4_word 103 = .ok (.aload_n 0, 1) := by decide +kernel
theorem dX4_word_104 : decode cX4_word 104 = .ok (.getfield 65, 3) := by decide +kernel
theorem dX4_word_107 : decode cX4_word 107 = .ok (.iload 4, 2) := by decide +kernel
theorem dX4_word_109 : decode cX4_word 109 = .ok (.iastore, 1) := by decide +kernel
theorem dX4_word_110 : decode cX4_word 110 = .ok (.aload_n 0, 1) := by decide +kernel
theorem dX4_word_111 : decode cX4_word 111 = .ok (.getfield 22, 3) := by decide +kernel
theorem dX4_word_114 : decode cX4_word 114 = .ok (.aload_n 0, 1) := by decide +kernel
theorem dX4_word_115 : decode cX4_word 115 = .ok (.getfield 65, 3) := by decide +kernel
theorem dX4_word_118 : decode cX4_word 118 = .ok (.iload 5, 2) := by decide +kernel
theorem dX4_word_120 : decode cX4_word 120 = .ok (.ifCond .eq 7, 3) := by decide +kernel
theorem dX4_word_123 : decode cX4_word 123 = .ok (.iconst 1, 1) := by decide +kernel
theorem dX4_word_124 : decode cX4_word 124 = .ok (.goto 4, 3) := by decide +kernel
theorem dX4_word_127 : decode cX4_word 127 = .ok (.iconst 0, 1) := by decide +kernel
theorem dX4_word_128 : decode cX4_word 128 = .ok (.iastore, 1) := by decide +kernel
theorem dX4_word_129 : decode cX4_word 129 = .ok (.aload_n 0, 1) := by decide +kernel
theorem dX4_word_130 : decode cX4_word 130 = .ok (.dup, 1) := by decide +kernel
theorem dX4_word_131 : decode cX4_word 131 = .ok (.getfield 65, 3) := by decide +kernel
theorem dX4_word_134 : decode cX4_word 134 = .ok (.iconst 1, 1) := by decide +kernel
theorem dX4_word_135 : decode cX4_word 135 = .ok (.iadd, 1) := by decide +kernel
theorem dX4_word_136 : decode cX4_word 136 = .ok (.putfield 65, 3) := by decide +kernel
theorem dX4_word_139 : decode cX4_word 139 = .ok (.aload_n 0, 1) := by decide +kernel
theorem dX4_word_140 : decode cX4_word 140 = .ok (.getfield 65, 3) := by decide +kernel
theorem dX4_word_143 : decode cX4_word 143 = .ok (.iconst 1, 1) := by decide +kernel
theorem dX4_word_144 : decode cX4_word 144 = .ok (.isub, 1) := by decide +kernel
theorem dX4_word_145 : decode cX4_word 145 = .ok (.ireturn, 1) := by decide +kernel
theorem dX4_aboutTold_0 : decode cX4_aboutTold 0 = .ok (.iconst 0, 1) := by decide +kernel
theorem dX4_aboutTold_1 : decode cX4_aboutTold 1 = .ok (.istore_n 3, 1) := by decide +kernel
theorem dX4_aboutTold_2 : decode cX4_aboutTold 2 = .ok (.iconst 0, 1) := by decide +kernel
theorem dX4_aboutTold_3 : decode cX4_aboutTold 3 = .ok (.istore 4, 2) := by decide +kernel
theorem dX4_aboutTold_5 : decode cX4_aboutTold 5 = .ok (.iload 4, 2) := by decide +kernel
theorem dX4_aboutTold_7 : decode cX4_aboutTold 7 = .ok (.aload_n 0, 1) := by decide +kernel
theorem dX4_aboutTold_8 : decode cX4_aboutTold 8 = .ok (.getfield 72, 3) := by decide +kernel
theorem dX4_aboutTold_11 : decode cX4_aboutTold 11 = .ok (.if_icmp .ge 55, 3) := by decide +kernel
theorem dX4_aboutTold_14 : decode cX4_aboutTold 14 = .ok (.iconst 0, 1) := by decide +kernel
theorem dX4_aboutTold_15 : decode cX4_aboutTold 15 = .ok (.istore 5, 2) := by decide +kernel
theorem dX4_aboutTold_17 : decode cX4_aboutTold 17 = .ok (.iload 5, 2) := by decide +kernel
theorem dX4_aboutTold_19 : decode cX4_aboutTold 19 = .ok (.aload_n 0, 1) := by decide +kernel
theorem dX4_aboutTold_20 : decode cX4_aboutTold 20 = .ok (.getfield 34, 3) := by decide +kernel
theorem dX4_aboutTold_23 : decode cX4_aboutTold 23 = .ok (.iload 4, 2) := by decide +kernel
theorem dX4_aboutTold_25 : decode cX4_aboutTold 25 = .ok (.iaload, 1) := by decide +kernel
theorem dX4_aboutTold_26 : decode cX4_aboutTold 26 = .ok (.if_icmp .ge 34, 3) := by decide +kernel
theorem dX4_aboutTold_29 : decode cX4_aboutTold 29 = .ok (.iload_n 3, 1) := by decide +kernel
theorem dX4_aboutTold_30 : decode cX4_aboutTold 30 = .ok (.aload_n 0, 1) := by decide +kernel
theorem dX4_aboutTold_31 : decode cX4_aboutTold 31 = .ok (.getfield 37, 3) := by decide +kernel
theorem dX4_aboutTold_34 : decode cX4_aboutTold 34 = .ok (.bipush 8, 2) := by decide +kernel
theorem dX4_aboutTold_36 : decode cX4_aboutTold 36 = .ok (.iload 4, 2) := by decide +kernel
theorem dX4_aboutTold_38 : decode cX4_aboutTold 38 = .ok (.imul, 1) := by decide +kernel
theorem dX4_aboutTold_39 : decode cX4_aboutTold 39 = .ok (.iload 5, 2) := by decide +kernel
theorem dX4_aboutTold_41 : decode cX4_aboutTold 41 = .ok (.iadd, 1) := by decide +kernel
theorem dX4_aboutTold_42 : decode cX4_aboutTold 42 = .ok (.iaload, 1) := by decide +kernel
theorem dX4_aboutTold_43 : decode cX4_aboutTold 43 = .ok (.iload_n 1, 1) := by decide +kernel
theorem dX4_aboutTold_44 : decode cX4_aboutTold 44 = .ok (.if_icmp .ne 7, 3) := by decide +kernel
theorem dX4_aboutTold_47 : decode cX4_aboutTold 47 = .ok (.iconst 1, 1) := by decide +kernel
theorem dX4_aboutTold_48 : decode cX4_aboutTold 48 = .ok (.goto 4, 3) := by decide +kernel
theorem dX4_aboutTold_51 : decode cX4_aboutTold 51 = .ok (.iconst 0, 1) := by decide +kernel
theorem dX4_aboutTold_52 : decode cX4_aboutTold 52 = .ok (.iadd, 1) := by decide +kernel
theorem dX4_aboutTold_53 : decode cX4_aboutTold 53 = .ok (.istore_n 3, 1) := by decide +kernel
theorem dX4_aboutTold_54 : decode cX4_aboutTold 54 = .ok (.iinc 5 1, 3) := by decide +kernel
theorem dX4_aboutTold_57 : decode cX4_aboutTold 57 = .ok (.goto (-40), 3) := by decide +kernel
theorem dX4_aboutTold_60 : decode cX4_aboutTold 60 = .ok (.iinc 4 1, 3) := by decide +kernel
theorem dX4_aboutTold_63 : decode cX4_aboutTold 63 = .ok (.goto (-58), 3) := by decide +kernel
theorem dX4_aboutTold_66 : decode cX4_aboutTold 66 = .ok (.bipush 6, 2) := by decide +kernel
theorem dX4_aboutTold_68 : decode cX4_aboutTold 68 = .ok (.newarray .int, 2) := by decide +kernel
theorem dX4_aboutTold_70 : decode cX4_aboutTold 70 = .ok (.dup, 1) := by decide +kernel
theorem dX4_aboutTold_71 : decode cX4_aboutTold 71 = .ok (.iconst 0, 1) := by decide +kernel
theorem dX4_aboutTold_72 : decode cX4_aboutTold 72 = .ok (.aload_n 0, 1) := by decide +kernel
theorem dX4_aboutTold_73 : decode cX4_aboutTold 73 = .ok (.getfield 9, 3) := by decide +kernel
theorem dX4_aboutTold_76 : decode cX4_aboutTold 76 = .ok (.iload_n 1, 1) := by decide +kernel
theorem dX4_aboutTold_77 : decode cX4_aboutTold 77 = .ok (.iaload, 1) := by decide +kernel
theorem dX4_aboutTold_78 : decode cX4_aboutTold 78 = .ok (.iastore, 1) := by decide +kernel
theorem dX4_aboutTold_79 : decode cX4_aboutTold 79 = .ok (.dup, 1) := by decide +kernel
theorem dX4_aboutTold_80 : decode cX4_aboutTold 80 = .ok (.iconst 1, 1) := by decide +kernel
theorem dX4_aboutTold_81 : decode cX4_aboutTold 81 = .ok (.aload_n 0, 1) := by decide +kernel
theorem dX4_aboutTold_82 : decode cX4_aboutTold 82 = .ok (.getfield 13, 3) := by decide +kernel
theorem dX4_aboutTold_85 : decode cX4_aboutTold 85 = .ok (.iload_n 1, 1) := by decide +kernel
theorem dX4_aboutTold_86 : decode cX4_aboutTold 86 = .ok (.iaload, 1) := by decide +kernel
theorem dX4_aboutTold_87 : decode cX4_aboutTold 87 = .ok (.iastore, 1) := by decide +kernel
theorem dX4_aboutTold_88 : decode cX4_aboutTold 88 = .ok (.dup, 1) := by decide +kernel
theorem dX4_aboutTold_89 : decode cX4_aboutTold 89 = .ok (.iconst 2, 1) := by decide +kernel
theorem dX4_aboutTold_90 : decode cX4_aboutTold 90 = .ok (.aload_n 0, 1) := by decide +kernel
theorem dX4_aboutTold_91 : decode cX4_aboutTold 91 = .ok (.getfield 16, 3) := by decide +kernel
theorem dX4_aboutTold_94 : decode cX4_aboutTold 94 = .ok (.iload_n 1, 1) := by decide +kernel
theorem dX4_aboutTold_95 : decode cX4_aboutTold 95 = .ok (.iaload, 1) := by decide +kernel
theorem dX4_aboutTold_96 : decode cX4_aboutTold 96 = .ok (.iastore, 1) := by decide +kernel
theorem dX4_aboutTold_97 : decode cX4_aboutTold 97 = .ok (.dup, 1) := by decide +kernel
theorem dX4_aboutTold_98 : decode cX4_aboutTold 98 = .ok (.iconst 3, 1) := by decide +kernel
theorem dX4_aboutTold_99 : decode cX4_aboutTold 99 = .ok (.aload_n 0, 1) := by decide +kernel
theorem dX4_aboutTold_100 : decode cX4_aboutTold 100 = .ok (.getfield 19, 3) := by decide +kernel
theorem dX4_aboutTold_103 : decode cX4_aboutTold 103 = .ok (.iload_n 1, 1) := by decide +kernel
theorem dX4_aboutTold_104 : decode cX4_aboutTold 104 = .ok (.iaload, 1) := by decide +kernel
theorem dX4_aboutTold_105 : decode cX4_aboutTold 105 = .ok (.iastore, 1) := by decide +kernel
theorem dX4_aboutTold_106 : decode cX4_aboutTold 106 = .ok (.dup, 1) := by decide +kernel
theorem dX4_aboutTold_107 : decode cX4_aboutTold 107 = .ok (.iconst 4, 1) := by decide +kernel
theorem dX4_aboutTold_108 : decode cX4_aboutTold 108 = .ok (.aload_n 0, 1) := by decide +kernel
theorem dX4_aboutTold_109 : decode cX4_aboutTold 109 = .ok (.getfield 22, 3) := by decide +kernel
theorem dX4_aboutTold_112 : decode cX4_aboutTold 112 = .ok (.iload_n 1, 1) := by decide +kernel
theorem dX4_aboutTold_113 : decode cX4_aboutTold 113 = .ok (.iaload, 1) := by decide +kernel
theorem dX4_aboutTold_114 : decode cX4_aboutTold 114 = .ok (.iastore, 1) := by decide +kernel
theorem dX4_aboutTold_115 : decode cX4_aboutTold 115 = .ok (.dup, 1) := by decide +kernel
theorem dX4_aboutTold_116 : decode cX4_aboutTold 116 = .ok (.iconst 5, 1) := by decide +kernel
theorem dX4_aboutTold_117 : decode cX4_aboutTold 117 = .ok (.iload_n 3, 1) := by decide +kernel
theorem dX4_aboutTold_118 : decode cX4_aboutTold 118 = .ok (.iastore, 1) := by decide +kernel
theorem dX4_aboutTold_119 : decode cX4_aboutTold 119 = .ok (.astore 4, 2) := by decide +kernel
theorem dX4_aboutTold_121 : decode cX4_aboutTold 121 = .ok (.aload 4, 2) := by decide +kernel
theorem dX4_aboutTold_123 : decode cX4_aboutTold 123 = .ok (.iload_n 2, 1) := by decide +kernel
theorem dX4_aboutTold_124 : decode cX4_aboutTold 124 = .ok (.iaload, 1) := by decide +kernel
theorem dX4_aboutTold_125 : decode cX4_aboutTold 125 = .ok (.ireturn, 1) := by decide +kernel
theorem dX4_about_0 : decode cX4_about 0 = .ok (.aload_n 0, 1) := by decide +kernel
theorem dX4_about_1 : decode cX4_about 1 = .ok (.iconst 0, 1) := by decide +kernel
theorem dX4_about_2 : decode cX4_about 2 = .ok (.putfield 61, 3) := by decide +kernel
theorem dX4_about_5 : decode cX4_about 5 = .ok (.aload_n 0, 1) := by decide +kernel
theorem dX4_about_6 : decode cX4_about 6 = .ok (.iload_n 1, 1) := by decide +kernel
theorem dX4_about_7 : decode cX4_about 7 = .ok (.invokevirtual 79, 3) := by decide +kernel
theorem dX4_about_10 : decode cX4_about 10 = .ok (.ifCond .eq 21, 3) := by decide +kernel
theorem dX4_about_13 : decode cX4_about 13 = .ok (.iload_n 2, 1) := by decide +kernel
theorem dX4_about_14 : decode cX4_about 14 = .ok (.iconst 0, 1) := by decide +kernel
theorem dX4_about_15 : decode cX4_about 15 = .ok (.iconst 5, 1) := by decide +kernel
theorem dX4_about_16 : decode cX4_about 16 = .ok (.invokestatic 68, 3) := by decide +kernel
theorem dX4_about_19 : decode cX4_about 19 = .ok (.ifCond .eq 12, 3) := by decide +kernel
theorem dX4_about_22 : decode cX4_about 22 = .ok (.aload_n 0, 1) := by decide +kernel
theorem dX4_about_23 : decode cX4_about 23 = .ok (.iload_n 1, 1) := by decide +kernel
theorem dX4_about_24 : decode cX4_about 24 = .ok (.iload_n 2, 1) := by decide +kernel
theorem dX4_about_25 : decode cX4_about 25 = .ok (.invokevirtual 83, 3) := by decide +kernel
theorem dX4_about_28 : decode cX4_about 28 = .ok (.goto 8, 3) := by decide +kernel
theorem dX4_about_31 : decode cX4_about 31 = .ok (.aload_n 0, 1) := by decide +kernel
theorem dX4_about_32 : decode cX4_about 32 = .ok (.iconst 1, 1) := by decide +kernel
theorem dX4_about_33 : decode cX4_about 33 = .ok (.invokevirtual 75, 3) := by decide +kernel
theorem dX4_about_36 : decode cX4_about 36 = .ok (.ireturn, 1) := by decide +kernel
theorem dX4_line_0 : decode cX4_line 0 = .ok (.aload_n 0, 1) := by decide +kernel
theorem dX4_line_1 : decode cX4_line 1 = .ok (.iconst 0, 1) := by decide +kernel
theorem dX4_line_2 : decode cX4_line 2 = .ok (.putfield 61, 3) := by decide +kernel
theorem dX4_line_5 : decode cX4_line 5 = .ok (.iload_n 1, 1) := by decide +kernel
theorem dX4_line_6 : decode cX4_line 6 = .ok (.iconst 0, 1) := by decide +kernel
theorem dX4_line_7 : decode cX4_line 7 = .ok (.iconst 3, 1) := by decide +kernel
theorem dX4_line_8 : decode cX4_line 8 = .ok (.invokestatic 68, 3) := by decide +kernel
theorem dX4_line_11 : decode cX4_line 11 = .ok (.ifCond .eq 22, 3) := by decide +kernel
theorem dX4_line_14 : decode cX4_line 14 = .ok (.iload_n 2, 1) := by decide +kernel
theorem dX4_line_15 : decode cX4_line 15 = .ok (.iconst 1, 1) := by decide +kernel
theorem dX4_line_16 : decode cX4_line 16 = .ok (.bipush 6, 2) := by decide +kernel
theorem dX4_line_18 : decode cX4_line 18 = .ok (.invokestatic 68, 3) := by decide +kernel
theorem dX4_line_21 : decode cX4_line 21 = .ok (.ifCond .eq 12, 3) := by decide +kernel
theorem dX4_line_24 : decode cX4_line 24 = .ok (.iload_n 3, 1) := by decide +kernel
theorem dX4_line_25 : decode cX4_line 25 = .ok (.iconst 0, 1) := by decide +kernel
theorem dX4_line_26 : decode cX4_line 26 = .ok (.iconst 5, 1) := by decide +kernel
theorem dX4_line_27 : decode cX4_line 27 = .ok (.invokestatic 68, 3) := by decide +kernel
theorem dX4_line_30 : decode cX4_line 30 = .ok (.ifCond .ne 9, 3) := by decide +kernel
theorem dX4_line_33 : decode cX4_line 33 = .ok (.aload_n 0, 1) := by decide +kernel
theorem dX4_line_34 : decode cX4_line 34 = .ok (.iconst 1, 1) := by decide +kernel
theorem dX4_line_35 : decode cX4_line 35 = .ok (.invokevirtual 75, 3) := by decide +kernel
theorem dX4_line_38 : decode cX4_line 38 = .ok (.ireturn, 1) := by decide +kernel
theorem dX4_line_39 : decode cX4_line 39 = .ok (.aload_n 0, 1) := by decide +kernel
theorem dX4_line_40 : decode cX4_line 40 = .ok (.getfield 72, 3) := by decide +kernel
theorem dX4_line_43 : decode cX4_line 43 = .ok (.bipush 10, 2) := by decide +kernel
theorem dX4_line_45 : decode cX4_line 45 = .ok (.if_icmp .ne 9, 3) := by decide +kernel
theorem dX4_line_48 : decode cX4_line 48 = .ok (.aload_n 0, 1) := by decide +kernel
theorem dX4_line_49 : decode cX4_line 49 = .ok (.iconst 2, 1) := by decide +kernel
theorem dX4_line_50 : decode cX4_line 50 = .ok (.invokevirtual 75, 3) := by decide +kernel
theorem dX4_line_53 : decode cX4_line 53 = .ok (.ireturn, 1) := by decide +kernel
theorem dX4_line_54 : decode cX4_line 54 = .ok (.aload_n 0, 1) := by decide +kernel
theorem dX4_line_55 : decode cX4_line 55 = .ok (.getfield 25, 3) := by decide +kernel
theorem dX4_line_58 : decode cX4_line 58 = .ok (.aload_n 0, 1) := by decide +kernel
theorem dX4_line_59 : decode cX4_line 59 = .ok (.getfield 72, 3) := by decide +kernel
theorem dX4_line_62 : decode cX4_line 62 = .ok (.iload_n 1, 1) := by decide +kernel
theorem dX4_line_63 : decode cX4_line 63 = .ok (.iastore, 1) := by decide +kernel
theorem dX4_line_64 : decode cX4_line 64 = .ok (.aload_n 0, 1) := by decide +kernel
theorem dX4_line_65 : decode cX4_line 65 = .ok (.getfield 28, 3) := by decide +kernel
theorem dX4_line_68 : decode cX4_line 68 = .ok (.aload_n 0, 1) := by decide +kernel
theorem dX4_line_69 : decode cX4_line 69 = .ok (.getfield 72, 3) := by decide +kernel
theorem dX4_line_72 : decode cX4_line 72 = .ok (.iload_n 2, 1) := by decide +kernel
theorem dX4_line_73 : decode cX4_line 73 = .ok (.iastore, 1) := by decide +kernel
theorem dX4_line_74 : decode cX4_line 74 = .ok (.aload_n 0, 1) := by decide +kernel
theorem dX4_line_75 : decode cX4_line 75 = .ok (.getfield 31, 3) := by decide +kernel
theorem dX4_line_78 : decode cX4_line 78 = .ok (.aload_n 0, 1) := by decide +kernel
theorem dX4_line_79 : decode cX4_line 79 = .ok (.getfield 72, 3) := by decide +kernel
theorem dX4_line_82 : decode cX4_line 82 = .ok (.iload_n 3, 1) := by decide +kernel
theorem dX4_line_83 : decode cX4_line 83 = .ok (.iastore, 1) := by decide +kernel
theorem dX4_line_84 : decode cX4_line 84 = .ok (.aload_n 0, 1) := by decide +kernel
theorem dX4_line_85 : decode cX4_line 85 = .ok (.dup, 1) := by decide +kernel
theorem dX4_line_86 : decode cX4_line 86 = .ok (.getfield 72, 3) := by decide +kernel
theorem dX4_line_89 : decode cX4_line 89 = .ok (.iconst 1, 1) := by decide +kernel
theorem dX4_line_90 : decode cX4_line 90 = .ok (.iadd, 1) := by decide +kernel
theorem dX4_line_91 : decode cX4_line 91 = .ok (.putfield 72, 3) := by decide +kernel
theorem dX4_line_94 : decode cX4_line 94 = .ok (.aload_n 0, 1) := by decide +kernel
theorem dX4_line_95 : decode cX4_line 95 = .ok (.getfield 72, 3) := by decide +kernel
theorem dX4_line_98 : decode cX4_line 98 = .ok (.iconst 1, 1) := by decide +kernel
theorem dX4_line_99 : decode cX4_line 99 = .ok (.isub, 1) := by decide +kernel
theorem dX4_line_100 : decode cX4_line 100 = .ok (.ireturn, 1) := by decide +kernel
theorem dX4_write_0 : decode cX4_write 0 = .ok (.aload_n 0, 1) := by decide +kernel
theorem dX4_write_1 : decode cX4_write 1 = .ok (.iconst 0, 1) := by decide +kernel
theorem dX4_write_2 : decode cX4_write 2 = .ok (.putfield 61, 3) := by decide +kernel
theorem dX4_write_5 : decode cX4_write 5 = .ok (.aload_n 0, 1) := by decide +kernel
theorem dX4_write_6 : decode cX4_write 6 = .ok (.iload_n 1, 1) := by decide +kernel
theorem dX4_write_7 : decode cX4_write 7 = .ok (.invokevirtual 87, 3) := by decide +kernel
theorem dX4_write_10 : decode cX4_write 10 = .ok (.ifCond .eq 25, 3) := by decide +kernel
theorem dX4_write_13 : decode cX4_write 13 = .ok (.iload_n 2, 1) := by decide +kernel
theorem dX4_write_14 : decode cX4_write 14 = .ok (.iconst 0, 1) := by decide +kernel
theorem dX4_write_15 : decode cX4_write 15 = .ok (.aload_n 0, 1) := by decide +kernel
theorem dX4_write_16 : decode cX4_write 16 = .ok (.getfield 34, 3) := by decide +kernel
theorem dX4_write_19 : decode cX4_write 19 = .ok (.iload_n 1, 1) := by decide +kernel
theorem dX4_write_20 : decode cX4_write 20 = .ok (.iaload, 1) := by decide +kernel
theorem dX4_write_21 : decode cX4_write 21 = .ok (.invokestatic 68, 3) := by decide +kernel
theorem dX4_write_24 : decode cX4_write 24 = .ok (.ifCond .eq 11, 3) := by decide +kernel
theorem dX4_write_27 : decode cX4_write 27 = .ok (.aload_n 0, 1) := by decide +kernel
theorem dX4_write_28 : decode cX4_write 28 = .ok (.iload_n 3, 1) := by decide +kernel
theorem dX4_write_29 : decode cX4_write 29 = .ok (.invokevirtual 79, 3) := by decide +kernel
theorem dX4_write_32 : decode cX4_write 32 = .ok (.ifCond .ne 9, 3) := by decide +kernel
theorem dX4_write_35 : decode cX4_write 35 = .ok (.aload_n 0, 1) := by decide +kernel
theorem dX4_write_36 : decode cX4_write 36 = .ok (.iconst 1, 1) := by decide +kernel
theorem dX4_write_37 : decode cX4_write 37 = .ok (.invokevirtual 75, 3) := by decide +kernel
theorem dX4_write_40 : decode cX4_write 40 = .ok (.ireturn, 1) := by decide +kernel
theorem dX4_write_41 : decode cX4_write 41 = .ok (.iload_n 2, 1) := by decide +kernel
theorem dX4_write_42 : decode cX4_write 42 = .ok (.bipush 8, 2) := by decide +kernel
theorem dX4_write_44 : decode cX4_write 44 = .ok (.if_icmp .ne 9, 3) := by decide +kernel
theorem dX4_write_47 : decode cX4_write 47 = .ok (.aload_n 0, 1) := by decide +kernel
theorem dX4_write_48 : decode cX4_write 48 = .ok (.iconst 2, 1) := by decide +kernel
theorem dX4_write_49 : decode cX4_write 49 = .ok (.invokevirtual 75, 3) := by decide +kernel
theorem dX4_write_52 : decode cX4_write 52 = .ok (.ireturn, 1) := by decide +kernel
theorem dX4_write_53 : decode cX4_write 53 = .ok (.aload_n 0, 1) := by decide +kernel
theorem dX4_write_54 : decode cX4_write 54 = .ok (.getfield 37, 3) := by decide +kernel
theorem dX4_write_57 : decode cX4_write 57 = .ok (.bipush 8, 2) := by decide +kernel
theorem dX4_write_59 : decode cX4_write 59 = .ok (.iload_n 1, 1) := by decide +kernel
theorem dX4_write_60 : decode cX4_write 60 = .ok (.imul, 1) := by decide +kernel
theorem dX4_write_61 : decode cX4_write 61 = .ok (.iload_n 2, 1) := by decide +kernel
theorem dX4_write_62 : decode cX4_write 62 = .ok (.iadd, 1) := by decide +kernel
theorem dX4_write_63 : decode cX4_write 63 = .ok (.iload_n 3, 1) := by decide +kernel
theorem dX4_write_64 : decode cX4_write 64 = .ok (.iastore, 1) := by decide +kernel
theorem dX4_write_65 : decode cX4_write 65 = .ok (.iload_n 2, 1) := by decide +kernel
theorem dX4_write_66 : decode cX4_write 66 = .ok (.aload_n 0, 1) := by decide +kernel
theorem dX4_write_67 : decode cX4_write 67 = .ok (.getfield 34, 3) := by decide +kernel
theorem dX4_write_70 : decode cX4_write 70 = .ok (.iload_n 1, 1) := by decide +kernel
theorem dX4_write_71 : decode cX4_write 71 = .ok (.iaload, 1) := by decide +kernel
theorem dX4_write_72 : decode cX4_write 72 = .ok (.if_icmp .ne 13, 3) := by decide +kernel
theorem dX4_write_75 : decode cX4_write 75 = .ok (.aload_n 0, 1) := by decide +kernel
theorem dX4_write_76 : decode cX4_write 76 = .ok (.getfield 34, 3) := by decide +kernel
theorem dX4_write_79 : decode cX4_write 79 = .ok (.iload_n 1, 1) := by decide +kernel
theorem dX4_write_80 : decode cX4_write 80 = .ok (.dup2, 1) := by decide +kernel
theorem dX4_write_81 : decode cX4_write 81 = .ok (.iaload, 1) := by decide +kernel
theorem dX4_write_82 : decode cX4_write 82 = .ok (.iconst 1, 1) := by decide +kernel
theorem dX4_write_83 : decode cX4_write 83 = .ok (.iadd, 1) := by decide +kernel
theorem dX4_write_84 : decode cX4_write 84 = .ok (.iastore, 1) := by decide +kernel
theorem dX4_write_85 : decode cX4_write 85 = .ok (.aload_n 0, 1) := by decide +kernel
theorem dX4_write_86 : decode cX4_write 86 = .ok (.getfield 34, 3) := by decide +kernel
theorem dX4_write_89 : decode cX4_write 89 = .ok (.iload_n 1, 1) := by decide +kernel
theorem dX4_write_90 : decode cX4_write 90 = .ok (.iaload, 1) := by decide +kernel
theorem dX4_write_91 : decode cX4_write 91 = .ok (.ireturn, 1) := by decide +kernel
theorem dX4_strike_0 : decode cX4_strike 0 = .ok (.aload_n 0, 1) := by decide +kernel
theorem dX4_strike_1 : decode cX4_strike 1 = .ok (.iconst 0, 1) := by decide +kernel
theorem dX4_strike_2 : decode cX4_strike 2 = .ok (.putfield 61, 3) := by decide +kernel
theorem dX4_strike_5 : decode cX4_strike 5 = .ok (.aload_n 0, 1) := by decide +kernel
theorem dX4_strike_6 : decode cX4_strike 6 = .ok (.iload_n 1, 1) := by decide +kernel
theorem dX4_strike_7 : decode cX4_strike 7 = .ok (.invokevirtual 87, 3) := by decide +kernel
theorem dX4_strike_10 : decode cX4_strike 10 = .ok (.ifCond .ne 9, 3) := by decide +kernel
theorem dX4_strike_13 : decode cX4_strike 13 = .ok (.aload_n 0, 1) := by decide +kernel
theorem dX4_strike_14 : decode cX4_strike 14 = .ok (.iconst 1, 1) := by decide +kernel
theorem dX4_strike_15 : decode cX4_strike 15 = .ok (.invokevirtual 75, 3) := by decide +kernel
theorem dX4_strike_18 : decode cX4_strike 18 = .ok (.ireturn, 1) := by decide +kernel
theorem dX4_strike_19 : decode cX4_strike 19 = .ok (.aload_n 0, 1) := by decide +kernel
theorem dX4_strike_20 : decode cX4_strike 20 = .ok (.getfield 34, 3) := by decide +kernel
theorem dX4_strike_23 : decode cX4_strike 23 = .ok (.iload_n 1, 1) := by decide +kernel
theorem dX4_strike_24 : decode cX4_strike 24 = .ok (.iaload, 1) := by decide +kernel
theorem dX4_strike_25 : decode cX4_strike 25 = .ok (.ifCond .ne 9, 3) := by decide +kernel
theorem dX4_strike_28 : decode cX4_strike 28 = .ok (.aload_n 0, 1) := by decide +kernel
theorem dX4_strike_29 : decode cX4_strike 29 = .ok (.iconst 2, 1) := by decide +kernel
theorem dX4_strike_30 : decode cX4_strike 30 = .ok (.invokevirtual 75, 3) := by decide +kernel
theorem dX4_strike_33 : decode cX4_strike 33 = .ok (.ireturn, 1) := by decide +kernel
theorem dX4_strike_34 : decode cX4_strike 34 = .ok (.aload_n 0, 1) := by decide +kernel
theorem dX4_strike_35 : decode cX4_strike 35 = .ok (.getfield 34, 3) := by decide +kernel
theorem dX4_strike_38 : decode cX4_strike 38 = .ok (.iload_n 1, 1) := by decide +kernel
theorem dX4_strike_39 : decode cX4_strike 39 = .ok (.dup2, 1) := by decide +kernel
theorem dX4_strike_40 : decode cX4_strike 40 = .ok (.iaload, 1) := by decide +kernel
theorem dX4_strike_41 : decode cX4_strike 41 = .ok (.iconst 1, 1) := by decide +kernel
theorem dX4_strike_42 : decode cX4_strike 42 = .ok (.isub, 1) := by decide +kernel
theorem dX4_strike_43 : decode cX4_strike 43 = .ok (.iastore, 1) := by decide +kernel
theorem dX4_strike_44 : decode cX4_strike 44 = .ok (.aload_n 0, 1) := by decide +kernel
theorem dX4_strike_45 : decode cX4_strike 45 = .ok (.getfield 37, 3) := by decide +kernel
theorem dX4_strike_48 : decode cX4_strike 48 = .ok (.bipush 8, 2) := by decide +kernel
theorem dX4_strike_50 : decode cX4_strike 50 = .ok (.iload_n 1, 1) := by decide +kernel
theorem dX4_strike_51 : decode cX4_strike 51 = .ok (.imul, 1) := by decide +kernel
theorem dX4_strike_52 : decode cX4_strike 52 = .ok (.aload_n 0, 1) := by decide +kernel
theorem dX4_strike_53 : decode cX4_strike 53 = .ok (.getfield 34, 3) := by decide +kernel
theorem dX4_strike_56 : decode cX4_strike 56 = .ok (.iload_n 1, 1) := by decide +kernel
theorem dX4_strike_57 : decode cX4_strike 57 = .ok (.iaload, 1) := by decide +kernel
theorem dX4_strike_58 : decode cX4_strike 58 = .ok (.iadd, 1) := by decide +kernel
theorem dX4_strike_59 : decode cX4_strike 59 = .ok (.iaload, 1) := by decide +kernel
theorem dX4_strike_60 : decode cX4_strike 60 = .ok (.ireturn, 1) := by decide +kernel
theorem dX4_written_0 : decode cX4_written 0 = .ok (.aload_n 0, 1) := by decide +kernel
theorem dX4_written_1 : decode cX4_written 1 = .ok (.iconst 0, 1) := by decide +kernel
theorem dX4_written_2 : decode cX4_written 2 = .ok (.putfield 61, 3) := by decide +kernel
theorem dX4_written_5 : decode cX4_written 5 = .ok (.aload_n 0, 1) := by decide +kernel
theorem dX4_written_6 : decode cX4_written 6 = .ok (.iload_n 1, 1) := by decide +kernel
theorem dX4_written_7 : decode cX4_written 7 = .ok (.invokevirtual 87, 3) := by decide +kernel
theorem dX4_written_10 : decode cX4_written 10 = .ok (.ifCond .eq 33, 3) := by decide +kernel
theorem dX4_written_13 : decode cX4_written 13 = .ok (.iload_n 2, 1) := by decide +kernel
theorem dX4_written_14 : decode cX4_written 14 = .ok (.iconst 0, 1) := by decide +kernel
theorem dX4_written_15 : decode cX4_written 15 = .ok (.aload_n 0, 1) := by decide +kernel
theorem dX4_written_16 : decode cX4_written 16 = .ok (.getfield 34, 3) := by decide +kernel
theorem dX4_written_19 : decode cX4_written 19 = .ok (.iload_n 1, 1) := by decide +kernel
theorem dX4_written_20 : decode cX4_written 20 = .ok (.iaload, 1) := by decide +kernel
theorem dX4_written_21 : decode cX4_written 21 = .ok (.iconst 1, 1) := by decide +kernel
theorem dX4_written_22 : decode cX4_written 22 = .ok (.isub, 1) := by decide +kernel
theorem dX4_written_23 : decode cX4_written 23 = .ok (.invokestatic 68, 3) := by decide +kernel
theorem dX4_written_26 : decode cX4_written 26 = .ok (.ifCond .eq 17, 3) := by decide +kernel
theorem dX4_written_29 : decode cX4_written 29 = .ok (.aload_n 0, 1) := by decide +kernel
theorem dX4_written_30 : decode cX4_written 30 = .ok (.getfield 37, 3) := by decide +kernel
theorem dX4_written_33 : decode cX4_written 33 = .ok (.bipush 8, 2) := by decide +kernel
theorem dX4_written_35 : decode cX4_written 35 = .ok (.iload_n 1, 1) := by decide +kernel
theorem dX4_written_36 : decode cX4_written 36 = .ok (.imul, 1) := by decide +kernel
theorem dX4_written_37 : decode cX4_written 37 = .ok (.iload_n 2, 1) := by decide +kernel
theorem dX4_written_38 : decode cX4_written 38 = .ok (.iadd, 1) := by decide +kernel
theorem dX4_written_39 : decode cX4_written 39 = .ok (.iaload, 1) := by decide +kernel
theorem dX4_written_40 : decode cX4_written 40 = .ok (.goto 8, 3) := by decide +kernel
theorem dX4_written_43 : decode cX4_written 43 = .ok (.aload_n 0, 1) := by decide +kernel
theorem dX4_written_44 : decode cX4_written 44 = .ok (.iconst 1, 1) := by decide +kernel
theorem dX4_written_45 : decode cX4_written 45 = .ok (.invokevirtual 75, 3) := by decide +kernel
theorem dX4_written_48 : decode cX4_written 48 = .ok (.ireturn, 1) := by decide +kernel
theorem dX4_melts_0 : decode cX4_melts 0 = .ok (.iload_n 2, 1) := by decide +kernel
theorem dX4_melts_1 : decode cX4_melts 1 = .ok (.ifCond .le 48, 3) := by decide +kernel
theorem dX4_melts_4 : decode cX4_melts 4 = .ok (.aload_n 0, 1) := by decide +kernel
theorem dX4_melts_5 : decode cX4_melts 5 = .ok (.getfield 19, 3) := by decide +kernel
theorem dX4_melts_8 : decode cX4_melts 8 = .ok (.aload_n 0, 1) := by decide +kernel
theorem dX4_melts_9 : decode cX4_melts 9 = .ok (.getfield 37, 3) := by decide +kernel
theorem dX4_melts_12 : decode cX4_melts 12 = .ok (.bipush 8, 2) := by decide +kernel
theorem dX4_melts_14 : decode cX4_melts 14 = .ok (.iload_n 1, 1) := by decide +kernel
theorem dX4_melts_15 : decode cX4_melts 15 = .ok (.imul, 1) := by decide +kernel
theorem dX4_melts_16 : decode cX4_melts 16 = .ok (.iload_n 2, 1) := by decide +kernel
theorem dX4_melts_17 : decode cX4_melts 17 = .ok (.iadd, 1) := by decide +kernel
theorem dX4_melts_18 : decode cX4_melts 18 = .ok (.iconst 1, 1) := by decide +kernel
theorem dX4_melts_19 : decode cX4_melts 19 = .ok (.isub, 1) := by decide +kernel
theorem dX4_melts_20 : decode cX4_melts 20 = .ok (.iaload, 1) := by decide +kernel
theorem dX4_melts_21 : decode cX4_melts 21 = .ok (.iaload, 1) := by decide +kernel
theorem dX4_melts_22 : decode cX4_melts 22 = .ok (.ifCond .ne 27, 3) := by decide +kernel
theorem dX4_melts_25 : decode cX4_melts 25 = .ok (.aload_n 0, 1) := by decide +kernel
theorem dX4_melts_26 : decode cX4_melts 26 = .ok (.getfield 22, 3) := by decide +kernel
theorem dX4_melts_29 : decode cX4_melts 29 = .ok (.aload_n 0, 1) := by decide +kernel
theorem dX4_melts_30 : decode cX4_melts 30 = .ok (.getfield 37, 3) := by decide +kernel
theorem dX4_melts_33 : decode cX4_melts 33 = .ok (.bipush 8, 2) := by decide +kernel
theorem dX4_melts_35 : decode cX4_melts 35 = .ok (.iload_n 1, 1) := by decide +kernel
theorem dX4_melts_36 : decode cX4_melts 36 = .ok (.imul, 1) := by decide +kernel
theorem dX4_melts_37 : decode cX4_melts 37 = .ok (.iload_n 2, 1) := by decide +kernel
theorem dX4_melts_38 : decode cX4_melts 38 = .ok (.iadd, 1) := by decide +kernel
theorem dX4_melts_39 : decode cX4_melts 39 = .ok (.iaload, 1) := by decide +kernel
theorem dX4_melts_40 : decode cX4_melts 40 = .ok (.iaload, 1) := by decide +kernel
theorem dX4_melts_41 : decode cX4_melts 41 = .ok (.iconst 1, 1) := by decide +kernel
theorem dX4_melts_42 : decode cX4_melts 42 = .ok (.if_icmp .ne 7, 3) := by decide +kernel
theorem dX4_melts_45 : decode cX4_melts 45 = .ok (.iconst 1, 1) := by decide +kernel
theorem dX4_melts_46 : decode cX4_melts 46 = .ok (.goto 4, 3) := by decide +kernel
theorem dX4_melts_49 : decode cX4_melts 49 = .ok (.iconst 0, 1) := by decide +kernel
theorem dX4_melts_50 : decode cX4_melts 50 = .ok (.ireturn, 1) := by decide +kernel
theorem dX4_putOwn_0 : decode cX4_putOwn 0 = .ok (.iload_n 2, 1) := by decide +kernel
theorem dX4_putOwn_1 : decode cX4_putOwn 1 = .ok (.istore_n 3, 1) := by decide +kernel
theorem dX4_putOwn_2 : decode cX4_putOwn 2 = .ok (.iconst 0, 1) := by decide +kernel
theorem dX4_putOwn_3 : decode cX4_putOwn 3 = .ok (.istore 4, 2) := by decide +kernel
theorem dX4_putOwn_5 : decode cX4_putOwn 5 = .ok (.iload 4, 2) := by decide +kernel
theorem dX4_putOwn_7 : decode cX4_putOwn 7 = .ok (.aload_n 0, 1) := by decide +kernel
theorem dX4_putOwn_8 : decode cX4_putOwn 8 = .ok (.getfield 34, 3) := by decide +kernel
theorem dX4_putOwn_11 : decode cX4_putOwn 11 = .ok (.iload_n 1, 1) := by decide +kernel
theorem dX4_putOwn_12 : decode cX4_putOwn 12 = .ok (.iaload, 1) := by decide +kernel
theorem dX4_putOwn_13 : decode cX4_putOwn 13 = .ok (.if_icmp .ge 102, 3) := by decide +kernel
theorem dX4_putOwn_16 : decode cX4_putOwn 16 = .ok (.aload_n 0, 1) := by decide +kernel
theorem dX4_putOwn_17 : decode cX4_putOwn 17 = .ok (.getfield 37, 3) := by decide +kernel
theorem dX4_putOwn_20 : decode cX4_putOwn 20 = .ok (.bipush 8, 2) := by decide +kernel
theorem dX4_putOwn_22 : decode cX4_putOwn 22 = .ok (.iload_n 1, 1) := by decide +kernel
theorem dX4_putOwn_23 : decode cX4_putOwn 23 = .ok (.imul, 1) := by decide +kernel
theorem dX4_putOwn_24 : decode cX4_putOwn 24 = .ok (.iload 4, 2) := by decide +kernel
theorem dX4_putOwn_26 : decode cX4_putOwn 26 = .ok (.iadd, 1) := by decide +kernel
theorem dX4_putOwn_27 : decode cX4_putOwn 27 = .ok (.iaload, 1) := by decide +kernel
theorem dX4_putOwn_28 : decode cX4_putOwn 28 = .ok (.istore 5, 2) := by decide +kernel
theorem dX4_putOwn_30 : decode cX4_putOwn 30 = .ok (.iconst 0, 1) := by decide +kernel
theorem dX4_putOwn_31 : decode cX4_putOwn 31 = .ok (.istore 6, 2) := by decide +kernel
theorem dX4_putOwn_33 : decode cX4_putOwn 33 = .ok (.aload_n 0, 1) := by decide +kernel
theorem dX4_putOwn_34 : decode cX4_putOwn 34 = .ok (.iload_n 1, 1) := by decide +kernel
theorem dX4_putOwn_35 : decode cX4_putOwn 35 = .ok (.iload 4, 2) := by decide +kernel
theorem dX4_putOwn_37 : decode cX4_putOwn 37 = .ok (.invokevirtual 90, 3) := by decide +kernel
theorem dX4_putOwn_40 : decode cX4_putOwn 40 = .ok (.ifCond .eq 26, 3) := by decide +kernel
theorem dX4_putOwn_43 : decode cX4_putOwn 43 = .ok (.aload_n 0, 1) := by decide +kernel
theorem dX4_putOwn_44 : decode cX4_putOwn 44 = .ok (.getfield 58, 3) := by decide +kernel
theorem dX4_putOwn_47 : decode cX4_putOwn 47 = .ok (.iload_n 3, 1) := by decide +kernel
theorem dX4_putOwn_48 : decode cX4_putOwn 48 = .ok (.iconst 1, 1) := by decide +kernel
theorem dX4_putOwn_49 : decode cX4_putOwn 49 = .ok (.isub, 1) := by decide +kernel
theorem dX4_putOwn_50 : decode cX4_putOwn 50 = .ok (.dup2, 1) := by decide +kernel
theorem dX4_putOwn_51 : decode cX4_putOwn 51 = .ok (.iaload, 1) := by decide +kernel
theorem dX4_putOwn_52 : decode cX4_putOwn 52 = .ok (.aload_n 0, 1) := by decide +kernel
theorem dX4_putOwn_53 : decode cX4_putOwn 53 = .ok (.getfield 13, 3) := by decide +kernel
theorem dX4_putOwn_56 : decode cX4_putOwn 56 = .ok (.iload 5, 2) := by decide +kernel
theorem dX4_putOwn_58 : decode cX4_putOwn 58 = .ok (.iaload, 1) := by decide +kernel
theorem dX4_putOwn_59 : decode cX4_putOwn 59 = .ok (.iconst 1, 1) := by decide +kernel
theorem dX4_putOwn_60 : decode cX4_putOwn 60 = .ok (.iand, 1) := by decide +kernel
theorem dX4_putOwn_61 : decode cX4_putOwn 61 = .ok (.ior, 1) := by decide +kernel
theorem dX4_putOwn_62 : decode cX4_putOwn 62 = .ok (.iastore, 1) := by decide +kernel
theorem dX4_putOwn_63 : decode cX4_putOwn 63 = .ok (.iconst 1, 1) := by decide +kernel
theorem dX4_putOwn_64 : decode cX4_putOwn 64 = .ok (.istore 6, 2) := by decide +kernel
theorem dX4_putOwn_66 : decode cX4_putOwn 66 = .ok (.iload 6, 2) := by decide +kernel
theorem dX4_putOwn_68 : decode cX4_putOwn 68 = .ok (.istore 7, 2) := by decide +kernel
theorem dX4_putOwn_70 : decode cX4_putOwn 70 = .ok (.iload 7, 2) := by decide +kernel
theorem dX4_putOwn_72 : decode cX4_putOwn 72 = .ok (.aload_n 0, 1) := by decide +kernel
theorem dX4_putOwn_73 : decode cX4_putOwn 73 = .ok (.getfield 9, 3) := by decide +kernel
theorem dX4_putOwn_76 : decode cX4_putOwn 76 = .ok (.iload 5, 2) := by decide +kernel
theorem dX4_putOwn_78 : decode cX4_putOwn 78 = .ok (.iaload, 1) := by decide +kernel
theorem dX4_putOwn_79 : decode cX4_putOwn 79 = .ok (.if_icmp .ge 30, 3) := by decide +kernel
theorem dX4_putOwn_82 : decode cX4_putOwn 82 = .ok (.aload_n 0, 1) := by decide +kernel
theorem dX4_putOwn_83 : decode cX4_putOwn 83 = .ok (.getfield 58, 3) := by decide +kernel
theorem dX4_putOwn_86 : decode cX4_putOwn 86 = .ok (.iload_n 3, 1) := by decide +kernel
theorem dX4_putOwn_87 : decode cX4_putOwn 87 = .ok (.aload_n 0, 1) := by decide +kernel
theorem dX4_putOwn_88 : decode cX4_putOwn 88 = .ok (.getfield 13, 3) := by decide +kernel
theorem dX4_putOwn_91 : decode cX4_putOwn 91 = .ok (.iload 5, 2) := by decide +kernel
theorem dX4_putOwn_93 : decode cX4_putOwn 93 = .ok (.iaload, 1) := by decide +kernel
theorem dX4_putOwn_94 : decode cX4_putOwn 94 = .ok (.iload 7, 2) := by decide +kernel
theorem dX4_putOwn_96 : decode cX4_putOwn 96 = .ok (.ishr, 1) := by decide +kernel
theorem dX4_putOwn_97 : decode cX4_putOwn 97 = .ok (.iconst 1, 1) := by decide +kernel
theorem dX4_putOwn_98 : decode cX4_putOwn 98 = .ok (.iand, 1) := by decide +kernel
theorem dX4_putOwn_99 : decode cX4_putOwn 99 = .ok (.iastore, 1) := by decide +kernel
theorem dX4_putOwn_100 : decode cX4_putOwn 100 = .ok (.iinc 3 1, 3) := by decide +kernel
theorem dX4_putOwn_103 : decode cX4_putOwn 103 = .ok (.iinc 7 1, 3) := by decide +kernel
theorem dX4_putOwn_106 : decode cX4_putOwn 106 = .ok (.goto (-36), 3) := by decide +kernel
theorem dX4_putOwn_109 : decode cX4_putOwn 109 = .ok (.iinc 4 1, 3) := by decide +kernel
theorem dX4_putOwn_112 : decode cX4_putOwn 112 = .ok (.goto (-107), 3) := by decide +kernel
theorem dX4_putOwn_115 : decode cX4_putOwn 115 = .ok (.iload_n 3, 1) := by decide +kernel
theorem dX4_putOwn_116 : decode cX4_putOwn 116 = .ok (.ireturn, 1) := by decide +kernel
theorem dX4_beat_0 : decode cX4_beat 0 = .ok (.iload_n 1, 1) := by decide +kernel
theorem dX4_beat_1 : decode cX4_beat 1 = .ok (.getstatic 94, 3) := by decide +kernel
theorem dX4_beat_4 : decode cX4_beat 4 = .ok (.iload_n 0, 1) := by decide +kernel
theorem dX4_beat_5 : decode cX4_beat 5 = .ok (.iaload, 1) := by decide +kernel
theorem dX4_beat_6 : decode cX4_beat 6 = .ok (.irem, 1) := by decide +kernel
theorem dX4_beat_7 : decode cX4_beat 7 = .ok (.getstatic 97, 3) := by decide +kernel
theorem dX4_beat_10 : decode cX4_beat 10 = .ok (.iload_n 0, 1) := by decide +kernel
theorem dX4_beat_11 : decode cX4_beat 11 = .ok (.iaload, 1) := by decide +kernel
theorem dX4_beat_12 : decode cX4_beat 12 = .ok (.if_icmp .ne 7, 3) := by decide +kernel
theorem dX4_beat_15 : decode cX4_beat 15 = .ok (.iconst 1, 1) := by decide +kernel
theorem dX4_beat_16 : decode cX4_beat 16 = .ok (.goto 4, 3) := by decide +kernel
theorem dX4_beat_19 : decode cX4_beat 19 = .ok (.iconst 0, 1) := by decide +kernel
theorem dX4_beat_20 : decode cX4_beat 20 = .ok (.ireturn, 1) := by decide +kernel
theorem dX4_room_0 : decode cX4_room 0 = .ok (.aload_n 0, 1) := by decide +kernel
theorem dX4_room_1 : decode cX4_room 1 = .ok (.getfield 28, 3) := by decide +kernel
theorem dX4_room_4 : decode cX4_room 4 = .ok (.iload_n 1, 1) := by decide +kernel
theorem dX4_room_5 : decode cX4_room 5 = .ok (.iaload, 1) := by decide +kernel
theorem dX4_room_6 : decode cX4_room 6 = .ok (.getstatic 94, 3) := by decide +kernel
theorem dX4_room_9 : decode cX4_room 9 = .ok (.aload_n 0, 1) := by decide +kernel
theorem dX4_room_10 : decode cX4_room 10 = .ok (.getfield 25, 3) := by decide +kernel
theorem dX4_room_13 : decode cX4_room 13 = .ok (.iload_n 1, 1) := by decide +kernel
theorem dX4_room_14 : decode cX4_room 14 = .ok (.iaload, 1) := by decide +kernel
theorem dX4_room_15 : decode cX4_room 15 = .ok (.iaload, 1) := by decide +kernel
theorem dX4_room_16 : decode cX4_room 16 = .ok (.imul, 1) := by decide +kernel
theorem dX4_room_17 : decode cX4_room 17 = .ok (.ireturn, 1) := by decide +kernel
theorem dX4_lacks_0 : decode cX4_lacks 0 = .ok (.aload_n 0, 1) := by decide +kernel
theorem dX4_lacks_1 : decode cX4_lacks 1 = .ok (.iload_n 1, 1) := by decide +kernel
theorem dX4_lacks_2 : decode cX4_lacks 2 = .ok (.invokevirtual 100, 3) := by decide +kernel
theorem dX4_lacks_5 : decode cX4_lacks 5 = .ok (.aload_n 0, 1) := by decide +kernel
theorem dX4_lacks_6 : decode cX4_lacks 6 = .ok (.getfield 46, 3) := by decide +kernel
theorem dX4_lacks_9 : decode cX4_lacks 9 = .ok (.iload_n 1, 1) := by decide +kernel
theorem dX4_lacks_10 : decode cX4_lacks 10 = .ok (.iaload, 1) := by decide +kernel
theorem dX4_lacks_11 : decode cX4_lacks 11 = .ok (.isub, 1) := by decide +kernel
theorem dX4_lacks_12 : decode cX4_lacks 12 = .ok (.ireturn, 1) := by decide +kernel
theorem dX4_last_0 : decode cX4_last 0 = .ok (.aload_n 0, 1) := by decide +kernel
theorem dX4_last_1 : decode cX4_last 1 = .ok (.getfield 37, 3) := by decide +kernel
theorem dX4_last_4 : decode cX4_last 4 = .ok (.bipush 8, 2) := by decide +kernel
theorem dX4_last_6 : decode cX4_last 6 = .ok (.iload_n 1, 1) := by decide +kernel
theorem dX4_last_7 : decode cX4_last 7 = .ok (.imul, 1) := by decide +kernel
theorem dX4_last_8 : decode cX4_last 8 = .ok (.aload_n 0, 1) := by decide +kernel
theorem dX4_last_9 : decode cX4_last 9 = .ok (.getfield 34, 3) := by decide +kernel
theorem dX4_last_12 : decode cX4_last 12 = .ok (.iload_n 1, 1) := by decide +kernel
theorem dX4_last_13 : decode cX4_last 13 = .ok (.iaload, 1) := by decide +kernel
theorem dX4_last_14 : decode cX4_last 14 = .ok (.iadd, 1) := by decide +kernel
theorem dX4_last_15 : decode cX4_last 15 = .ok (.iconst 1, 1) := by decide +kernel
theorem dX4_last_16 : decode cX4_last 16 = .ok (.isub, 1) := by decide +kernel
theorem dX4_last_17 : decode cX4_last 17 = .ok (.iaload, 1) := by decide +kernel
theorem dX4_last_18 : decode cX4_last 18 = .ok (.ireturn, 1) := by decide +kernel
theorem dX4_lastStress_0 : decode cX4_lastStress 0 = .ok (.iload_n 1, 1) := by decide +kernel
theorem dX4_lastStress_1 : decode cX4_lastStress 1 = .ok (.iload_n 0, 1) := by decide +kernel
theorem dX4_lastStress_2 : decode cX4_lastStress 2 = .ok (.iconst 1, 1) := by decide +kernel
theorem dX4_lastStress_3 : decode cX4_lastStress 3 = .ok (.isub, 1) := by decide +kernel
theorem dX4_lastStress_4 : decode cX4_lastStress 4 = .ok (.ishr, 1) := by decide +kernel
theorem dX4_lastStress_5 : decode cX4_lastStress 5 = .ok (.iconst 1, 1) := by decide +kernel
theorem dX4_lastStress_6 : decode cX4_lastStress 6 = .ok (.iand, 1) := by decide +kernel
theorem dX4_lastStress_7 : decode cX4_lastStress 7 = .ok (.ireturn, 1) := by decide +kernel
theorem dX4_rhymeOf_0 : decode cX4_rhymeOf 0 = .ok (.aload_n 0, 1) := by decide +kernel
theorem dX4_rhymeOf_1 : decode cX4_rhymeOf 1 = .ok (.getfield 34, 3) := by decide +kernel
theorem dX4_rhymeOf_4 : decode cX4_rhymeOf 4 = .ok (.iload_n 1, 1) := by decide +kernel
theorem dX4_rhymeOf_5 : decode cX4_rhymeOf 5 = .ok (.iaload, 1) := by decide +kernel
theorem dX4_rhymeOf_6 : decode cX4_rhymeOf 6 = .ok (.ifCond .eq 12, 3) := by decide +kernel
theorem dX4_rhymeOf_9 : decode cX4_rhymeOf 9 = .ok (.aload_n 0, 1) := by decide +kernel
theorem dX4_rhymeOf_10 : decode cX4_rhymeOf 10 = .ok (.getfield 34, 3) := by decide +kernel
theorem dX4_rhymeOf_13 : decode cX4_rhymeOf 13 = .ok (.iload_n 2, 1) := by decide +kernel
theorem dX4_rhymeOf_14 : decode cX4_rhymeOf 14 = .ok (.iaload, 1) := by decide +kernel
theorem dX4_rhymeOf_15 : decode cX4_rhymeOf 15 = .ok (.ifCond .ne 5, 3) := by decide +kernel
theorem dX4_rhymeOf_18 : decode cX4_rhymeOf 18 = .ok (.iconst 0, 1) := by decide +kernel
theorem dX4_rhymeOf_19 : decode cX4_rhymeOf 19 = .ok (.ireturn, 1) := by decide +kernel
theorem dX4_rhymeOf_20 : decode cX4_rhymeOf 20 = .ok (.aload_n 0, 1) := by decide +kernel
theorem dX4_rhymeOf_21 : decode cX4_rhymeOf 21 = .ok (.iload_n 1, 1) := by decide +kernel
theorem dX4_rhymeOf_22 : decode cX4_rhymeOf 22 = .ok (.invokevirtual 103, 3) := by decide +kernel
theorem dX4_rhymeOf_25 : decode cX4_rhymeOf 25 = .ok (.istore_n 3, 1) := by decide +kernel
theorem dX4_rhymeOf_26 : decode cX4_rhymeOf 26 = .ok (.aload_n 0, 1) := by decide +kernel
theorem dX4_rhymeOf_27 : decode cX4_rhymeOf 27 = .ok (.iload_n 2, 1) := by decide +kernel
theorem dX4_rhymeOf_28 : decode cX4_rhymeOf 28 = .ok (.invokevirtual 103, 3) := by decide +kernel
theorem dX4_rhymeOf_31 : decode cX4_rhymeOf 31 = .ok (.istore 4, 2) := by decide +kernel
theorem dX4_rhymeOf_33 : decode cX4_rhymeOf 33 = .ok (.iload_n 3, 1) := by decide +kernel
theorem dX4_rhymeOf_34 : decode cX4_rhymeOf 34 = .ok (.iload 4, 2) := by decide +kernel
theorem dX4_rhymeOf_36 : decode cX4_rhymeOf 36 = .ok (.if_icmp .eq 19, 3) := by decide +kernel
theorem dX4_rhymeOf_39 : decode cX4_rhymeOf 39 = .ok (.aload_n 0, 1) := by decide +kernel
theorem dX4_rhymeOf_40 : decode cX4_rhymeOf 40 = .ok (.getfield 16, 3) := by decide +kernel
theorem dX4_rhymeOf_43 : decode cX4_rhymeOf 43 = .ok (.iload_n 3, 1) := by decide +kernel
theorem dX4_rhymeOf_44 : decode cX4_rhymeOf 44 = .ok (.iaload, 1) := by decide +kernel
theorem dX4_rhymeOf_45 : decode cX4_rhymeOf 45 = .ok (.aload_n 0, 1) := by decide +kernel
theorem dX4_rhymeOf_46 : decode cX4_rhymeOf 46 = .ok (.getfield 16, 3) := by decide +kernel
theorem dX4_rhymeOf_49 : decode cX4_rhymeOf 49 = .ok (.iload 4, 2) := by decide +kernel
theorem dX4_rhymeOf_51 : decode cX4_rhymeOf 51 = .ok (.iaload, 1) := by decide +kernel
theorem dX4_rhymeOf_52 : decode cX4_rhymeOf 52 = .ok (.if_icmp .eq 5, 3) := by decide +kernel
theorem dX4_rhymeOf_55 : decode cX4_rhymeOf 55 = .ok (.iconst 0, 1) := by decide +kernel
theorem dX4_rhymeOf_56 : decode cX4_rhymeOf 56 = .ok (.ireturn, 1) := by decide +kernel
theorem dX4_rhymeOf_57 : decode cX4_rhymeOf 57 = .ok (.iconst 1, 1) := by decide +kernel
theorem dX4_rhymeOf_58 : decode cX4_rhymeOf 58 = .ok (.aload_n 0, 1) := by decide +kernel
theorem dX4_rhymeOf_59 : decode cX4_rhymeOf 59 = .ok (.getfield 19, 3) := by decide +kernel
theorem dX4_rhymeOf_62 : decode cX4_rhymeOf 62 = .ok (.iload_n 3, 1) := by decide +kernel
theorem dX4_rhymeOf_63 : decode cX4_rhymeOf 63 = .ok (.iaload, 1) := by decide +kernel
theorem dX4_rhymeOf_64 : decode cX4_rhymeOf 64 = .ok (.aload_n 0, 1) := by decide +kernel
theorem dX4_rhymeOf_65 : decode cX4_rhymeOf 65 = .ok (.getfield 19, 3) := by decide +kernel
theorem dX4_rhymeOf_68 : decode cX4_rhymeOf 68 = .ok (.iload 4, 2) := by decide +kernel
theorem dX4_rhymeOf_70 : decode cX4_rhymeOf 70 = .ok (.iaload, 1) := by decide +kernel
theorem dX4_rhymeOf_71 : decode cX4_rhymeOf 71 = .ok (.if_icmp .ne 7, 3) := by decide +kernel
theorem dX4_rhymeOf_74 : decode cX4_rhymeOf 74 = .ok (.iconst 1, 1) := by decide +kernel
theorem dX4_rhymeOf_75 : decode cX4_rhymeOf 75 = .ok (.goto 4, 3) := by decide +kernel
theorem dX4_rhymeOf_78 : decode cX4_rhymeOf 78 = .ok (.iconst 0, 1) := by decide +kernel
theorem dX4_rhymeOf_79 : decode cX4_rhymeOf 79 = .ok (.iadd, 1) := by decide +kernel
theorem dX4_rhymeOf_80 : decode cX4_rhymeOf 80 = .ok (.aload_n 0, 1) := by decide +kernel
theorem dX4_rhymeOf_81 : decode cX4_rhymeOf 81 = .ok (.getfield 9, 3) := by decide +kernel
theorem dX4_rhymeOf_84 : decode cX4_rhymeOf 84 = .ok (.iload_n 3, 1) := by decide +kernel
theorem dX4_rhymeOf_85 : decode cX4_rhymeOf 85 = .ok (.iaload, 1) := by decide +kernel
theorem dX4_rhymeOf_86 : decode cX4_rhymeOf 86 = .ok (.aload_n 0, 1) := by decide +kernel
theorem dX4_rhymeOf_87 : decode cX4_rhymeOf 87 = .ok (.getfield 13, 3) := by decide +kernel
theorem dX4_rhymeOf_90 : decode cX4_rhymeOf 90 = .ok (.iload_n 3, 1) := by decide +kernel
theorem dX4_rhymeOf_91 : decode cX4_rhymeOf 91 = .ok (.iaload, 1) := by decide +kernel
theorem dX4_rhymeOf_92 : decode cX4_rhymeOf 92 = .ok (.invokestatic 106, 3) := by decide +kernel
theorem dX4_rhymeOf_95 : decode cX4_rhymeOf 95 = .ok (.aload_n 0, 1) := by decide +kernel
theorem dX4_rhymeOf_96 : decode cX4_rhymeOf 96 = .ok (.getfield 9, 3) := by decide +kernel
theorem dX4_rhymeOf_99 : decode cX4_rhymeOf 99 = .ok (.iload 4, 2) := by decide +kernel
theorem dX4_rhymeOf_101 : decode cX4_rhymeOf 101 = .ok (.iaload, 1) := by decide +kernel
theorem dX4_rhymeOf_102 : decode cX4_rhymeOf 102 = .ok (.aload_n 0, 1) := by decide +kernel
theorem dX4_rhymeOf_103 : decode cX4_rhymeOf 103 = .ok (.getfield 13, 3) := by decide +kernel
theorem dX4_rhymeOf_106 : decode cX4_rhymeOf 106 = .ok (.iload 4, 2) := by decide +kernel
theorem dX4_rhymeOf_108 : decode cX4_rhymeOf 108 = .ok (.iaload, 1) := by decide +kernel
theorem dX4_rhymeOf_109 : decode cX4_rhymeOf 109 = .ok (.invokestatic 106, 3) := by decide +kernel
theorem dX4_rhymeOf_112 : decode cX4_rhymeOf 112 = .ok (.if_icmp .ne 7, 3) := by decide +kernel
theorem dX4_rhymeOf_115 : decode cX4_rhymeOf 115 = .ok (.iconst 1, 1) := by decide +kernel
theorem dX4_rhymeOf_116 : decode cX4_rhymeOf 116 = .ok (.goto 4, 3) := by decide +kernel
theorem dX4_rhymeOf_119 : decode cX4_rhymeOf 119 = .ok (.iconst 0, 1) := by decide +kernel
theorem dX4_rhymeOf_120 : decode cX4_rhymeOf 120 = .ok (.iadd, 1) := by decide +kernel
theorem dX4_rhymeOf_121 : decode cX4_rhymeOf 121 = .ok (.ireturn, 1) := by decide +kernel
theorem dX4_rhymeAhead_0 : decode cX4_rhymeAhead 0 = .ok (.iload_n 1, 1) := by decide +kernel
theorem dX4_rhymeAhead_1 : decode cX4_rhymeAhead 1 = .ok (.iconst 1, 1) := by decide +kernel
theorem dX4_rhymeAhead_2 : decode cX4_rhymeAhead 2 = .ok (.isub, 1) := by decide +kernel
theorem dX4_rhymeAhead_3 : decode cX4_rhymeAhead 3 = .ok (.istore_n 2, 1) := by decide +kernel
theorem dX4_rhymeAhead_4 : decode cX4_rhymeAhead 4 = .ok (.iload_n 2, 1) := by decide +kernel
theorem dX4_rhymeAhead_5 : decode cX4_rhymeAhead 5 = .ok (.ifCond .lt 31, 3) := by decide +kernel
theorem dX4_rhymeAhead_8 : decode cX4_rhymeAhead 8 = .ok (.aload_n 0, 1) := by decide +kernel
theorem dX4_rhymeAhead_9 : decode cX4_rhymeAhead 9 = .ok (.getfield 31, 3) := by decide +kernel
theorem dX4_rhymeAhead_12 : decode cX4_rhymeAhead 12 = .ok (.iload_n 2, 1) := by decide +kernel
theorem dX4_rhymeAhead_13 : decode cX4_rhymeAhead 13 = .ok (.iaload, 1) := by decide +kernel
theorem dX4_rhymeAhead_14 : decode cX4_rhymeAhead 14 = .ok (.aload_n 0, 1) := by decide +kernel
theorem dX4_rhymeAhead_15 : decode cX4_rhymeAhead 15 = .ok (.getfield 31, 3) := by decide +kernel
theorem dX4_rhymeAhead_18 : decode cX4_rhymeAhead 18 = .ok (.iload_n 1, 1) := by decide +kernel
theorem dX4_rhymeAhead_19 : decode cX4_rhymeAhead 19 = .ok (.iaload, 1) := by decide +kernel
theorem dX4_rhymeAhead_20 : decode cX4_rhymeAhead 20 = .ok (.if_icmp .ne 10, 3) := by decide +kernel
theorem dX4_rhymeAhead_23 : decode cX4_rhymeAhead 23 = .ok (.aload_n 0, 1) := by decide +kernel
theorem dX4_rhymeAhead_24 : decode cX4_rhymeAhead 24 = .ok (.iload_n 1, 1) := by decide +kernel
theorem dX4_rhymeAhead_25 : decode cX4_rhymeAhead 25 = .ok (.iload_n 2, 1) := by decide +kernel
theorem dX4_rhymeAhead_26 : decode cX4_rhymeAhead 26 = .ok (.invokevirtual 109, 3) := by decide +kernel
theorem dX4_rhymeAhead_29 : decode cX4_rhymeAhead 29 = .ok (.ireturn, 1) := by decide +kernel
theorem dX4_rhymeAhead_30 : decode cX4_rhymeAhead 30 = .ok (.iinc 2 (-1), 3) := by decide +kernel
theorem dX4_rhymeAhead_33 : decode cX4_rhymeAhead 33 = .ok (.goto (-29), 3) := by decide +kernel
theorem dX4_rhymeAhead_36 : decode cX4_rhymeAhead 36 = .ok (.iconst 0, 1) := by decide +kernel
theorem dX4_rhymeAhead_37 : decode cX4_rhymeAhead 37 = .ok (.ireturn, 1) := by decide +kernel
theorem dX4_scan_0 : decode cX4_scan 0 = .ok (.iconst 0, 1) := by decide +kernel
theorem dX4_scan_1 : decode cX4_scan 1 = .ok (.istore_n 1, 1) := by decide +kernel
theorem dX4_scan_2 : decode cX4_scan 2 = .ok (.iconst 0, 1) := by decide +kernel
theorem dX4_scan_3 : decode cX4_scan 3 = .ok (.istore_n 2, 1) := by decide +kernel
theorem dX4_scan_4 : decode cX4_scan 4 = .ok (.iconst 0, 1) := by decide +kernel
theorem dX4_scan_5 : decode cX4_scan 5 = .ok (.istore_n 3, 1) := by decide +kernel
theorem dX4_scan_6 : decode cX4_scan 6 = .ok (.iload_n 3, 1) := by decide +kernel
theorem dX4_scan_7 : decode cX4_scan 7 = .ok (.aload_n 0, 1) := by decide +kernel
theorem dX4_scan_8 : decode cX4_scan 8 = .ok (.getfield 72, 3) := by decide +kernel
theorem dX4_scan_11 : decode cX4_scan 11 = .ok (.if_icmp .ge 245, 3) := by decide +kernel
theorem dX4_scan_14 : decode cX4_scan 14 = .ok (.aload_n 0, 1) := by decide +kernel
theorem dX4_scan_15 : decode cX4_scan 15 = .ok (.getfield 43, 3) := by decide +kernel
theorem dX4_scan_18 : decode cX4_scan 18 = .ok (.iload_n 3, 1) := by decide +kernel
theorem dX4_scan_19 : decode cX4_scan 19 = .ok (.iload_n 1, 1) := by decide +kernel
theorem dX4_scan_20 : decode cX4_scan 20 = .ok (.iastore, 1) := by decide +kernel
theorem dX4_scan_21 : decode cX4_scan 21 = .ok (.aload_n 0, 1) := by decide +kernel
theorem dX4_scan_22 : decode cX4_scan 22 = .ok (.iload_n 3, 1) := by decide +kernel
theorem dX4_scan_23 : decode cX4_scan 23 = .ok (.iload_n 1, 1) := by decide +kernel
theorem dX4_scan_24 : decode cX4_scan 24 = .ok (.invokevirtual 112, 3) := by decide +kernel
theorem dX4_scan_27 : decode cX4_scan 27 = .ok (.istore_n 1, 1) := by decide +kernel
theorem dX4_scan_28 : decode cX4_scan 28 = .ok (.aload_n 0, 1) := by decide +kernel
theorem dX4_scan_29 : decode cX4_scan 29 = .ok (.getfield 40, 3) := by decide +kernel
theorem dX4_scan_32 : decode cX4_scan 32 = .ok (.iload_n 3, 1) := by decide +kernel
theorem dX4_scan_33 : decode cX4_scan 33 = .ok (.iload_n 1, 1) := by decide +kernel
theorem dX4_scan_34 : decode cX4_scan 34 = .ok (.aload_n 0, 1) := by decide +kernel
theorem dX4_scan_35 : decode cX4_scan 35 = .ok (.getfield 43, 3) := by decide +kernel
theorem dX4_scan_38 : decode cX4_scan 38 = .ok (.iload_n 3, 1) := by decide +kernel
theorem dX4_scan_39 : decode cX4_scan 39 = .ok (.iaload, 1) := by decide +kernel
theorem dX4_scan_40 : decode cX4_scan 40 = .ok (.isub, 1) := by decide +kernel
theorem dX4_scan_41 : decode cX4_scan 41 = .ok (.iastore, 1) := by decide +kernel
theorem dX4_scan_42 : decode cX4_scan 42 = .ok (.aload_n 0, 1) := by decide +kernel
theorem dX4_scan_43 : decode cX4_scan 43 = .ok (.getfield 46, 3) := by decide +kernel
theorem dX4_scan_46 : decode cX4_scan 46 = .ok (.iload_n 3, 1) := by decide +kernel
theorem dX4_scan_47 : decode cX4_scan 47 = .ok (.aload_n 0, 1) := by decide +kernel
theorem dX4_scan_48 : decode cX4_scan 48 = .ok (.iload_n 3, 1) := by decide +kernel
theorem dX4_scan_49 : decode cX4_scan 49 = .ok (.invokevirtual 100, 3) := by decide +kernel
theorem dX4_scan_52 : decode cX4_scan 52 = .ok (.iload_n 1, 1) := by decide +kernel
theorem dX4_scan_53 : decode cX4_scan 53 = .ok (.invokestatic 115, 3) := by decide +kernel
theorem dX4_scan_56 : decode cX4_scan 56 = .ok (.iastore, 1) := by decide +kernel
theorem dX4_scan_57 : decode cX4_scan 57 = .ok (.aload_n 0, 1) := by decide +kernel
theorem dX4_scan_58 : decode cX4_scan 58 = .ok (.getfield 49, 3) := by decide +kernel
theorem dX4_scan_61 : decode cX4_scan 61 = .ok (.iload_n 3, 1) := by decide +kernel
theorem dX4_scan_62 : decode cX4_scan 62 = .ok (.iconst 0, 1) := by decide +kernel
theorem dX4_scan_63 : decode cX4_scan 63 = .ok (.iastore, 1) := by decide +kernel
theorem dX4_scan_64 : decode cX4_scan 64 = .ok (.aload_n 0, 1) := by decide +kernel
theorem dX4_scan_65 : decode cX4_scan 65 = .ok (.getfield 52, 3) := by decide +kernel
theorem dX4_scan_68 : decode cX4_scan 68 = .ok (.iload_n 3, 1) := by decide +kernel
theorem dX4_scan_69 : decode cX4_scan 69 = .ok (.iconst 0, 1) := by decide +kernel
theorem dX4_scan_70 : decode cX4_scan 70 = .ok (.iastore, 1) := by decide +kernel
theorem dX4_scan_71 : decode cX4_scan 71 = .ok (.iconst 0, 1) := by decide +kernel
theorem dX4_scan_72 : decode cX4_scan 72 = .ok (.istore 4, 2) := by decide +kernel
theorem dX4_scan_74 : decode cX4_scan 74 = .ok (.iload 4, 2) := by decide +kernel
theorem dX4_scan_76 : decode cX4_scan 76 = .ok (.aload_n 0, 1) := by decide +kernel
theorem dX4_scan_77 : decode cX4_scan 77 = .ok (.getfield 46, 3) := by decide +kernel
theorem dX4_scan_80 : decode cX4_scan 80 = .ok (.iload_n 3, 1) := by decide +kernel
theorem dX4_scan_81 : decode cX4_scan 81 = .ok (.iaload, 1) := by decide +kernel
theorem dX4_scan_82 : decode cX4_scan 82 = .ok (.if_icmp .ge 63, 3) := by decide +kernel
theorem dX4_scan_85 : decode cX4_scan 85 = .ok (.aload_n 0, 1) := by decide +kernel
theorem dX4_scan_86 : decode cX4_scan 86 = .ok (.getfield 49, 3) := by decide +kernel
theorem dX4_scan_89 : decode cX4_scan 89 = .ok (.iload_n 3, 1) := by decide +kernel
theorem dX4_scan_90 : decode cX4_scan 90 = .ok (.dup2, 1) := by decide +kernel
theorem dX4_scan_91 : decode cX4_scan 91 = .ok (.iaload, 1) := by decide +kernel
theorem dX4_scan_92 : decode cX4_scan 92 = .ok (.aload_n 0, 1) := by decide +kernel
theorem dX4_scan_93 : decode cX4_scan 93 = .ok (.getfield 58, 3) := by decide +kernel
theorem dX4_scan_96 : decode cX4_scan 96 = .ok (.iload 4, 2) := by decide +kernel
theorem dX4_scan_98 : decode cX4_scan 98 = .ok (.iaload, 1) := by decide +kernel
theorem dX4_scan_99 : decode cX4_scan 99 = .ok (.iload 4, 2) := by decide +kernel
theorem dX4_scan_101 : decode cX4_scan 101 = .ok (.ishl, 1) := by decide +kernel
theorem dX4_scan_102 : decode cX4_scan 102 = .ok (.ior, 1) := by decide +kernel
theorem dX4_scan_103 : decode cX4_scan 103 = .ok (.iastore, 1) := by decide +kernel
theorem dX4_scan_104 : decode cX4_scan 104 = .ok (.aload_n 0, 1) := by decide +kernel
theorem dX4_scan_105 : decode cX4_scan 105 = .ok (.getfield 52, 3) := by decide +kernel
theorem dX4_scan_108 : decode cX4_scan 108 = .ok (.iload_n 3, 1) := by decide +kernel
theorem dX4_scan_109 : decode cX4_scan 109 = .ok (.dup2, 1) := by decide +kernel
theorem dX4_scan_110 : decode cX4_scan 110 = .ok (.iaload, 1) := by decide +kernel
theorem dX4_scan_111 : decode cX4_scan 111 = .ok (.aload_n 0, 1) := by decide +kernel
theorem dX4_scan_112 : decode cX4_scan 112 = .ok (.getfield 58, 3) := by decide +kernel
theorem dX4_scan_115 : decode cX4_scan 115 = .ok (.iload 4, 2) := by decide +kernel
theorem dX4_scan_117 : decode cX4_scan 117 = .ok (.iaload, 1) := by decide +kernel
theorem dX4_scan_118 : decode cX4_scan 118 = .ok (.aload_n 0, 1) := by decide +kernel
theorem dX4_scan_119 : decode cX4_scan 119 = .ok (.getfield 25, 3) := by decide +kernel
theorem dX4_scan_122 : decode cX4_scan 122 = .ok (.iload_n 3, 1) := by decide +kernel
theorem dX4_scan_123 : decode cX4_scan 123 = .ok (.iaload, 1) := by decide +kernel
theorem dX4_scan_124 : decode cX4_scan 124 = .ok (.iload 4, 2) := by decide +kernel
theorem dX4_scan_126 : decode cX4_scan 126 = .ok (.invokestatic 120, 3) := by decide +kernel
theorem dX4_scan_129 : decode cX4_scan 129 = .ok (.if_icmp .ne 7, 3) := by decide +kernel
theorem dX4_scan_132 : decode cX4_scan 132 = .ok (.iconst 0, 1) := by decide +kernel
theorem dX4_scan_133 : decode cX4_scan 133 = .ok (.goto 4, 3) := by decide +kernel
theorem dX4_scan_136 : decode cX4_scan 136 = .ok (.iconst 1, 1) := by decide +kernel
theorem dX4_scan_137 : decode cX4_scan 137 = .ok (.iadd, 1) := by decide +kernel
theorem dX4_scan_138 : decode cX4_scan 138 = .ok (.iastore, 1) := by decide +kernel
theorem dX4_scan_139 : decode cX4_scan 139 = .ok (.iinc 4 1, 3) := by decide +kernel
theorem dX4_scan_142 : decode cX4_scan 142 = .ok (.goto (-68), 3) := by decide +kernel
theorem dX4_scan_145 : decode cX4_scan 145 = .ok (.iload_n 1, 1) := by decide +kernel
theorem dX4_scan_146 : decode cX4_scan 146 = .ok (.aload_n 0, 1) := by decide +kernel
theorem dX4_scan_147 : decode cX4_scan 147 = .ok (.getfield 46, 3) := by decide +kernel
theorem dX4_scan_150 : decode cX4_scan 150 = .ok (.iload_n 3, 1) := by decide +kernel
theorem dX4_scan_151 : decode cX4_scan 151 = .ok (.iaload, 1) := by decide +kernel
theorem dX4_scan_152 : decode cX4_scan 152 = .ok (.isub, 1) := by decide +kernel
theorem dX4_scan_153 : decode cX4_scan 153 = .ok (.istore_n 1, 1) := by decide +kernel
theorem dX4_scan_154 : decode cX4_scan 154 = .ok (.aload_n 0, 1) := by decide +kernel
theorem dX4_scan_155 : decode cX4_scan 155 = .ok (.getfield 58, 3) := by decide +kernel
theorem dX4_scan_158 : decode cX4_scan 158 = .ok (.aload_n 0, 1) := by decide +kernel
theorem dX4_scan_159 : decode cX4_scan 159 = .ok (.getfield 46, 3) := by decide +kernel
theorem dX4_scan_162 : decode cX4_scan 162 = .ok (.iload_n 3, 1) := by decide +kernel
theorem dX4_scan_163 : decode cX4_scan 163 = .ok (.iaload, 1) := by decide +kernel
theorem dX4_scan_164 : decode cX4_scan 164 = .ok (.aload_n 0, 1) := by decide +kernel
theorem dX4_scan_165 : decode cX4_scan 165 = .ok (.getfield 58, 3) := by decide +kernel
theorem dX4_scan_168 : decode cX4_scan 168 = .ok (.iconst 0, 1) := by decide +kernel
theorem dX4_scan_169 : decode cX4_scan 169 = .ok (.iload_n 1, 1) := by decide +kernel
theorem dX4_scan_170 : decode cX4_scan 170 = .ok (.invokestatic 123, 3) := by decide +kernel
theorem dX4_scan_173 : decode cX4_scan 173 = .ok (.iconst 2, 1) := by decide +kernel
theorem dX4_scan_174 : decode cX4_scan 174 = .ok (.aload_n 0, 1) := by decide +kernel
theorem dX4_scan_175 : decode cX4_scan 175 = .ok (.getfield 49, 3) := by decide +kernel
theorem dX4_scan_178 : decode cX4_scan 178 = .ok (.iload_n 3, 1) := by decide +kernel
theorem dX4_scan_179 : decode cX4_scan 179 = .ok (.iaload, 1) := by decide +kernel
theorem dX4_scan_180 : decode cX4_scan 180 = .ok (.invokestatic 129, 3) := by decide +kernel
theorem dX4_scan_183 : decode cX4_scan 183 = .ok (.imul, 1) := by decide +kernel
theorem dX4_scan_184 : decode cX4_scan 184 = .ok (.iconst 3, 1) := by decide +kernel
theorem dX4_scan_185 : decode cX4_scan 185 = .ok (.aload_n 0, 1) := by decide +kernel
theorem dX4_scan_186 : decode cX4_scan 186 = .ok (.getfield 52, 3) := by decide +kernel
theorem dX4_scan_189 : decode cX4_scan 189 = .ok (.iload_n 3, 1) := by decide +kernel
theorem dX4_scan_190 : decode cX4_scan 190 = .ok (.iaload, 1) := by decide +kernel
theorem dX4_scan_191 : decode cX4_scan 191 = .ok (.imul, 1) := by decide +kernel
theorem dX4_scan_192 : decode cX4_scan 192 = .ok (.iadd, 1) := by decide +kernel
theorem dX4_scan_193 : decode cX4_scan 193 = .ok (.iconst 5, 1) := by decide +kernel
theorem dX4_scan_194 : decode cX4_scan 194 = .ok (.aload_n 0, 1) := by decide +kernel
theorem dX4_scan_195 : decode cX4_scan 195 = .ok (.iload_n 3, 1) := by decide +kernel
theorem dX4_scan_196 : decode cX4_scan 196 = .ok (.invokevirtual 134, 3) := by decide +kernel
theorem dX4_scan_199 : decode cX4_scan 199 = .ok (.imul, 1) := by decide +kernel
theorem dX4_scan_200 : decode cX4_scan 200 = .ok (.iadd, 1) := by decide +kernel
theorem dX4_scan_201 : decode cX4_scan 201 = .ok (.iconst 4, 1) := by decide +kernel
theorem dX4_scan_202 : decode cX4_scan 202 = .ok (.aload_n 0, 1) := by decide +kernel
theorem dX4_scan_203 : decode cX4_scan 203 = .ok (.iload_n 3, 1) := by decide +kernel
theorem dX4_scan_204 : decode cX4_scan 204 = .ok (.invokevirtual 137, 3) := by decide +kernel
theorem dX4_scan_207 : decode cX4_scan 207 = .ok (.imul, 1) := by decide +kernel
theorem dX4_scan_208 : decode cX4_scan 208 = .ok (.isub, 1) := by decide +kernel
theorem dX4_scan_209 : decode cX4_scan 209 = .ok (.istore 4, 2) := by decide +kernel
theorem dX4_scan_211 : decode cX4_scan 211 = .ok (.aload_n 0, 1) := by decide +kernel
theorem dX4_scan_212 : decode cX4_scan 212 = .ok (.getfield 55, 3) := by decide +kernel
theorem dX4_scan_215 : decode cX4_scan 215 = .ok (.iload_n 3, 1) := by decide +kernel
theorem dX4_scan_216 : decode cX4_scan 216 = .ok (.aload_n 0, 1) := by decide +kernel
theorem dX4_scan_217 : decode cX4_scan 217 = .ok (.getfield 34, 3) := by decide +kernel
theorem dX4_scan_220 : decode cX4_scan 220 = .ok (.iload_n 3, 1) := by decide +kernel
theorem dX4_scan_221 : decode cX4_scan 221 = .ok (.iaload, 1) := by decide +kernel
theorem dX4_scan_222 : decode cX4_scan 222 = .ok (.ifCond .ne 12, 3) := by decide +kernel
theorem dX4_scan_225 : decode cX4_scan 225 = .ok (.aload_n 0, 1) := by decide +kernel
theorem dX4_scan_226 : decode cX4_scan 226 = .ok (.getfield 28, 3) := by decide +kernel
theorem dX4_scan_229 : decode cX4_scan 229 = .ok (.iload_n 3, 1) := by decide +kernel
theorem dX4_scan_230 : decode cX4_scan 230 = .ok (.iaload, 1) := by decide +kernel
theorem dX4_scan_231 : decode cX4_scan 231 = .ok (.goto 9, 3) := by decide +kernel
theorem dX4_scan_234 : decode cX4_scan 234 = .ok (.iconst 0, 1) := by decide +kernel
theorem dX4_scan_235 : decode cX4_scan 235 = .ok (.iload 4, 2) := by decide +kernel
theorem dX4_scan_237 : decode cX4_scan 237 = .ok (.invokestatic 140, 3) := by decide +kernel
theorem dX4_scan_240 : decode cX4_scan 240 = .ok (.iastore, 1) := by decide +kernel
theorem dX4_scan_241 : decode cX4_scan 241 = .ok (.iload_n 2, 1) := by decide +kernel
theorem dX4_scan_242 : decode cX4_scan 242 = .ok (.aload_n 0, 1) := by decide +kernel
theorem dX4_scan_243 : decode cX4_scan 243 = .ok (.getfield 55, 3) := by decide +kernel
theorem dX4_scan_246 : decode cX4_scan 246 = .ok (.iload_n 3, 1) := by decide +kernel
theorem dX4_scan_247 : decode cX4_scan 247 = .ok (.iaload, 1) := by decide +kernel
theorem dX4_scan_248 : decode cX4_scan 248 = .ok (.iadd, 1) := by decide +kernel
theorem dX4_scan_249 : decode cX4_scan 249 = .ok (.istore_n 2, 1) := by decide +kernel
theorem dX4_scan_250 : decode cX4_scan 250 = .ok (.iinc 3 1, 3) := by decide +kernel
theorem dX4_scan_253 : decode cX4_scan 253 = .ok (.goto (-247), 3) := by decide +kernel
theorem dX4_scan_256 : decode cX4_scan 256 = .ok (.aload_n 0, 1) := by decide +kernel
theorem dX4_scan_257 : decode cX4_scan 257 = .ok (.iload_n 1, 1) := by decide +kernel
theorem dX4_scan_258 : decode cX4_scan 258 = .ok (.putfield 143, 3) := by decide +kernel
theorem dX4_scan_261 : decode cX4_scan 261 = .ok (.iload_n 2, 1) := by decide +kernel
theorem dX4_scan_262 : decode cX4_scan 262 = .ok (.ireturn, 1) := by decide +kernel
theorem dX4_toldOf_0 : decode cX4_toldOf 0 = .ok (.bipush 12, 2) := by decide +kernel
theorem dX4_toldOf_2 : decode cX4_toldOf 2 = .ok (.newarray .int, 2) := by decide +kernel
theorem dX4_toldOf_4 : decode cX4_toldOf 4 = .ok (.dup, 1) := by decide +kernel
theorem dX4_toldOf_5 : decode cX4_toldOf 5 = .ok (.iconst 0, 1) := by decide +kernel
theorem dX4_toldOf_6 : decode cX4_toldOf 6 = .ok (.aload_n 0, 1) := by decide +kernel
theorem dX4_toldOf_7 : decode cX4_toldOf 7 = .ok (.getfield 25, 3) := by decide +kernel
theorem dX4_toldOf_10 : decode cX4_toldOf 10 = .ok (.iload_n 1, 1) := by decide +kernel
theorem dX4_toldOf_11 : decode cX4_toldOf 11 = .ok (.iaload, 1) := by decide +kernel
theorem dX4_toldOf_12 : decode cX4_toldOf 12 = .ok (.iastore, 1) := by decide +kernel
theorem dX4_toldOf_13 : decode cX4_toldOf 13 = .ok (.dup, 1) := by decide +kernel
theorem dX4_toldOf_14 : decode cX4_toldOf 14 = .ok (.iconst 1, 1) := by decide +kernel
theorem dX4_toldOf_15 : decode cX4_toldOf 15 = .ok (.aload_n 0, 1) := by decide +kernel
theorem dX4_toldOf_16 : decode cX4_toldOf 16 = .ok (.getfield 28, 3) := by decide +kernel
theorem dX4_toldOf_19 : decode cX4_toldOf 19 = .ok (.iload_n 1, 1) := by decide +kernel
theorem dX4_toldOf_20 : decode cX4_toldOf 20 = .ok (.iaload, 1) := by decide +kernel
theorem dX4_toldOf_21 : decode cX4_toldOf 21 = .ok (.iastore, 1) := by decide +kernel
theorem dX4_toldOf_22 : decode cX4_toldOf 22 = .ok (.dup, 1) := by decide +kernel
theorem dX4_toldOf_23 : decode cX4_toldOf 23 = .ok (.iconst 2, 1) := by decide +kernel
theorem dX4_toldOf_24 : decode cX4_toldOf 24 = .ok (.aload_n 0, 1) := by decide +kernel
theorem dX4_toldOf_25 : decode cX4_toldOf 25 = .ok (.getfield 31, 3) := by decide +kernel
theorem dX4_toldOf_28 : decode cX4_toldOf 28 = .ok (.iload_n 1, 1) := by decide +kernel
theorem dX4_toldOf_29 : decode cX4_toldOf 29 = .ok (.iaload, 1) := by decide +kernel
theorem dX4_toldOf_30 : decode cX4_toldOf 30 = .ok (.iastore, 1) := by decide +kernel
theorem dX4_toldOf_31 : decode cX4_toldOf 31 = .ok (.dup, 1) := by decide +kernel
theorem dX4_toldOf_32 : decode cX4_toldOf 32 = .ok (.iconst 3, 1) := by decide +kernel
theorem dX4_toldOf_33 : decode cX4_toldOf 33 = .ok (.aload_n 0, 1) := by decide +kernel
theorem dX4_toldOf_34 : decode cX4_toldOf 34 = .ok (.getfield 34, 3) := by decide +kernel
theorem dX4_toldOf_37 : decode cX4_toldOf 37 = .ok (.iload_n 1, 1) := by decide +kernel
theorem dX4_toldOf_38 : decode cX4_toldOf 38 = .ok (.iaload, 1) := by decide +kernel
theorem dX4_toldOf_39 : decode cX4_toldOf 39 = .ok (.iastore, 1) := by decide +kernel
theorem dX4_toldOf_40 : decode cX4_toldOf 40 = .ok (.dup, 1) := by decide +kernel
theorem dX4_toldOf_41 : decode cX4_toldOf 41 = .ok (.iconst 4, 1) := by decide +kernel
theorem dX4_toldOf_42 : decode cX4_toldOf 42 = .ok (.aload_n 0, 1) := by decide +kernel
theorem dX4_toldOf_43 : decode cX4_toldOf 43 = .ok (.getfield 40, 3) := by decide +kernel
theorem dX4_toldOf_46 : decode cX4_toldOf 46 = .ok (.iload_n 1, 1) := by decide +kernel
theorem dX4_toldOf_47 : decode cX4_toldOf 47 = .ok (.iaload, 1) := by decide +kernel
theorem dX4_toldOf_48 : decode cX4_toldOf 48 = .ok (.iastore, 1) := by decide +kernel
theorem dX4_toldOf_49 : decode cX4_toldOf 49 = .ok (.dup, 1) := by decide +kernel
theorem dX4_toldOf_50 : decode cX4_toldOf 50 = .ok (.iconst 5, 1) := by decide +kernel
theorem dX4_toldOf_51 : decode cX4_toldOf 51 = .ok (.aload_n 0, 1) := by decide +kernel
theorem dX4_toldOf_52 : decode cX4_toldOf 52 = .ok (.getfield 43, 3) := by decide +kernel
theorem dX4_toldOf_55 : decode cX4_toldOf 55 = .ok (.iload_n 1, 1) := by decide +kernel
theorem dX4_toldOf_56 : decode cX4_toldOf 56 = .ok (.iaload, 1) := by decide +kernel
theorem dX4_toldOf_57 : decode cX4_toldOf 57 = .ok (.iastore, 1) := by decide +kernel
theorem dX4_toldOf_58 : decode cX4_toldOf 58 = .ok (.dup, 1) := by decide +kernel
theorem dX4_toldOf_59 : decode cX4_toldOf 59 = .ok (.bipush 6, 2) := by decide +kernel
theorem dX4_toldOf_61 : decode cX4_toldOf 61 = .ok (.aload_n 0, 1) := by decide +kernel
theorem dX4_toldOf_62 : decode cX4_toldOf 62 = .ok (.getfield 46, 3) := by decide +kernel
theorem dX4_toldOf_65 : decode cX4_toldOf 65 = .ok (.iload_n 1, 1) := by decide +kernel
theorem dX4_toldOf_66 : decode cX4_toldOf 66 = .ok (.iaload, 1) := by decide +kernel
theorem dX4_toldOf_67 : decode cX4_toldOf 67 = .ok (.iastore, 1) := by decide +kernel
theorem dX4_toldOf_68 : decode cX4_toldOf 68 = .ok (.dup, 1) := by decide +kernel
theorem dX4_toldOf_69 : decode cX4_toldOf 69 = .ok (.bipush 7, 2) := by decide +kernel
theorem dX4_toldOf_71 : decode cX4_toldOf 71 = .ok (.aload_n 0, 1) := by decide +kernel
theorem dX4_toldOf_72 : decode cX4_toldOf 72 = .ok (.getfield 43, 3) := by decide +kernel
theorem dX4_toldOf_75 : decode cX4_toldOf 75 = .ok (.iload_n 1, 1) := by decide +kernel
theorem dX4_toldOf_76 : decode cX4_toldOf 76 = .ok (.iaload, 1) := by decide +kernel
theorem dX4_toldOf_77 : decode cX4_toldOf 77 = .ok (.aload_n 0, 1) := by decide +kernel
theorem dX4_toldOf_78 : decode cX4_toldOf 78 = .ok (.getfield 40, 3) := by decide +kernel
theorem dX4_toldOf_81 : decode cX4_toldOf 81 = .ok (.iload_n 1, 1) := by decide +kernel
theorem dX4_toldOf_82 : decode cX4_toldOf 82 = .ok (.iaload, 1) := by decide +kernel
theorem dX4_toldOf_83 : decode cX4_toldOf 83 = .ok (.iadd, 1) := by decide +kernel
theorem dX4_toldOf_84 : decode cX4_toldOf 84 = .ok (.aload_n 0, 1) := by decide +kernel
theorem dX4_toldOf_85 : decode cX4_toldOf 85 = .ok (.getfield 46, 3) := by decide +kernel
theorem dX4_toldOf_88 : decode cX4_toldOf 88 = .ok (.iload_n 1, 1) := by decide +kernel
theorem dX4_toldOf_89 : decode cX4_toldOf 89 = .ok (.iaload, 1) := by decide +kernel
theorem dX4_toldOf_90 : decode cX4_toldOf 90 = .ok (.isub, 1) := by decide +kernel
theorem dX4_toldOf_91 : decode cX4_toldOf 91 = .ok (.iastore, 1) := by decide +kernel
theorem dX4_toldOf_92 : decode cX4_toldOf 92 = .ok (.dup, 1) := by decide +kernel
theorem dX4_toldOf_93 : decode cX4_toldOf 93 = .ok (.bipush 8, 2) := by decide +kernel
theorem dX4_toldOf_95 : decode cX4_toldOf 95 = .ok (.aload_n 0, 1) := by decide +kernel
theorem dX4_toldOf_96 : decode cX4_toldOf 96 = .ok (.getfield 52, 3) := by decide +kernel
theorem dX4_toldOf_99 : decode cX4_toldOf 99 = .ok (.iload_n 1, 1) := by decide +kernel
theorem dX4_toldOf_100 : decode cX4_toldOf 100 = .ok (.iaload, 1) := by decide +kernel
theorem dX4_toldOf_101 : decode cX4_toldOf 101 = .ok (.iastore, 1) := by decide +kernel
theorem dX4_toldOf_102 : decode cX4_toldOf 102 = .ok (.dup, 1) := by decide +kernel
theorem dX4_toldOf_103 : decode cX4_toldOf 103 = .ok (.bipush 9, 2) := by decide +kernel
theorem dX4_toldOf_105 : decode cX4_toldOf 105 = .ok (.aload_n 0, 1) := by decide +kernel
theorem dX4_toldOf_106 : decode cX4_toldOf 106 = .ok (.iload_n 1, 1) := by decide +kernel
theorem dX4_toldOf_107 : decode cX4_toldOf 107 = .ok (.invokevirtual 134, 3) := by decide +kernel
theorem dX4_toldOf_110 : decode cX4_toldOf 110 = .ok (.iastore, 1) := by decide +kernel
theorem dX4_toldOf_111 : decode cX4_toldOf 111 = .ok (.dup, 1) := by decide +kernel
theorem dX4_toldOf_112 : decode cX4_toldOf 112 = .ok (.bipush 10, 2) := by decide +kernel
theorem dX4_toldOf_114 : decode cX4_toldOf 114 = .ok (.aload_n 0, 1) := by decide +kernel
theorem dX4_toldOf_115 : decode cX4_toldOf 115 = .ok (.iload_n 1, 1) := by decide +kernel
theorem dX4_toldOf_116 : decode cX4_toldOf 116 = .ok (.invokevirtual 137, 3) := by decide +kernel
theorem dX4_toldOf_119 : decode cX4_toldOf 119 = .ok (.iastore, 1) := by decide +kernel
theorem dX4_toldOf_120 : decode cX4_toldOf 120 = .ok (.dup, 1) := by decide +kernel
theorem dX4_toldOf_121 : decode cX4_toldOf 121 = .ok (.bipush 11, 2) := by decide +kernel
theorem dX4_toldOf_123 : decode cX4_toldOf 123 = .ok (.aload_n 0, 1) := by decide +kernel
theorem dX4_toldOf_124 : decode cX4_toldOf 124 = .ok (.getfield 55, 3) := by decide +kernel
theorem dX4_toldOf_127 : decode cX4_toldOf 127 = .ok (.iload_n 1, 1) := by decide +kernel
theorem dX4_toldOf_128 : decode cX4_toldOf 128 = .ok (.iaload, 1) := by decide +kernel
theorem dX4_toldOf_129 : decode cX4_toldOf 129 = .ok (.iastore, 1) := by decide +kernel
theorem dX4_toldOf_130 : decode cX4_toldOf 130 = .ok (.astore_n 3, 1) := by decide +kernel
theorem dX4_toldOf_131 : decode cX4_toldOf 131 = .ok (.aload_n 3, 1) := by decide +kernel
theorem dX4_toldOf_132 : decode cX4_toldOf 132 = .ok (.iload_n 2, 1) := by decide +kernel
theorem dX4_toldOf_133 : decode cX4_toldOf 133 = .ok (.iaload, 1) := by decide +kernel
theorem dX4_toldOf_134 : decode cX4_toldOf 134 = .ok (.ireturn, 1) := by decide +kernel
theorem dX4_told_0 : decode cX4_told 0 = .ok (.aload_n 0, 1) := by decide +kernel
theorem dX4_told_1 : decode cX4_told 1 = .ok (.iconst 0, 1) := by decide +kernel
theorem dX4_told_2 : decode cX4_told 2 = .ok (.putfield 61, 3) := by decide +kernel
theorem dX4_told_5 : decode cX4_told 5 = .ok (.aload_n 0, 1) := by decide +kernel
theorem dX4_told_6 : decode cX4_told 6 = .ok (.iload_n 1, 1) := by decide +kernel
theorem dX4_told_7 : decode cX4_told 7 = .ok (.invokevirtual 87, 3) := by decide +kernel
theorem dX4_told_10 : decode cX4_told 10 = .ok (.ifCond .eq 13, 3) := by decide +kernel
theorem dX4_told_13 : decode cX4_told 13 = .ok (.iload_n 2, 1) := by decide +kernel
theorem dX4_told_14 : decode cX4_told 14 = .ok (.iconst 0, 1) := by decide +kernel
theorem dX4_told_15 : decode cX4_told 15 = .ok (.bipush 11, 2) := by decide +kernel
theorem dX4_told_17 : decode cX4_told 17 = .ok (.invokestatic 68, 3) := by decide +kernel
theorem dX4_told_20 : decode cX4_told 20 = .ok (.ifCond .ne 9, 3) := by decide +kernel
theorem dX4_told_23 : decode cX4_told 23 = .ok (.aload_n 0, 1) := by decide +kernel
theorem dX4_told_24 : decode cX4_told 24 = .ok (.iconst 1, 1) := by decide +kernel
theorem dX4_told_25 : decode cX4_told 25 = .ok (.invokevirtual 75, 3) := by decide +kernel
theorem dX4_told_28 : decode cX4_told 28 = .ok (.ireturn, 1) := by decide +kernel
theorem dX4_told_29 : decode cX4_told 29 = .ok (.aload_n 0, 1) := by decide +kernel
theorem dX4_told_30 : decode cX4_told 30 = .ok (.invokevirtual 146, 3) := by decide +kernel
theorem dX4_told_33 : decode cX4_told 33 = .ok (.pop, 1) := by decide +kernel
theorem dX4_told_34 : decode cX4_told 34 = .ok (.aload_n 0, 1) := by decide +kernel
theorem dX4_told_35 : decode cX4_told 35 = .ok (.iload_n 1, 1) := by decide +kernel
theorem dX4_told_36 : decode cX4_told 36 = .ok (.iload_n 2, 1) := by decide +kernel
theorem dX4_told_37 : decode cX4_told 37 = .ok (.invokevirtual 150, 3) := by decide +kernel
theorem dX4_told_40 : decode cX4_told 40 = .ok (.ireturn, 1) := by decide +kernel
theorem dX4_stress_0 : decode cX4_stress 0 = .ok (.aload_n 0, 1) := by decide +kernel
theorem dX4_stress_1 : decode cX4_stress 1 = .ok (.iconst 0, 1) := by decide +kernel
theorem dX4_stress_2 : decode cX4_stress 2 = .ok (.putfield 61, 3) := by decide +kernel
theorem dX4_stress_5 : decode cX4_stress 5 = .ok (.aload_n 0, 1) := by decide +kernel
theorem dX4_stress_6 : decode cX4_stress 6 = .ok (.invokevirtual 146, 3) := by decide +kernel
theorem dX4_stress_9 : decode cX4_stress 9 = .ok (.pop, 1) := by decide +kernel
theorem dX4_stress_10 : decode cX4_stress 10 = .ok (.aload_n 0, 1) := by decide +kernel
theorem dX4_stress_11 : decode cX4_stress 11 = .ok (.iload_n 1, 1) := by decide +kernel
theorem dX4_stress_12 : decode cX4_stress 12 = .ok (.invokevirtual 87, 3) := by decide +kernel
theorem dX4_stress_15 : decode cX4_stress 15 = .ok (.ifCond .eq 32, 3) := by decide +kernel
theorem dX4_stress_18 : decode cX4_stress 18 = .ok (.iload_n 2, 1) := by decide +kernel
theorem dX4_stress_19 : decode cX4_stress 19 = .ok (.iconst 0, 1) := by decide +kernel
theorem dX4_stress_20 : decode cX4_stress 20 = .ok (.aload_n 0, 1) := by decide +kernel
theorem dX4_stress_21 : decode cX4_stress 21 = .ok (.getfield 46, 3) := by decide +kernel
theorem dX4_stress_24 : decode cX4_stress 24 = .ok (.iload_n 1, 1) := by decide +kernel
theorem dX4_stress_25 : decode cX4_stress 25 = .ok (.iaload, 1) := by decide +kernel
theorem dX4_stress_26 : decode cX4_stress 26 = .ok (.iconst 1, 1) := by decide +kernel
theorem dX4_stress_27 : decode cX4_stress 27 = .ok (.isub, 1) := by decide +kernel
theorem dX4_stress_28 : decode cX4_stress 28 = .ok (.invokestatic 68, 3) := by decide +kernel
theorem dX4_stress_31 : decode cX4_stress 31 = .ok (.ifCond .eq 16, 3) := by decide +kernel
theorem dX4_stress_34 : decode cX4_stress 34 = .ok (.aload_n 0, 1) := by decide +kernel
theorem dX4_stress_35 : decode cX4_stress 35 = .ok (.getfield 49, 3) := by decide +kernel
theorem dX4_stress_38 : decode cX4_stress 38 = .ok (.iload_n 1, 1) := by decide +kernel
theorem dX4_stress_39 : decode cX4_stress 39 = .ok (.iaload, 1) := by decide +kernel
theorem dX4_stress_40 : decode cX4_stress 40 = .ok (.iload_n 2, 1) := by decide +kernel
theorem dX4_stress_41 : decode cX4_stress 41 = .ok (.ishr, 1) := by decide +kernel
theorem dX4_stress_42 : decode cX4_stress 42 = .ok (.iconst 1, 1) := by decide +kernel
theorem dX4_stress_43 : decode cX4_stress 43 = .ok (.iand, 1) := by decide +kernel
theorem dX4_stress_44 : decode cX4_stress 44 = .ok (.goto 8, 3) := by decide +kernel
theorem dX4_stress_47 : decode cX4_stress 47 = .ok (.aload_n 0, 1) := by decide +kernel
theorem dX4_stress_48 : decode cX4_stress 48 = .ok (.iconst 1, 1) := by decide +kernel
theorem dX4_stress_49 : decode cX4_stress 49 = .ok (.invokevirtual 75, 3) := by decide +kernel
theorem dX4_stress_52 : decode cX4_stress 52 = .ok (.ireturn, 1) := by decide +kernel
theorem dX4_melted_0 : decode cX4_melted 0 = .ok (.aload_n 0, 1) := by decide +kernel
theorem dX4_melted_1 : decode cX4_melted 1 = .ok (.iconst 0, 1) := by decide +kernel
theorem dX4_melted_2 : decode cX4_melted 2 = .ok (.putfield 61, 3) := by decide +kernel
theorem dX4_melted_5 : decode cX4_melted 5 = .ok (.aload_n 0, 1) := by decide +kernel
theorem dX4_melted_6 : decode cX4_melted 6 = .ok (.iload_n 1, 1) := by decide +kernel
theorem dX4_melted_7 : decode cX4_melted 7 = .ok (.invokevirtual 87, 3) := by decide +kernel
theorem dX4_melted_10 : decode cX4_melted 10 = .ok (.ifCond .ne 9, 3) := by decide +kernel
theorem dX4_melted_13 : decode cX4_melted 13 = .ok (.aload_n 0, 1) := by decide +kernel
theorem dX4_melted_14 : decode cX4_melted 14 = .ok (.iconst 1, 1) := by decide +kernel
theorem dX4_melted_15 : decode cX4_melted 15 = .ok (.invokevirtual 75, 3) := by decide +kernel
theorem dX4_melted_18 : decode cX4_melted 18 = .ok (.ireturn, 1) := by decide +kernel
theorem dX4_melted_19 : decode cX4_melted 19 = .ok (.iconst 0, 1) := by decide +kernel
theorem dX4_melted_20 : decode cX4_melted 20 = .ok (.istore_n 2, 1) := by decide +kernel
theorem dX4_melted_21 : decode cX4_melted 21 = .ok (.iconst 0, 1) := by decide +kernel
theorem dX4_melted_22 : decode cX4_melted 22 = .ok (.istore_n 3, 1) := by decide +kernel
theorem dX4_melted_23 : decode cX4_melted 23 = .ok (.iload_n 3, 1) := by decide +kernel
theorem dX4_melted_24 : decode cX4_melted 24 = .ok (.aload_n 0, 1) := by decide +kernel
theorem dX4_melted_25 : decode cX4_melted 25 = .ok (.getfield 34, 3) := by decide +kernel
theorem dX4_melted_28 : decode cX4_melted 28 = .ok (.iload_n 1, 1) := by decide +kernel
theorem dX4_melted_29 : decode cX4_melted 29 = .ok (.iaload, 1) := by decide +kernel
theorem dX4_melted_30 : decode cX4_melted 30 = .ok (.if_icmp .ge 26, 3) := by decide +kernel
theorem dX4_melted_33 : decode cX4_melted 33 = .ok (.iload_n 2, 1) := by decide +kernel
theorem dX4_melted_34 : decode cX4_melted 34 = .ok (.aload_n 0, 1) := by decide +kernel
theorem dX4_melted_35 : decode cX4_melted 35 = .ok (.iload_n 1, 1) := by decide +kernel
theorem dX4_melted_36 : decode cX4_melted 36 = .ok (.iload_n 3, 1) := by decide +kernel
theorem dX4_melted_37 : decode cX4_melted 37 = .ok (.invokevirtual 90, 3) := by decide +kernel
theorem dX4_melted_40 : decode cX4_melted 40 = .ok (.ifCond .eq 7, 3) := by decide +kernel
theorem dX4_melted_43 : decode cX4_melted 43 = .ok (.iconst 1, 1) := by decide +kernel
theorem dX4_melted_44 : decode cX4_melted 44 = .ok (.goto 4, 3) := by decide +kernel
theorem dX4_melted_47 : decode cX4_melted 47 = .ok (.iconst 0, 1) := by decide +kernel
theorem dX4_melted_48 : decode cX4_melted 48 = .ok (.iadd, 1) := by decide +kernel
theorem dX4_melted_49 : decode cX4_melted 49 = .ok (.istore_n 2, 1) := by decide +kernel
theorem dX4_melted_50 : decode cX4_melted 50 = .ok (.iinc 3 1, 3) := by decide +kernel
theorem dX4_melted_53 : decode cX4_melted 53 = .ok (.goto (-30), 3) := by decide +kernel
theorem dX4_melted_56 : decode cX4_melted 56 = .ok (.iload_n 2, 1) := by decide +kernel
theorem dX4_melted_57 : decode cX4_melted 57 = .ok (.ireturn, 1) := by decide +kernel
theorem dX4_rhyme_0 : decode cX4_rhyme 0 = .ok (.aload_n 0, 1) := by decide +kernel
theorem dX4_rhyme_1 : decode cX4_rhyme 1 = .ok (.iconst 0, 1) := by decide +kernel
theorem dX4_rhyme_2 : decode cX4_rhyme 2 = .ok (.putfield 61, 3) := by decide +kernel
theorem dX4_rhyme_5 : decode cX4_rhyme 5 = .ok (.aload_n 0, 1) := by decide +kernel
theorem dX4_rhyme_6 : decode cX4_rhyme 6 = .ok (.iload_n 1, 1) := by decide +kernel
theorem dX4_rhyme_7 : decode cX4_rhyme 7 = .ok (.invokevirtual 87, 3) := by decide +kernel
theorem dX4_rhyme_10 : decode cX4_rhyme 10 = .ok (.ifCond .eq 20, 3) := by decide +kernel
theorem dX4_rhyme_13 : decode cX4_rhyme 13 = .ok (.aload_n 0, 1) := by decide +kernel
theorem dX4_rhyme_14 : decode cX4_rhyme 14 = .ok (.iload_n 2, 1) := by decide +kernel
theorem dX4_rhyme_15 : decode cX4_rhyme 15 = .ok (.invokevirtual 87, 3) := by decide +kernel
theorem dX4_rhyme_18 : decode cX4_rhyme 18 = .ok (.ifCond .eq 12, 3) := by decide +kernel
theorem dX4_rhyme_21 : decode cX4_rhyme 21 = .ok (.aload_n 0, 1) := by decide +kernel
theorem dX4_rhyme_22 : decode cX4_rhyme 22 = .ok (.iload_n 1, 1) := by decide +kernel
theorem dX4_rhyme_23 : decode cX4_rhyme 23 = .ok (.iload_n 2, 1) := by decide +kernel
theorem dX4_rhyme_24 : decode cX4_rhyme 24 = .ok (.invokevirtual 109, 3) := by decide +kernel
theorem dX4_rhyme_27 : decode cX4_rhyme 27 = .ok (.goto 8, 3) := by decide +kernel
theorem dX4_rhyme_30 : decode cX4_rhyme 30 = .ok (.aload_n 0, 1) := by decide +kernel
theorem dX4_rhyme_31 : decode cX4_rhyme 31 = .ok (.iconst 1, 1) := by decide +kernel
theorem dX4_rhyme_32 : decode cX4_rhyme 32 = .ok (.invokevirtual 75, 3) := by decide +kernel
theorem dX4_rhyme_35 : decode cX4_rhyme 35 = .ok (.ireturn, 1) := by decide +kernel
theorem dX4_scans_0 : decode cX4_scans 0 = .ok (.aload_n 0, 1) := by decide +kernel
theorem dX4_scans_1 : decode cX4_scans 1 = .ok (.iconst 0, 1) := by decide +kernel
theorem dX4_scans_2 : decode cX4_scans 2 = .ok (.putfield 61, 3) := by decide +kernel
theorem dX4_scans_5 : decode cX4_scans 5 = .ok (.aload_n 0, 1) := by decide +kernel
theorem dX4_scans_6 : decode cX4_scans 6 = .ok (.iload_n 1, 1) := by decide +kernel
theorem dX4_scans_7 : decode cX4_scans 7 = .ok (.invokevirtual 87, 3) := by decide +kernel
theorem dX4_scans_10 : decode cX4_scans 10 = .ok (.ifCond .ne 9, 3) := by decide +kernel
theorem dX4_scans_13 : decode cX4_scans 13 = .ok (.aload_n 0, 1) := by decide +kernel
theorem dX4_scans_14 : decode cX4_scans 14 = .ok (.iconst 1, 1) := by decide +kernel
theorem dX4_scans_15 : decode cX4_scans 15 = .ok (.invokevirtual 75, 3) := by decide +kernel
theorem dX4_scans_18 : decode cX4_scans 18 = .ok (.ireturn, 1) := by decide +kernel
theorem dX4_scans_19 : decode cX4_scans 19 = .ok (.aload_n 0, 1) := by decide +kernel
theorem dX4_scans_20 : decode cX4_scans 20 = .ok (.getfield 25, 3) := by decide +kernel
theorem dX4_scans_23 : decode cX4_scans 23 = .ok (.iload_n 1, 1) := by decide +kernel
theorem dX4_scans_24 : decode cX4_scans 24 = .ok (.iaload, 1) := by decide +kernel
theorem dX4_scans_25 : decode cX4_scans 25 = .ok (.istore_n 2, 1) := by decide +kernel
theorem dX4_scans_26 : decode cX4_scans 26 = .ok (.iconst 0, 1) := by decide +kernel
theorem dX4_scans_27 : decode cX4_scans 27 = .ok (.istore_n 3, 1) := by decide +kernel
theorem dX4_scans_28 : decode cX4_scans 28 = .ok (.ldc 153, 2) := by decide +kernel
theorem dX4_scans_30 : decode cX4_scans 30 = .ok (.istore 4, 2) := by decide +kernel
theorem dX4_scans_32 : decode cX4_scans 32 = .ok (.iconst 0, 1) := by decide +kernel
theorem dX4_scans_33 : decode cX4_scans 33 = .ok (.istore 5, 2) := by decide +kernel
theorem dX4_scans_35 : decode cX4_scans 35 = .ok (.iload 5, 2) := by decide +kernel
theorem dX4_scans_37 : decode cX4_scans 37 = .ok (.iconst 4, 1) := by decide +kernel
theorem dX4_scans_38 : decode cX4_scans 38 = .ok (.if_icmp .ge 59, 3) := by decide +kernel
theorem dX4_scans_41 : decode cX4_scans 41 = .ok (.aload_n 0, 1) := by decide +kernel
theorem dX4_scans_42 : decode cX4_scans 42 = .ok (.getfield 25, 3) := by decide +kernel
theorem dX4_scans_45 : decode cX4_scans 45 = .ok (.iload_n 1, 1) := by decide +kernel
theorem dX4_scans_46 : decode cX4_scans 46 = .ok (.iload 5, 2) := by decide +kernel
theorem dX4_scans_48 : decode cX4_scans 48 = .ok (.iastore, 1) := by decide +kernel
theorem dX4_scans_49 : decode cX4_scans 49 = .ok (.aload_n 0, 1) := by decide +kernel
theorem dX4_scans_50 : decode cX4_scans 50 = .ok (.invokevirtual 146, 3) := by decide +kernel
theorem dX4_scans_53 : decode cX4_scans 53 = .ok (.pop, 1) := by decide +kernel
theorem dX4_scans_54 : decode cX4_scans 54 = .ok (.aload_n 0, 1) := by decide +kernel
theorem dX4_scans_55 : decode cX4_scans 55 = .ok (.getfield 52, 3) := by decide +kernel
theorem dX4_scans_58 : decode cX4_scans 58 = .ok (.iload_n 1, 1) := by decide +kernel
theorem dX4_scans_59 : decode cX4_scans 59 = .ok (.iaload, 1) := by decide +kernel
theorem dX4_scans_60 : decode cX4_scans 60 = .ok (.aload_n 0, 1) := by decide +kernel
theorem dX4_scans_61 : decode cX4_scans 61 = .ok (.iload_n 1, 1) := by decide +kernel
theorem dX4_scans_62 : decode cX4_scans 62 = .ok (.invokevirtual 134, 3) := by decide +kernel
theorem dX4_scans_65 : decode cX4_scans 65 = .ok (.iadd, 1) := by decide +kernel
theorem dX4_scans_66 : decode cX4_scans 66 = .ok (.iload 4, 2) := by decide +kernel
theorem dX4_scans_68 : decode cX4_scans 68 = .ok (.if_icmp .lt 6, 3) := by decide +kernel
theorem dX4_scans_71 : decode cX4_scans 71 = .ok (.goto 20, 3) := by decide +kernel
theorem dX4_scans_74 : decode cX4_scans 74 = .ok (.aload_n 0, 1) := by decide +kernel
theorem dX4_scans_75 : decode cX4_scans 75 = .ok (.getfield 52, 3) := by decide +kernel
theorem dX4_scans_78 : decode cX4_scans 78 = .ok (.iload_n 1, 1) := by decide +kernel
theorem dX4_scans_79 : decode cX4_scans 79 = .ok (.iaload, 1) := by decide +kernel
theorem dX4_scans_80 : decode cX4_scans 80 = .ok (.aload_n 0, 1) := by decide +kernel
theorem dX4_scans_81 : decode cX4_scans 81 = .ok (.iload_n 1, 1) := by decide +kernel
theorem dX4_scans_82 : decode cX4_scans 82 = .ok (.invokevirtual 134, 3) := by decide +kernel
theorem dX4_scans_85 : decode cX4_scans 85 = .ok (.iadd, 1) := by decide +kernel
theorem dX4_scans_86 : decode cX4_scans 86 = .ok (.istore 4, 2) := by decide +kernel
theorem dX4_scans_88 : decode cX4_scans 88 = .ok (.iload 5, 2) := by decide +kernel
theorem dX4_scans_90 : decode cX4_scans 90 = .ok (.istore_n 3, 1) := by decide +kernel
theorem dX4_scans_91 : decode cX4_scans 91 = .ok (.iinc 5 1, 3) := by decide +kernel
theorem dX4_scans_94 : decode cX4_scans 94 = .ok (.goto (-59), 3) := by decide +kernel
theorem dX4_scans_97 : decode cX4_scans 97 = .ok (.aload_n 0, 1) := by decide +kernel
theorem dX4_scans_98 : decode cX4_scans 98 = .ok (.getfield 25, 3) := by decide +kernel
theorem dX4_scans_101 : decode cX4_scans 101 = .ok (.iload_n 1, 1) := by decide +kernel
theorem dX4_scans_102 : decode cX4_scans 102 = .ok (.iload_n 2, 1) := by decide +kernel
theorem dX4_scans_103 : decode cX4_scans 103 = .ok (.iastore, 1) := by decide +kernel
theorem dX4_scans_104 : decode cX4_scans 104 = .ok (.iload_n 3, 1) := by decide +kernel
theorem dX4_scans_105 : decode cX4_scans 105 = .ok (.ireturn, 1) := by decide +kernel
theorem dX4_counted_0 : decode cX4_counted 0 = .ok (.aload_n 0, 1) := by decide +kernel
theorem dX4_counted_1 : decode cX4_counted 1 = .ok (.invokevirtual 146, 3) := by decide +kernel
theorem dX4_counted_4 : decode cX4_counted 4 = .ok (.istore_n 2, 1) := by decide +kernel
theorem dX4_counted_5 : decode cX4_counted 5 = .ok (.iconst 0, 1) := by decide +kernel
theorem dX4_counted_6 : decode cX4_counted 6 = .ok (.istore_n 3, 1) := by decide +kernel
theorem dX4_counted_7 : decode cX4_counted 7 = .ok (.iconst 0, 1) := by decide +kernel
theorem dX4_counted_8 : decode cX4_counted 8 = .ok (.istore 4, 2) := by decide +kernel
theorem dX4_counted_10 : decode cX4_counted 10 = .ok (.iconst 0, 1) := by decide +kernel
theorem dX4_counted_11 : decode cX4_counted 11 = .ok (.istore 5, 2) := by decide +kernel
theorem dX4_counted_13 : decode cX4_counted 13 = .ok (.iconst 0, 1) := by decide +kernel
theorem dX4_counted_14 : decode cX4_counted 14 = .ok (.istore 6, 2) := by decide +kernel
theorem dX4_counted_16 : decode cX4_counted 16 = .ok (.iload 6, 2) := by decide +kernel
theorem dX4_counted_18 : decode cX4_counted 18 = .ok (.aload_n 0, 1) := by decide +kernel
theorem dX4_counted_19 : decode cX4_counted 19 = .ok (.getfield 72, 3) := by decide +kernel
theorem dX4_counted_22 : decode cX4_counted 22 = .ok (.if_icmp .ge 60, 3) := by decide +kernel
theorem dX4_counted_25 : decode cX4_counted 25 = .ok (.iload_n 3, 1) := by decide +kernel
theorem dX4_counted_26 : decode cX4_counted 26 = .ok (.aload_n 0, 1) := by decide +kernel
theorem dX4_counted_27 : decode cX4_counted 27 = .ok (.getfield 34, 3) := by decide +kernel
theorem dX4_counted_30 : decode cX4_counted 30 = .ok (.iload 6, 2) := by decide +kernel
theorem dX4_counted_32 : decode cX4_counted 32 = .ok (.iaload, 1) := by decide +kernel
theorem dX4_counted_33 : decode cX4_counted 33 = .ok (.iadd, 1) := by decide +kernel
theorem dX4_counted_34 : decode cX4_counted 34 = .ok (.istore_n 3, 1) := by decide +kernel
theorem dX4_counted_35 : decode cX4_counted 35 = .ok (.iload 4, 2) := by decide +kernel
theorem dX4_counted_37 : decode cX4_counted 37 = .ok (.aload_n 0, 1) := by decide +kernel
theorem dX4_counted_38 : decode cX4_counted 38 = .ok (.getfield 52, 3) := by decide +kernel
theorem dX4_counted_41 : decode cX4_counted 41 = .ok (.iload 6, 2) := by decide +kernel
theorem dX4_counted_43 : decode cX4_counted 43 = .ok (.iaload, 1) := by decide +kernel
theorem dX4_counted_44 : decode cX4_counted 44 = .ok (.ifCond .ne 16, 3) := by decide +kernel
theorem dX4_counted_47 : decode cX4_counted 47 = .ok (.aload_n 0, 1) := by decide +kernel
theorem dX4_counted_48 : decode cX4_counted 48 = .ok (.iload 6, 2) := by decide +kernel
theorem dX4_counted_50 : decode cX4_counted 50 = .ok (.invokevirtual 134, 3) := by decide +kernel
theorem dX4_counted_53 : decode cX4_counted 53 = .ok (.ifCond .ne 7, 3) := by decide +kernel
theorem dX4_counted_56 : decode cX4_counted 56 = .ok (.iconst 1, 1) := by decide +kernel
theorem dX4_counted_57 : decode cX4_counted 57 = .ok (.goto 4, 3) := by decide +kernel
theorem dX4_counted_60 : decode cX4_counted 60 = .ok (.iconst 0, 1) := by decide +kernel
theorem dX4_counted_61 : decode cX4_counted 61 = .ok (.iadd, 1) := by decide +kernel
theorem dX4_counted_62 : decode cX4_counted 62 = .ok (.istore 4, 2) := by decide +kernel
theorem dX4_counted_64 : decode cX4_counted 64 = .ok (.iload 5, 2) := by decide +kernel
theorem dX4_counted_66 : decode cX4_counted 66 = .ok (.aload_n 0, 1) := by decide +kernel
theorem dX4_counted_67 : decode cX4_counted 67 = .ok (.getfield 46, 3) := by decide +kernel
theorem dX4_counted_70 : decode cX4_counted 70 = .ok (.iload 6, 2) := by decide +kernel
theorem dX4_counted_72 : decode cX4_counted 72 = .ok (.iaload, 1) := by decide +kernel
theorem dX4_counted_73 : decode cX4_counted 73 = .ok (.iadd, 1) := by decide +kernel
theorem dX4_counted_74 : decode cX4_counted 74 = .ok (.istore 5, 2) := by decide +kernel
theorem dX4_counted_76 : decode cX4_counted 76 = .ok (.iinc 6 1, 3) := by decide +kernel
theorem dX4_counted_79 : decode cX4_counted 79 = .ok (.goto (-63), 3) := by decide +kernel
theorem dX4_counted_82 : decode cX4_counted 82 = .ok (.bipush 7, 2) := by decide +kernel
theorem dX4_counted_84 : decode cX4_counted 84 = .ok (.newarray .int, 2) := by decide +kernel
theorem dX4_counted_86 : decode cX4_counted 86 = .ok (.dup, 1) := by decide +kernel
theorem dX4_counted_87 : decode cX4_counted 87 = .ok (.iconst 0, 1) := by decide +kernel
theorem dX4_counted_88 : decode cX4_counted 88 = .ok (.aload_n 0, 1) := by decide +kernel
theorem dX4_counted_89 : decode cX4_counted 89 = .ok (.getfield 65, 3) := by decide +kernel
theorem dX4_counted_92 : decode cX4_counted 92 = .ok (.iastore, 1) := by decide +kernel
theorem dX4_counted_93 : decode cX4_counted 93 = .ok (.dup, 1) := by decide +kernel
theorem dX4_counted_94 : decode cX4_counted 94 = .ok (.iconst 1, 1) := by decide +kernel
theorem dX4_counted_95 : decode cX4_counted 95 = .ok (.aload_n 0, 1) := by decide +kernel
theorem dX4_counted_96 : decode cX4_counted 96 = .ok (.getfield 72, 3) := by decide +kernel
theorem dX4_counted_99 : decode cX4_counted 99 = .ok (.iastore, 1) := by decide +kernel
theorem dX4_counted_100 : decode cX4_counted 100 = .ok (.dup, 1) := by decide +kernel
theorem dX4_counted_101 : decode cX4_counted 101 = .ok (.iconst 2, 1) := by decide +kernel
theorem dX4_counted_102 : decode cX4_counted 102 = .ok (.iload_n 3, 1) := by decide +kernel
theorem dX4_counted_103 : decode cX4_counted 103 = .ok (.iastore, 1) := by decide +kernel
theorem dX4_counted_104 : decode cX4_counted 104 = .ok (.dup, 1) := by decide +kernel
theorem dX4_counted_105 : decode cX4_counted 105 = .ok (.iconst 3, 1) := by decide +kernel
theorem dX4_counted_106 : decode cX4_counted 106 = .ok (.iload 4, 2) := by decide +kernel
theorem dX4_counted_108 : decode cX4_counted 108 = .ok (.iastore, 1) := by decide +kernel
theorem dX4_counted_109 : decode cX4_counted 109 = .ok (.dup, 1) := by decide +kernel
theorem dX4_counted_110 : decode cX4_counted 110 = .ok (.iconst 4, 1) := by decide +kernel
theorem dX4_counted_111 : decode cX4_counted 111 = .ok (.iload 5, 2) := by decide +kernel
theorem dX4_counted_113 : decode cX4_counted 113 = .ok (.iastore, 1) := by decide +kernel
theorem dX4_counted_114 : decode cX4_counted 114 = .ok (.dup, 1) := by decide +kernel
theorem dX4_counted_115 : decode cX4_counted 115 = .ok (.iconst 5, 1) := by decide +kernel
theorem dX4_counted_116 : decode cX4_counted 116 = .ok (.aload_n 0, 1) := by decide +kernel
theorem dX4_counted_117 : decode cX4_counted 117 = .ok (.getfield 143, 3) := by decide +kernel
theorem dX4_counted_120 : decode cX4_counted 120 = .ok (.iastore, 1) := by decide +kernel
theorem dX4_counted_121 : decode cX4_counted 121 = .ok (.dup, 1) := by decide +kernel
theorem dX4_counted_122 : decode cX4_counted 122 = .ok (.bipush 6, 2) := by decide +kernel
theorem dX4_counted_124 : decode cX4_counted 124 = .ok (.iload_n 2, 1) := by decide +kernel
theorem dX4_counted_125 : decode cX4_counted 125 = .ok (.iastore, 1) := by decide +kernel
theorem dX4_counted_126 : decode cX4_counted 126 = .ok (.astore 6, 2) := by decide +kernel
theorem dX4_counted_128 : decode cX4_counted 128 = .ok (.aload 6, 2) := by decide +kernel
theorem dX4_counted_130 : decode cX4_counted 130 = .ok (.iload_n 1, 1) := by decide +kernel
theorem dX4_counted_131 : decode cX4_counted 131 = .ok (.iaload, 1) := by decide +kernel
theorem dX4_counted_132 : decode cX4_counted 132 = .ok (.ireturn, 1) := by decide +kernel
theorem dX4_count_0 : decode cX4_count 0 = .ok (.aload_n 0, 1) := by decide +kernel
theorem dX4_count_1 : decode cX4_count 1 = .ok (.iconst 0, 1) := by decide +kernel
theorem dX4_count_2 : decode cX4_count 2 = .ok (.putfield 61, 3) := by decide +kernel
theorem dX4_count_5 : decode cX4_count 5 = .ok (.iload_n 1, 1) := by decide +kernel
theorem dX4_count_6 : decode cX4_count 6 = .ok (.iconst 0, 1) := by decide +kernel
theorem dX4_count_7 : decode cX4_count 7 = .ok (.bipush 6, 2) := by decide +kernel
theorem dX4_count_9 : decode cX4_count 9 = .ok (.invokestatic 68, 3) := by decide +kernel
theorem dX4_count_12 : decode cX4_count 12 = .ok (.ifCond .eq 11, 3) := by decide +kernel
theorem dX4_count_15 : decode cX4_count 15 = .ok (.aload_n 0, 1) := by decide +kernel
theorem dX4_count_16 : decode cX4_count 16 = .ok (.iload_n 1, 1) := by decide +kernel
theorem dX4_count_17 : decode cX4_count 17 = .ok (.invokevirtual 154, 3) := by decide +kernel
theorem dX4_count_20 : decode cX4_count 20 = .ok (.goto 8, 3) := by decide +kernel
theorem dX4_count_23 : decode cX4_count 23 = .ok (.aload_n 0, 1) := by decide +kernel
theorem dX4_count_24 : decode cX4_count 24 = .ok (.iconst 1, 1) := by decide +kernel
theorem dX4_count_25 : decode cX4_count 25 = .ok (.invokevirtual 75, 3) := by decide +kernel
theorem dX4_count_28 : decode cX4_count 28 = .ok (.ireturn, 1) := by decide +kernel
theorem dX4_taxesWith_0 : decode cX4_taxesWith 0 = .ok (.aload_n 0, 1) := by decide +kernel
theorem dX4_taxesWith_1 : decode cX4_taxesWith 1 = .ok (.getfield 37, 3) := by decide +kernel
theorem dX4_taxesWith_4 : decode cX4_taxesWith 4 = .ok (.iload_n 1, 1) := by decide +kernel
theorem dX4_taxesWith_5 : decode cX4_taxesWith 5 = .ok (.iaload, 1) := by decide +kernel
theorem dX4_taxesWith_6 : decode cX4_taxesWith 6 = .ok (.istore_n 3, 1) := by decide +kernel
theorem dX4_taxesWith_7 : decode cX4_taxesWith 7 = .ok (.aload_n 0, 1) := by decide +kernel
theorem dX4_taxesWith_8 : decode cX4_taxesWith 8 = .ok (.getfield 37, 3) := by decide +kernel
theorem dX4_taxesWith_11 : decode cX4_taxesWith 11 = .ok (.iload_n 1, 1) := by decide +kernel
theorem dX4_taxesWith_12 : decode cX4_taxesWith 12 = .ok (.iload_n 2, 1) := by decide +kernel
theorem dX4_taxesWith_13 : decode cX4_taxesWith 13 = .ok (.iastore, 1) := by decide +kernel
theorem dX4_taxesWith_14 : decode cX4_taxesWith 14 = .ok (.aload_n 0, 1) := by decide +kernel
theorem dX4_taxesWith_15 : decode cX4_taxesWith 15 = .ok (.invokevirtual 146, 3) := by decide +kernel
theorem dX4_taxesWith_18 : decode cX4_taxesWith 18 = .ok (.istore 4, 2) := by decide +kernel
theorem dX4_taxesWith_20 : decode cX4_taxesWith 20 = .ok (.aload_n 0, 1) := by decide +kernel
theorem dX4_taxesWith_21 : decode cX4_taxesWith 21 = .ok (.getfield 37, 3) := by decide +kernel
theorem dX4_taxesWith_24 : decode cX4_taxesWith 24 = .ok (.iload_n 1, 1) := by decide +kernel
theorem dX4_taxesWith_25 : decode cX4_taxesWith 25 = .ok (.iload_n 3, 1) := by decide +kernel
theorem dX4_taxesWith_26 : decode cX4_taxesWith 26 = .ok (.iastore, 1) := by decide +kernel
theorem dX4_taxesWith_27 : decode cX4_taxesWith 27 = .ok (.iload 4, 2) := by decide +kernel
theorem dX4_taxesWith_29 : decode cX4_taxesWith 29 = .ok (.ireturn, 1) := by decide +kernel
theorem dX4_tries_0 : decode cX4_tries 0 = .ok (.aload_n 0, 1) := by decide +kernel
theorem dX4_tries_1 : decode cX4_tries 1 = .ok (.iconst 0, 1) := by decide +kernel
theorem dX4_tries_2 : decode cX4_tries 2 = .ok (.putfield 61, 3) := by decide +kernel
theorem dX4_tries_5 : decode cX4_tries 5 = .ok (.aload_n 0, 1) := by decide +kernel
theorem dX4_tries_6 : decode cX4_tries 6 = .ok (.iload_n 1, 1) := by decide +kernel
theorem dX4_tries_7 : decode cX4_tries 7 = .ok (.invokevirtual 87, 3) := by decide +kernel
theorem dX4_tries_10 : decode cX4_tries 10 = .ok (.ifCond .eq 41, 3) := by decide +kernel
theorem dX4_tries_13 : decode cX4_tries 13 = .ok (.iload_n 2, 1) := by decide +kernel
theorem dX4_tries_14 : decode cX4_tries 14 = .ok (.iconst 0, 1) := by decide +kernel
theorem dX4_tries_15 : decode cX4_tries 15 = .ok (.aload_n 0, 1) := by decide +kernel
theorem dX4_tries_16 : decode cX4_tries 16 = .ok (.getfield 34, 3) := by decide +kernel
theorem dX4_tries_19 : decode cX4_tries 19 = .ok (.iload_n 1, 1) := by decide +kernel
theorem dX4_tries_20 : decode cX4_tries 20 = .ok (.iaload, 1) := by decide +kernel
theorem dX4_tries_21 : decode cX4_tries 21 = .ok (.iconst 1, 1) := by decide +kernel
theorem dX4_tries_22 : decode cX4_tries 22 = .ok (.isub, 1) := by decide +kernel
theorem dX4_tries_23 : decode cX4_tries 23 = .ok (.invokestatic 68, 3) := by decide +kernel
theorem dX4_tries_26 : decode cX4_tries 26 = .ok (.ifCond .eq 25, 3) := by decide +kernel
theorem dX4_tries_29 : decode cX4_tries 29 = .ok (.aload_n 0, 1) := by decide +kernel
theorem dX4_tries_30 : decode cX4_tries 30 = .ok (.iload_n 3, 1) := by decide +kernel
theorem dX4_tries_31 : decode cX4_tries 31 = .ok (.invokevirtual 79, 3) := by decide +kernel
theorem dX4_tries_34 : decode cX4_tries 34 = .ok (.ifCond .eq 17, 3) := by decide +kernel
theorem dX4_tries_37 : decode cX4_tries 37 = .ok (.aload_n 0, 1) := by decide +kernel
theorem dX4_tries_38 : decode cX4_tries 38 = .ok (.bipush 8, 2) := by decide +kernel
theorem dX4_tries_40 : decode cX4_tries 40 = .ok (.iload_n 1, 1) := by decide +kernel
theorem dX4_tries_41 : decode cX4_tries 41 = .ok (.imul, 1) := by decide +kernel
theorem dX4_tries_42 : decode cX4_tries 42 = .ok (.iload_n 2, 1) := by decide +kernel
theorem dX4_tries_43 : decode cX4_tries 43 = .ok (.iadd, 1) := by decide +kernel
theorem dX4_tries_44 : decode cX4_tries 44 = .ok (.iload_n 3, 1) := by decide +kernel
theorem dX4_tries_45 : decode cX4_tries 45 = .ok (.invokevirtual 157, 3) := by decide +kernel
theorem dX4_tries_48 : decode cX4_tries 48 = .ok (.goto 8, 3) := by decide +kernel
theorem dX4_tries_51 : decode cX4_tries 51 = .ok (.aload_n 0, 1) := by decide +kernel
theorem dX4_tries_52 : decode cX4_tries 52 = .ok (.iconst 1, 1) := by decide +kernel
theorem dX4_tries_53 : decode cX4_tries 53 = .ok (.invokevirtual 75, 3) := by decide +kernel
theorem dX4_tries_56 : decode cX4_tries 56 = .ok (.ireturn, 1) := by decide +kernel
theorem dX4_best_0 : decode cX4_best 0 = .ok (.aload_n 0, 1) := by decide +kernel
theorem dX4_best_1 : decode cX4_best 1 = .ok (.iconst 0, 1) := by decide +kernel
theorem dX4_best_2 : decode cX4_best 2 = .ok (.putfield 61, 3) := by decide +kernel
theorem dX4_best_5 : decode cX4_best 5 = .ok (.aload_n 0, 1) := by decide +kernel
theorem dX4_best_6 : decode cX4_best 6 = .ok (.iload_n 1, 1) := by decide +kernel
theorem dX4_best_7 : decode cX4_best 7 = .ok (.invokevirtual 87, 3) := by decide +kernel
theorem dX4_best_10 : decode cX4_best 10 = .ok (.ifCond .eq 19, 3) := by decide +kernel
theorem dX4_best_13 : decode cX4_best 13 = .ok (.iload_n 2, 1) := by decide +kernel
theorem dX4_best_14 : decode cX4_best 14 = .ok (.iconst 0, 1) := by decide +kernel
theorem dX4_best_15 : decode cX4_best 15 = .ok (.aload_n 0, 1) := by decide +kernel
theorem dX4_best_16 : decode cX4_best 16 = .ok (.getfield 34, 3) := by decide +kernel
theorem dX4_best_19 : decode cX4_best 19 = .ok (.iload_n 1, 1) := by decide +kernel
theorem dX4_best_20 : decode cX4_best 20 = .ok (.iaload, 1) := by decide +kernel
theorem dX4_best_21 : decode cX4_best 21 = .ok (.iconst 1, 1) := by decide +kernel
theorem dX4_best_22 : decode cX4_best 22 = .ok (.isub, 1) := by decide +kernel
theorem dX4_best_23 : decode cX4_best 23 = .ok (.invokestatic 68, 3) := by decide +kernel
theorem dX4_best_26 : decode cX4_best 26 = .ok (.ifCond .ne 9, 3) := by decide +kernel
theorem dX4_best_29 : decode cX4_best 29 = .ok (.aload_n 0, 1) := by decide +kernel
theorem dX4_best_30 : decode cX4_best 30 = .ok (.iconst 1, 1) := by decide +kernel
theorem dX4_best_31 : decode cX4_best 31 = .ok (.invokevirtual 75, 3) := by decide +kernel
theorem dX4_best_34 : decode cX4_best 34 = .ok (.ireturn, 1) := by decide +kernel
theorem dX4_best_35 : decode cX4_best 35 = .ok (.iconst (-1), 1) := by decide +kernel
theorem dX4_best_36 : decode cX4_best 36 = .ok (.istore_n 3, 1) := by decide +kernel
theorem dX4_best_37 : decode cX4_best 37 = .ok (.ldc 153, 2) := by decide +kernel
theorem dX4_best_39 : decode cX4_best 39 = .ok (.istore 4, 2) := by decide +kernel
theorem dX4_best_41 : decode cX4_best 41 = .ok (.iconst 0, 1) := by decide +kernel
theorem dX4_best_42 : decode cX4_best 42 = .ok (.istore 5, 2) := by decide +kernel
theorem dX4_best_44 : decode cX4_best 44 = .ok (.iload 5, 2) := by decide +kernel
theorem dX4_best_46 : decode cX4_best 46 = .ok (.aload_n 0, 1) := by decide +kernel
theorem dX4_best_47 : decode cX4_best 47 = .ok (.getfield 65, 3) := by decide +kernel
theorem dX4_best_50 : decode cX4_best 50 = .ok (.if_icmp .ge 40, 3) := by decide +kernel
theorem dX4_best_53 : decode cX4_best 53 = .ok (.aload_n 0, 1) := by decide +kernel
theorem dX4_best_54 : decode cX4_best 54 = .ok (.bipush 8, 2) := by decide +kernel
theorem dX4_best_56 : decode cX4_best 56 = .ok (.iload_n 1, 1) := by decide +kernel
theorem dX4_best_57 : decode cX4_best 57 = .ok (.imul, 1) := by decide +kernel
theorem dX4_best_58 : decode cX4_best 58 = .ok (.iload_n 2, 1) := by decide +kernel
theorem dX4_best_59 : decode cX4_best 59 = .ok (.iadd, 1) := by decide +kernel
theorem dX4_best_60 : decode cX4_best 60 = .ok (.iload 5, 2) := by decide +kernel
theorem dX4_best_62 : decode cX4_best 62 = .ok (.invokevirtual 157, 3) := by decide +kernel
theorem dX4_best_65 : decode cX4_best 65 = .ok (.istore 6, 2) := by decide +kernel
theorem dX4_best_67 : decode cX4_best 67 = .ok (.iload 6, 2) := by decide +kernel
theorem dX4_best_69 : decode cX4_best 69 = .ok (.iload 4, 2) := by decide +kernel
theorem dX4_best_71 : decode cX4_best 71 = .ok (.if_icmp .lt 6, 3) := by decide +kernel
theorem dX4_best_74 : decode cX4_best 74 = .ok (.goto 10, 3) := by decide +kernel
theorem dX4_best_77 : decode cX4_best 77 = .ok (.iload 6, 2) := by decide +kernel
theorem dX4_best_79 : decode cX4_best 79 = .ok (.istore 4, 2) := by decide +kernel
theorem dX4_best_81 : decode cX4_best 81 = .ok (.iload 5, 2) := by decide +kernel
theorem dX4_best_83 : decode cX4_best 83 = .ok (.istore_n 3, 1) := by decide +kernel
theorem dX4_best_84 : decode cX4_best 84 = .ok (.iinc 5 1, 3) := by decide +kernel
theorem dX4_best_87 : decode cX4_best 87 = .ok (.goto (-43), 3) := by decide +kernel
theorem dX4_best_90 : decode cX4_best 90 = .ok (.iload_n 3, 1) := by decide +kernel
theorem dX4_best_91 : decode cX4_best 91 = .ok (.ireturn, 1) := by decide +kernel
theorem dX4_worst_0 : decode cX4_worst 0 = .ok (.aload_n 0, 1) := by decide +kernel
theorem dX4_worst_1 : decode cX4_worst 1 = .ok (.iconst 0, 1) := by decide +kernel
theorem dX4_worst_2 : decode cX4_worst 2 = .ok (.putfield 61, 3) := by decide +kernel
theorem dX4_worst_5 : decode cX4_worst 5 = .ok (.aload_n 0, 1) := by decide +kernel
theorem dX4_worst_6 : decode cX4_worst 6 = .ok (.invokevirtual 146, 3) := by decide +kernel
theorem dX4_worst_9 : decode cX4_worst 9 = .ok (.istore_n 1, 1) := by decide +kernel
theorem dX4_worst_10 : decode cX4_worst 10 = .ok (.iconst (-1), 1) := by decide +kernel
theorem dX4_worst_11 : decode cX4_worst 11 = .ok (.istore_n 2, 1) := by decide +kernel
theorem dX4_worst_12 : decode cX4_worst 12 = .ok (.iconst 0, 1) := by decide +kernel
theorem dX4_worst_13 : decode cX4_worst 13 = .ok (.istore_n 3, 1) := by decide +kernel
theorem dX4_worst_14 : decode cX4_worst 14 = .ok (.iload_n 3, 1) := by decide +kernel
theorem dX4_worst_15 : decode cX4_worst 15 = .ok (.aload_n 0, 1) := by decide +kernel
theorem dX4_worst_16 : decode cX4_worst 16 = .ok (.getfield 72, 3) := by decide +kernel
theorem dX4_worst_19 : decode cX4_worst 19 = .ok (.if_icmp .ge 82, 3) := by decide +kernel
theorem dX4_worst_22 : decode cX4_worst 22 = .ok (.iconst 0, 1) := by decide +kernel
theorem dX4_worst_23 : decode cX4_worst 23 = .ok (.istore 4, 2) := by decide +kernel
theorem dX4_worst_25 : decode cX4_worst 25 = .ok (.iload 4, 2) := by decide +kernel
theorem dX4_worst_27 : decode cX4_worst 27 = .ok (.aload_n 0, 1) := by decide +kernel
theorem dX4_worst_28 : decode cX4_worst 28 = .ok (.getfield 34, 3) := by decide +kernel
theorem dX4_worst_31 : decode cX4_worst 31 = .ok (.iload_n 3, 1) := by decide +kernel
theorem dX4_worst_32 : decode cX4_worst 32 = .ok (.iaload, 1) := by decide +kernel
theorem dX4_worst_33 : decode cX4_worst 33 = .ok (.if_icmp .ge 62, 3) := by decide +kernel
theorem dX4_worst_36 : decode cX4_worst 36 = .ok (.iconst 0, 1) := by decide +kernel
theorem dX4_worst_37 : decode cX4_worst 37 = .ok (.istore 5, 2) := by decide +kernel
theorem dX4_worst_39 : decode cX4_worst 39 = .ok (.iload 5, 2) := by decide +kernel
theorem dX4_worst_41 : decode cX4_worst 41 = .ok (.aload_n 0, 1) := by decide +kernel
theorem dX4_worst_42 : decode cX4_worst 42 = .ok (.getfield 65, 3) := by decide +kernel
theorem dX4_worst_45 : decode cX4_worst 45 = .ok (.if_icmp .ge 44, 3) := by decide +kernel
theorem dX4_worst_48 : decode cX4_worst 48 = .ok (.aload_n 0, 1) := by decide +kernel
theorem dX4_worst_49 : decode cX4_worst 49 = .ok (.bipush 8, 2) := by decide +kernel
theorem dX4_worst_51 : decode cX4_worst 51 = .ok (.iload_n 3, 1) := by decide +kernel
theorem dX4_worst_52 : decode cX4_worst 52 = .ok (.imul, 1) := by decide +kernel
theorem dX4_worst_53 : decode cX4_worst 53 = .ok (.iload 4, 2) := by decide +kernel
theorem dX4_worst_55 : decode cX4_worst 55 = .ok (.iadd, 1) := by decide +kernel
theorem dX4_worst_56 : decode cX4_worst 56 = .ok (.iload 5, 2) := by decide +kernel
theorem dX4_worst_58 : decode cX4_worst 58 = .ok (.invokevirtual 157, 3) := by decide +kernel
theorem dX4_worst_61 : decode cX4_worst 61 = .ok (.istore 6, 2) := by decide +kernel
theorem dX4_worst_63 : decode cX4_worst 63 = .ok (.iload 6, 2) := by decide +kernel
theorem dX4_worst_65 : decode cX4_worst 65 = .ok (.iload_n 1, 1) := by decide +kernel
theorem dX4_worst_66 : decode cX4_worst 66 = .ok (.if_icmp .lt 6, 3) := by decide +kernel
theorem dX4_worst_69 : decode cX4_worst 69 = .ok (.goto 14, 3) := by decide +kernel
theorem dX4_worst_72 : decode cX4_worst 72 = .ok (.iload 6, 2) := by decide +kernel
theorem dX4_worst_74 : decode cX4_worst 74 = .ok (.istore_n 1, 1) := by decide +kernel
theorem dX4_worst_75 : decode cX4_worst 75 = .ok (.bipush 10, 2) := by decide +kernel
theorem dX4_worst_77 : decode cX4_worst 77 = .ok (.iload_n 3, 1) := by decide +kernel
theorem dX4_worst_78 : decode cX4_worst 78 = .ok (.imul, 1) := by decide +kernel
theorem dX4_worst_79 : decode cX4_worst 79 = .ok (.iload 4, 2) := by decide +kernel
theorem dX4_worst_81 : decode cX4_worst 81 = .ok (.iadd, 1) := by decide +kernel
theorem dX4_worst_82 : decode cX4_worst 82 = .ok (.istore_n 2, 1) := by decide +kernel
theorem dX4_worst_83 : decode cX4_worst 83 = .ok (.iinc 5 1, 3) := by decide +kernel
theorem dX4_worst_86 : decode cX4_worst 86 = .ok (.goto (-47), 3) := by decide +kernel
theorem dX4_worst_89 : decode cX4_worst 89 = .ok (.iinc 4 1, 3) := by decide +kernel
theorem dX4_worst_92 : decode cX4_worst 92 = .ok (.goto (-67), 3) := by decide +kernel
theorem dX4_worst_95 : decode cX4_worst 95 = .ok (.iinc 3 1, 3) := by decide +kernel
theorem dX4_worst_98 : decode cX4_worst 98 = .ok (.goto (-84), 3) := by decide +kernel
theorem dX4_worst_101 : decode cX4_worst 101 = .ok (.iload_n 2, 1) := by decide +kernel
theorem dX4_worst_102 : decode cX4_worst 102 = .ok (.ireturn, 1) := by decide +kernel
theorem dX4_mean_0 : decode cX4_mean 0 = .ok (.aload_n 0, 1) := by decide +kernel
theorem dX4_mean_1 : decode cX4_mean 1 = .ok (.iconst 0, 1) := by decide +kernel
theorem dX4_mean_2 : decode cX4_mean 2 = .ok (.putfield 61, 3) := by decide +kernel
theorem dX4_mean_5 : decode cX4_mean 5 = .ok (.aload_n 0, 1) := by decide +kernel
theorem dX4_mean_6 : decode cX4_mean 6 = .ok (.getfield 72, 3) := by decide +kernel
theorem dX4_mean_9 : decode cX4_mean 9 = .ok (.ifCond .ne 7, 3) := by decide +kernel
theorem dX4_mean_12 : decode cX4_mean 12 = .ok (.dconst 0, 1) := by decide +kernel
theorem dX4_mean_13 : decode cX4_mean 13 = .ok (.goto 14, 3) := by decide +kernel
theorem dX4_mean_16 : decode cX4_mean 16 = .ok (.aload_n 0, 1) := by decide +kernel
theorem dX4_mean_17 : decode cX4_mean 17 = .ok (.invokevirtual 146, 3) := by decide +kernel
theorem dX4_mean_20 : decode cX4_mean 20 = .ok (.i2d, 1) := by decide +kernel
theorem dX4_mean_21 : decode cX4_mean 21 = .ok (.aload_n 0, 1) := by decide +kernel
theorem dX4_mean_22 : decode cX4_mean 22 = .ok (.getfield 72, 3) := by decide +kernel
theorem dX4_mean_25 : decode cX4_mean 25 = .ok (.i2d, 1) := by decide +kernel
theorem dX4_mean_26 : decode cX4_mean 26 = .ok (.ddiv, 1) := by decide +kernel
theorem dX4_mean_27 : decode cX4_mean 27 = .ok (.dreturn, 1) := by decide +kernel
theorem dX4_digest_0 : decode cX4_digest 0 = .ok (.aload_n 0, 1) := by decide +kernel
theorem dX4_digest_1 : decode cX4_digest 1 = .ok (.iconst 0, 1) := by decide +kernel
theorem dX4_digest_2 : decode cX4_digest 2 = .ok (.putfield 61, 3) := by decide +kernel
theorem dX4_digest_5 : decode cX4_digest 5 = .ok (.ldc2_w 160, 3) := by decide +kernel
theorem dX4_digest_8 : decode cX4_digest 8 = .ok (.lstore_n 1, 1) := by decide +kernel
theorem dX4_digest_9 : decode cX4_digest 9 = .ok (.iconst 0, 1) := by decide +kernel
theorem dX4_digest_10 : decode cX4_digest 10 = .ok (.istore_n 3, 1) := by decide +kernel
theorem dX4_digest_11 : decode cX4_digest 11 = .ok (.iload_n 3, 1) := by decide +kernel
theorem dX4_digest_12 : decode cX4_digest 12 = .ok (.bipush 7, 2) := by decide +kernel
theorem dX4_digest_14 : decode cX4_digest 14 = .ok (.if_icmp .ge 22, 3) := by decide +kernel
theorem dX4_digest_17 : decode cX4_digest 17 = .ok (.lload_n 1, 1) := by decide +kernel
theorem dX4_digest_18 : decode cX4_digest 18 = .ok (.ldc2_w 162, 3) := by decide +kernel
theorem dX4_digest_21 : decode cX4_digest 21 = .ok (.lmul, 1) := by decide +kernel
theorem dX4_digest_22 : decode cX4_digest 22 = .ok (.aload_n 0, 1) := by decide +kernel
theorem dX4_digest_23 : decode cX4_digest 23 = .ok (.iload_n 3, 1) := by decide +kernel
theorem dX4_digest_24 : decode cX4_digest 24 = .ok (.invokevirtual 154, 3) := by decide +kernel
theorem dX4_digest_27 : decode cX4_digest 27 = .ok (.i2l, 1) := by decide +kernel
theorem dX4_digest_28 : decode cX4_digest 28 = .ok (.ladd, 1) := by decide +kernel
theorem dX4_digest_29 : decode cX4_digest 29 = .ok (.lstore_n 1, 1) := by decide +kernel
theorem dX4_digest_30 : decode cX4_digest 30 = .ok (.iinc 3 1, 3) := by decide +kernel
theorem dX4_digest_33 : decode cX4_digest 33 = .ok (.goto (-22), 3) := by decide +kernel
theorem dX4_digest_36 : decode cX4_digest 36 = .ok (.iconst 0, 1) := by decide +kernel
theorem dX4_digest_37 : decode cX4_digest 37 = .ok (.istore_n 3, 1) := by decide +kernel
theorem dX4_digest_38 : decode cX4_digest 38 = .ok (.iload_n 3, 1) := by decide +kernel
theorem dX4_digest_39 : decode cX4_digest 39 = .ok (.aload_n 0, 1) := by decide +kernel
theorem dX4_digest_40 : decode cX4_digest 40 = .ok (.getfield 65, 3) := by decide +kernel
theorem dX4_digest_43 : decode cX4_digest 43 = .ok (.if_icmp .ge 40, 3) := by decide +kernel
theorem dX4_digest_46 : decode cX4_digest 46 = .ok (.iconst 0, 1) := by decide +kernel
theorem dX4_digest_47 : decode cX4_digest 47 = .ok (.istore 4, 2) := by decide +kernel
theorem dX4_digest_49 : decode cX4_digest 49 = .ok (.iload 4, 2) := by decide +kernel
theorem dX4_digest_51 : decode cX4_digest 51 = .ok (.bipush 6, 2) := by decide +kernel
theorem dX4_digest_53 : decode cX4_digest 53 = .ok (.if_icmp .ge 24, 3) := by decide +kernel
theorem dX4_digest_56 : decode cX4_digest 56 = .ok (.lload_n 1, 1) := by decide +kernel
theorem dX4_digest_57 : decode cX4_digest 57 = .ok (.ldc2_w 162, 3) := by decide +kernel
theorem dX4_digest_60 : decode cX4_digest 60 = .ok (.lmul, 1) := by decide +kernel
theorem dX4_digest_61 : decode cX4_digest 61 = .ok (.aload_n 0, 1) := by decide +kernel
theorem dX4_digest_62 : decode cX4_digest 62 = .ok (.iload_n 3, 1) := by decide +kernel
theorem dX4_digest_63 : decode cX4_digest 63 = .ok (.iload 4, 2) := by decide +kernel
theorem dX4_digest_65 : decode cX4_digest 65 = .ok (.invokevirtual 83, 3) := by decide +kernel
theorem dX4_digest_68 : decode cX4_digest 68 = .ok (.i2l, 1) := by decide +kernel
end
section
theorem dX4_digest_69 : decode cX4_digest 69 = .ok (.ladd, 1) := by decide +kernel
theorem dX4_digest_70 : decode cX4_digest 70 = .ok (.lstore_n 1, 1) := by decide +kernel
theorem dX4_digest_71 : decode cX4_digest 71 = .ok (.iinc 4 1, 3) := by decide +kernel
theorem dX4_digest_74 : decode cX4_digest 74 = .ok (.goto (-25), 3) := by decide +kernel
theorem dX4_digest_77 : decode cX4_digest 77 = .ok (.iinc 3 1, 3) := by decide +kernel
theorem dX4_digest_80 : decode cX4_digest 80 = .ok (.goto (-42), 3) := by decide +kernel
theorem dX4_digest_83 : decode cX4_digest 83 = .ok (.aload_n 0, 1) := by decide +kernel
theorem dX4_digest_84 : decode cX4_digest 84 = .ok (.invokevirtual 146, 3) := by decide +kernel
theorem dX4_digest_87 : decode cX4_digest 87 = .ok (.pop, 1) := by decide +kernel
theorem dX4_digest_88 : decode cX4_digest 88 = .ok (.iconst 0, 1) := by decide +kernel
theorem dX4_digest_89 : decode cX4_digest 89 = .ok (.istore_n 3, 1) := by decide +kernel
theorem dX4_digest_90 : decode cX4_digest 90 = .ok (.iload_n 3, 1) := by decide +kernel
theorem dX4_digest_91 : decode cX4_digest 91 = .ok (.aload_n 0, 1) := by decide +kernel
theorem dX4_digest_92 : decode cX4_digest 92 = .ok (.getfield 72, 3) := by decide +kernel
theorem dX4_digest_95 : decode cX4_digest 95 = .ok (.if_icmp .ge 119, 3) := by decide +kernel
theorem dX4_digest_98 : decode cX4_digest 98 = .ok (.iconst 0, 1) := by decide +kernel
theorem dX4_digest_99 : decode cX4_digest 99 = .ok (.istore 4, 2) := by decide +kernel
theorem dX4_digest_101 : decode cX4_digest 101 = .ok (.iload 4, 2) := by decide +kernel
theorem dX4_digest_103 : decode cX4_digest 103 = .ok (.bipush 12, 2) := by decide +kernel
theorem dX4_digest_105 : decode cX4_digest 105 = .ok (.if_icmp .ge 24, 3) := by decide +kernel
theorem dX4_digest_108 : decode cX4_digest 108 = .ok (.lload_n 1, 1) := by decide +kernel
theorem dX4_digest_109 : decode cX4_digest 109 = .ok (.ldc2_w 162, 3) := by decide +kernel
theorem dX4_digest_112 : decode cX4_digest 112 = .ok (.lmul, 1) := by decide +kernel
theorem dX4_digest_113 : decode cX4_digest 113 = .ok (.aload_n 0, 1) := by decide +kernel
theorem dX4_digest_114 : decode cX4_digest 114 = .ok (.iload_n 3, 1) := by decide +kernel
theorem dX4_digest_115 : decode cX4_digest 115 = .ok (.iload 4, 2) := by decide +kernel
theorem dX4_digest_117 : decode cX4_digest 117 = .ok (.invokevirtual 150, 3) := by decide +kernel
theorem dX4_digest_120 : decode cX4_digest 120 = .ok (.i2l, 1) := by decide +kernel
theorem dX4_digest_121 : decode cX4_digest 121 = .ok (.ladd, 1) := by decide +kernel
theorem dX4_digest_122 : decode cX4_digest 122 = .ok (.lstore_n 1, 1) := by decide +kernel
theorem dX4_digest_123 : decode cX4_digest 123 = .ok (.iinc 4 1, 3) := by decide +kernel
theorem dX4_digest_126 : decode cX4_digest 126 = .ok (.goto (-25), 3) := by decide +kernel
theorem dX4_digest_129 : decode cX4_digest 129 = .ok (.iconst 0, 1) := by decide +kernel
theorem dX4_digest_130 : decode cX4_digest 130 = .ok (.istore 4, 2) := by decide +kernel
theorem dX4_digest_132 : decode cX4_digest 132 = .ok (.iload 4, 2) := by decide +kernel
theorem dX4_digest_134 : decode cX4_digest 134 = .ok (.aload_n 0, 1) := by decide +kernel
theorem dX4_digest_135 : decode cX4_digest 135 = .ok (.getfield 34, 3) := by decide +kernel
theorem dX4_digest_138 : decode cX4_digest 138 = .ok (.iload_n 3, 1) := by decide +kernel
theorem dX4_digest_139 : decode cX4_digest 139 = .ok (.iaload, 1) := by decide +kernel
theorem dX4_digest_140 : decode cX4_digest 140 = .ok (.if_icmp .ge 29, 3) := by decide +kernel
theorem dX4_digest_143 : decode cX4_digest 143 = .ok (.lload_n 1, 1) := by decide +kernel
theorem dX4_digest_144 : decode cX4_digest 144 = .ok (.ldc2_w 162, 3) := by decide +kernel
theorem dX4_digest_147 : decode cX4_digest 147 = .ok (.lmul, 1) := by decide +kernel
theorem dX4_digest_148 : decode cX4_digest 148 = .ok (.aload_n 0, 1) := by decide +kernel
theorem dX4_digest_149 : decode cX4_digest 149 = .ok (.getfield 37, 3) := by decide +kernel
theorem dX4_digest_152 : decode cX4_digest 152 = .ok (.bipush 8, 2) := by decide +kernel
theorem dX4_digest_154 : decode cX4_digest 154 = .ok (.iload_n 3, 1) := by decide +kernel
theorem dX4_digest_155 : decode cX4_digest 155 = .ok (.imul, 1) := by decide +kernel
theorem dX4_digest_156 : decode cX4_digest 156 = .ok (.iload 4, 2) := by decide +kernel
theorem dX4_digest_158 : decode cX4_digest 158 = .ok (.iadd, 1) := by decide +kernel
theorem dX4_digest_159 : decode cX4_digest 159 = .ok (.iaload, 1) := by decide +kernel
theorem dX4_digest_160 : decode cX4_digest 160 = .ok (.i2l, 1) := by decide +kernel
theorem dX4_digest_161 : decode cX4_digest 161 = .ok (.ladd, 1) := by decide +kernel
theorem dX4_digest_162 : decode cX4_digest 162 = .ok (.lstore_n 1, 1) := by decide +kernel
theorem dX4_digest_163 : decode cX4_digest 163 = .ok (.iinc 4 1, 3) := by decide +kernel
theorem dX4_digest_166 : decode cX4_digest 166 = .ok (.goto (-34), 3) := by decide +kernel
theorem dX4_digest_169 : decode cX4_digest 169 = .ok (.iconst 0, 1) := by decide +kernel
theorem dX4_digest_170 : decode cX4_digest 170 = .ok (.istore 4, 2) := by decide +kernel
theorem dX4_digest_172 : decode cX4_digest 172 = .ok (.iload 4, 2) := by decide +kernel
theorem dX4_digest_174 : decode cX4_digest 174 = .ok (.aload_n 0, 1) := by decide +kernel
theorem dX4_digest_175 : decode cX4_digest 175 = .ok (.getfield 46, 3) := by decide +kernel
theorem dX4_digest_178 : decode cX4_digest 178 = .ok (.iload_n 3, 1) := by decide +kernel
theorem dX4_digest_179 : decode cX4_digest 179 = .ok (.iaload, 1) := by decide +kernel
theorem dX4_digest_180 : decode cX4_digest 180 = .ok (.if_icmp .ge 28, 3) := by decide +kernel
theorem dX4_digest_183 : decode cX4_digest 183 = .ok (.lload_n 1, 1) := by decide +kernel
theorem dX4_digest_184 : decode cX4_digest 184 = .ok (.ldc2_w 162, 3) := by decide +kernel
theorem dX4_digest_187 : decode cX4_digest 187 = .ok (.lmul, 1) := by decide +kernel
theorem dX4_digest_188 : decode cX4_digest 188 = .ok (.aload_n 0, 1) := by decide +kernel
theorem dX4_digest_189 : decode cX4_digest 189 = .ok (.getfield 49, 3) := by decide +kernel
theorem dX4_digest_192 : decode cX4_digest 192 = .ok (.iload_n 3, 1) := by decide +kernel
theorem dX4_digest_193 : decode cX4_digest 193 = .ok (.iaload, 1) := by decide +kernel
theorem dX4_digest_194 : decode cX4_digest 194 = .ok (.iload 4, 2) := by decide +kernel
theorem dX4_digest_196 : decode cX4_digest 196 = .ok (.ishr, 1) := by decide +kernel
theorem dX4_digest_197 : decode cX4_digest 197 = .ok (.iconst 1, 1) := by decide +kernel
theorem dX4_digest_198 : decode cX4_digest 198 = .ok (.iand, 1) := by decide +kernel
theorem dX4_digest_199 : decode cX4_digest 199 = .ok (.i2l, 1) := by decide +kernel
theorem dX4_digest_200 : decode cX4_digest 200 = .ok (.ladd, 1) := by decide +kernel
theorem dX4_digest_201 : decode cX4_digest 201 = .ok (.lstore_n 1, 1) := by decide +kernel
theorem dX4_digest_202 : decode cX4_digest 202 = .ok (.iinc 4 1, 3) := by decide +kernel
theorem dX4_digest_205 : decode cX4_digest 205 = .ok (.goto (-33), 3) := by decide +kernel
theorem dX4_digest_208 : decode cX4_digest 208 = .ok (.iinc 3 1, 3) := by decide +kernel
theorem dX4_digest_211 : decode cX4_digest 211 = .ok (.goto (-121), 3) := by decide +kernel
theorem dX4_digest_214 : decode cX4_digest 214 = .ok (.lload_n 1, 1) := by decide +kernel
theorem dX4_digest_215 : decode cX4_digest 215 = .ok (.lreturn, 1) := by decide +kernel
theorem dJ6_bitCount_0f7a4_0 : decode cJ6_bitCount_0f7a4 0 = .ok (.iload_n 0, 1) := by decide +kernel
theorem dJ6_bitCount_0f7a4_1 : decode cJ6_bitCount_0f7a4 1 = .ok (.iload_n 0, 1) := by decide +kernel
theorem dJ6_bitCount_0f7a4_2 : decode cJ6_bitCount_0f7a4 2 = .ok (.iconst 1, 1) := by decide +kernel
theorem dJ6_bitCount_0f7a4_3 : decode cJ6_bitCount_0f7a4 3 = .ok (.iushr, 1) := by decide +kernel
theorem dJ6_bitCount_0f7a4_4 : decode cJ6_bitCount_0f7a4 4 = .ok (.ldc_w 265, 3) := by decide +kernel
theorem dJ6_bitCount_0f7a4_7 : decode cJ6_bitCount_0f7a4 7 = .ok (.iand, 1) := by decide +kernel
theorem dJ6_bitCount_0f7a4_8 : decode cJ6_bitCount_0f7a4 8 = .ok (.isub, 1) := by decide +kernel
theorem dJ6_bitCount_0f7a4_9 : decode cJ6_bitCount_0f7a4 9 = .ok (.istore_n 0, 1) := by decide +kernel
theorem dJ6_bitCount_0f7a4_10 : decode cJ6_bitCount_0f7a4 10 = .ok (.iload_n 0, 1) := by decide +kernel
theorem dJ6_bitCount_0f7a4_11 : decode cJ6_bitCount_0f7a4 11 = .ok (.ldc_w 266, 3) := by decide +kernel
theorem dJ6_bitCount_0f7a4_14 : decode cJ6_bitCount_0f7a4 14 = .ok (.iand, 1) := by decide +kernel
theorem dJ6_bitCount_0f7a4_15 : decode cJ6_bitCount_0f7a4 15 = .ok (.iload_n 0, 1) := by decide +kernel
theorem dJ6_bitCount_0f7a4_16 : decode cJ6_bitCount_0f7a4 16 = .ok (.iconst 2, 1) := by decide +kernel
theorem dJ6_bitCount_0f7a4_17 : decode cJ6_bitCount_0f7a4 17 = .ok (.iushr, 1) := by decide +kernel
theorem dJ6_bitCount_0f7a4_18 : decode cJ6_bitCount_0f7a4 18 = .ok (.ldc_w 266, 3) := by decide +kernel
theorem dJ6_bitCount_0f7a4_21 : decode cJ6_bitCount_0f7a4 21 = .ok (.iand, 1) := by decide +kernel
theorem dJ6_bitCount_0f7a4_22 : decode cJ6_bitCount_0f7a4 22 = .ok (.iadd, 1) := by decide +kernel
theorem dJ6_bitCount_0f7a4_23 : decode cJ6_bitCount_0f7a4 23 = .ok (.istore_n 0, 1) := by decide +kernel
theorem dJ6_bitCount_0f7a4_24 : decode cJ6_bitCount_0f7a4 24 = .ok (.iload_n 0, 1) := by decide +kernel
theorem dJ6_bitCount_0f7a4_25 : decode cJ6_bitCount_0f7a4 25 = .ok (.iload_n 0, 1) := by decide +kernel
theorem dJ6_bitCount_0f7a4_26 : decode cJ6_bitCount_0f7a4 26 = .ok (.iconst 4, 1) := by decide +kernel
theorem dJ6_bitCount_0f7a4_27 : decode cJ6_bitCount_0f7a4 27 = .ok (.iushr, 1) := by decide +kernel
theorem dJ6_bitCount_0f7a4_28 : decode cJ6_bitCount_0f7a4 28 = .ok (.iadd, 1) := by decide +kernel
theorem dJ6_bitCount_0f7a4_29 : decode cJ6_bitCount_0f7a4 29 = .ok (.ldc_w 267, 3) := by decide +kernel
theorem dJ6_bitCount_0f7a4_32 : decode cJ6_bitCount_0f7a4 32 = .ok (.iand, 1) := by decide +kernel
theorem dJ6_bitCount_0f7a4_33 : decode cJ6_bitCount_0f7a4 33 = .ok (.istore_n 0, 1) := by decide +kernel
theorem dJ6_bitCount_0f7a4_34 : decode cJ6_bitCount_0f7a4 34 = .ok (.iload_n 0, 1) := by decide +kernel
theorem dJ6_bitCount_0f7a4_35 : decode cJ6_bitCount_0f7a4 35 = .ok (.iload_n 0, 1) := by decide +kernel
theorem dJ6_bitCount_0f7a4_36 : decode cJ6_bitCount_0f7a4 36 = .ok (.bipush 8, 2) := by decide +kernel
theorem dJ6_bitCount_0f7a4_38 : decode cJ6_bitCount_0f7a4 38 = .ok (.iushr, 1) := by decide +kernel
theorem dJ6_bitCount_0f7a4_39 : decode cJ6_bitCount_0f7a4 39 = .ok (.iadd, 1) := by decide +kernel
theorem dJ6_bitCount_0f7a4_40 : decode cJ6_bitCount_0f7a4 40 = .ok (.istore_n 0, 1) := by decide +kernel
theorem dJ6_bitCount_0f7a4_41 : decode cJ6_bitCount_0f7a4 41 = .ok (.iload_n 0, 1) := by decide +kernel
theorem dJ6_bitCount_0f7a4_42 : decode cJ6_bitCount_0f7a4 42 = .ok (.iload_n 0, 1) := by decide +kernel
theorem dJ6_bitCount_0f7a4_43 : decode cJ6_bitCount_0f7a4 43 = .ok (.bipush 16, 2) := by decide +kernel
theorem dJ6_bitCount_0f7a4_45 : decode cJ6_bitCount_0f7a4 45 = .ok (.iushr, 1) := by decide +kernel
theorem dJ6_bitCount_0f7a4_46 : decode cJ6_bitCount_0f7a4 46 = .ok (.iadd, 1) := by decide +kernel
theorem dJ6_bitCount_0f7a4_47 : decode cJ6_bitCount_0f7a4 47 = .ok (.istore_n 0, 1) := by decide +kernel
theorem dJ6_bitCount_0f7a4_48 : decode cJ6_bitCount_0f7a4 48 = .ok (.iload_n 0, 1) := by decide +kernel
theorem dJ6_bitCount_0f7a4_49 : decode cJ6_bitCount_0f7a4 49 = .ok (.bipush 63, 2) := by decide +kernel
theorem dJ6_bitCount_0f7a4_51 : decode cJ6_bitCount_0f7a4 51 = .ok (.iand, 1) := by decide +kernel
theorem dJ6_bitCount_0f7a4_52 : decode cJ6_bitCount_0f7a4 52 = .ok (.ireturn, 1) := by decide +kernel
theorem dJ13_bitCount_95d88_0 : decode cJ13_bitCount_95d88 0 = .ok (.lload_n 0, 1) := by decide +kernel
theorem dJ13_bitCount_95d88_1 : decode cJ13_bitCount_95d88 1 = .ok (.lload_n 0, 1) := by decide +kernel
theorem dJ13_bitCount_95d88_2 : decode cJ13_bitCount_95d88 2 = .ok (.iconst 1, 1) := by decide +kernel
theorem dJ13_bitCount_95d88_3 : decode cJ13_bitCount_95d88 3 = .ok (.lushr, 1) := by decide +kernel
theorem dJ13_bitCount_95d88_4 : decode cJ13_bitCount_95d88 4 = .ok (.ldc2_w 314, 3) := by decide +kernel
theorem dJ13_bitCount_95d88_7 : decode cJ13_bitCount_95d88 7 = .ok (.land, 1) := by decide +kernel
theorem dJ13_bitCount_95d88_8 : decode cJ13_bitCount_95d88 8 = .ok (.lsub, 1) := by decide +kernel
theorem dJ13_bitCount_95d88_9 : decode cJ13_bitCount_95d88 9 = .ok (.lstore_n 0, 1) := by decide +kernel
theorem dJ13_bitCount_95d88_10 : decode cJ13_bitCount_95d88 10 = .ok (.lload_n 0, 1) := by decide +kernel
theorem dJ13_bitCount_95d88_11 : decode cJ13_bitCount_95d88 11 = .ok (.ldc2_w 316, 3) := by decide +kernel
theorem dJ13_bitCount_95d88_14 : decode cJ13_bitCount_95d88 14 = .ok (.land, 1) := by decide +kernel
theorem dJ13_bitCount_95d88_15 : decode cJ13_bitCount_95d88 15 = .ok (.lload_n 0, 1) := by decide +kernel
theorem dJ13_bitCount_95d88_16 : decode cJ13_bitCount_95d88 16 = .ok (.iconst 2, 1) := by decide +kernel
theorem dJ13_bitCount_95d88_17 : decode cJ13_bitCount_95d88 17 = .ok (.lushr, 1) := by decide +kernel
theorem dJ13_bitCount_95d88_18 : decode cJ13_bitCount_95d88 18 = .ok (.ldc2_w 316, 3) := by decide +kernel
theorem dJ13_bitCount_95d88_21 : decode cJ13_bitCount_95d88 21 = .ok (.land, 1) := by decide +kernel
theorem dJ13_bitCount_95d88_22 : decode cJ13_bitCount_95d88 22 = .ok (.ladd, 1) := by decide +kernel
theorem dJ13_bitCount_95d88_23 : decode cJ13_bitCount_95d88 23 = .ok (.lstore_n 0, 1) := by decide +kernel
theorem dJ13_bitCount_95d88_24 : decode cJ13_bitCount_95d88 24 = .ok (.lload_n 0, 1) := by decide +kernel
theorem dJ13_bitCount_95d88_25 : decode cJ13_bitCount_95d88 25 = .ok (.lload_n 0, 1) := by decide +kernel
theorem dJ13_bitCount_95d88_26 : decode cJ13_bitCount_95d88 26 = .ok (.iconst 4, 1) := by decide +kernel
theorem dJ13_bitCount_95d88_27 : decode cJ13_bitCount_95d88 27 = .ok (.lushr, 1) := by decide +kernel
theorem dJ13_bitCount_95d88_28 : decode cJ13_bitCount_95d88 28 = .ok (.ladd, 1) := by decide +kernel
theorem dJ13_bitCount_95d88_29 : decode cJ13_bitCount_95d88 29 = .ok (.ldc2_w 318, 3) := by decide +kernel
theorem dJ13_bitCount_95d88_32 : decode cJ13_bitCount_95d88 32 = .ok (.land, 1) := by decide +kernel
theorem dJ13_bitCount_95d88_33 : decode cJ13_bitCount_95d88 33 = .ok (.lstore_n 0, 1) := by decide +kernel
theorem dJ13_bitCount_95d88_34 : decode cJ13_bitCount_95d88 34 = .ok (.lload_n 0, 1) := by decide +kernel
theorem dJ13_bitCount_95d88_35 : decode cJ13_bitCount_95d88 35 = .ok (.lload_n 0, 1) := by decide +kernel
theorem dJ13_bitCount_95d88_36 : decode cJ13_bitCount_95d88 36 = .ok (.bipush 8, 2) := by decide +kernel
theorem dJ13_bitCount_95d88_38 : decode cJ13_bitCount_95d88 38 = .ok (.lushr, 1) := by decide +kernel
theorem dJ13_bitCount_95d88_39 : decode cJ13_bitCount_95d88 39 = .ok (.ladd, 1) := by decide +kernel
theorem dJ13_bitCount_95d88_40 : decode cJ13_bitCount_95d88 40 = .ok (.lstore_n 0, 1) := by decide +kernel
theorem dJ13_bitCount_95d88_41 : decode cJ13_bitCount_95d88 41 = .ok (.lload_n 0, 1) := by decide +kernel
theorem dJ13_bitCount_95d88_42 : decode cJ13_bitCount_95d88 42 = .ok (.lload_n 0, 1) := by decide +kernel
theorem dJ13_bitCount_95d88_43 : decode cJ13_bitCount_95d88 43 = .ok (.bipush 16, 2) := by decide +kernel
theorem dJ13_bitCount_95d88_45 : decode cJ13_bitCount_95d88 45 = .ok (.lushr, 1) := by decide +kernel
theorem dJ13_bitCount_95d88_46 : decode cJ13_bitCount_95d88 46 = .ok (.ladd, 1) := by decide +kernel
theorem dJ13_bitCount_95d88_47 : decode cJ13_bitCount_95d88 47 = .ok (.lstore_n 0, 1) := by decide +kernel
theorem dJ13_bitCount_95d88_48 : decode cJ13_bitCount_95d88 48 = .ok (.lload_n 0, 1) := by decide +kernel
theorem dJ13_bitCount_95d88_49 : decode cJ13_bitCount_95d88 49 = .ok (.lload_n 0, 1) := by decide +kernel
theorem dJ13_bitCount_95d88_50 : decode cJ13_bitCount_95d88 50 = .ok (.bipush 32, 2) := by decide +kernel
theorem dJ13_bitCount_95d88_52 : decode cJ13_bitCount_95d88 52 = .ok (.lushr, 1) := by decide +kernel
theorem dJ13_bitCount_95d88_53 : decode cJ13_bitCount_95d88 53 = .ok (.ladd, 1) := by decide +kernel
theorem dJ13_bitCount_95d88_54 : decode cJ13_bitCount_95d88 54 = .ok (.lstore_n 0, 1) := by decide +kernel
theorem dJ13_bitCount_95d88_55 : decode cJ13_bitCount_95d88 55 = .ok (.lload_n 0, 1) := by decide +kernel
theorem dJ13_bitCount_95d88_56 : decode cJ13_bitCount_95d88 56 = .ok (.l2i, 1) := by decide +kernel
theorem dJ13_bitCount_95d88_57 : decode cJ13_bitCount_95d88 57 = .ok (.bipush 127, 2) := by decide +kernel
theorem dJ13_bitCount_95d88_59 : decode cJ13_bitCount_95d88 59 = .ok (.iand, 1) := by decide +kernel
theorem dJ13_bitCount_95d88_60 : decode cJ13_bitCount_95d88 60 = .ok (.ireturn, 1) := by decide +kernel
theorem dJ9_max_7cf53_0 : decode cJ9_max_7cf53 0 = .ok (.iload_n 0, 1) := by decide +kernel
theorem dJ9_max_7cf53_1 : decode cJ9_max_7cf53 1 = .ok (.iload_n 1, 1) := by decide +kernel
theorem dJ9_max_7cf53_2 : decode cJ9_max_7cf53 2 = .ok (.if_icmp .lt 7, 3) := by decide +kernel
theorem dJ9_max_7cf53_5 : decode cJ9_max_7cf53 5 = .ok (.iload_n 0, 1) := by decide +kernel
theorem dJ9_max_7cf53_6 : decode cJ9_max_7cf53 6 = .ok (.goto 4, 3) := by decide +kernel
theorem dJ9_max_7cf53_9 : decode cJ9_max_7cf53 9 = .ok (.iload_n 1, 1) := by decide +kernel
theorem dJ9_max_7cf53_10 : decode cJ9_max_7cf53 10 = .ok (.ireturn, 1) := by decide +kernel
theorem dJ9_min_7cf53_0 : decode cJ9_min_7cf53 0 = .ok (.iload_n 0, 1) := by decide +kernel
theorem dJ9_min_7cf53_1 : decode cJ9_min_7cf53 1 = .ok (.iload_n 1, 1) := by decide +kernel
theorem dJ9_min_7cf53_2 : decode cJ9_min_7cf53 2 = .ok (.if_icmp .gt 7, 3) := by decide +kernel
theorem dJ9_min_7cf53_5 : decode cJ9_min_7cf53 5 = .ok (.iload_n 0, 1) := by decide +kernel
theorem dJ9_min_7cf53_6 : decode cJ9_min_7cf53 6 = .ok (.goto 4, 3) := by decide +kernel
theorem dJ9_min_7cf53_9 : decode cJ9_min_7cf53 9 = .ok (.iload_n 1, 1) := by decide +kernel
theorem dJ9_min_7cf53_10 : decode cJ9_min_7cf53 10 = .ok (.ireturn, 1) := by decide +kernel
theorem dJxa1e45_init_da8c8_0 : decode cJxa1e45_init_da8c8 0 = .ok (.aload_n 0, 1) := by decide +kernel
theorem dJxa1e45_init_da8c8_1 : decode cJxa1e45_init_da8c8 1 = .ok (.invokespecial 1, 3) := by decide +kernel
theorem dJxa1e45_init_da8c8_4 : decode cJxa1e45_init_da8c8 4 = .ok (.return_, 1) := by decide +kernel
theorem dJxc12de_init_da8c8_0 : decode cJxc12de_init_da8c8 0 = .ok (.aload_n 0, 1) := by decide +kernel
theorem dJxc12de_init_da8c8_1 : decode cJxc12de_init_da8c8 1 = .ok (.invokespecial 1, 3) := by decide +kernel
theorem dJxc12de_init_da8c8_4 : decode cJxc12de_init_da8c8 4 = .ok (.aload_n 0, 1) := by decide +kernel
theorem dJxc12de_init_da8c8_5 : decode cJxc12de_init_da8c8 5 = .ok (.iconst 0, 1) := by decide +kernel
theorem dJxc12de_init_da8c8_6 : decode cJxc12de_init_da8c8 6 = .ok (.putfield 7, 3) := by decide +kernel
theorem dJxc12de_init_da8c8_9 : decode cJxc12de_init_da8c8 9 = .ok (.return_, 1) := by decide +kernel
theorem dJx4a65c_init_da8c8_0 : decode cJx4a65c_init_da8c8 0 = .ok (.aload_n 0, 1) := by decide +kernel
theorem dJx4a65c_init_da8c8_1 : decode cJx4a65c_init_da8c8 1 = .ok (.invokespecial 1, 3) := by decide +kernel
theorem dJx4a65c_init_da8c8_4 : decode cJx4a65c_init_da8c8 4 = .ok (.aload_n 0, 1) := by decide +kernel
theorem dJx4a65c_init_da8c8_5 : decode cJx4a65c_init_da8c8 5 = .ok (.getstatic 39, 3) := by decide +kernel
theorem dJx4a65c_init_da8c8_8 : decode cJx4a65c_init_da8c8 8 = .ok (.putfield 9, 3) := by decide +kernel
theorem dJx4a65c_init_da8c8_11 : decode cJx4a65c_init_da8c8 11 = .ok (.return_, 1) := by decide +kernel
theorem dJx4a65c_grow_92f84_0 : decode cJx4a65c_grow_92f84 0 = .ok (.aload_n 0, 1) := by decide +kernel
theorem dJx4a65c_grow_92f84_1 : decode cJx4a65c_grow_92f84 1 = .ok (.getfield 9, 3) := by decide +kernel
theorem dJx4a65c_grow_92f84_4 : decode cJx4a65c_grow_92f84 4 = .ok (.arraylength, 1) := by decide +kernel
theorem dJx4a65c_grow_92f84_5 : decode cJx4a65c_grow_92f84 5 = .ok (.istore_n 2, 1) := by decide +kernel
theorem dJx4a65c_grow_92f84_6 : decode cJx4a65c_grow_92f84 6 = .ok (.iload_n 2, 1) := by decide +kernel
theorem dJx4a65c_grow_92f84_7 : decode cJx4a65c_grow_92f84 7 = .ok (.ifCond .gt 13, 3) := by decide +kernel
theorem dJx4a65c_grow_92f84_10 : decode cJx4a65c_grow_92f84 10 = .ok (.aload_n 0, 1) := by decide +kernel
theorem dJx4a65c_grow_92f84_11 : decode cJx4a65c_grow_92f84 11 = .ok (.getfield 9, 3) := by decide +kernel
theorem dJx4a65c_grow_92f84_14 : decode cJx4a65c_grow_92f84 14 = .ok (.getstatic 39, 3) := by decide +kernel
theorem dJx4a65c_grow_92f84_17 : decode cJx4a65c_grow_92f84 17 = .ok (.if_acmp .eq 28, 3) := by decide +kernel
theorem dJx4a65c_grow_92f84_20 : decode cJx4a65c_grow_92f84 20 = .ok (.iload_n 2, 1) := by decide +kernel
theorem dJx4a65c_grow_92f84_21 : decode cJx4a65c_grow_92f84 21 = .ok (.iload_n 1, 1) := by decide +kernel
theorem dJx4a65c_grow_92f84_22 : decode cJx4a65c_grow_92f84 22 = .ok (.iload_n 2, 1) := by decide +kernel
theorem dJx4a65c_grow_92f84_23 : decode cJx4a65c_grow_92f84 23 = .ok (.isub, 1) := by decide +kernel
theorem dJx4a65c_grow_92f84_24 : decode cJx4a65c_grow_92f84 24 = .ok (.iload_n 2, 1) := by decide +kernel
theorem dJx4a65c_grow_92f84_25 : decode cJx4a65c_grow_92f84 25 = .ok (.iconst 1, 1) := by decide +kernel
theorem dJx4a65c_grow_92f84_26 : decode cJx4a65c_grow_92f84 26 = .ok (.ishr, 1) := by decide +kernel
theorem dJx4a65c_grow_92f84_27 : decode cJx4a65c_grow_92f84 27 = .ok (.invokestatic 73, 3) := by decide +kernel
theorem dJx4a65c_grow_92f84_30 : decode cJx4a65c_grow_92f84 30 = .ok (.istore_n 3, 1) := by decide +kernel
theorem dJx4a65c_grow_92f84_31 : decode cJx4a65c_grow_92f84 31 = .ok (.aload_n 0, 1) := by decide +kernel
theorem dJx4a65c_grow_92f84_32 : decode cJx4a65c_grow_92f84 32 = .ok (.aload_n 0, 1) := by decide +kernel
theorem dJx4a65c_grow_92f84_33 : decode cJx4a65c_grow_92f84 33 = .ok (.getfield 9, 3) := by decide +kernel
theorem dJx4a65c_grow_92f84_36 : decode cJx4a65c_grow_92f84 36 = .ok (.iload_n 3, 1) := by decide +kernel
theorem dJx4a65c_grow_92f84_37 : decode cJx4a65c_grow_92f84 37 = .ok (.invokestatic 66, 3) := by decide +kernel
theorem dJx4a65c_grow_92f84_40 : decode cJx4a65c_grow_92f84 40 = .ok (.dup_x1, 1) := by decide +kernel
theorem dJx4a65c_grow_92f84_41 : decode cJx4a65c_grow_92f84 41 = .ok (.putfield 9, 3) := by decide +kernel
theorem dJx4a65c_grow_92f84_44 : decode cJx4a65c_grow_92f84 44 = .ok (.areturn, 1) := by decide +kernel
theorem dJx4a65c_grow_92f84_45 : decode cJx4a65c_grow_92f84 45 = .ok (.aload_n 0, 1) := by decide +kernel
theorem dJx4a65c_grow_92f84_46 : decode cJx4a65c_grow_92f84 46 = .ok (.bipush 10, 2) := by decide +kernel
theorem dJx4a65c_grow_92f84_48 : decode cJx4a65c_grow_92f84 48 = .ok (.iload_n 1, 1) := by decide +kernel
theorem dJx4a65c_grow_92f84_49 : decode cJx4a65c_grow_92f84 49 = .ok (.invokestatic 79, 3) := by decide +kernel
theorem dJx4a65c_grow_92f84_52 : decode cJx4a65c_grow_92f84 52 = .ok (.anewarray 7, 3) := by decide +kernel
theorem dJx4a65c_grow_92f84_55 : decode cJx4a65c_grow_92f84 55 = .ok (.dup_x1, 1) := by decide +kernel
theorem dJx4a65c_grow_92f84_56 : decode cJx4a65c_grow_92f84 56 = .ok (.putfield 9, 3) := by decide +kernel
theorem dJx4a65c_grow_92f84_59 : decode cJx4a65c_grow_92f84 59 = .ok (.areturn, 1) := by decide +kernel
theorem dJx4a65c_grow_d5877_0 : decode cJx4a65c_grow_d5877 0 = .ok (.aload_n 0, 1) := by decide +kernel
theorem dJx4a65c_grow_d5877_1 : decode cJx4a65c_grow_d5877 1 = .ok (.aload_n 0, 1) := by decide +kernel
theorem dJx4a65c_grow_d5877_2 : decode cJx4a65c_grow_d5877 2 = .ok (.getfield 48, 3) := by decide +kernel
theorem dJx4a65c_grow_d5877_5 : decode cJx4a65c_grow_d5877 5 = .ok (.iconst 1, 1) := by decide +kernel
theorem dJx4a65c_grow_d5877_6 : decode cJx4a65c_grow_d5877 6 = .ok (.iadd, 1) := by decide +kernel
theorem dJx4a65c_grow_d5877_7 : decode cJx4a65c_grow_d5877 7 = .ok (.invokevirtual 69, 3) := by decide +kernel
theorem dJx4a65c_grow_d5877_10 : decode cJx4a65c_grow_d5877 10 = .ok (.areturn, 1) := by decide +kernel
theorem dJx4a65c_size_8abf5_0 : decode cJx4a65c_size_8abf5 0 = .ok (.aload_n 0, 1) := by decide +kernel
theorem dJx4a65c_size_8abf5_1 : decode cJx4a65c_size_8abf5 1 = .ok (.getfield 48, 3) := by decide +kernel
theorem dJx4a65c_size_8abf5_4 : decode cJx4a65c_size_8abf5 4 = .ok (.ireturn, 1) := by decide +kernel
theorem dJx4a65c_isEmpty_aae02_0 : decode cJx4a65c_isEmpty_aae02 0 = .ok (.aload_n 0, 1) := by decide +kernel
theorem dJx4a65c_isEmpty_aae02_1 : decode cJx4a65c_isEmpty_aae02 1 = .ok (.getfield 48, 3) := by decide +kernel
theorem dJx4a65c_isEmpty_aae02_4 : decode cJx4a65c_isEmpty_aae02 4 = .ok (.ifCond .ne 7, 3) := by decide +kernel
theorem dJx4a65c_isEmpty_aae02_7 : decode cJx4a65c_isEmpty_aae02 7 = .ok (.iconst 1, 1) := by decide +kernel
theorem dJx4a65c_isEmpty_aae02_8 : decode cJx4a65c_isEmpty_aae02 8 = .ok (.goto 4, 3) := by decide +kernel
theorem dJx4a65c_isEmpty_aae02_11 : decode cJx4a65c_isEmpty_aae02 11 = .ok (.iconst 0, 1) := by decide +kernel
theorem dJx4a65c_isEmpty_aae02_12 : decode cJx4a65c_isEmpty_aae02 12 = .ok (.ireturn, 1) := by decide +kernel
theorem dJx4a65c_elementData_915e3_0 : decode cJx4a65c_elementData_915e3 0 = .ok (.aload_n 0, 1) := by decide +kernel
theorem dJx4a65c_elementData_915e3_1 : decode cJx4a65c_elementData_915e3 1 = .ok (.getfield 9, 3) := by decide +kernel
theorem dJx4a65c_elementData_915e3_4 : decode cJx4a65c_elementData_915e3 4 = .ok (.iload_n 1, 1) := by decide +kernel
theorem dJx4a65c_elementData_915e3_5 : decode cJx4a65c_elementData_915e3 5 = .ok (.aaload, 1) := by decide +kernel
theorem dJx4a65c_elementData_915e3_6 : decode cJx4a65c_elementData_915e3 6 = .ok (.areturn, 1) := by decide +kernel
theorem dJx4a65c_get_915e3_0 : decode cJx4a65c_get_915e3 0 = .ok (.iload_n 1, 1) := by decide +kernel
theorem dJx4a65c_get_915e3_1 : decode cJx4a65c_get_915e3 1 = .ok (.aload_n 0, 1) := by decide +kernel
theorem dJx4a65c_get_915e3_2 : decode cJx4a65c_get_915e3 2 = .ok (.getfield 48, 3) := by decide +kernel
theorem dJx4a65c_get_915e3_5 : decode cJx4a65c_get_915e3 5 = .ok (.invokestatic 118, 3) := by decide +kernel
theorem dJx4a65c_get_915e3_8 : decode cJx4a65c_get_915e3 8 = .ok (.pop, 1) := by decide +kernel
theorem dJx4a65c_get_915e3_9 : decode cJx4a65c_get_915e3 9 = .ok (.aload_n 0, 1) := by decide +kernel
theorem dJx4a65c_get_915e3_10 : decode cJx4a65c_get_915e3 10 = .ok (.iload_n 1, 1) := by decide +kernel
theorem dJx4a65c_get_915e3_11 : decode cJx4a65c_get_915e3 11 = .ok (.invokevirtual 123, 3) := by decide +kernel
theorem dJx4a65c_get_915e3_14 : decode cJx4a65c_get_915e3 14 = .ok (.areturn, 1) := by decide +kernel
theorem dJx4a65c_set_bcc79_0 : decode cJx4a65c_set_bcc79 0 = .ok (.iload_n 1, 1) := by decide +kernel
theorem dJx4a65c_set_bcc79_1 : decode cJx4a65c_set_bcc79 1 = .ok (.aload_n 0, 1) := by decide +kernel
theorem dJx4a65c_set_bcc79_2 : decode cJx4a65c_set_bcc79 2 = .ok (.getfield 48, 3) := by decide +kernel
theorem dJx4a65c_set_bcc79_5 : decode cJx4a65c_set_bcc79 5 = .ok (.invokestatic 118, 3) := by decide +kernel
theorem dJx4a65c_set_bcc79_8 : decode cJx4a65c_set_bcc79 8 = .ok (.pop, 1) := by decide +kernel
theorem dJx4a65c_set_bcc79_9 : decode cJx4a65c_set_bcc79 9 = .ok (.aload_n 0, 1) := by decide +kernel
theorem dJx4a65c_set_bcc79_10 : decode cJx4a65c_set_bcc79 10 = .ok (.iload_n 1, 1) := by decide +kernel
theorem dJx4a65c_set_bcc79_11 : decode cJx4a65c_set_bcc79 11 = .ok (.invokevirtual 123, 3) := by decide +kernel
theorem dJx4a65c_set_bcc79_14 : decode cJx4a65c_set_bcc79 14 = .ok (.astore_n 3, 1) := by decide +kernel
theorem dJx4a65c_set_bcc79_15 : decode cJx4a65c_set_bcc79 15 = .ok (.aload_n 0, 1) := by decide +kernel
theorem dJx4a65c_set_bcc79_16 : decode cJx4a65c_set_bcc79 16 = .ok (.getfield 9, 3) := by decide +kernel
theorem dJx4a65c_set_bcc79_19 : decode cJx4a65c_set_bcc79 19 = .ok (.iload_n 1, 1) := by decide +kernel
theorem dJx4a65c_set_bcc79_20 : decode cJx4a65c_set_bcc79 20 = .ok (.aload_n 2, 1) := by decide +kernel
theorem dJx4a65c_set_bcc79_21 : decode cJx4a65c_set_bcc79 21 = .ok (.aastore, 1) := by decide +kernel
theorem dJx4a65c_set_bcc79_22 : decode cJx4a65c_set_bcc79 22 = .ok (.aload_n 3, 1) := by decide +kernel
theorem dJx4a65c_set_bcc79_23 : decode cJx4a65c_set_bcc79 23 = .ok (.areturn, 1) := by decide +kernel
theorem dJx4a65c_add_72be8_0 : decode cJx4a65c_add_72be8 0 = .ok (.iload_n 3, 1) := by decide +kernel
theorem dJx4a65c_add_72be8_1 : decode cJx4a65c_add_72be8 1 = .ok (.aload_n 2, 1) := by decide +kernel
theorem dJx4a65c_add_72be8_2 : decode cJx4a65c_add_72be8 2 = .ok (.arraylength, 1) := by decide +kernel
theorem dJx4a65c_add_72be8_3 : decode cJx4a65c_add_72be8 3 = .ok (.if_icmp .ne 8, 3) := by decide +kernel
theorem dJx4a65c_add_72be8_6 : decode cJx4a65c_add_72be8 6 = .ok (.aload_n 0, 1) := by decide +kernel
theorem dJx4a65c_add_72be8_7 : decode cJx4a65c_add_72be8 7 = .ok (.invokevirtual 129, 3) := by decide +kernel
theorem dJx4a65c_add_72be8_10 : decode cJx4a65c_add_72be8 10 = .ok (.astore_n 2, 1) := by decide +kernel
theorem dJx4a65c_add_72be8_11 : decode cJx4a65c_add_72be8 11 = .ok (.aload_n 2, 1) := by decide +kernel
theorem dJx4a65c_add_72be8_12 : decode cJx4a65c_add_72be8 12 = .ok (.iload_n 3, 1) := by decide +kernel
theorem dJx4a65c_add_72be8_13 : decode cJx4a65c_add_72be8 13 = .ok (.aload_n 1, 1) := by decide +kernel
theorem dJx4a65c_add_72be8_14 : decode cJx4a65c_add_72be8 14 = .ok (.aastore, 1) := by decide +kernel
theorem dJx4a65c_add_72be8_15 : decode cJx4a65c_add_72be8 15 = .ok (.aload_n 0, 1) := by decide +kernel
theorem dJx4a65c_add_72be8_16 : decode cJx4a65c_add_72be8 16 = .ok (.iload_n 3, 1) := by decide +kernel
theorem dJx4a65c_add_72be8_17 : decode cJx4a65c_add_72be8 17 = .ok (.iconst 1, 1) := by decide +kernel
theorem dJx4a65c_add_72be8_18 : decode cJx4a65c_add_72be8 18 = .ok (.iadd, 1) := by decide +kernel
theorem dJx4a65c_add_72be8_19 : decode cJx4a65c_add_72be8 19 = .ok (.putfield 48, 3) := by decide +kernel
theorem dJx4a65c_add_72be8_22 : decode cJx4a65c_add_72be8 22 = .ok (.return_, 1) := by decide +kernel
theorem dJx4a65c_add_9ea2d_0 : decode cJx4a65c_add_9ea2d 0 = .ok (.aload_n 0, 1) := by decide +kernel
theorem dJx4a65c_add_9ea2d_1 : decode cJx4a65c_add_9ea2d 1 = .ok (.dup, 1) := by decide +kernel
theorem dJx4a65c_add_9ea2d_2 : decode cJx4a65c_add_9ea2d 2 = .ok (.getfield 63, 3) := by decide +kernel
theorem dJx4a65c_add_9ea2d_5 : decode cJx4a65c_add_9ea2d 5 = .ok (.iconst 1, 1) := by decide +kernel
theorem dJx4a65c_add_9ea2d_6 : decode cJx4a65c_add_9ea2d 6 = .ok (.iadd, 1) := by decide +kernel
theorem dJx4a65c_add_9ea2d_7 : decode cJx4a65c_add_9ea2d 7 = .ok (.putfield 63, 3) := by decide +kernel
theorem dJx4a65c_add_9ea2d_10 : decode cJx4a65c_add_9ea2d 10 = .ok (.aload_n 0, 1) := by decide +kernel
theorem dJx4a65c_add_9ea2d_11 : decode cJx4a65c_add_9ea2d 11 = .ok (.aload_n 1, 1) := by decide +kernel
theorem dJx4a65c_add_9ea2d_12 : decode cJx4a65c_add_9ea2d 12 = .ok (.aload_n 0, 1) := by decide +kernel
theorem dJx4a65c_add_9ea2d_13 : decode cJx4a65c_add_9ea2d 13 = .ok (.getfield 9, 3) := by decide +kernel
theorem dJx4a65c_add_9ea2d_16 : decode cJx4a65c_add_9ea2d 16 = .ok (.aload_n 0, 1) := by decide +kernel
theorem dJx4a65c_add_9ea2d_17 : decode cJx4a65c_add_9ea2d 17 = .ok (.getfield 48, 3) := by decide +kernel
theorem dJx4a65c_add_9ea2d_20 : decode cJx4a65c_add_9ea2d 20 = .ok (.invokevirtual 131, 3) := by decide +kernel
theorem dJx4a65c_add_9ea2d_23 : decode cJx4a65c_add_9ea2d 23 = .ok (.iconst 1, 1) := by decide +kernel
theorem dJx4a65c_add_9ea2d_24 : decode cJx4a65c_add_9ea2d 24 = .ok (.ireturn, 1) := by decide +kernel
theorem dJx4a65c_remove_915e3_0 : decode cJx4a65c_remove_915e3 0 = .ok (.iload_n 1, 1) := by decide +kernel
theorem dJx4a65c_remove_915e3_1 : decode cJx4a65c_remove_915e3 1 = .ok (.aload_n 0, 1) := by decide +kernel
theorem dJx4a65c_remove_915e3_2 : decode cJx4a65c_remove_915e3 2 = .ok (.getfield 48, 3) := by decide +kernel
theorem dJx4a65c_remove_915e3_5 : decode cJx4a65c_remove_915e3 5 = .ok (.invokestatic 118, 3) := by decide +kernel
theorem dJx4a65c_remove_915e3_8 : decode cJx4a65c_remove_915e3 8 = .ok (.pop, 1) := by decide +kernel
theorem dJx4a65c_remove_915e3_9 : decode cJx4a65c_remove_915e3 9 = .ok (.aload_n 0, 1) := by decide +kernel
theorem dJx4a65c_remove_915e3_10 : decode cJx4a65c_remove_915e3 10 = .ok (.getfield 9, 3) := by decide +kernel
theorem dJx4a65c_remove_915e3_13 : decode cJx4a65c_remove_915e3 13 = .ok (.astore_n 2, 1) := by decide +kernel
theorem dJx4a65c_remove_915e3_14 : decode cJx4a65c_remove_915e3 14 = .ok (.aload_n 2, 1) := by decide +kernel
theorem dJx4a65c_remove_915e3_15 : decode cJx4a65c_remove_915e3 15 = .ok (.iload_n 1, 1) := by decide +kernel
theorem dJx4a65c_remove_915e3_16 : decode cJx4a65c_remove_915e3 16 = .ok (.aaload, 1) := by decide +kernel
theorem dJx4a65c_remove_915e3_17 : decode cJx4a65c_remove_915e3 17 = .ok (.astore_n 3, 1) := by decide +kernel
theorem dJx4a65c_remove_915e3_18 : decode cJx4a65c_remove_915e3 18 = .ok (.aload_n 0, 1) := by decide +kernel
theorem dJx4a65c_remove_915e3_19 : decode cJx4a65c_remove_915e3 19 = .ok (.aload_n 2, 1) := by decide +kernel
theorem dJx4a65c_remove_915e3_20 : decode cJx4a65c_remove_915e3 20 = .ok (.iload_n 1, 1) := by decide +kernel
theorem dJx4a65c_remove_915e3_21 : decode cJx4a65c_remove_915e3 21 = .ok (.invokevirtual 144, 3) := by decide +kernel
theorem dJx4a65c_remove_915e3_24 : decode cJx4a65c_remove_915e3 24 = .ok (.aload_n 3, 1) := by decide +kernel
theorem dJx4a65c_remove_915e3_25 : decode cJx4a65c_remove_915e3 25 = .ok (.areturn, 1) := by decide +kernel
theorem dJx4a65c_fastRemove_b59b0_0 : decode cJx4a65c_fastRemove_b59b0 0 = .ok (.aload_n 0, 1) := by decide +kernel
theorem dJx4a65c_fastRemove_b59b0_1 : decode cJx4a65c_fastRemove_b59b0 1 = .ok (.dup, 1) := by decide +kernel
theorem dJx4a65c_fastRemove_b59b0_2 : decode cJx4a65c_fastRemove_b59b0 2 = .ok (.getfield 63, 3) := by decide +kernel
theorem dJx4a65c_fastRemove_b59b0_5 : decode cJx4a65c_fastRemove_b59b0 5 = .ok (.iconst 1, 1) := by decide +kernel
theorem dJx4a65c_fastRemove_b59b0_6 : decode cJx4a65c_fastRemove_b59b0 6 = .ok (.iadd, 1) := by decide +kernel
theorem dJx4a65c_fastRemove_b59b0_7 : decode cJx4a65c_fastRemove_b59b0 7 = .ok (.putfield 63, 3) := by decide +kernel
theorem dJx4a65c_fastRemove_b59b0_10 : decode cJx4a65c_fastRemove_b59b0 10 = .ok (.aload_n 0, 1) := by decide +kernel
theorem dJx4a65c_fastRemove_b59b0_11 : decode cJx4a65c_fastRemove_b59b0 11 = .ok (.getfield 48, 3) := by decide +kernel
theorem dJx4a65c_fastRemove_b59b0_14 : decode cJx4a65c_fastRemove_b59b0 14 = .ok (.iconst 1, 1) := by decide +kernel
theorem dJx4a65c_fastRemove_b59b0_15 : decode cJx4a65c_fastRemove_b59b0 15 = .ok (.isub, 1) := by decide +kernel
theorem dJx4a65c_fastRemove_b59b0_16 : decode cJx4a65c_fastRemove_b59b0 16 = .ok (.dup, 1) := by decide +kernel
theorem dJx4a65c_fastRemove_b59b0_17 : decode cJx4a65c_fastRemove_b59b0 17 = .ok (.istore_n 3, 1) := by decide +kernel
theorem dJx4a65c_fastRemove_b59b0_18 : decode cJx4a65c_fastRemove_b59b0 18 = .ok (.iload_n 2, 1) := by decide +kernel
theorem dJx4a65c_fastRemove_b59b0_19 : decode cJx4a65c_fastRemove_b59b0 19 = .ok (.if_icmp .le 15, 3) := by decide +kernel
theorem dJx4a65c_fastRemove_b59b0_22 : decode cJx4a65c_fastRemove_b59b0 22 = .ok (.aload_n 1, 1) := by decide +kernel
theorem dJx4a65c_fastRemove_b59b0_23 : decode cJx4a65c_fastRemove_b59b0 23 = .ok (.iload_n 2, 1) := by decide +kernel
theorem dJx4a65c_fastRemove_b59b0_24 : decode cJx4a65c_fastRemove_b59b0 24 = .ok (.iconst 1, 1) := by decide +kernel
theorem dJx4a65c_fastRemove_b59b0_25 : decode cJx4a65c_fastRemove_b59b0 25 = .ok (.iadd, 1) := by decide +kernel
theorem dJx4a65c_fastRemove_b59b0_26 : decode cJx4a65c_fastRemove_b59b0 26 = .ok (.aload_n 1, 1) := by decide +kernel
theorem dJx4a65c_fastRemove_b59b0_27 : decode cJx4a65c_fastRemove_b59b0 27 = .ok (.iload_n 2, 1) := by decide +kernel
theorem dJx4a65c_fastRemove_b59b0_28 : decode cJx4a65c_fastRemove_b59b0 28 = .ok (.iload_n 3, 1) := by decide +kernel
theorem dJx4a65c_fastRemove_b59b0_29 : decode cJx4a65c_fastRemove_b59b0 29 = .ok (.iload_n 2, 1) := by decide +kernel
theorem dJx4a65c_fastRemove_b59b0_30 : decode cJx4a65c_fastRemove_b59b0 30 = .ok (.isub, 1) := by decide +kernel
theorem dJx4a65c_fastRemove_b59b0_31 : decode cJx4a65c_fastRemove_b59b0 31 = .ok (.invokestatic 112, 3) := by decide +kernel
theorem dJx4a65c_fastRemove_b59b0_34 : decode cJx4a65c_fastRemove_b59b0 34 = .ok (.aload_n 1, 1) := by decide +kernel
theorem dJx4a65c_fastRemove_b59b0_35 : decode cJx4a65c_fastRemove_b59b0 35 = .ok (.aload_n 0, 1) := by decide +kernel
theorem dJx4a65c_fastRemove_b59b0_36 : decode cJx4a65c_fastRemove_b59b0 36 = .ok (.iload_n 3, 1) := by decide +kernel
theorem dJx4a65c_fastRemove_b59b0_37 : decode cJx4a65c_fastRemove_b59b0 37 = .ok (.dup_x1, 1) := by decide +kernel
theorem dJx4a65c_fastRemove_b59b0_38 : decode cJx4a65c_fastRemove_b59b0 38 = .ok (.putfield 48, 3) := by decide +kernel
theorem dJx4a65c_fastRemove_b59b0_41 : decode cJx4a65c_fastRemove_b59b0 41 = .ok (.aconst_null, 1) := by decide +kernel
theorem dJx4a65c_fastRemove_b59b0_42 : decode cJx4a65c_fastRemove_b59b0 42 = .ok (.aastore, 1) := by decide +kernel
theorem dJx4a65c_fastRemove_b59b0_43 : decode cJx4a65c_fastRemove_b59b0 43 = .ok (.return_, 1) := by decide +kernel
theorem dJ7_copyOf_1904c_0 : decode cJ7_copyOf_1904c 0 = .ok (.aload_n 0, 1) := by decide +kernel
theorem dJ7_copyOf_1904c_1 : decode cJ7_copyOf_1904c 1 = .ok (.iload_n 1, 1) := by decide +kernel
theorem dJ7_copyOf_1904c_2 : decode cJ7_copyOf_1904c 2 = .ok (.aload_n 0, 1) := by decide +kernel
theorem dJ7_copyOf_1904c_3 : decode cJ7_copyOf_1904c 3 = .ok (.invokevirtual 86, 3) := by decide +kernel
theorem dJ7_copyOf_1904c_6 : decode cJ7_copyOf_1904c 6 = .ok (.invokestatic 300, 3) := by decide +kernel
theorem dJ7_copyOf_1904c_9 : decode cJ7_copyOf_1904c 9 = .ok (.areturn, 1) := by decide +kernel
theorem dJ7_copyOf_6403c_0 : decode cJ7_copyOf_6403c 0 = .ok (.aload_n 2, 1) := by decide +kernel
theorem dJ7_copyOf_6403c_1 : decode cJ7_copyOf_6403c 1 = .ok (.ldc 110, 2) := by decide +kernel
theorem dJ7_copyOf_6403c_3 : decode cJ7_copyOf_6403c 3 = .ok (.if_acmp .ne 10, 3) := by decide +kernel
theorem dJ7_copyOf_6403c_6 : decode cJ7_copyOf_6403c 6 = .ok (.iload_n 1, 1) := by decide +kernel
theorem dJ7_copyOf_6403c_7 : decode cJ7_copyOf_6403c 7 = .ok (.anewarray 2, 3) := by decide +kernel
theorem dJ7_copyOf_6403c_10 : decode cJ7_copyOf_6403c 10 = .ok (.goto 14, 3) := by decide +kernel
theorem dJ7_copyOf_6403c_13 : decode cJ7_copyOf_6403c 13 = .ok (.aload_n 2, 1) := by decide +kernel
theorem dJ7_copyOf_6403c_14 : decode cJ7_copyOf_6403c 14 = .ok (.invokevirtual 90, 3) := by decide +kernel
theorem dJ7_copyOf_6403c_17 : decode cJ7_copyOf_6403c 17 = .ok (.iload_n 1, 1) := by decide +kernel
theorem dJ7_copyOf_6403c_18 : decode cJ7_copyOf_6403c 18 = .ok (.invokestatic 95, 3) := by decide +kernel
theorem dJ7_copyOf_6403c_21 : decode cJ7_copyOf_6403c 21 = .ok (.checkcast 110, 3) := by decide +kernel
theorem dJ7_copyOf_6403c_24 : decode cJ7_copyOf_6403c 24 = .ok (.astore_n 3, 1) := by decide +kernel
theorem dJ7_copyOf_6403c_25 : decode cJ7_copyOf_6403c 25 = .ok (.aload_n 0, 1) := by decide +kernel
theorem dJ7_copyOf_6403c_26 : decode cJ7_copyOf_6403c 26 = .ok (.iconst 0, 1) := by decide +kernel
theorem dJ7_copyOf_6403c_27 : decode cJ7_copyOf_6403c 27 = .ok (.aload_n 3, 1) := by decide +kernel
theorem dJ7_copyOf_6403c_28 : decode cJ7_copyOf_6403c 28 = .ok (.iconst 0, 1) := by decide +kernel
theorem dJ7_copyOf_6403c_29 : decode cJ7_copyOf_6403c 29 = .ok (.aload_n 0, 1) := by decide +kernel
theorem dJ7_copyOf_6403c_30 : decode cJ7_copyOf_6403c 30 = .ok (.arraylength, 1) := by decide +kernel
theorem dJ7_copyOf_6403c_31 : decode cJ7_copyOf_6403c 31 = .ok (.iload_n 1, 1) := by decide +kernel
theorem dJ7_copyOf_6403c_32 : decode cJ7_copyOf_6403c 32 = .ok (.invokestatic 304, 3) := by decide +kernel
theorem dJ7_copyOf_6403c_35 : decode cJ7_copyOf_6403c 35 = .ok (.invokestatic 150, 3) := by decide +kernel
theorem dJ7_copyOf_6403c_38 : decode cJ7_copyOf_6403c 38 = .ok (.aload_n 3, 1) := by decide +kernel
theorem dJ7_copyOf_6403c_39 : decode cJ7_copyOf_6403c 39 = .ok (.areturn, 1) := by decide +kernel
theorem dJ15_checkIndex_7cf53_0 : decode cJ15_checkIndex_7cf53 0 = .ok (.iload_n 0, 1) := by decide +kernel
theorem dJ15_checkIndex_7cf53_1 : decode cJ15_checkIndex_7cf53 1 = .ok (.iload_n 1, 1) := by decide +kernel
theorem dJ15_checkIndex_7cf53_2 : decode cJ15_checkIndex_7cf53 2 = .ok (.aconst_null, 1) := by decide +kernel
theorem dJ15_checkIndex_7cf53_3 : decode cJ15_checkIndex_7cf53 3 = .ok (.invokestatic 105, 3) := by decide +kernel
theorem dJ15_checkIndex_7cf53_6 : decode cJ15_checkIndex_7cf53 6 = .ok (.ireturn, 1) := by decide +kernel
theorem dJ8_newLength_cabcc_0 : decode cJ8_newLength_cabcc 0 = .ok (.iload_n 0, 1) := by decide +kernel
theorem dJ8_newLength_cabcc_1 : decode cJ8_newLength_cabcc 1 = .ok (.iload_n 1, 1) := by decide +kernel
theorem dJ8_newLength_cabcc_2 : decode cJ8_newLength_cabcc 2 = .ok (.iload_n 2, 1) := by decide +kernel
theorem dJ8_newLength_cabcc_3 : decode cJ8_newLength_cabcc 3 = .ok (.invokestatic 194, 3) := by decide +kernel
theorem dJ8_newLength_cabcc_6 : decode cJ8_newLength_cabcc 6 = .ok (.iadd, 1) := by decide +kernel
theorem dJ8_newLength_cabcc_7 : decode cJ8_newLength_cabcc 7 = .ok (.istore_n 3, 1) := by decide +kernel
theorem dJ8_newLength_cabcc_8 : decode cJ8_newLength_cabcc 8 = .ok (.iconst 0, 1) := by decide +kernel
theorem dJ8_newLength_cabcc_9 : decode cJ8_newLength_cabcc 9 = .ok (.iload_n 3, 1) := by decide +kernel
theorem dJ8_newLength_cabcc_10 : decode cJ8_newLength_cabcc 10 = .ok (.if_icmp .ge 11, 3) := by decide +kernel
theorem dJ8_newLength_cabcc_13 : decode cJ8_newLength_cabcc 13 = .ok (.iload_n 3, 1) := by decide +kernel
theorem dJ8_newLength_cabcc_14 : decode cJ8_newLength_cabcc 14 = .ok (.ldc 200, 2) := by decide +kernel
theorem dJ8_newLength_cabcc_16 : decode cJ8_newLength_cabcc 16 = .ok (.if_icmp .gt 5, 3) := by decide +kernel
theorem dJ8_newLength_cabcc_19 : decode cJ8_newLength_cabcc 19 = .ok (.iload_n 3, 1) := by decide +kernel
theorem dJ8_newLength_cabcc_20 : decode cJ8_newLength_cabcc 20 = .ok (.ireturn, 1) := by decide +kernel
theorem dJ8_newLength_cabcc_21 : decode cJ8_newLength_cabcc 21 = .ok (.iload_n 0, 1) := by decide +kernel
theorem dJ8_newLength_cabcc_22 : decode cJ8_newLength_cabcc 22 = .ok (.iload_n 1, 1) := by decide +kernel
theorem dJ8_newLength_cabcc_23 : decode cJ8_newLength_cabcc 23 = .ok (.invokestatic 201, 3) := by decide +kernel
theorem dJ8_newLength_cabcc_26 : decode cJ8_newLength_cabcc 26 = .ok (.ireturn, 1) := by decide +kernel
theorem dJ8_hugeLength_7cf53_0 : decode cJ8_hugeLength_7cf53 0 = .ok (.iload_n 0, 1) := by decide +kernel
theorem dJ8_hugeLength_7cf53_1 : decode cJ8_hugeLength_7cf53 1 = .ok (.iload_n 1, 1) := by decide +kernel
theorem dJ8_hugeLength_7cf53_2 : decode cJ8_hugeLength_7cf53 2 = .ok (.iadd, 1) := by decide +kernel
theorem dJ8_hugeLength_7cf53_3 : decode cJ8_hugeLength_7cf53 3 = .ok (.istore_n 2, 1) := by decide +kernel
theorem dJ8_hugeLength_7cf53_4 : decode cJ8_hugeLength_7cf53 4 = .ok (.iload_n 2, 1) := by decide +kernel
theorem dJ8_hugeLength_7cf53_5 : decode cJ8_hugeLength_7cf53 5 = .ok (.ifCond .ge 44, 3) := by decide +kernel
theorem dJ8_hugeLength_7cf53_8 : decode cJ8_hugeLength_7cf53 8 = .ok (.new 204, 3) := by decide +kernel
theorem dJ8_hugeLength_7cf53_11 : decode cJ8_hugeLength_7cf53 11 = .ok (.dup, 1) := by decide +kernel
theorem dJ8_hugeLength_7cf53_12 : decode cJ8_hugeLength_7cf53 12 = .ok (.new 89, 3) := by decide +kernel
theorem dJ8_hugeLength_7cf53_15 : decode cJ8_hugeLength_7cf53 15 = .ok (.dup, 1) := by decide +kernel
theorem dJ8_hugeLength_7cf53_16 : decode cJ8_hugeLength_7cf53 16 = .ok (.invokespecial 91, 3) := by decide +kernel
theorem dJ8_hugeLength_7cf53_19 : decode cJ8_hugeLength_7cf53 19 = .ok (.ldc 206, 2) := by decide +kernel
theorem dJ8_hugeLength_7cf53_21 : decode cJ8_hugeLength_7cf53 21 = .ok (.invokevirtual 94, 3) := by decide +kernel
theorem dJ8_hugeLength_7cf53_24 : decode cJ8_hugeLength_7cf53 24 = .ok (.iload_n 0, 1) := by decide +kernel
theorem dJ8_hugeLength_7cf53_25 : decode cJ8_hugeLength_7cf53 25 = .ok (.invokevirtual 98, 3) := by decide +kernel
theorem dJ8_hugeLength_7cf53_28 : decode cJ8_hugeLength_7cf53 28 = .ok (.ldc 208, 2) := by decide +kernel
theorem dJ8_hugeLength_7cf53_30 : decode cJ8_hugeLength_7cf53 30 = .ok (.invokevirtual 94, 3) := by decide +kernel
theorem dJ8_hugeLength_7cf53_33 : decode cJ8_hugeLength_7cf53 33 = .ok (.iload_n 1, 1) := by decide +kernel
theorem dJ8_hugeLength_7cf53_34 : decode cJ8_hugeLength_7cf53 34 = .ok (.invokevirtual 98, 3) := by decide +kernel
theorem dJ8_hugeLength_7cf53_37 : decode cJ8_hugeLength_7cf53 37 = .ok (.ldc 210, 2) := by decide +kernel
theorem dJ8_hugeLength_7cf53_39 : decode cJ8_hugeLength_7cf53 39 = .ok (.invokevirtual 94, 3) := by decide +kernel
theorem dJ8_hugeLength_7cf53_42 : decode cJ8_hugeLength_7cf53 42 = .ok (.invokevirtual 101, 3) := by decide +kernel
theorem dJ8_hugeLength_7cf53_45 : decode cJ8_hugeLength_7cf53 45 = .ok (.invokespecial 212, 3) := by decide +kernel
theorem dJ8_hugeLength_7cf53_48 : decode cJ8_hugeLength_7cf53 48 = .ok (.athrow, 1) := by decide +kernel
theorem dJ8_hugeLength_7cf53_49 : decode cJ8_hugeLength_7cf53 49 = .ok (.iload_n 2, 1) := by decide +kernel
theorem dJ8_hugeLength_7cf53_50 : decode cJ8_hugeLength_7cf53 50 = .ok (.ldc 200, 2) := by decide +kernel
theorem dJ8_hugeLength_7cf53_52 : decode cJ8_hugeLength_7cf53 52 = .ok (.if_icmp .gt 6, 3) := by decide +kernel
theorem dJ8_hugeLength_7cf53_55 : decode cJ8_hugeLength_7cf53 55 = .ok (.ldc 200, 2) := by decide +kernel
theorem dJ8_hugeLength_7cf53_57 : decode cJ8_hugeLength_7cf53 57 = .ok (.ireturn, 1) := by decide +kernel
theorem dJ8_hugeLength_7cf53_58 : decode cJ8_hugeLength_7cf53 58 = .ok (.iload_n 2, 1) := by decide +kernel
theorem dJ8_hugeLength_7cf53_59 : decode cJ8_hugeLength_7cf53 59 = .ok (.ireturn, 1) := by decide +kernel
theorem dJ3_checkIndex_8e157_0 : decode cJ3_checkIndex_8e157 0 = .ok (.iload_n 0, 1) := by decide +kernel
theorem dJ3_checkIndex_8e157_1 : decode cJ3_checkIndex_8e157 1 = .ok (.ifCond .lt 8, 3) := by decide +kernel
theorem dJ3_checkIndex_8e157_4 : decode cJ3_checkIndex_8e157 4 = .ok (.iload_n 0, 1) := by decide +kernel
theorem dJ3_checkIndex_8e157_5 : decode cJ3_checkIndex_8e157 5 = .ok (.iload_n 1, 1) := by decide +kernel
theorem dJ3_checkIndex_8e157_6 : decode cJ3_checkIndex_8e157 6 = .ok (.if_icmp .lt 10, 3) := by decide +kernel
theorem dJ3_checkIndex_8e157_9 : decode cJ3_checkIndex_8e157 9 = .ok (.aload_n 2, 1) := by decide +kernel
theorem dJ3_checkIndex_8e157_10 : decode cJ3_checkIndex_8e157 10 = .ok (.iload_n 0, 1) := by decide +kernel
theorem dJ3_checkIndex_8e157_11 : decode cJ3_checkIndex_8e157 11 = .ok (.iload_n 1, 1) := by decide +kernel
theorem dJ3_checkIndex_8e157_12 : decode cJ3_checkIndex_8e157 12 = .ok (.invokestatic 95, 3) := by decide +kernel
theorem dJ3_checkIndex_8e157_15 : decode cJ3_checkIndex_8e157 15 = .ok (.athrow, 1) := by decide +kernel
theorem dJ3_checkIndex_8e157_16 : decode cJ3_checkIndex_8e157 16 = .ok (.iload_n 0, 1) := by decide +kernel
theorem dJ3_checkIndex_8e157_17 : decode cJ3_checkIndex_8e157 17 = .ok (.ireturn, 1) := by decide +kernel
theorem dL_word_0 : decode cL_word 0 = .ok (.aload 6, 2) := by decide +kernel
theorem dL_word_2 : decode cL_word 2 = .ok (.iconst 0, 1) := by decide +kernel
theorem dL_word_3 : decode cL_word 3 = .ok (.aload_n 0, 1) := by decide +kernel
theorem dL_word_4 : decode cL_word 4 = .ok (.iload_n 1, 1) := by decide +kernel
theorem dL_word_5 : decode cL_word 5 = .ok (.iload_n 2, 1) := by decide +kernel
theorem dL_word_6 : decode cL_word 6 = .ok (.iload_n 3, 1) := by decide +kernel
theorem dL_word_7 : decode cL_word 7 = .ok (.iload 4, 2) := by decide +kernel
theorem dL_word_9 : decode cL_word 9 = .ok (.iload 5, 2) := by decide +kernel
theorem dL_word_11 : decode cL_word 11 = .ok (.invokevirtual 7, 3) := by decide +kernel
theorem dL_word_14 : decode cL_word 14 = .ok (.i2l, 1) := by decide +kernel
theorem dL_word_15 : decode cL_word 15 = .ok (.lastore, 1) := by decide +kernel
theorem dL_word_16 : decode cL_word 16 = .ok (.goto 11, 3) := by decide +kernel
theorem dL_word_19 : decode cL_word 19 = .ok (.astore 7, 2) := by decide +kernel
theorem dL_word_21 : decode cL_word 21 = .ok (.iconst 1, 1) := by decide +kernel
theorem dL_word_22 : decode cL_word 22 = .ok (.ireturn, 1) := by decide +kernel
theorem dL_word_23 : decode cL_word 23 = .ok (.astore 7, 2) := by decide +kernel
theorem dL_word_25 : decode cL_word 25 = .ok (.iconst 2, 1) := by decide +kernel
theorem dL_word_26 : decode cL_word 26 = .ok (.ireturn, 1) := by decide +kernel
theorem dL_word_27 : decode cL_word 27 = .ok (.iconst 0, 1) := by decide +kernel
theorem dL_word_28 : decode cL_word 28 = .ok (.ireturn, 1) := by decide +kernel
theorem dL_about_0 : decode cL_about 0 = .ok (.aload_n 3, 1) := by decide +kernel
theorem dL_about_1 : decode cL_about 1 = .ok (.iconst 0, 1) := by decide +kernel
theorem dL_about_2 : decode cL_about 2 = .ok (.aload_n 0, 1) := by decide +kernel
theorem dL_about_3 : decode cL_about 3 = .ok (.iload_n 1, 1) := by decide +kernel
theorem dL_about_4 : decode cL_about 4 = .ok (.iload_n 2, 1) := by decide +kernel
theorem dL_about_5 : decode cL_about 5 = .ok (.invokevirtual 17, 3) := by decide +kernel
theorem dL_about_8 : decode cL_about 8 = .ok (.i2l, 1) := by decide +kernel
theorem dL_about_9 : decode cL_about 9 = .ok (.lastore, 1) := by decide +kernel
theorem dL_about_10 : decode cL_about 10 = .ok (.goto 7, 3) := by decide +kernel
theorem dL_about_13 : decode cL_about 13 = .ok (.astore 4, 2) := by decide +kernel
theorem dL_about_15 : decode cL_about 15 = .ok (.iconst 1, 1) := by decide +kernel
theorem dL_about_16 : decode cL_about 16 = .ok (.ireturn, 1) := by decide +kernel
theorem dL_about_17 : decode cL_about 17 = .ok (.iconst 0, 1) := by decide +kernel
theorem dL_about_18 : decode cL_about 18 = .ok (.ireturn, 1) := by decide +kernel
theorem dL_line_0 : decode cL_line 0 = .ok (.aload 4, 2) := by decide +kernel
theorem dL_line_2 : decode cL_line 2 = .ok (.iconst 0, 1) := by decide +kernel
theorem dL_line_3 : decode cL_line 3 = .ok (.aload_n 0, 1) := by decide +kernel
theorem dL_line_4 : decode cL_line 4 = .ok (.iload_n 1, 1) := by decide +kernel
theorem dL_line_5 : decode cL_line 5 = .ok (.iload_n 2, 1) := by decide +kernel
theorem dL_line_6 : decode cL_line 6 = .ok (.iload_n 3, 1) := by decide +kernel
theorem dL_line_7 : decode cL_line 7 = .ok (.invokevirtual 23, 3) := by decide +kernel
theorem dL_line_10 : decode cL_line 10 = .ok (.i2l, 1) := by decide +kernel
theorem dL_line_11 : decode cL_line 11 = .ok (.lastore, 1) := by decide +kernel
theorem dL_line_12 : decode cL_line 12 = .ok (.goto 11, 3) := by decide +kernel
theorem dL_line_15 : decode cL_line 15 = .ok (.astore 5, 2) := by decide +kernel
theorem dL_line_17 : decode cL_line 17 = .ok (.iconst 1, 1) := by decide +kernel
theorem dL_line_18 : decode cL_line 18 = .ok (.ireturn, 1) := by decide +kernel
theorem dL_line_19 : decode cL_line 19 = .ok (.astore 5, 2) := by decide +kernel
theorem dL_line_21 : decode cL_line 21 = .ok (.iconst 2, 1) := by decide +kernel
theorem dL_line_22 : decode cL_line 22 = .ok (.ireturn, 1) := by decide +kernel
theorem dL_line_23 : decode cL_line 23 = .ok (.iconst 0, 1) := by decide +kernel
theorem dL_line_24 : decode cL_line 24 = .ok (.ireturn, 1) := by decide +kernel
theorem dL_write_0 : decode cL_write 0 = .ok (.aload 4, 2) := by decide +kernel
theorem dL_write_2 : decode cL_write 2 = .ok (.iconst 0, 1) := by decide +kernel
theorem dL_write_3 : decode cL_write 3 = .ok (.aload_n 0, 1) := by decide +kernel
theorem dL_write_4 : decode cL_write 4 = .ok (.iload_n 1, 1) := by decide +kernel
theorem dL_write_5 : decode cL_write 5 = .ok (.iload_n 2, 1) := by decide +kernel
theorem dL_write_6 : decode cL_write 6 = .ok (.iload_n 3, 1) := by decide +kernel
theorem dL_write_7 : decode cL_write 7 = .ok (.invokevirtual 27, 3) := by decide +kernel
theorem dL_write_10 : decode cL_write 10 = .ok (.i2l, 1) := by decide +kernel
theorem dL_write_11 : decode cL_write 11 = .ok (.lastore, 1) := by decide +kernel
theorem dL_write_12 : decode cL_write 12 = .ok (.goto 11, 3) := by decide +kernel
theorem dL_write_15 : decode cL_write 15 = .ok (.astore 5, 2) := by decide +kernel
theorem dL_write_17 : decode cL_write 17 = .ok (.iconst 1, 1) := by decide +kernel
theorem dL_write_18 : decode cL_write 18 = .ok (.ireturn, 1) := by decide +kernel
theorem dL_write_19 : decode cL_write 19 = .ok (.astore 5, 2) := by decide +kernel
theorem dL_write_21 : decode cL_write 21 = .ok (.iconst 2, 1) := by decide +kernel
theorem dL_write_22 : decode cL_write 22 = .ok (.ireturn, 1) := by decide +kernel
theorem dL_write_23 : decode cL_write 23 = .ok (.iconst 0, 1) := by decide +kernel
theorem dL_write_24 : decode cL_write 24 = .ok (.ireturn, 1) := by decide +kernel
theorem dL_strike_0 : decode cL_strike 0 = .ok (.aload_n 2, 1) := by decide +kernel
theorem dL_strike_1 : decode cL_strike 1 = .ok (.iconst 0, 1) := by decide +kernel
theorem dL_strike_2 : decode cL_strike 2 = .ok (.aload_n 0, 1) := by decide +kernel
theorem dL_strike_3 : decode cL_strike 3 = .ok (.iload_n 1, 1) := by decide +kernel
theorem dL_strike_4 : decode cL_strike 4 = .ok (.invokevirtual 30, 3) := by decide +kernel
theorem dL_strike_7 : decode cL_strike 7 = .ok (.i2l, 1) := by decide +kernel
theorem dL_strike_8 : decode cL_strike 8 = .ok (.lastore, 1) := by decide +kernel
theorem dL_strike_9 : decode cL_strike 9 = .ok (.goto 9, 3) := by decide +kernel
theorem dL_strike_12 : decode cL_strike 12 = .ok (.astore_n 3, 1) := by decide +kernel
theorem dL_strike_13 : decode cL_strike 13 = .ok (.iconst 1, 1) := by decide +kernel
theorem dL_strike_14 : decode cL_strike 14 = .ok (.ireturn, 1) := by decide +kernel
theorem dL_strike_15 : decode cL_strike 15 = .ok (.astore_n 3, 1) := by decide +kernel
theorem dL_strike_16 : decode cL_strike 16 = .ok (.iconst 2, 1) := by decide +kernel
theorem dL_strike_17 : decode cL_strike 17 = .ok (.ireturn, 1) := by decide +kernel
theorem dL_strike_18 : decode cL_strike 18 = .ok (.iconst 0, 1) := by decide +kernel
theorem dL_strike_19 : decode cL_strike 19 = .ok (.ireturn, 1) := by decide +kernel
theorem dL_written_0 : decode cL_written 0 = .ok (.aload_n 3, 1) := by decide +kernel
theorem dL_written_1 : decode cL_written 1 = .ok (.iconst 0, 1) := by decide +kernel
theorem dL_written_2 : decode cL_written 2 = .ok (.aload_n 0, 1) := by decide +kernel
theorem dL_written_3 : decode cL_written 3 = .ok (.iload_n 1, 1) := by decide +kernel
theorem dL_written_4 : decode cL_written 4 = .ok (.iload_n 2, 1) := by decide +kernel
theorem dL_written_5 : decode cL_written 5 = .ok (.invokevirtual 34, 3) := by decide +kernel
theorem dL_written_8 : decode cL_written 8 = .ok (.i2l, 1) := by decide +kernel
theorem dL_written_9 : decode cL_written 9 = .ok (.lastore, 1) := by decide +kernel
theorem dL_written_10 : decode cL_written 10 = .ok (.goto 7, 3) := by decide +kernel
theorem dL_written_13 : decode cL_written 13 = .ok (.astore 4, 2) := by decide +kernel
theorem dL_written_15 : decode cL_written 15 = .ok (.iconst 1, 1) := by decide +kernel
theorem dL_written_16 : decode cL_written 16 = .ok (.ireturn, 1) := by decide +kernel
theorem dL_written_17 : decode cL_written 17 = .ok (.iconst 0, 1) := by decide +kernel
theorem dL_written_18 : decode cL_written 18 = .ok (.ireturn, 1) := by decide +kernel
theorem dL_told_0 : decode cL_told 0 = .ok (.aload_n 3, 1) := by decide +kernel
theorem dL_told_1 : decode cL_told 1 = .ok (.iconst 0, 1) := by decide +kernel
theorem dL_told_2 : decode cL_told 2 = .ok (.aload_n 0, 1) := by decide +kernel
theorem dL_told_3 : decode cL_told 3 = .ok (.iload_n 1, 1) := by decide +kernel
theorem dL_told_4 : decode cL_told 4 = .ok (.iload_n 2, 1) := by decide +kernel
theorem dL_told_5 : decode cL_told 5 = .ok (.invokevirtual 37, 3) := by decide +kernel
theorem dL_told_8 : decode cL_told 8 = .ok (.i2l, 1) := by decide +kernel
theorem dL_told_9 : decode cL_told 9 = .ok (.lastore, 1) := by decide +kernel
theorem dL_told_10 : decode cL_told 10 = .ok (.goto 7, 3) := by decide +kernel
theorem dL_told_13 : decode cL_told 13 = .ok (.astore 4, 2) := by decide +kernel
theorem dL_told_15 : decode cL_told 15 = .ok (.iconst 1, 1) := by decide +kernel
theorem dL_told_16 : decode cL_told 16 = .ok (.ireturn, 1) := by decide +kernel
theorem dL_told_17 : decode cL_told 17 = .ok (.iconst 0, 1) := by decide +kernel
theorem dL_told_18 : decode cL_told 18 = .ok (.ireturn, 1) := by decide +kernel
theorem dL_stress_0 : decode cL_stress 0 = .ok (.aload_n 3, 1) := by decide +kernel
theorem dL_stress_1 : decode cL_stress 1 = .ok (.iconst 0, 1) := by decide +kernel
theorem dL_stress_2 : decode cL_stress 2 = .ok (.aload_n 0, 1) := by decide +kernel
theorem dL_stress_3 : decode cL_stress 3 = .ok (.iload_n 1, 1) := by decide +kernel
theorem dL_stress_4 : decode cL_stress 4 = .ok (.iload_n 2, 1) := by decide +kernel
theorem dL_stress_5 : decode cL_stress 5 = .ok (.invokevirtual 40, 3) := by decide +kernel
theorem dL_stress_8 : decode cL_stress 8 = .ok (.i2l, 1) := by decide +kernel
theorem dL_stress_9 : decode cL_stress 9 = .ok (.lastore, 1) := by decide +kernel
theorem dL_stress_10 : decode cL_stress 10 = .ok (.goto 7, 3) := by decide +kernel
theorem dL_stress_13 : decode cL_stress 13 = .ok (.astore 4, 2) := by decide +kernel
theorem dL_stress_15 : decode cL_stress 15 = .ok (.iconst 1, 1) := by decide +kernel
theorem dL_stress_16 : decode cL_stress 16 = .ok (.ireturn, 1) := by decide +kernel
theorem dL_stress_17 : decode cL_stress 17 = .ok (.iconst 0, 1) := by decide +kernel
theorem dL_stress_18 : decode cL_stress 18 = .ok (.ireturn, 1) := by decide +kernel
theorem dL_melted_0 : decode cL_melted 0 = .ok (.aload_n 2, 1) := by decide +kernel
theorem dL_melted_1 : decode cL_melted 1 = .ok (.iconst 0, 1) := by decide +kernel
theorem dL_melted_2 : decode cL_melted 2 = .ok (.aload_n 0, 1) := by decide +kernel
theorem dL_melted_3 : decode cL_melted 3 = .ok (.iload_n 1, 1) := by decide +kernel
theorem dL_melted_4 : decode cL_melted 4 = .ok (.invokevirtual 43, 3) := by decide +kernel
theorem dL_melted_7 : decode cL_melted 7 = .ok (.i2l, 1) := by decide +kernel
theorem dL_melted_8 : decode cL_melted 8 = .ok (.lastore, 1) := by decide +kernel
theorem dL_melted_9 : decode cL_melted 9 = .ok (.goto 6, 3) := by decide +kernel
theorem dL_melted_12 : decode cL_melted 12 = .ok (.astore_n 3, 1) := by decide +kernel
theorem dL_melted_13 : decode cL_melted 13 = .ok (.iconst 1, 1) := by decide +kernel
theorem dL_melted_14 : decode cL_melted 14 = .ok (.ireturn, 1) := by decide +kernel
theorem dL_melted_15 : decode cL_melted 15 = .ok (.iconst 0, 1) := by decide +kernel
theorem dL_melted_16 : decode cL_melted 16 = .ok (.ireturn, 1) := by decide +kernel
theorem dL_rhyme_0 : decode cL_rhyme 0 = .ok (.aload_n 3, 1) := by decide +kernel
theorem dL_rhyme_1 : decode cL_rhyme 1 = .ok (.iconst 0, 1) := by decide +kernel
theorem dL_rhyme_2 : decode cL_rhyme 2 = .ok (.aload_n 0, 1) := by decide +kernel
theorem dL_rhyme_3 : decode cL_rhyme 3 = .ok (.iload_n 1, 1) := by decide +kernel
theorem dL_rhyme_4 : decode cL_rhyme 4 = .ok (.iload_n 2, 1) := by decide +kernel
theorem dL_rhyme_5 : decode cL_rhyme 5 = .ok (.invokevirtual 46, 3) := by decide +kernel
theorem dL_rhyme_8 : decode cL_rhyme 8 = .ok (.i2l, 1) := by decide +kernel
theorem dL_rhyme_9 : decode cL_rhyme 9 = .ok (.lastore, 1) := by decide +kernel
theorem dL_rhyme_10 : decode cL_rhyme 10 = .ok (.goto 7, 3) := by decide +kernel
theorem dL_rhyme_13 : decode cL_rhyme 13 = .ok (.astore 4, 2) := by decide +kernel
theorem dL_rhyme_15 : decode cL_rhyme 15 = .ok (.iconst 1, 1) := by decide +kernel
theorem dL_rhyme_16 : decode cL_rhyme 16 = .ok (.ireturn, 1) := by decide +kernel
theorem dL_rhyme_17 : decode cL_rhyme 17 = .ok (.iconst 0, 1) := by decide +kernel
theorem dL_rhyme_18 : decode cL_rhyme 18 = .ok (.ireturn, 1) := by decide +kernel
theorem dL_scans_0 : decode cL_scans 0 = .ok (.aload_n 2, 1) := by decide +kernel
theorem dL_scans_1 : decode cL_scans 1 = .ok (.iconst 0, 1) := by decide +kernel
theorem dL_scans_2 : decode cL_scans 2 = .ok (.aload_n 0, 1) := by decide +kernel
theorem dL_scans_3 : decode cL_scans 3 = .ok (.iload_n 1, 1) := by decide +kernel
theorem dL_scans_4 : decode cL_scans 4 = .ok (.invokevirtual 49, 3) := by decide +kernel
theorem dL_scans_7 : decode cL_scans 7 = .ok (.i2l, 1) := by decide +kernel
theorem dL_scans_8 : decode cL_scans 8 = .ok (.lastore, 1) := by decide +kernel
theorem dL_scans_9 : decode cL_scans 9 = .ok (.goto 6, 3) := by decide +kernel
theorem dL_scans_12 : decode cL_scans 12 = .ok (.astore_n 3, 1) := by decide +kernel
theorem dL_scans_13 : decode cL_scans 13 = .ok (.iconst 1, 1) := by decide +kernel
theorem dL_scans_14 : decode cL_scans 14 = .ok (.ireturn, 1) := by decide +kernel
theorem dL_scans_15 : decode cL_scans 15 = .ok (.iconst 0, 1) := by decide +kernel
theorem dL_scans_16 : decode cL_scans 16 = .ok (.ireturn, 1) := by decide +kernel
theorem dL_count_0 : decode cL_count 0 = .ok (.aload_n 2, 1) := by decide +kernel
theorem dL_count_1 : decode cL_count 1 = .ok (.iconst 0, 1) := by decide +kernel
theorem dL_count_2 : decode cL_count 2 = .ok (.aload_n 0, 1) := by decide +kernel
theorem dL_count_3 : decode cL_count 3 = .ok (.iload_n 1, 1) := by decide +kernel
theorem dL_count_4 : decode cL_count 4 = .ok (.invokevirtual 52, 3) := by decide +kernel
theorem dL_count_7 : decode cL_count 7 = .ok (.i2l, 1) := by decide +kernel
theorem dL_count_8 : decode cL_count 8 = .ok (.lastore, 1) := by decide +kernel
theorem dL_count_9 : decode cL_count 9 = .ok (.goto 6, 3) := by decide +kernel
theorem dL_count_12 : decode cL_count 12 = .ok (.astore_n 3, 1) := by decide +kernel
theorem dL_count_13 : decode cL_count 13 = .ok (.iconst 1, 1) := by decide +kernel
theorem dL_count_14 : decode cL_count 14 = .ok (.ireturn, 1) := by decide +kernel
theorem dL_count_15 : decode cL_count 15 = .ok (.iconst 0, 1) := by decide +kernel
theorem dL_count_16 : decode cL_count 16 = .ok (.ireturn, 1) := by decide +kernel
theorem dL_tries_0 : decode cL_tries 0 = .ok (.aload 4, 2) := by decide +kernel
theorem dL_tries_2 : decode cL_tries 2 = .ok (.iconst 0, 1) := by decide +kernel
theorem dL_tries_3 : decode cL_tries 3 = .ok (.aload_n 0, 1) := by decide +kernel
theorem dL_tries_4 : decode cL_tries 4 = .ok (.iload_n 1, 1) := by decide +kernel
theorem dL_tries_5 : decode cL_tries 5 = .ok (.iload_n 2, 1) := by decide +kernel
theorem dL_tries_6 : decode cL_tries 6 = .ok (.iload_n 3, 1) := by decide +kernel
theorem dL_tries_7 : decode cL_tries 7 = .ok (.invokevirtual 55, 3) := by decide +kernel
theorem dL_tries_10 : decode cL_tries 10 = .ok (.i2l, 1) := by decide +kernel
theorem dL_tries_11 : decode cL_tries 11 = .ok (.lastore, 1) := by decide +kernel
theorem dL_tries_12 : decode cL_tries 12 = .ok (.goto 7, 3) := by decide +kernel
theorem dL_tries_15 : decode cL_tries 15 = .ok (.astore 5, 2) := by decide +kernel
theorem dL_tries_17 : decode cL_tries 17 = .ok (.iconst 1, 1) := by decide +kernel
theorem dL_tries_18 : decode cL_tries 18 = .ok (.ireturn, 1) := by decide +kernel
theorem dL_tries_19 : decode cL_tries 19 = .ok (.iconst 0, 1) := by decide +kernel
theorem dL_tries_20 : decode cL_tries 20 = .ok (.ireturn, 1) := by decide +kernel
theorem dL_best_0 : decode cL_best 0 = .ok (.aload_n 3, 1) := by decide +kernel
theorem dL_best_1 : decode cL_best 1 = .ok (.iconst 0, 1) := by decide +kernel
theorem dL_best_2 : decode cL_best 2 = .ok (.aload_n 0, 1) := by decide +kernel
theorem dL_best_3 : decode cL_best 3 = .ok (.iload_n 1, 1) := by decide +kernel
theorem dL_best_4 : decode cL_best 4 = .ok (.iload_n 2, 1) := by decide +kernel
theorem dL_best_5 : decode cL_best 5 = .ok (.invokevirtual 58, 3) := by decide +kernel
theorem dL_best_8 : decode cL_best 8 = .ok (.i2l, 1) := by decide +kernel
theorem dL_best_9 : decode cL_best 9 = .ok (.lastore, 1) := by decide +kernel
theorem dL_best_10 : decode cL_best 10 = .ok (.goto 7, 3) := by decide +kernel
theorem dL_best_13 : decode cL_best 13 = .ok (.astore 4, 2) := by decide +kernel
theorem dL_best_15 : decode cL_best 15 = .ok (.iconst 1, 1) := by decide +kernel
theorem dL_best_16 : decode cL_best 16 = .ok (.ireturn, 1) := by decide +kernel
theorem dL_best_17 : decode cL_best 17 = .ok (.iconst 0, 1) := by decide +kernel
theorem dL_best_18 : decode cL_best 18 = .ok (.ireturn, 1) := by decide +kernel
theorem dL_law_0 : decode cL_law 0 = .ok (.new 8, 3) := by decide +kernel
theorem dL_law_3 : decode cL_law 3 = .ok (.dup, 1) := by decide +kernel
theorem dL_law_4 : decode cL_law 4 = .ok (.invokespecial 61, 3) := by decide +kernel
theorem dL_law_7 : decode cL_law 7 = .ok (.astore_n 1, 1) := by decide +kernel
theorem dL_law_8 : decode cL_law 8 = .ok (.new 62, 3) := by decide +kernel
theorem dL_law_11 : decode cL_law 11 = .ok (.dup, 1) := by decide +kernel
theorem dL_law_12 : decode cL_law 12 = .ok (.invokespecial 64, 3) := by decide +kernel
theorem dL_law_15 : decode cL_law 15 = .ok (.astore_n 2, 1) := by decide +kernel
theorem dL_law_16 : decode cL_law 16 = .ok (.iconst 1, 1) := by decide +kernel
theorem dL_law_17 : decode cL_law 17 = .ok (.newarray .long, 2) := by decide +kernel
theorem dL_law_19 : decode cL_law 19 = .ok (.astore_n 3, 1) := by decide +kernel
theorem dL_law_20 : decode cL_law 20 = .ok (.iconst 0, 1) := by decide +kernel
theorem dL_law_21 : decode cL_law 21 = .ok (.istore 4, 2) := by decide +kernel
theorem dL_law_23 : decode cL_law 23 = .ok (.iload 4, 2) := by decide +kernel
theorem dL_law_25 : decode cL_law 25 = .ok (.aload_n 0, 1) := by decide +kernel
theorem dL_law_26 : decode cL_law 26 = .ok (.arraylength, 1) := by decide +kernel
theorem dL_law_27 : decode cL_law 27 = .ok (.bipush 6, 2) := by decide +kernel
theorem dL_law_29 : decode cL_law 29 = .ok (.isub, 1) := by decide +kernel
theorem dL_law_30 : decode cL_law 30 = .ok (.if_icmp .gt 1160, 3) := by decide +kernel
theorem dL_law_33 : decode cL_law 33 = .ok (.aload_n 0, 1) := by decide +kernel
theorem dL_law_34 : decode cL_law 34 = .ok (.iload 4, 2) := by decide +kernel
theorem dL_law_36 : decode cL_law 36 = .ok (.iaload, 1) := by decide +kernel
theorem dL_law_37 : decode cL_law 37 = .ok (.bipush 31, 2) := by decide +kernel
theorem dL_law_39 : decode cL_law 39 = .ok (.iand, 1) := by decide +kernel
theorem dL_law_40 : decode cL_law 40 = .ok (.tableswitch 1144 0 16 #[84, 204, 272, 352, 432, 488, 556, 624, 692, 748, 816, 872, 928, 1008, 1076, 1089, 1130], 84) := by decide +kernel
theorem dL_law_124 : decode cL_law 124 = .ok (.aload_n 1, 1) := by decide +kernel
theorem dL_law_125 : decode cL_law 125 = .ok (.aload_n 0, 1) := by decide +kernel
theorem dL_law_126 : decode cL_law 126 = .ok (.iload 4, 2) := by decide +kernel
theorem dL_law_128 : decode cL_law 128 = .ok (.iconst 1, 1) := by decide +kernel
theorem dL_law_129 : decode cL_law 129 = .ok (.iadd, 1) := by decide +kernel
theorem dL_law_130 : decode cL_law 130 = .ok (.iaload, 1) := by decide +kernel
theorem dL_law_131 : decode cL_law 131 = .ok (.aload_n 0, 1) := by decide +kernel
theorem dL_law_132 : decode cL_law 132 = .ok (.iload 4, 2) := by decide +kernel
theorem dL_law_134 : decode cL_law 134 = .ok (.iconst 2, 1) := by decide +kernel
theorem dL_law_135 : decode cL_law 135 = .ok (.iadd, 1) := by decide +kernel
theorem dL_law_136 : decode cL_law 136 = .ok (.iaload, 1) := by decide +kernel
theorem dL_law_137 : decode cL_law 137 = .ok (.aload_n 0, 1) := by decide +kernel
theorem dL_law_138 : decode cL_law 138 = .ok (.iload 4, 2) := by decide +kernel
theorem dL_law_140 : decode cL_law 140 = .ok (.iconst 3, 1) := by decide +kernel
theorem dL_law_141 : decode cL_law 141 = .ok (.iadd, 1) := by decide +kernel
theorem dL_law_142 : decode cL_law 142 = .ok (.iaload, 1) := by decide +kernel
theorem dL_law_143 : decode cL_law 143 = .ok (.aload_n 0, 1) := by decide +kernel
theorem dL_law_144 : decode cL_law 144 = .ok (.iload 4, 2) := by decide +kernel
theorem dL_law_146 : decode cL_law 146 = .ok (.iconst 4, 1) := by decide +kernel
theorem dL_law_147 : decode cL_law 147 = .ok (.iadd, 1) := by decide +kernel
theorem dL_law_148 : decode cL_law 148 = .ok (.iaload, 1) := by decide +kernel
theorem dL_law_149 : decode cL_law 149 = .ok (.aload_n 0, 1) := by decide +kernel
theorem dL_law_150 : decode cL_law 150 = .ok (.iload 4, 2) := by decide +kernel
theorem dL_law_152 : decode cL_law 152 = .ok (.iconst 5, 1) := by decide +kernel
theorem dL_law_153 : decode cL_law 153 = .ok (.iadd, 1) := by decide +kernel
theorem dL_law_154 : decode cL_law 154 = .ok (.iaload, 1) := by decide +kernel
theorem dL_law_155 : decode cL_law 155 = .ok (.ifCond .eq 7, 3) := by decide +kernel
theorem dL_law_158 : decode cL_law 158 = .ok (.iconst 1, 1) := by decide +kernel
theorem dL_law_159 : decode cL_law 159 = .ok (.goto 4, 3) := by decide +kernel
theorem dL_law_162 : decode cL_law 162 = .ok (.iconst 0, 1) := by decide +kernel
theorem dL_law_163 : decode cL_law 163 = .ok (.aload_n 3, 1) := by decide +kernel
theorem dL_law_164 : decode cL_law 164 = .ok (.invokestatic 65, 3) := by decide +kernel
theorem dL_law_167 : decode cL_law 167 = .ok (.istore 5, 2) := by decide +kernel
theorem dL_law_169 : decode cL_law 169 = .ok (.aload_n 2, 1) := by decide +kernel
theorem dL_law_170 : decode cL_law 170 = .ok (.aload_n 0, 1) := by decide +kernel
theorem dL_law_171 : decode cL_law 171 = .ok (.iload 4, 2) := by decide +kernel
theorem dL_law_173 : decode cL_law 173 = .ok (.iconst 1, 1) := by decide +kernel
theorem dL_law_174 : decode cL_law 174 = .ok (.iadd, 1) := by decide +kernel
theorem dL_law_175 : decode cL_law 175 = .ok (.iaload, 1) := by decide +kernel
theorem dL_law_176 : decode cL_law 176 = .ok (.aload_n 0, 1) := by decide +kernel
theorem dL_law_177 : decode cL_law 177 = .ok (.iload 4, 2) := by decide +kernel
theorem dL_law_179 : decode cL_law 179 = .ok (.iconst 2, 1) := by decide +kernel
theorem dL_law_180 : decode cL_law 180 = .ok (.iadd, 1) := by decide +kernel
theorem dL_law_181 : decode cL_law 181 = .ok (.iaload, 1) := by decide +kernel
theorem dL_law_182 : decode cL_law 182 = .ok (.aload_n 0, 1) := by decide +kernel
theorem dL_law_183 : decode cL_law 183 = .ok (.iload 4, 2) := by decide +kernel
theorem dL_law_185 : decode cL_law 185 = .ok (.iconst 3, 1) := by decide +kernel
theorem dL_law_186 : decode cL_law 186 = .ok (.iadd, 1) := by decide +kernel
theorem dL_law_187 : decode cL_law 187 = .ok (.iaload, 1) := by decide +kernel
theorem dL_law_188 : decode cL_law 188 = .ok (.aload_n 0, 1) := by decide +kernel
theorem dL_law_189 : decode cL_law 189 = .ok (.iload 4, 2) := by decide +kernel
theorem dL_law_191 : decode cL_law 191 = .ok (.iconst 4, 1) := by decide +kernel
theorem dL_law_192 : decode cL_law 192 = .ok (.iadd, 1) := by decide +kernel
theorem dL_law_193 : decode cL_law 193 = .ok (.iaload, 1) := by decide +kernel
theorem dL_law_194 : decode cL_law 194 = .ok (.aload_n 0, 1) := by decide +kernel
theorem dL_law_195 : decode cL_law 195 = .ok (.iload 4, 2) := by decide +kernel
theorem dL_law_197 : decode cL_law 197 = .ok (.iconst 5, 1) := by decide +kernel
theorem dL_law_198 : decode cL_law 198 = .ok (.iadd, 1) := by decide +kernel
theorem dL_law_199 : decode cL_law 199 = .ok (.iaload, 1) := by decide +kernel
theorem dL_law_200 : decode cL_law 200 = .ok (.ifCond .eq 7, 3) := by decide +kernel
theorem dL_law_203 : decode cL_law 203 = .ok (.iconst 1, 1) := by decide +kernel
theorem dL_law_204 : decode cL_law 204 = .ok (.goto 4, 3) := by decide +kernel
theorem dL_law_207 : decode cL_law 207 = .ok (.iconst 0, 1) := by decide +kernel
theorem dL_law_208 : decode cL_law 208 = .ok (.invokevirtual 70, 3) := by decide +kernel
theorem dL_law_211 : decode cL_law 211 = .ok (.istore 6, 2) := by decide +kernel
theorem dL_law_213 : decode cL_law 213 = .ok (.aload_n 2, 1) := by decide +kernel
theorem dL_law_214 : decode cL_law 214 = .ok (.invokevirtual 71, 3) := by decide +kernel
theorem dL_law_217 : decode cL_law 217 = .ok (.iload 5, 2) := by decide +kernel
theorem dL_law_219 : decode cL_law 219 = .ok (.if_icmp .eq 5, 3) := by decide +kernel
theorem dL_law_222 : decode cL_law 222 = .ok (.iconst 0, 1) := by decide +kernel
theorem dL_law_223 : decode cL_law 223 = .ok (.ireturn, 1) := by decide +kernel
theorem dL_law_224 : decode cL_law 224 = .ok (.iload 5, 2) := by decide +kernel
theorem dL_law_226 : decode cL_law 226 = .ok (.ifCond .ne 15, 3) := by decide +kernel
theorem dL_law_229 : decode cL_law 229 = .ok (.aload_n 3, 1) := by decide +kernel
theorem dL_law_230 : decode cL_law 230 = .ok (.iconst 0, 1) := by decide +kernel
theorem dL_law_231 : decode cL_law 231 = .ok (.laload, 1) := by decide +kernel
theorem dL_law_232 : decode cL_law 232 = .ok (.iload 6, 2) := by decide +kernel
theorem dL_law_234 : decode cL_law 234 = .ok (.i2l, 1) := by decide +kernel
theorem dL_law_235 : decode cL_law 235 = .ok (.lcmp, 1) := by decide +kernel
theorem dL_law_236 : decode cL_law 236 = .ok (.ifCond .eq 5, 3) := by decide +kernel
theorem dL_law_239 : decode cL_law 239 = .ok (.iconst 0, 1) := by decide +kernel
theorem dL_law_240 : decode cL_law 240 = .ok (.ireturn, 1) := by decide +kernel
theorem dL_law_241 : decode cL_law 241 = .ok (.goto 943, 3) := by decide +kernel
theorem dL_law_244 : decode cL_law 244 = .ok (.aload_n 1, 1) := by decide +kernel
theorem dL_law_245 : decode cL_law 245 = .ok (.aload_n 0, 1) := by decide +kernel
theorem dL_law_246 : decode cL_law 246 = .ok (.iload 4, 2) := by decide +kernel
theorem dL_law_248 : decode cL_law 248 = .ok (.iconst 1, 1) := by decide +kernel
theorem dL_law_249 : decode cL_law 249 = .ok (.iadd, 1) := by decide +kernel
theorem dL_law_250 : decode cL_law 250 = .ok (.iaload, 1) := by decide +kernel
theorem dL_law_251 : decode cL_law 251 = .ok (.aload_n 0, 1) := by decide +kernel
theorem dL_law_252 : decode cL_law 252 = .ok (.iload 4, 2) := by decide +kernel
theorem dL_law_254 : decode cL_law 254 = .ok (.iconst 2, 1) := by decide +kernel
theorem dL_law_255 : decode cL_law 255 = .ok (.iadd, 1) := by decide +kernel
theorem dL_law_256 : decode cL_law 256 = .ok (.iaload, 1) := by decide +kernel
theorem dL_law_257 : decode cL_law 257 = .ok (.aload_n 3, 1) := by decide +kernel
theorem dL_law_258 : decode cL_law 258 = .ok (.invokestatic 75, 3) := by decide +kernel
theorem dL_law_261 : decode cL_law 261 = .ok (.istore 5, 2) := by decide +kernel
theorem dL_law_263 : decode cL_law 263 = .ok (.aload_n 2, 1) := by decide +kernel
theorem dL_law_264 : decode cL_law 264 = .ok (.aload_n 0, 1) := by decide +kernel
theorem dL_law_265 : decode cL_law 265 = .ok (.iload 4, 2) := by decide +kernel
theorem dL_law_267 : decode cL_law 267 = .ok (.iconst 1, 1) := by decide +kernel
theorem dL_law_268 : decode cL_law 268 = .ok (.iadd, 1) := by decide +kernel
theorem dL_law_269 : decode cL_law 269 = .ok (.iaload, 1) := by decide +kernel
theorem dL_law_270 : decode cL_law 270 = .ok (.aload_n 0, 1) := by decide +kernel
theorem dL_law_271 : decode cL_law 271 = .ok (.iload 4, 2) := by decide +kernel
theorem dL_law_273 : decode cL_law 273 = .ok (.iconst 2, 1) := by decide +kernel
theorem dL_law_274 : decode cL_law 274 = .ok (.iadd, 1) := by decide +kernel
theorem dL_law_275 : decode cL_law 275 = .ok (.iaload, 1) := by decide +kernel
theorem dL_law_276 : decode cL_law 276 = .ok (.invokevirtual 78, 3) := by decide +kernel
theorem dL_law_279 : decode cL_law 279 = .ok (.istore 6, 2) := by decide +kernel
theorem dL_law_281 : decode cL_law 281 = .ok (.aload_n 2, 1) := by decide +kernel
theorem dL_law_282 : decode cL_law 282 = .ok (.invokevirtual 71, 3) := by decide +kernel
theorem dL_law_285 : decode cL_law 285 = .ok (.iload 5, 2) := by decide +kernel
theorem dL_law_287 : decode cL_law 287 = .ok (.if_icmp .eq 5, 3) := by decide +kernel
theorem dL_law_290 : decode cL_law 290 = .ok (.iconst 0, 1) := by decide +kernel
theorem dL_law_291 : decode cL_law 291 = .ok (.ireturn, 1) := by decide +kernel
theorem dL_law_292 : decode cL_law 292 = .ok (.iload 5, 2) := by decide +kernel
theorem dL_law_294 : decode cL_law 294 = .ok (.ifCond .ne 15, 3) := by decide +kernel
theorem dL_law_297 : decode cL_law 297 = .ok (.aload_n 3, 1) := by decide +kernel
theorem dL_law_298 : decode cL_law 298 = .ok (.iconst 0, 1) := by decide +kernel
theorem dL_law_299 : decode cL_law 299 = .ok (.laload, 1) := by decide +kernel
theorem dL_law_300 : decode cL_law 300 = .ok (.iload 6, 2) := by decide +kernel
theorem dL_law_302 : decode cL_law 302 = .ok (.i2l, 1) := by decide +kernel
theorem dL_law_303 : decode cL_law 303 = .ok (.lcmp, 1) := by decide +kernel
theorem dL_law_304 : decode cL_law 304 = .ok (.ifCond .eq 5, 3) := by decide +kernel
theorem dL_law_307 : decode cL_law 307 = .ok (.iconst 0, 1) := by decide +kernel
theorem dL_law_308 : decode cL_law 308 = .ok (.ireturn, 1) := by decide +kernel
theorem dL_law_309 : decode cL_law 309 = .ok (.goto 875, 3) := by decide +kernel
theorem dL_law_312 : decode cL_law 312 = .ok (.aload_n 1, 1) := by decide +kernel
theorem dL_law_313 : decode cL_law 313 = .ok (.aload_n 0, 1) := by decide +kernel
theorem dL_law_314 : decode cL_law 314 = .ok (.iload 4, 2) := by decide +kernel
theorem dL_law_316 : decode cL_law 316 = .ok (.iconst 1, 1) := by decide +kernel
theorem dL_law_317 : decode cL_law 317 = .ok (.iadd, 1) := by decide +kernel
theorem dL_law_318 : decode cL_law 318 = .ok (.iaload, 1) := by decide +kernel
theorem dL_law_319 : decode cL_law 319 = .ok (.aload_n 0, 1) := by decide +kernel
theorem dL_law_320 : decode cL_law 320 = .ok (.iload 4, 2) := by decide +kernel
theorem dL_law_322 : decode cL_law 322 = .ok (.iconst 2, 1) := by decide +kernel
theorem dL_law_323 : decode cL_law 323 = .ok (.iadd, 1) := by decide +kernel
theorem dL_law_324 : decode cL_law 324 = .ok (.iaload, 1) := by decide +kernel
theorem dL_law_325 : decode cL_law 325 = .ok (.aload_n 0, 1) := by decide +kernel
theorem dL_law_326 : decode cL_law 326 = .ok (.iload 4, 2) := by decide +kernel
theorem dL_law_328 : decode cL_law 328 = .ok (.iconst 3, 1) := by decide +kernel
theorem dL_law_329 : decode cL_law 329 = .ok (.iadd, 1) := by decide +kernel
theorem dL_law_330 : decode cL_law 330 = .ok (.iaload, 1) := by decide +kernel
theorem dL_law_331 : decode cL_law 331 = .ok (.aload_n 3, 1) := by decide +kernel
theorem dL_law_332 : decode cL_law 332 = .ok (.invokestatic 79, 3) := by decide +kernel
theorem dL_law_335 : decode cL_law 335 = .ok (.istore 5, 2) := by decide +kernel
theorem dL_law_337 : decode cL_law 337 = .ok (.aload_n 2, 1) := by decide +kernel
theorem dL_law_338 : decode cL_law 338 = .ok (.aload_n 0, 1) := by decide +kernel
theorem dL_law_339 : decode cL_law 339 = .ok (.iload 4, 2) := by decide +kernel
theorem dL_law_341 : decode cL_law 341 = .ok (.iconst 1, 1) := by decide +kernel
theorem dL_law_342 : decode cL_law 342 = .ok (.iadd, 1) := by decide +kernel
theorem dL_law_343 : decode cL_law 343 = .ok (.iaload, 1) := by decide +kernel
theorem dL_law_344 : decode cL_law 344 = .ok (.aload_n 0, 1) := by decide +kernel
theorem dL_law_345 : decode cL_law 345 = .ok (.iload 4, 2) := by decide +kernel
theorem dL_law_347 : decode cL_law 347 = .ok (.iconst 2, 1) := by decide +kernel
theorem dL_law_348 : decode cL_law 348 = .ok (.iadd, 1) := by decide +kernel
theorem dL_law_349 : decode cL_law 349 = .ok (.iaload, 1) := by decide +kernel
theorem dL_law_350 : decode cL_law 350 = .ok (.aload_n 0, 1) := by decide +kernel
theorem dL_law_351 : decode cL_law 351 = .ok (.iload 4, 2) := by decide +kernel
theorem dL_law_353 : decode cL_law 353 = .ok (.iconst 3, 1) := by decide +kernel
theorem dL_law_354 : decode cL_law 354 = .ok (.iadd, 1) := by decide +kernel
theorem dL_law_355 : decode cL_law 355 = .ok (.iaload, 1) := by decide +kernel
theorem dL_law_356 : decode cL_law 356 = .ok (.invokevirtual 82, 3) := by decide +kernel
theorem dL_law_359 : decode cL_law 359 = .ok (.istore 6, 2) := by decide +kernel
theorem dL_law_361 : decode cL_law 361 = .ok (.aload_n 2, 1) := by decide +kernel
theorem dL_law_362 : decode cL_law 362 = .ok (.invokevirtual 71, 3) := by decide +kernel
theorem dL_law_365 : decode cL_law 365 = .ok (.iload 5, 2) := by decide +kernel
theorem dL_law_367 : decode cL_law 367 = .ok (.if_icmp .eq 5, 3) := by decide +kernel
theorem dL_law_370 : decode cL_law 370 = .ok (.iconst 0, 1) := by decide +kernel
theorem dL_law_371 : decode cL_law 371 = .ok (.ireturn, 1) := by decide +kernel
theorem dL_law_372 : decode cL_law 372 = .ok (.iload 5, 2) := by decide +kernel
theorem dL_law_374 : decode cL_law 374 = .ok (.ifCond .ne 15, 3) := by decide +kernel
theorem dL_law_377 : decode cL_law 377 = .ok (.aload_n 3, 1) := by decide +kernel
theorem dL_law_378 : decode cL_law 378 = .ok (.iconst 0, 1) := by decide +kernel
theorem dL_law_379 : decode cL_law 379 = .ok (.laload, 1) := by decide +kernel
theorem dL_law_380 : decode cL_law 380 = .ok (.iload 6, 2) := by decide +kernel
theorem dL_law_382 : decode cL_law 382 = .ok (.i2l, 1) := by decide +kernel
theorem dL_law_383 : decode cL_law 383 = .ok (.lcmp, 1) := by decide +kernel
theorem dL_law_384 : decode cL_law 384 = .ok (.ifCond .eq 5, 3) := by decide +kernel
theorem dL_law_387 : decode cL_law 387 = .ok (.iconst 0, 1) := by decide +kernel
theorem dL_law_388 : decode cL_law 388 = .ok (.ireturn, 1) := by decide +kernel
theorem dL_law_389 : decode cL_law 389 = .ok (.goto 795, 3) := by decide +kernel
theorem dL_law_392 : decode cL_law 392 = .ok (.aload_n 1, 1) := by decide +kernel
theorem dL_law_393 : decode cL_law 393 = .ok (.aload_n 0, 1) := by decide +kernel
theorem dL_law_394 : decode cL_law 394 = .ok (.iload 4, 2) := by decide +kernel
theorem dL_law_396 : decode cL_law 396 = .ok (.iconst 1, 1) := by decide +kernel
theorem dL_law_397 : decode cL_law 397 = .ok (.iadd, 1) := by decide +kernel
theorem dL_law_398 : decode cL_law 398 = .ok (.iaload, 1) := by decide +kernel
theorem dL_law_399 : decode cL_law 399 = .ok (.aload_n 0, 1) := by decide +kernel
theorem dL_law_400 : decode cL_law 400 = .ok (.iload 4, 2) := by decide +kernel
theorem dL_law_402 : decode cL_law 402 = .ok (.iconst 2, 1) := by decide +kernel
theorem dL_law_403 : decode cL_law 403 = .ok (.iadd, 1) := by decide +kernel
theorem dL_law_404 : decode cL_law 404 = .ok (.iaload, 1) := by decide +kernel
theorem dL_law_405 : decode cL_law 405 = .ok (.aload_n 0, 1) := by decide +kernel
theorem dL_law_406 : decode cL_law 406 = .ok (.iload 4, 2) := by decide +kernel
theorem dL_law_408 : decode cL_law 408 = .ok (.iconst 3, 1) := by decide +kernel
theorem dL_law_409 : decode cL_law 409 = .ok (.iadd, 1) := by decide +kernel
theorem dL_law_410 : decode cL_law 410 = .ok (.iaload, 1) := by decide +kernel
theorem dL_law_411 : decode cL_law 411 = .ok (.aload_n 3, 1) := by decide +kernel
theorem dL_law_412 : decode cL_law 412 = .ok (.invokestatic 83, 3) := by decide +kernel
theorem dL_law_415 : decode cL_law 415 = .ok (.istore 5, 2) := by decide +kernel
theorem dL_law_417 : decode cL_law 417 = .ok (.aload_n 2, 1) := by decide +kernel
theorem dL_law_418 : decode cL_law 418 = .ok (.aload_n 0, 1) := by decide +kernel
theorem dL_law_419 : decode cL_law 419 = .ok (.iload 4, 2) := by decide +kernel
theorem dL_law_421 : decode cL_law 421 = .ok (.iconst 1, 1) := by decide +kernel
theorem dL_law_422 : decode cL_law 422 = .ok (.iadd, 1) := by decide +kernel
theorem dL_law_423 : decode cL_law 423 = .ok (.iaload, 1) := by decide +kernel
theorem dL_law_424 : decode cL_law 424 = .ok (.aload_n 0, 1) := by decide +kernel
theorem dL_law_425 : decode cL_law 425 = .ok (.iload 4, 2) := by decide +kernel
theorem dL_law_427 : decode cL_law 427 = .ok (.iconst 2, 1) := by decide +kernel
theorem dL_law_428 : decode cL_law 428 = .ok (.iadd, 1) := by decide +kernel
theorem dL_law_429 : decode cL_law 429 = .ok (.iaload, 1) := by decide +kernel
theorem dL_law_430 : decode cL_law 430 = .ok (.aload_n 0, 1) := by decide +kernel
theorem dL_law_431 : decode cL_law 431 = .ok (.iload 4, 2) := by decide +kernel
theorem dL_law_433 : decode cL_law 433 = .ok (.iconst 3, 1) := by decide +kernel
theorem dL_law_434 : decode cL_law 434 = .ok (.iadd, 1) := by decide +kernel
theorem dL_law_435 : decode cL_law 435 = .ok (.iaload, 1) := by decide +kernel
theorem dL_law_436 : decode cL_law 436 = .ok (.invokevirtual 85, 3) := by decide +kernel
theorem dL_law_439 : decode cL_law 439 = .ok (.istore 6, 2) := by decide +kernel
theorem dL_law_441 : decode cL_law 441 = .ok (.aload_n 2, 1) := by decide +kernel
theorem dL_law_442 : decode cL_law 442 = .ok (.invokevirtual 71, 3) := by decide +kernel
theorem dL_law_445 : decode cL_law 445 = .ok (.iload 5, 2) := by decide +kernel
theorem dL_law_447 : decode cL_law 447 = .ok (.if_icmp .eq 5, 3) := by decide +kernel
theorem dL_law_450 : decode cL_law 450 = .ok (.iconst 0, 1) := by decide +kernel
theorem dL_law_451 : decode cL_law 451 = .ok (.ireturn, 1) := by decide +kernel
theorem dL_law_452 : decode cL_law 452 = .ok (.iload 5, 2) := by decide +kernel
theorem dL_law_454 : decode cL_law 454 = .ok (.ifCond .ne 15, 3) := by decide +kernel
theorem dL_law_457 : decode cL_law 457 = .ok (.aload_n 3, 1) := by decide +kernel
theorem dL_law_458 : decode cL_law 458 = .ok (.iconst 0, 1) := by decide +kernel
theorem dL_law_459 : decode cL_law 459 = .ok (.laload, 1) := by decide +kernel
theorem dL_law_460 : decode cL_law 460 = .ok (.iload 6, 2) := by decide +kernel
theorem dL_law_462 : decode cL_law 462 = .ok (.i2l, 1) := by decide +kernel
theorem dL_law_463 : decode cL_law 463 = .ok (.lcmp, 1) := by decide +kernel
theorem dL_law_464 : decode cL_law 464 = .ok (.ifCond .eq 5, 3) := by decide +kernel
theorem dL_law_467 : decode cL_law 467 = .ok (.iconst 0, 1) := by decide +kernel
theorem dL_law_468 : decode cL_law 468 = .ok (.ireturn, 1) := by decide +kernel
theorem dL_law_469 : decode cL_law 469 = .ok (.goto 715, 3) := by decide +kernel
theorem dL_law_472 : decode cL_law 472 = .ok (.aload_n 1, 1) := by decide +kernel
theorem dL_law_473 : decode cL_law 473 = .ok (.aload_n 0, 1) := by decide +kernel
theorem dL_law_474 : decode cL_law 474 = .ok (.iload 4, 2) := by decide +kernel
theorem dL_law_476 : decode cL_law 476 = .ok (.iconst 1, 1) := by decide +kernel
theorem dL_law_477 : decode cL_law 477 = .ok (.iadd, 1) := by decide +kernel
theorem dL_law_478 : decode cL_law 478 = .ok (.iaload, 1) := by decide +kernel
theorem dL_law_479 : decode cL_law 479 = .ok (.aload_n 3, 1) := by decide +kernel
theorem dL_law_480 : decode cL_law 480 = .ok (.invokestatic 86, 3) := by decide +kernel
theorem dL_law_483 : decode cL_law 483 = .ok (.istore 5, 2) := by decide +kernel
theorem dL_law_485 : decode cL_law 485 = .ok (.aload_n 2, 1) := by decide +kernel
theorem dL_law_486 : decode cL_law 486 = .ok (.aload_n 0, 1) := by decide +kernel
theorem dL_law_487 : decode cL_law 487 = .ok (.iload 4, 2) := by decide +kernel
theorem dL_law_489 : decode cL_law 489 = .ok (.iconst 1, 1) := by decide +kernel
theorem dL_law_490 : decode cL_law 490 = .ok (.iadd, 1) := by decide +kernel
theorem dL_law_491 : decode cL_law 491 = .ok (.iaload, 1) := by decide +kernel
theorem dL_law_492 : decode cL_law 492 = .ok (.invokevirtual 89, 3) := by decide +kernel
theorem dL_law_495 : decode cL_law 495 = .ok (.istore 6, 2) := by decide +kernel
theorem dL_law_497 : decode cL_law 497 = .ok (.aload_n 2, 1) := by decide +kernel
theorem dL_law_498 : decode cL_law 498 = .ok (.invokevirtual 71, 3) := by decide +kernel
theorem dL_law_501 : decode cL_law 501 = .ok (.iload 5, 2) := by decide +kernel
theorem dL_law_503 : decode cL_law 503 = .ok (.if_icmp .eq 5, 3) := by decide +kernel
theorem dL_law_506 : decode cL_law 506 = .ok (.iconst 0, 1) := by decide +kernel
theorem dL_law_507 : decode cL_law 507 = .ok (.ireturn, 1) := by decide +kernel
theorem dL_law_508 : decode cL_law 508 = .ok (.iload 5, 2) := by decide +kernel
theorem dL_law_510 : decode cL_law 510 = .ok (.ifCond .ne 15, 3) := by decide +kernel
theorem dL_law_513 : decode cL_law 513 = .ok (.aload_n 3, 1) := by decide +kernel
theorem dL_law_514 : decode cL_law 514 = .ok (.iconst 0, 1) := by decide +kernel
theorem dL_law_515 : decode cL_law 515 = .ok (.laload, 1) := by decide +kernel
theorem dL_law_516 : decode cL_law 516 = .ok (.iload 6, 2) := by decide +kernel
theorem dL_law_518 : decode cL_law 518 = .ok (.i2l, 1) := by decide +kernel
theorem dL_law_519 : decode cL_law 519 = .ok (.lcmp, 1) := by decide +kernel
theorem dL_law_520 : decode cL_law 520 = .ok (.ifCond .eq 5, 3) := by decide +kernel
theorem dL_law_523 : decode cL_law 523 = .ok (.iconst 0, 1) := by decide +kernel
theorem dL_law_524 : decode cL_law 524 = .ok (.ireturn, 1) := by decide +kernel
theorem dL_law_525 : decode cL_law 525 = .ok (.goto 659, 3) := by decide +kernel
theorem dL_law_528 : decode cL_law 528 = .ok (.aload_n 1, 1) := by decide +kernel
theorem dL_law_529 : decode cL_law 529 = .ok (.aload_n 0, 1) := by decide +kernel
theorem dL_law_530 : decode cL_law 530 = .ok (.iload 4, 2) := by decide +kernel
theorem dL_law_532 : decode cL_law 532 = .ok (.iconst 1, 1) := by decide +kernel
theorem dL_law_533 : decode cL_law 533 = .ok (.iadd, 1) := by decide +kernel
theorem dL_law_534 : decode cL_law 534 = .ok (.iaload, 1) := by decide +kernel
theorem dL_law_535 : decode cL_law 535 = .ok (.aload_n 0, 1) := by decide +kernel
theorem dL_law_536 : decode cL_law 536 = .ok (.iload 4, 2) := by decide +kernel
theorem dL_law_538 : decode cL_law 538 = .ok (.iconst 2, 1) := by decide +kernel
theorem dL_law_539 : decode cL_law 539 = .ok (.iadd, 1) := by decide +kernel
theorem dL_law_540 : decode cL_law 540 = .ok (.iaload, 1) := by decide +kernel
theorem dL_law_541 : decode cL_law 541 = .ok (.aload_n 3, 1) := by decide +kernel
theorem dL_law_542 : decode cL_law 542 = .ok (.invokestatic 90, 3) := by decide +kernel
theorem dL_law_545 : decode cL_law 545 = .ok (.istore 5, 2) := by decide +kernel
theorem dL_law_547 : decode cL_law 547 = .ok (.aload_n 2, 1) := by decide +kernel
theorem dL_law_548 : decode cL_law 548 = .ok (.aload_n 0, 1) := by decide +kernel
theorem dL_law_549 : decode cL_law 549 = .ok (.iload 4, 2) := by decide +kernel
theorem dL_law_551 : decode cL_law 551 = .ok (.iconst 1, 1) := by decide +kernel
theorem dL_law_552 : decode cL_law 552 = .ok (.iadd, 1) := by decide +kernel
theorem dL_law_553 : decode cL_law 553 = .ok (.iaload, 1) := by decide +kernel
theorem dL_law_554 : decode cL_law 554 = .ok (.aload_n 0, 1) := by decide +kernel
theorem dL_law_555 : decode cL_law 555 = .ok (.iload 4, 2) := by decide +kernel
theorem dL_law_557 : decode cL_law 557 = .ok (.iconst 2, 1) := by decide +kernel
theorem dL_law_558 : decode cL_law 558 = .ok (.iadd, 1) := by decide +kernel
theorem dL_law_559 : decode cL_law 559 = .ok (.iaload, 1) := by decide +kernel
theorem dL_law_560 : decode cL_law 560 = .ok (.invokevirtual 92, 3) := by decide +kernel
theorem dL_law_563 : decode cL_law 563 = .ok (.istore 6, 2) := by decide +kernel
theorem dL_law_565 : decode cL_law 565 = .ok (.aload_n 2, 1) := by decide +kernel
theorem dL_law_566 : decode cL_law 566 = .ok (.invokevirtual 71, 3) := by decide +kernel
theorem dL_law_569 : decode cL_law 569 = .ok (.iload 5, 2) := by decide +kernel
theorem dL_law_571 : decode cL_law 571 = .ok (.if_icmp .eq 5, 3) := by decide +kernel
theorem dL_law_574 : decode cL_law 574 = .ok (.iconst 0, 1) := by decide +kernel
theorem dL_law_575 : decode cL_law 575 = .ok (.ireturn, 1) := by decide +kernel
theorem dL_law_576 : decode cL_law 576 = .ok (.iload 5, 2) := by decide +kernel
theorem dL_law_578 : decode cL_law 578 = .ok (.ifCond .ne 15, 3) := by decide +kernel
theorem dL_law_581 : decode cL_law 581 = .ok (.aload_n 3, 1) := by decide +kernel
theorem dL_law_582 : decode cL_law 582 = .ok (.iconst 0, 1) := by decide +kernel
theorem dL_law_583 : decode cL_law 583 = .ok (.laload, 1) := by decide +kernel
theorem dL_law_584 : decode cL_law 584 = .ok (.iload 6, 2) := by decide +kernel
theorem dL_law_586 : decode cL_law 586 = .ok (.i2l, 1) := by decide +kernel
theorem dL_law_587 : decode cL_law 587 = .ok (.lcmp, 1) := by decide +kernel
theorem dL_law_588 : decode cL_law 588 = .ok (.ifCond .eq 5, 3) := by decide +kernel
theorem dL_law_591 : decode cL_law 591 = .ok (.iconst 0, 1) := by decide +kernel
theorem dL_law_592 : decode cL_law 592 = .ok (.ireturn, 1) := by decide +kernel
theorem dL_law_593 : decode cL_law 593 = .ok (.goto 591, 3) := by decide +kernel
theorem dL_law_596 : decode cL_law 596 = .ok (.aload_n 1, 1) := by decide +kernel
theorem dL_law_597 : decode cL_law 597 = .ok (.aload_n 0, 1) := by decide +kernel
theorem dL_law_598 : decode cL_law 598 = .ok (.iload 4, 2) := by decide +kernel
theorem dL_law_600 : decode cL_law 600 = .ok (.iconst 1, 1) := by decide +kernel
theorem dL_law_601 : decode cL_law 601 = .ok (.iadd, 1) := by decide +kernel
theorem dL_law_602 : decode cL_law 602 = .ok (.iaload, 1) := by decide +kernel
theorem dL_law_603 : decode cL_law 603 = .ok (.aload_n 0, 1) := by decide +kernel
theorem dL_law_604 : decode cL_law 604 = .ok (.iload 4, 2) := by decide +kernel
theorem dL_law_606 : decode cL_law 606 = .ok (.iconst 2, 1) := by decide +kernel
theorem dL_law_607 : decode cL_law 607 = .ok (.iadd, 1) := by decide +kernel
theorem dL_law_608 : decode cL_law 608 = .ok (.iaload, 1) := by decide +kernel
theorem dL_law_609 : decode cL_law 609 = .ok (.aload_n 3, 1) := by decide +kernel
theorem dL_law_610 : decode cL_law 610 = .ok (.invokestatic 93, 3) := by decide +kernel
theorem dL_law_613 : decode cL_law 613 = .ok (.istore 5, 2) := by decide +kernel
theorem dL_law_615 : decode cL_law 615 = .ok (.aload_n 2, 1) := by decide +kernel
theorem dL_law_616 : decode cL_law 616 = .ok (.aload_n 0, 1) := by decide +kernel
theorem dL_law_617 : decode cL_law 617 = .ok (.iload 4, 2) := by decide +kernel
theorem dL_law_619 : decode cL_law 619 = .ok (.iconst 1, 1) := by decide +kernel
theorem dL_law_620 : decode cL_law 620 = .ok (.iadd, 1) := by decide +kernel
theorem dL_law_621 : decode cL_law 621 = .ok (.iaload, 1) := by decide +kernel
theorem dL_law_622 : decode cL_law 622 = .ok (.aload_n 0, 1) := by decide +kernel
theorem dL_law_623 : decode cL_law 623 = .ok (.iload 4, 2) := by decide +kernel
theorem dL_law_625 : decode cL_law 625 = .ok (.iconst 2, 1) := by decide +kernel
theorem dL_law_626 : decode cL_law 626 = .ok (.iadd, 1) := by decide +kernel
theorem dL_law_627 : decode cL_law 627 = .ok (.iaload, 1) := by decide +kernel
theorem dL_law_628 : decode cL_law 628 = .ok (.invokevirtual 95, 3) := by decide +kernel
theorem dL_law_631 : decode cL_law 631 = .ok (.istore 6, 2) := by decide +kernel
theorem dL_law_633 : decode cL_law 633 = .ok (.aload_n 2, 1) := by decide +kernel
theorem dL_law_634 : decode cL_law 634 = .ok (.invokevirtual 71, 3) := by decide +kernel
theorem dL_law_637 : decode cL_law 637 = .ok (.iload 5, 2) := by decide +kernel
theorem dL_law_639 : decode cL_law 639 = .ok (.if_icmp .eq 5, 3) := by decide +kernel
theorem dL_law_642 : decode cL_law 642 = .ok (.iconst 0, 1) := by decide +kernel
theorem dL_law_643 : decode cL_law 643 = .ok (.ireturn, 1) := by decide +kernel
theorem dL_law_644 : decode cL_law 644 = .ok (.iload 5, 2) := by decide +kernel
theorem dL_law_646 : decode cL_law 646 = .ok (.ifCond .ne 15, 3) := by decide +kernel
theorem dL_law_649 : decode cL_law 649 = .ok (.aload_n 3, 1) := by decide +kernel
theorem dL_law_650 : decode cL_law 650 = .ok (.iconst 0, 1) := by decide +kernel
theorem dL_law_651 : decode cL_law 651 = .ok (.laload, 1) := by decide +kernel
theorem dL_law_652 : decode cL_law 652 = .ok (.iload 6, 2) := by decide +kernel
theorem dL_law_654 : decode cL_law 654 = .ok (.i2l, 1) := by decide +kernel
theorem dL_law_655 : decode cL_law 655 = .ok (.lcmp, 1) := by decide +kernel
theorem dL_law_656 : decode cL_law 656 = .ok (.ifCond .eq 5, 3) := by decide +kernel
theorem dL_law_659 : decode cL_law 659 = .ok (.iconst 0, 1) := by decide +kernel
theorem dL_law_660 : decode cL_law 660 = .ok (.ireturn, 1) := by decide +kernel
theorem dL_law_661 : decode cL_law 661 = .ok (.goto 523, 3) := by decide +kernel
theorem dL_law_664 : decode cL_law 664 = .ok (.aload_n 1, 1) := by decide +kernel
theorem dL_law_665 : decode cL_law 665 = .ok (.aload_n 0, 1) := by decide +kernel
theorem dL_law_666 : decode cL_law 666 = .ok (.iload 4, 2) := by decide +kernel
theorem dL_law_668 : decode cL_law 668 = .ok (.iconst 1, 1) := by decide +kernel
theorem dL_law_669 : decode cL_law 669 = .ok (.iadd, 1) := by decide +kernel
theorem dL_law_670 : decode cL_law 670 = .ok (.iaload, 1) := by decide +kernel
theorem dL_law_671 : decode cL_law 671 = .ok (.aload_n 0, 1) := by decide +kernel
theorem dL_law_672 : decode cL_law 672 = .ok (.iload 4, 2) := by decide +kernel
theorem dL_law_674 : decode cL_law 674 = .ok (.iconst 2, 1) := by decide +kernel
theorem dL_law_675 : decode cL_law 675 = .ok (.iadd, 1) := by decide +kernel
theorem dL_law_676 : decode cL_law 676 = .ok (.iaload, 1) := by decide +kernel
theorem dL_law_677 : decode cL_law 677 = .ok (.aload_n 3, 1) := by decide +kernel
theorem dL_law_678 : decode cL_law 678 = .ok (.invokestatic 96, 3) := by decide +kernel
theorem dL_law_681 : decode cL_law 681 = .ok (.istore 5, 2) := by decide +kernel
theorem dL_law_683 : decode cL_law 683 = .ok (.aload_n 2, 1) := by decide +kernel
theorem dL_law_684 : decode cL_law 684 = .ok (.aload_n 0, 1) := by decide +kernel
theorem dL_law_685 : decode cL_law 685 = .ok (.iload 4, 2) := by decide +kernel
theorem dL_law_687 : decode cL_law 687 = .ok (.iconst 1, 1) := by decide +kernel
theorem dL_law_688 : decode cL_law 688 = .ok (.iadd, 1) := by decide +kernel
theorem dL_law_689 : decode cL_law 689 = .ok (.iaload, 1) := by decide +kernel
theorem dL_law_690 : decode cL_law 690 = .ok (.aload_n 0, 1) := by decide +kernel
theorem dL_law_691 : decode cL_law 691 = .ok (.iload 4, 2) := by decide +kernel
theorem dL_law_693 : decode cL_law 693 = .ok (.iconst 2, 1) := by decide +kernel
theorem dL_law_694 : decode cL_law 694 = .ok (.iadd, 1) := by decide +kernel
theorem dL_law_695 : decode cL_law 695 = .ok (.iaload, 1) := by decide +kernel
theorem dL_law_696 : decode cL_law 696 = .ok (.invokevirtual 98, 3) := by decide +kernel
theorem dL_law_699 : decode cL_law 699 = .ok (.istore 6, 2) := by decide +kernel
theorem dL_law_701 : decode cL_law 701 = .ok (.aload_n 2, 1) := by decide +kernel
theorem dL_law_702 : decode cL_law 702 = .ok (.invokevirtual 71, 3) := by decide +kernel
theorem dL_law_705 : decode cL_law 705 = .ok (.iload 5, 2) := by decide +kernel
theorem dL_law_707 : decode cL_law 707 = .ok (.if_icmp .eq 5, 3) := by decide +kernel
theorem dL_law_710 : decode cL_law 710 = .ok (.iconst 0, 1) := by decide +kernel
theorem dL_law_711 : decode cL_law 711 = .ok (.ireturn, 1) := by decide +kernel
theorem dL_law_712 : decode cL_law 712 = .ok (.iload 5, 2) := by decide +kernel
theorem dL_law_714 : decode cL_law 714 = .ok (.ifCond .ne 15, 3) := by decide +kernel
theorem dL_law_717 : decode cL_law 717 = .ok (.aload_n 3, 1) := by decide +kernel
theorem dL_law_718 : decode cL_law 718 = .ok (.iconst 0, 1) := by decide +kernel
theorem dL_law_719 : decode cL_law 719 = .ok (.laload, 1) := by decide +kernel
theorem dL_law_720 : decode cL_law 720 = .ok (.iload 6, 2) := by decide +kernel
theorem dL_law_722 : decode cL_law 722 = .ok (.i2l, 1) := by decide +kernel
theorem dL_law_723 : decode cL_law 723 = .ok (.lcmp, 1) := by decide +kernel
theorem dL_law_724 : decode cL_law 724 = .ok (.ifCond .eq 5, 3) := by decide +kernel
theorem dL_law_727 : decode cL_law 727 = .ok (.iconst 0, 1) := by decide +kernel
theorem dL_law_728 : decode cL_law 728 = .ok (.ireturn, 1) := by decide +kernel
theorem dL_law_729 : decode cL_law 729 = .ok (.goto 455, 3) := by decide +kernel
theorem dL_law_732 : decode cL_law 732 = .ok (.aload_n 1, 1) := by decide +kernel
theorem dL_law_733 : decode cL_law 733 = .ok (.aload_n 0, 1) := by decide +kernel
theorem dL_law_734 : decode cL_law 734 = .ok (.iload 4, 2) := by decide +kernel
theorem dL_law_736 : decode cL_law 736 = .ok (.iconst 1, 1) := by decide +kernel
theorem dL_law_737 : decode cL_law 737 = .ok (.iadd, 1) := by decide +kernel
theorem dL_law_738 : decode cL_law 738 = .ok (.iaload, 1) := by decide +kernel
theorem dL_law_739 : decode cL_law 739 = .ok (.aload_n 3, 1) := by decide +kernel
theorem dL_law_740 : decode cL_law 740 = .ok (.invokestatic 99, 3) := by decide +kernel
theorem dL_law_743 : decode cL_law 743 = .ok (.istore 5, 2) := by decide +kernel
theorem dL_law_745 : decode cL_law 745 = .ok (.aload_n 2, 1) := by decide +kernel
theorem dL_law_746 : decode cL_law 746 = .ok (.aload_n 0, 1) := by decide +kernel
theorem dL_law_747 : decode cL_law 747 = .ok (.iload 4, 2) := by decide +kernel
theorem dL_law_749 : decode cL_law 749 = .ok (.iconst 1, 1) := by decide +kernel
theorem dL_law_750 : decode cL_law 750 = .ok (.iadd, 1) := by decide +kernel
theorem dL_law_751 : decode cL_law 751 = .ok (.iaload, 1) := by decide +kernel
theorem dL_law_752 : decode cL_law 752 = .ok (.invokevirtual 101, 3) := by decide +kernel
theorem dL_law_755 : decode cL_law 755 = .ok (.istore 6, 2) := by decide +kernel
theorem dL_law_757 : decode cL_law 757 = .ok (.aload_n 2, 1) := by decide +kernel
theorem dL_law_758 : decode cL_law 758 = .ok (.invokevirtual 71, 3) := by decide +kernel
theorem dL_law_761 : decode cL_law 761 = .ok (.iload 5, 2) := by decide +kernel
theorem dL_law_763 : decode cL_law 763 = .ok (.if_icmp .eq 5, 3) := by decide +kernel
theorem dL_law_766 : decode cL_law 766 = .ok (.iconst 0, 1) := by decide +kernel
theorem dL_law_767 : decode cL_law 767 = .ok (.ireturn, 1) := by decide +kernel
theorem dL_law_768 : decode cL_law 768 = .ok (.iload 5, 2) := by decide +kernel
theorem dL_law_770 : decode cL_law 770 = .ok (.ifCond .ne 15, 3) := by decide +kernel
theorem dL_law_773 : decode cL_law 773 = .ok (.aload_n 3, 1) := by decide +kernel
theorem dL_law_774 : decode cL_law 774 = .ok (.iconst 0, 1) := by decide +kernel
theorem dL_law_775 : decode cL_law 775 = .ok (.laload, 1) := by decide +kernel
theorem dL_law_776 : decode cL_law 776 = .ok (.iload 6, 2) := by decide +kernel
theorem dL_law_778 : decode cL_law 778 = .ok (.i2l, 1) := by decide +kernel
theorem dL_law_779 : decode cL_law 779 = .ok (.lcmp, 1) := by decide +kernel
theorem dL_law_780 : decode cL_law 780 = .ok (.ifCond .eq 5, 3) := by decide +kernel
theorem dL_law_783 : decode cL_law 783 = .ok (.iconst 0, 1) := by decide +kernel
theorem dL_law_784 : decode cL_law 784 = .ok (.ireturn, 1) := by decide +kernel
theorem dL_law_785 : decode cL_law 785 = .ok (.goto 399, 3) := by decide +kernel
theorem dL_law_788 : decode cL_law 788 = .ok (.aload_n 1, 1) := by decide +kernel
theorem dL_law_789 : decode cL_law 789 = .ok (.aload_n 0, 1) := by decide +kernel
theorem dL_law_790 : decode cL_law 790 = .ok (.iload 4, 2) := by decide +kernel
theorem dL_law_792 : decode cL_law 792 = .ok (.iconst 1, 1) := by decide +kernel
theorem dL_law_793 : decode cL_law 793 = .ok (.iadd, 1) := by decide +kernel
theorem dL_law_794 : decode cL_law 794 = .ok (.iaload, 1) := by decide +kernel
theorem dL_law_795 : decode cL_law 795 = .ok (.aload_n 0, 1) := by decide +kernel
theorem dL_law_796 : decode cL_law 796 = .ok (.iload 4, 2) := by decide +kernel
theorem dL_law_798 : decode cL_law 798 = .ok (.iconst 2, 1) := by decide +kernel
theorem dL_law_799 : decode cL_law 799 = .ok (.iadd, 1) := by decide +kernel
theorem dL_law_800 : decode cL_law 800 = .ok (.iaload, 1) := by decide +kernel
theorem dL_law_801 : decode cL_law 801 = .ok (.aload_n 3, 1) := by decide +kernel
theorem dL_law_802 : decode cL_law 802 = .ok (.invokestatic 102, 3) := by decide +kernel
theorem dL_law_805 : decode cL_law 805 = .ok (.istore 5, 2) := by decide +kernel
theorem dL_law_807 : decode cL_law 807 = .ok (.aload_n 2, 1) := by decide +kernel
theorem dL_law_808 : decode cL_law 808 = .ok (.aload_n 0, 1) := by decide +kernel
theorem dL_law_809 : decode cL_law 809 = .ok (.iload 4, 2) := by decide +kernel
theorem dL_law_811 : decode cL_law 811 = .ok (.iconst 1, 1) := by decide +kernel
theorem dL_law_812 : decode cL_law 812 = .ok (.iadd, 1) := by decide +kernel
theorem dL_law_813 : decode cL_law 813 = .ok (.iaload, 1) := by decide +kernel
theorem dL_law_814 : decode cL_law 814 = .ok (.aload_n 0, 1) := by decide +kernel
theorem dL_law_815 : decode cL_law 815 = .ok (.iload 4, 2) := by decide +kernel
theorem dL_law_817 : decode cL_law 817 = .ok (.iconst 2, 1) := by decide +kernel
theorem dL_law_818 : decode cL_law 818 = .ok (.iadd, 1) := by decide +kernel
theorem dL_law_819 : decode cL_law 819 = .ok (.iaload, 1) := by decide +kernel
theorem dL_law_820 : decode cL_law 820 = .ok (.invokevirtual 104, 3) := by decide +kernel
theorem dL_law_823 : decode cL_law 823 = .ok (.istore 6, 2) := by decide +kernel
theorem dL_law_825 : decode cL_law 825 = .ok (.aload_n 2, 1) := by decide +kernel
theorem dL_law_826 : decode cL_law 826 = .ok (.invokevirtual 71, 3) := by decide +kernel
theorem dL_law_829 : decode cL_law 829 = .ok (.iload 5, 2) := by decide +kernel
theorem dL_law_831 : decode cL_law 831 = .ok (.if_icmp .eq 5, 3) := by decide +kernel
theorem dL_law_834 : decode cL_law 834 = .ok (.iconst 0, 1) := by decide +kernel
theorem dL_law_835 : decode cL_law 835 = .ok (.ireturn, 1) := by decide +kernel
theorem dL_law_836 : decode cL_law 836 = .ok (.iload 5, 2) := by decide +kernel
theorem dL_law_838 : decode cL_law 838 = .ok (.ifCond .ne 15, 3) := by decide +kernel
theorem dL_law_841 : decode cL_law 841 = .ok (.aload_n 3, 1) := by decide +kernel
theorem dL_law_842 : decode cL_law 842 = .ok (.iconst 0, 1) := by decide +kernel
theorem dL_law_843 : decode cL_law 843 = .ok (.laload, 1) := by decide +kernel
theorem dL_law_844 : decode cL_law 844 = .ok (.iload 6, 2) := by decide +kernel
theorem dL_law_846 : decode cL_law 846 = .ok (.i2l, 1) := by decide +kernel
theorem dL_law_847 : decode cL_law 847 = .ok (.lcmp, 1) := by decide +kernel
theorem dL_law_848 : decode cL_law 848 = .ok (.ifCond .eq 5, 3) := by decide +kernel
theorem dL_law_851 : decode cL_law 851 = .ok (.iconst 0, 1) := by decide +kernel
theorem dL_law_852 : decode cL_law 852 = .ok (.ireturn, 1) := by decide +kernel
theorem dL_law_853 : decode cL_law 853 = .ok (.goto 331, 3) := by decide +kernel
theorem dL_law_856 : decode cL_law 856 = .ok (.aload_n 1, 1) := by decide +kernel
theorem dL_law_857 : decode cL_law 857 = .ok (.aload_n 0, 1) := by decide +kernel
theorem dL_law_858 : decode cL_law 858 = .ok (.iload 4, 2) := by decide +kernel
theorem dL_law_860 : decode cL_law 860 = .ok (.iconst 1, 1) := by decide +kernel
theorem dL_law_861 : decode cL_law 861 = .ok (.iadd, 1) := by decide +kernel
theorem dL_law_862 : decode cL_law 862 = .ok (.iaload, 1) := by decide +kernel
theorem dL_law_863 : decode cL_law 863 = .ok (.aload_n 3, 1) := by decide +kernel
theorem dL_law_864 : decode cL_law 864 = .ok (.invokestatic 105, 3) := by decide +kernel
theorem dL_law_867 : decode cL_law 867 = .ok (.istore 5, 2) := by decide +kernel
theorem dL_law_869 : decode cL_law 869 = .ok (.aload_n 2, 1) := by decide +kernel
theorem dL_law_870 : decode cL_law 870 = .ok (.aload_n 0, 1) := by decide +kernel
theorem dL_law_871 : decode cL_law 871 = .ok (.iload 4, 2) := by decide +kernel
theorem dL_law_873 : decode cL_law 873 = .ok (.iconst 1, 1) := by decide +kernel
theorem dL_law_874 : decode cL_law 874 = .ok (.iadd, 1) := by decide +kernel
theorem dL_law_875 : decode cL_law 875 = .ok (.iaload, 1) := by decide +kernel
theorem dL_law_876 : decode cL_law 876 = .ok (.invokevirtual 107, 3) := by decide +kernel
theorem dL_law_879 : decode cL_law 879 = .ok (.istore 6, 2) := by decide +kernel
theorem dL_law_881 : decode cL_law 881 = .ok (.aload_n 2, 1) := by decide +kernel
theorem dL_law_882 : decode cL_law 882 = .ok (.invokevirtual 71, 3) := by decide +kernel
theorem dL_law_885 : decode cL_law 885 = .ok (.iload 5, 2) := by decide +kernel
theorem dL_law_887 : decode cL_law 887 = .ok (.if_icmp .eq 5, 3) := by decide +kernel
theorem dL_law_890 : decode cL_law 890 = .ok (.iconst 0, 1) := by decide +kernel
theorem dL_law_891 : decode cL_law 891 = .ok (.ireturn, 1) := by decide +kernel
theorem dL_law_892 : decode cL_law 892 = .ok (.iload 5, 2) := by decide +kernel
theorem dL_law_894 : decode cL_law 894 = .ok (.ifCond .ne 15, 3) := by decide +kernel
theorem dL_law_897 : decode cL_law 897 = .ok (.aload_n 3, 1) := by decide +kernel
theorem dL_law_898 : decode cL_law 898 = .ok (.iconst 0, 1) := by decide +kernel
theorem dL_law_899 : decode cL_law 899 = .ok (.laload, 1) := by decide +kernel
theorem dL_law_900 : decode cL_law 900 = .ok (.iload 6, 2) := by decide +kernel
theorem dL_law_902 : decode cL_law 902 = .ok (.i2l, 1) := by decide +kernel
theorem dL_law_903 : decode cL_law 903 = .ok (.lcmp, 1) := by decide +kernel
theorem dL_law_904 : decode cL_law 904 = .ok (.ifCond .eq 5, 3) := by decide +kernel
theorem dL_law_907 : decode cL_law 907 = .ok (.iconst 0, 1) := by decide +kernel
theorem dL_law_908 : decode cL_law 908 = .ok (.ireturn, 1) := by decide +kernel
theorem dL_law_909 : decode cL_law 909 = .ok (.goto 275, 3) := by decide +kernel
theorem dL_law_912 : decode cL_law 912 = .ok (.aload_n 1, 1) := by decide +kernel
theorem dL_law_913 : decode cL_law 913 = .ok (.aload_n 0, 1) := by decide +kernel
theorem dL_law_914 : decode cL_law 914 = .ok (.iload 4, 2) := by decide +kernel
theorem dL_law_916 : decode cL_law 916 = .ok (.iconst 1, 1) := by decide +kernel
theorem dL_law_917 : decode cL_law 917 = .ok (.iadd, 1) := by decide +kernel
theorem dL_law_918 : decode cL_law 918 = .ok (.iaload, 1) := by decide +kernel
theorem dL_law_919 : decode cL_law 919 = .ok (.aload_n 3, 1) := by decide +kernel
theorem dL_law_920 : decode cL_law 920 = .ok (.invokestatic 108, 3) := by decide +kernel
theorem dL_law_923 : decode cL_law 923 = .ok (.istore 5, 2) := by decide +kernel
theorem dL_law_925 : decode cL_law 925 = .ok (.aload_n 2, 1) := by decide +kernel
theorem dL_law_926 : decode cL_law 926 = .ok (.aload_n 0, 1) := by decide +kernel
theorem dL_law_927 : decode cL_law 927 = .ok (.iload 4, 2) := by decide +kernel
theorem dL_law_929 : decode cL_law 929 = .ok (.iconst 1, 1) := by decide +kernel
theorem dL_law_930 : decode cL_law 930 = .ok (.iadd, 1) := by decide +kernel
theorem dL_law_931 : decode cL_law 931 = .ok (.iaload, 1) := by decide +kernel
theorem dL_law_932 : decode cL_law 932 = .ok (.invokevirtual 110, 3) := by decide +kernel
theorem dL_law_935 : decode cL_law 935 = .ok (.istore 6, 2) := by decide +kernel
theorem dL_law_937 : decode cL_law 937 = .ok (.aload_n 2, 1) := by decide +kernel
theorem dL_law_938 : decode cL_law 938 = .ok (.invokevirtual 71, 3) := by decide +kernel
theorem dL_law_941 : decode cL_law 941 = .ok (.iload 5, 2) := by decide +kernel
theorem dL_law_943 : decode cL_law 943 = .ok (.if_icmp .eq 5, 3) := by decide +kernel
theorem dL_law_946 : decode cL_law 946 = .ok (.iconst 0, 1) := by decide +kernel
theorem dL_law_947 : decode cL_law 947 = .ok (.ireturn, 1) := by decide +kernel
theorem dL_law_948 : decode cL_law 948 = .ok (.iload 5, 2) := by decide +kernel
theorem dL_law_950 : decode cL_law 950 = .ok (.ifCond .ne 15, 3) := by decide +kernel
theorem dL_law_953 : decode cL_law 953 = .ok (.aload_n 3, 1) := by decide +kernel
theorem dL_law_954 : decode cL_law 954 = .ok (.iconst 0, 1) := by decide +kernel
theorem dL_law_955 : decode cL_law 955 = .ok (.laload, 1) := by decide +kernel
theorem dL_law_956 : decode cL_law 956 = .ok (.iload 6, 2) := by decide +kernel
theorem dL_law_958 : decode cL_law 958 = .ok (.i2l, 1) := by decide +kernel
theorem dL_law_959 : decode cL_law 959 = .ok (.lcmp, 1) := by decide +kernel
theorem dL_law_960 : decode cL_law 960 = .ok (.ifCond .eq 5, 3) := by decide +kernel
theorem dL_law_963 : decode cL_law 963 = .ok (.iconst 0, 1) := by decide +kernel
theorem dL_law_964 : decode cL_law 964 = .ok (.ireturn, 1) := by decide +kernel
theorem dL_law_965 : decode cL_law 965 = .ok (.goto 219, 3) := by decide +kernel
theorem dL_law_968 : decode cL_law 968 = .ok (.aload_n 1, 1) := by decide +kernel
theorem dL_law_969 : decode cL_law 969 = .ok (.aload_n 0, 1) := by decide +kernel
theorem dL_law_970 : decode cL_law 970 = .ok (.iload 4, 2) := by decide +kernel
theorem dL_law_972 : decode cL_law 972 = .ok (.iconst 1, 1) := by decide +kernel
theorem dL_law_973 : decode cL_law 973 = .ok (.iadd, 1) := by decide +kernel
theorem dL_law_974 : decode cL_law 974 = .ok (.iaload, 1) := by decide +kernel
theorem dL_law_975 : decode cL_law 975 = .ok (.aload_n 0, 1) := by decide +kernel
theorem dL_law_976 : decode cL_law 976 = .ok (.iload 4, 2) := by decide +kernel
theorem dL_law_978 : decode cL_law 978 = .ok (.iconst 2, 1) := by decide +kernel
theorem dL_law_979 : decode cL_law 979 = .ok (.iadd, 1) := by decide +kernel
theorem dL_law_980 : decode cL_law 980 = .ok (.iaload, 1) := by decide +kernel
theorem dL_law_981 : decode cL_law 981 = .ok (.aload_n 0, 1) := by decide +kernel
theorem dL_law_982 : decode cL_law 982 = .ok (.iload 4, 2) := by decide +kernel
theorem dL_law_984 : decode cL_law 984 = .ok (.iconst 3, 1) := by decide +kernel
theorem dL_law_985 : decode cL_law 985 = .ok (.iadd, 1) := by decide +kernel
theorem dL_law_986 : decode cL_law 986 = .ok (.iaload, 1) := by decide +kernel
theorem dL_law_987 : decode cL_law 987 = .ok (.aload_n 3, 1) := by decide +kernel
theorem dL_law_988 : decode cL_law 988 = .ok (.invokestatic 111, 3) := by decide +kernel
theorem dL_law_991 : decode cL_law 991 = .ok (.istore 5, 2) := by decide +kernel
theorem dL_law_993 : decode cL_law 993 = .ok (.aload_n 2, 1) := by decide +kernel
theorem dL_law_994 : decode cL_law 994 = .ok (.aload_n 0, 1) := by decide +kernel
theorem dL_law_995 : decode cL_law 995 = .ok (.iload 4, 2) := by decide +kernel
theorem dL_law_997 : decode cL_law 997 = .ok (.iconst 1, 1) := by decide +kernel
theorem dL_law_998 : decode cL_law 998 = .ok (.iadd, 1) := by decide +kernel
theorem dL_law_999 : decode cL_law 999 = .ok (.iaload, 1) := by decide +kernel
theorem dL_law_1000 : decode cL_law 1000 = .ok (.aload_n 0, 1) := by decide +kernel
theorem dL_law_1001 : decode cL_law 1001 = .ok (.iload 4, 2) := by decide +kernel
theorem dL_law_1003 : decode cL_law 1003 = .ok (.iconst 2, 1) := by decide +kernel
theorem dL_law_1004 : decode cL_law 1004 = .ok (.iadd, 1) := by decide +kernel
theorem dL_law_1005 : decode cL_law 1005 = .ok (.iaload, 1) := by decide +kernel
theorem dL_law_1006 : decode cL_law 1006 = .ok (.aload_n 0, 1) := by decide +kernel
theorem dL_law_1007 : decode cL_law 1007 = .ok (.iload 4, 2) := by decide +kernel
theorem dL_law_1009 : decode cL_law 1009 = .ok (.iconst 3, 1) := by decide +kernel
theorem dL_law_1010 : decode cL_law 1010 = .ok (.iadd, 1) := by decide +kernel
theorem dL_law_1011 : decode cL_law 1011 = .ok (.iaload, 1) := by decide +kernel
theorem dL_law_1012 : decode cL_law 1012 = .ok (.invokevirtual 113, 3) := by decide +kernel
theorem dL_law_1015 : decode cL_law 1015 = .ok (.istore 6, 2) := by decide +kernel
theorem dL_law_1017 : decode cL_law 1017 = .ok (.aload_n 2, 1) := by decide +kernel
theorem dL_law_1018 : decode cL_law 1018 = .ok (.invokevirtual 71, 3) := by decide +kernel
theorem dL_law_1021 : decode cL_law 1021 = .ok (.iload 5, 2) := by decide +kernel
theorem dL_law_1023 : decode cL_law 1023 = .ok (.if_icmp .eq 5, 3) := by decide +kernel
theorem dL_law_1026 : decode cL_law 1026 = .ok (.iconst 0, 1) := by decide +kernel
theorem dL_law_1027 : decode cL_law 1027 = .ok (.ireturn, 1) := by decide +kernel
theorem dL_law_1028 : decode cL_law 1028 = .ok (.iload 5, 2) := by decide +kernel
theorem dL_law_1030 : decode cL_law 1030 = .ok (.ifCond .ne 15, 3) := by decide +kernel
theorem dL_law_1033 : decode cL_law 1033 = .ok (.aload_n 3, 1) := by decide +kernel
theorem dL_law_1034 : decode cL_law 1034 = .ok (.iconst 0, 1) := by decide +kernel
theorem dL_law_1035 : decode cL_law 1035 = .ok (.laload, 1) := by decide +kernel
theorem dL_law_1036 : decode cL_law 1036 = .ok (.iload 6, 2) := by decide +kernel
theorem dL_law_1038 : decode cL_law 1038 = .ok (.i2l, 1) := by decide +kernel
theorem dL_law_1039 : decode cL_law 1039 = .ok (.lcmp, 1) := by decide +kernel
theorem dL_law_1040 : decode cL_law 1040 = .ok (.ifCond .eq 5, 3) := by decide +kernel
theorem dL_law_1043 : decode cL_law 1043 = .ok (.iconst 0, 1) := by decide +kernel
theorem dL_law_1044 : decode cL_law 1044 = .ok (.ireturn, 1) := by decide +kernel
theorem dL_law_1045 : decode cL_law 1045 = .ok (.goto 139, 3) := by decide +kernel
theorem dL_law_1048 : decode cL_law 1048 = .ok (.aload_n 1, 1) := by decide +kernel
theorem dL_law_1049 : decode cL_law 1049 = .ok (.aload_n 0, 1) := by decide +kernel
theorem dL_law_1050 : decode cL_law 1050 = .ok (.iload 4, 2) := by decide +kernel
theorem dL_law_1052 : decode cL_law 1052 = .ok (.iconst 1, 1) := by decide +kernel
theorem dL_law_1053 : decode cL_law 1053 = .ok (.iadd, 1) := by decide +kernel
theorem dL_law_1054 : decode cL_law 1054 = .ok (.iaload, 1) := by decide +kernel
theorem dL_law_1055 : decode cL_law 1055 = .ok (.aload_n 0, 1) := by decide +kernel
theorem dL_law_1056 : decode cL_law 1056 = .ok (.iload 4, 2) := by decide +kernel
theorem dL_law_1058 : decode cL_law 1058 = .ok (.iconst 2, 1) := by decide +kernel
theorem dL_law_1059 : decode cL_law 1059 = .ok (.iadd, 1) := by decide +kernel
theorem dL_law_1060 : decode cL_law 1060 = .ok (.iaload, 1) := by decide +kernel
theorem dL_law_1061 : decode cL_law 1061 = .ok (.aload_n 3, 1) := by decide +kernel
theorem dL_law_1062 : decode cL_law 1062 = .ok (.invokestatic 114, 3) := by decide +kernel
theorem dL_law_1065 : decode cL_law 1065 = .ok (.istore 5, 2) := by decide +kernel
theorem dL_law_1067 : decode cL_law 1067 = .ok (.aload_n 2, 1) := by decide +kernel
theorem dL_law_1068 : decode cL_law 1068 = .ok (.aload_n 0, 1) := by decide +kernel
theorem dL_law_1069 : decode cL_law 1069 = .ok (.iload 4, 2) := by decide +kernel
theorem dL_law_1071 : decode cL_law 1071 = .ok (.iconst 1, 1) := by decide +kernel
theorem dL_law_1072 : decode cL_law 1072 = .ok (.iadd, 1) := by decide +kernel
theorem dL_law_1073 : decode cL_law 1073 = .ok (.iaload, 1) := by decide +kernel
theorem dL_law_1074 : decode cL_law 1074 = .ok (.aload_n 0, 1) := by decide +kernel
theorem dL_law_1075 : decode cL_law 1075 = .ok (.iload 4, 2) := by decide +kernel
theorem dL_law_1077 : decode cL_law 1077 = .ok (.iconst 2, 1) := by decide +kernel
theorem dL_law_1078 : decode cL_law 1078 = .ok (.iadd, 1) := by decide +kernel
theorem dL_law_1079 : decode cL_law 1079 = .ok (.iaload, 1) := by decide +kernel
theorem dL_law_1080 : decode cL_law 1080 = .ok (.invokevirtual 116, 3) := by decide +kernel
theorem dL_law_1083 : decode cL_law 1083 = .ok (.istore 6, 2) := by decide +kernel
theorem dL_law_1085 : decode cL_law 1085 = .ok (.aload_n 2, 1) := by decide +kernel
theorem dL_law_1086 : decode cL_law 1086 = .ok (.invokevirtual 71, 3) := by decide +kernel
theorem dL_law_1089 : decode cL_law 1089 = .ok (.iload 5, 2) := by decide +kernel
theorem dL_law_1091 : decode cL_law 1091 = .ok (.if_icmp .eq 5, 3) := by decide +kernel
theorem dL_law_1094 : decode cL_law 1094 = .ok (.iconst 0, 1) := by decide +kernel
theorem dL_law_1095 : decode cL_law 1095 = .ok (.ireturn, 1) := by decide +kernel
theorem dL_law_1096 : decode cL_law 1096 = .ok (.iload 5, 2) := by decide +kernel
theorem dL_law_1098 : decode cL_law 1098 = .ok (.ifCond .ne 15, 3) := by decide +kernel
theorem dL_law_1101 : decode cL_law 1101 = .ok (.aload_n 3, 1) := by decide +kernel
theorem dL_law_1102 : decode cL_law 1102 = .ok (.iconst 0, 1) := by decide +kernel
theorem dL_law_1103 : decode cL_law 1103 = .ok (.laload, 1) := by decide +kernel
theorem dL_law_1104 : decode cL_law 1104 = .ok (.iload 6, 2) := by decide +kernel
theorem dL_law_1106 : decode cL_law 1106 = .ok (.i2l, 1) := by decide +kernel
theorem dL_law_1107 : decode cL_law 1107 = .ok (.lcmp, 1) := by decide +kernel
theorem dL_law_1108 : decode cL_law 1108 = .ok (.ifCond .eq 5, 3) := by decide +kernel
theorem dL_law_1111 : decode cL_law 1111 = .ok (.iconst 0, 1) := by decide +kernel
theorem dL_law_1112 : decode cL_law 1112 = .ok (.ireturn, 1) := by decide +kernel
theorem dL_law_1113 : decode cL_law 1113 = .ok (.goto 71, 3) := by decide +kernel
theorem dL_law_1116 : decode cL_law 1116 = .ok (.aload_n 1, 1) := by decide +kernel
theorem dL_law_1117 : decode cL_law 1117 = .ok (.invokevirtual 117, 3) := by decide +kernel
theorem dL_law_1120 : decode cL_law 1120 = .ok (.aload_n 2, 1) := by decide +kernel
theorem dL_law_1121 : decode cL_law 1121 = .ok (.invokevirtual 120, 3) := by decide +kernel
theorem dL_law_1124 : decode cL_law 1124 = .ok (.if_icmp .eq 60, 3) := by decide +kernel
theorem dL_law_1127 : decode cL_law 1127 = .ok (.iconst 0, 1) := by decide +kernel
theorem dL_law_1128 : decode cL_law 1128 = .ok (.ireturn, 1) := by decide +kernel
theorem dL_law_1129 : decode cL_law 1129 = .ok (.aload_n 1, 1) := by decide +kernel
theorem dL_law_1130 : decode cL_law 1130 = .ok (.invokevirtual 121, 3) := by decide +kernel
theorem dL_law_1133 : decode cL_law 1133 = .ok (.dstore 5, 2) := by decide +kernel
theorem dL_law_1135 : decode cL_law 1135 = .ok (.aload_n 2, 1) := by decide +kernel
theorem dL_law_1136 : decode cL_law 1136 = .ok (.invokevirtual 125, 3) := by decide +kernel
theorem dL_law_1139 : decode cL_law 1139 = .ok (.dstore 7, 2) := by decide +kernel
theorem dL_law_1141 : decode cL_law 1141 = .ok (.dload 5, 2) := by decide +kernel
theorem dL_law_1143 : decode cL_law 1143 = .ok (.dload 7, 2) := by decide +kernel
theorem dL_law_1145 : decode cL_law 1145 = .ok (.dcmp .l, 1) := by decide +kernel
theorem dL_law_1146 : decode cL_law 1146 = .ok (.ifCond .eq 21, 3) := by decide +kernel
theorem dL_law_1149 : decode cL_law 1149 = .ok (.dload 5, 2) := by decide +kernel
theorem dL_law_1151 : decode cL_law 1151 = .ok (.dload 5, 2) := by decide +kernel
theorem dL_law_1153 : decode cL_law 1153 = .ok (.dcmp .l, 1) := by decide +kernel
theorem dL_law_1154 : decode cL_law 1154 = .ok (.ifCond .eq 11, 3) := by decide +kernel
theorem dL_law_1157 : decode cL_law 1157 = .ok (.dload 7, 2) := by decide +kernel
theorem dL_law_1159 : decode cL_law 1159 = .ok (.dload 7, 2) := by decide +kernel
theorem dL_law_1161 : decode cL_law 1161 = .ok (.dcmp .l, 1) := by decide +kernel
theorem dL_law_1162 : decode cL_law 1162 = .ok (.ifCond .ne 5, 3) := by decide +kernel
theorem dL_law_1165 : decode cL_law 1165 = .ok (.iconst 0, 1) := by decide +kernel
theorem dL_law_1166 : decode cL_law 1166 = .ok (.ireturn, 1) := by decide +kernel
theorem dL_law_1167 : decode cL_law 1167 = .ok (.goto 17, 3) := by decide +kernel
theorem dL_law_1170 : decode cL_law 1170 = .ok (.aload_n 1, 1) := by decide +kernel
theorem dL_law_1171 : decode cL_law 1171 = .ok (.invokevirtual 126, 3) := by decide +kernel
theorem dL_law_1174 : decode cL_law 1174 = .ok (.aload_n 2, 1) := by decide +kernel
theorem dL_law_1175 : decode cL_law 1175 = .ok (.invokevirtual 130, 3) := by decide +kernel
theorem dL_law_1178 : decode cL_law 1178 = .ok (.lcmp, 1) := by decide +kernel
theorem dL_law_1179 : decode cL_law 1179 = .ok (.ifCond .eq 5, 3) := by decide +kernel
theorem dL_law_1182 : decode cL_law 1182 = .ok (.iconst 0, 1) := by decide +kernel
theorem dL_law_1183 : decode cL_law 1183 = .ok (.ireturn, 1) := by decide +kernel
theorem dL_law_1184 : decode cL_law 1184 = .ok (.iinc 4 6, 3) := by decide +kernel
theorem dL_law_1187 : decode cL_law 1187 = .ok (.goto (-1164), 3) := by decide +kernel
theorem dL_law_1190 : decode cL_law 1190 = .ok (.iconst 1, 1) := by decide +kernel
theorem dL_law_1191 : decode cL_law 1191 = .ok (.ireturn, 1) := by decide +kernel
end
section
abbrev rMem : Type := Nat → Option va_E
def mset (M : rMem) (a : Nat) (e : va_E) : rMem := fun b => if b = a then some e else M b
theorem mset_eq {M : rMem} {a : Nat} {e : va_E} : mset M a e a = some e := if_pos rfl
theorem mset_ne {M : rMem} {a b : Nat} {e : va_E} (h : b ≠ a) : mset M a e b = M b := if_neg h
theorem mset_keep {M : rMem} {a b : Nat} {e x : va_E} (hb : M b = some x) (h : b ≠ a) : mset M a e b = some x := (mset_ne h).trans hb
theorem mne {M : rMem} {a b : Nat} {x y : va_E} (ha : M a = some x) (hb : M b = some y) (h : x ≠ y) : a ≠ b := fun e => h (by subst e; exact Option.some.inj (ha.symm.trans hb))
theorem mne_ci {M : rMem} {a b i j : Nat} {x y : List Value} (ha : M a = some (.inr (i, x))) (hb : M b = some (.inr (j, y))) (h : i ≠ j) : a ≠ b := mne ha hb (fun e => h (congrArg Prod.fst (Sum.inr.inj e)))
theorem mne_oa {M : rMem} {a b : Nat} {x : Nat × List Value} {y : ClassId × vp_A} (ha : M a = some (.inr x)) (hb : M b = some (.inl y)) : a ≠ b := mne ha hb (fun e => by cases e)
theorem mne_ao {M : rMem} {a b : Nat} {x : ClassId × vp_A} {y : Nat × List Value} (ha : M a = some (.inl x)) (hb : M b = some (.inr y)) : a ≠ b := mne ha hb (fun e => by cases e)
theorem mne_none {M : rMem} {a b : Nat} {x : va_E} (ha : M a = some x) (hb : M b = none) : a ≠ b := fun e => by subst e; rw [hb] at ha; cases ha
theorem mset_mset {M : rMem} {a : Nat} {e e2 : va_E} : mset (mset M a e) a e2 = mset M a e2 := by
  funext b
  unfold mset
  by_cases h : b = a <;> simp [h]
theorem mset_self {M : rMem} {a : Nat} {e : va_E} (h : M a = some e) : mset M a e = M := by
  funext b
  unfold mset
  by_cases hb : b = a
  · subst hb; simp [h]
  · simp [hb]
theorem mset_comm {M : rMem} {a b : Nat} {e f : va_E} (h : a ≠ b) : mset (mset M a e) b f = mset (mset M b f) a e := by
  funext q
  unfold mset
  by_cases h1 : q = b
  · have h2 : q ≠ a := fun z => h (z.symm.trans h1)
    simp [h1, h2, Ne.symm h]
  · simp [h1]
def rP (D : va_G) (M : rMem) (H : Heap) : Prop := ∀ a e, M a = some e → va_at D vwCl (a, e) H
def rI (A : Nat → Prop) (M : rMem) : Prop := ∀ a e, M a = some e → A a
def fr (M : rMem) (sz : Nat) : Nat → Prop := fun q => (∃ e, M q = some e) ∨ sz ≤ q
abbrev rTy (D : va_G) : List (ClassId × FieldType) := [(D.1 6, .int), (D.1 7, .long), (D.1 8, .object "java/lang/Object")]
def rT0 (D : va_G) : Nat := D.2 9 0
def rT1 (D : va_G) : Nat := D.2 9 1
def rT2 (D : va_G) : Nat := D.2 9 2
def rT3 (D : va_G) : Nat := D.2 9 3
def rFoot (j : Nat) : Nat := if j < 2 then 2 else 3
def rBeat (j : Nat) : Nat := if j = 0 then 1 else if j = 2 then 2 else 0
def rStr : List (Nat × String) := [(28, "syllables are 1 to 4, and the stress is a set of them"), (37, "vowel and end are 0 to 9"), (45, "there are 30 words"), (168, "there is no such number"), (73, "a metre is 0 to 3, feet are 1 to 6, a mark is 0 to 5"), (75, "there are 10 lines"), (96, "the line has 8 words"), (106, "the line has no words")]
/-- words that are carried beside the list: they stay true as things are resolved -/
def rNk : Cond → Bool
  | .fieldLinkNest .. => true
  | .methodLinkNest .. => true
  | .castable .. => true
  | .declares .. => true
  | .arrayOver (.object _) => true
  | _ => false
theorem rNk_warm {w : Cond} (hk : rNk w = true) {s U : State} (hW : s.WarmedH U.vm) (h : va_Nw w s) : va_Nw w U := by
  cases w
  case fieldLinkNest => exact va_Nw.warmF hW h
  case methodLinkNest => exact va_Nw.warmM hW h
  case castable => exact va_Nw.warmC hW h
  case declares => exact va_Nw.warmD hW h
  case arrayOver ty => cases ty <;> first | exact va_AO.moved hW.alike h | exact Bool.noConfusion (show false = true from hk)
  all_goals exact Bool.noConfusion (show false = true from hk)
/-- the statics that the runs read, and that nothing writes -/
def rStat (D : va_G) (A : Nat → Prop) (U : State) (H : Heap) : Prop :=
  va_T (.object "java/lang/Object") (rT0 D) 0 (fun _ => .null) A U H ∧ va_Z "java/util/ArrayList" "DEFAULTCAPACITY_EMPTY_ELEMENTDATA" "[Ljava/lang/Object;" (.ref (rT0 D)) A U H ∧
  vx_Zq Bundle.tN "UNASSIGNED_STACK" Bundle.steD A U H ∧ vx_Zq Bundle.tN "SUPPRESSED_SENTINEL" Bundle.listD A U H ∧
  va_T .int (rT1 D) 4 (fun j => .int (nI (rFoot j))) A U H ∧ va_Z "RhymeTaxModel" "FOOT" "[I" (.ref (rT1 D)) A U H ∧
  va_T .int (rT2 D) 4 (fun j => .int (nI (rBeat j))) A U H ∧ va_Z "RhymeTaxModel" "BEAT" "[I" (.ref (rT2 D)) A U H ∧ (∀ q ∈ rStr, ∃ a, vk_R RX3 q.1 q.2 a U) ∧ (∀ w ∈ tables_1, rNk w = true → va_Nw w U) ∧ va_Mi "[Ljava/lang/Object;" (rT3 D) U
theorem rStat.moved {D : va_G} {A : Nat → Prop} {u U : State} {H : Heap} (hW : u.WarmedH U.vm) (h : rStat D A u H) : rStat D A U H :=
  ⟨h.1.moved hW.alike, h.2.1.moved hW.alike, h.2.2.1.moved hW.alike, h.2.2.2.1.moved hW.alike, h.2.2.2.2.1.moved hW.alike, h.2.2.2.2.2.1.moved hW.alike, h.2.2.2.2.2.2.1.moved hW.alike, h.2.2.2.2.2.2.2.1.moved hW.alike, fun q hq => by obtain ⟨a, ha⟩ := h.2.2.2.2.2.2.2.2.1 q hq; exact ⟨a, vk_R.warm hW ha⟩, fun w hw hk => rNk_warm hk hW (h.2.2.2.2.2.2.2.2.2.1 w hw hk), h.2.2.2.2.2.2.2.2.2.2.moved hW.alike⟩
theorem rStat.kept {D : va_G} {A : Nat → Prop} {U : State} {H H1 : Heap} (h : rStat D A U H) (hq : ∀ a : Nat, a < H.size → ¬ A a → H1[a]? = H[a]?) : rStat D A U H1 :=
  ⟨h.1.kept hq, h.2.1.kept hq, h.2.2.1.kept hq, h.2.2.2.1.kept hq, h.2.2.2.2.1.kept hq, h.2.2.2.2.2.1.kept hq, h.2.2.2.2.2.2.1.kept hq, h.2.2.2.2.2.2.2.1.kept hq, h.2.2.2.2.2.2.2.2⟩
theorem rStat.narrow {D : va_G} {A B : Nat → Prop} {U : State} {H : Heap} (h : rStat D A U H) (hAB : ∀ q, B q → A q) : rStat D B U H :=
  ⟨h.1.narrow hAB, h.2.1.narrow hAB, h.2.2.1.narrow hAB, h.2.2.2.1.narrow hAB, h.2.2.2.2.1.narrow hAB, h.2.2.2.2.2.1.narrow hAB, h.2.2.2.2.2.2.1.narrow hAB, h.2.2.2.2.2.2.2.1.narrow hAB, h.2.2.2.2.2.2.2.2⟩
/-- what stays the same along a whole body -/
def rF (p : Program) (l : Launch) (e : Env) (R : Room) (s : State) (m : MethodId) (args : Array Value) (below : List Frame) (meth : Method) (c : Code) (cc : ByteArray) (nL : Nat) (own : String) (D : va_G) (A : Nat → Prop) : Prop :=
  p.tables.exec = Jvm.exec ∧ c.code = cc ∧ c.maxLocals = nL ∧ s.vm.findClass own = some m.cls ∧ (∀ w ∈ wsL_law, w.before args s = true) ∧ va_K D vwCl (rTy D) s ∧ (∀ q, s.heap.size ≤ q → A q) ∧ rStat D A s s.heap ∧ meth.locks = false
def rS (D : va_G) (A : Nat → Prop) (s : State) (M : rMem) (H : Heap) (locs : List Loc) : Prop := rP D M H ∧ rI A M ∧ va_S A s.heap H locs
def lvA (lv : List (Option Value)) : List (Nat × Value) := lv.zipIdx.filterMap (fun q => q.1.map (fun v => (q.2, v)))
theorem lvA_mem {lv : List (Option Value)} {i : Nat} {v : Value} : (i, v) ∈ lvA lv ↔ lv[i]? = some (some v) := by
  unfold lvA
  rw [List.mem_filterMap]
  constructor
  · rintro ⟨⟨x, j⟩, h1, h2⟩
    rw [List.mem_zipIdx_iff_getElem?] at h1
    cases x with
    | none => cases h2
    | some w => cases h2; exact h1
  · intro h
    exact ⟨(some v, i), List.mem_zipIdx_iff_getElem?.mpr h, rfl⟩
def rL (ls : Array Slot) (nL : Nat) (lv : List (Option Value)) : Prop := lv.length = nL ∧ lv_has ls nL (lvA lv)
theorem rL.at {ls : Array Slot} {nL : Nat} {lv : List (Option Value)} (h : rL ls nL lv) {i : Nat} {v : Value} (hv : lv[i]? = some (some v)) : ls[i]? = some (.val v) := h.2.2.2 (i, v) (lvA_mem.mpr hv)
/-- locals behind a store of one slot, of two -/
def rclr (lv : List (Option Value)) (i : Nat) : List (Option Value) := match lv[i]? with
    | some (some w) => if w.category = 2 then lv.set i none else lv
    | _ => lv
def rcl (lv : List (Option Value)) : Nat → List (Option Value)
  | 0 => lv
  | i + 1 => rclr lv i
def rst1 (lv : List (Option Value)) (i : Nat) (v : Value) : List (Option Value) := (rcl lv i).set i (some v)
def rst2 (lv : List (Option Value)) (i : Nat) (v : Value) : List (Option Value) := ((rcl lv i).set i (some v)).set (i + 1) none
theorem rclr_len (lv : List (Option Value)) (i : Nat) : (rclr lv i).length = lv.length := by
  unfold rclr
  split
  · split
    · rw [List.length_set]
    · rfl
  · rfl
theorem rcl_len (lv : List (Option Value)) (i : Nat) : (rcl lv i).length = lv.length := by
  cases i with
  | zero => rfl
  | succ i => exact rclr_len lv i
theorem rclr_get {lv : List (Option Value)} {i j : Nat} {w : Value} (h : (rclr lv i)[j]? = some (some w)) : lv[j]? = some (some w) ∧ (j = i → w.category ≠ 2) := by
  unfold rclr at h
  split at h
  · rename_i w0 hw0
    split at h
    · by_cases hj : j = i
      · subst hj
        have hlt : j < lv.length := (List.getElem?_eq_some_iff.mp hw0).1
        rw [List.getElem?_set_self hlt] at h
        cases h
      · rw [List.getElem?_set_ne (Ne.symm hj)] at h
        exact ⟨h, fun e => absurd e hj⟩
    · rename_i hc
      refine ⟨h, fun e => ?_⟩
      subst e
      rw [hw0] at h
      cases h
      exact hc
  · rename_i hn
    refine ⟨h, fun e => ?_⟩
    subst e
    exact absurd h (hn w)
theorem rcl_get {lv : List (Option Value)} {i j : Nat} {w : Value} (h : (rcl lv i)[j]? = some (some w)) : lv[j]? = some (some w) ∧ (j + 1 = i → w.category ≠ 2) := by
  cases i with
  | zero => exact ⟨h, fun e => by omega⟩
  | succ i =>
    obtain ⟨h1, h2⟩ := rclr_get h
    exact ⟨h1, fun e => h2 (by omega)⟩
theorem rL.st1 {ls ls' : Array Slot} {nL i : Nat} {v : Value} {lv lv' : List (Option Value)} (h : rL ls nL lv) (hl : rst1 lv i v = lv')
    (h' : lv_has ls' nL ((i, v) :: (lvA lv).filter (fun q => !(q.1 == i) && !(q.1 + 1 == i && q.2.category == 2)))) : rL ls' nL lv' := by
  subst hl
  refine ⟨by unfold rst1; rw [List.length_set, rcl_len]; exact h.1, h'.1, h'.2.1, fun q hq => ?_⟩
  obtain ⟨j, w⟩ := q
  have hq := lvA_mem.mp hq
  unfold rst1 at hq
  by_cases hj : j = i
  · subst hj
    have hlt : j < (rcl lv j).length := by
      have := (List.getElem?_eq_some_iff.mp hq).1
      simpa using this
    rw [List.getElem?_set_self hlt] at hq
    cases hq
    exact h'.2.2 (j, v) List.mem_cons_self
  · rw [List.getElem?_set_ne (Ne.symm hj)] at hq
    obtain ⟨h1, h2⟩ := rcl_get hq
    refine h'.2.2 (j, w) (List.mem_cons_of_mem _ (List.mem_filter.mpr ⟨lvA_mem.mpr h1, ?_⟩))
    simp only [Bool.and_eq_true, Bool.not_eq_true', beq_eq_false_iff_ne, Bool.and_eq_false_iff, ne_eq]
    refine ⟨hj, ?_⟩
    by_cases e : j + 1 = i
    · exact Or.inr (h2 e)
    · exact Or.inl e
theorem rL.st2 {ls ls' : Array Slot} {nL i : Nat} {v : Value} {lv lv' : List (Option Value)} (h : rL ls nL lv) (hl : rst2 lv i v = lv')
    (h' : lv_has ls' nL ((i, v) :: (lvA lv).filter (fun q => !(q.1 == i) && (!(q.1 == i + 1) && !(q.1 + 1 == i && q.2.category == 2))))) : rL ls' nL lv' := by
  subst hl
  refine ⟨by unfold rst2; rw [List.length_set, List.length_set, rcl_len]; exact h.1, h'.1, h'.2.1, fun q hq => ?_⟩
  obtain ⟨j, w⟩ := q
  have hq := lvA_mem.mp hq
  unfold rst2 at hq
  by_cases hj1 : j = i + 1
  · subst hj1
    have hlt : i + 1 < ((rcl lv i).set i (some v)).length := by
      have := (List.getElem?_eq_some_iff.mp hq).1
      simpa using this
    rw [List.getElem?_set_self hlt] at hq
    cases hq
  · rw [List.getElem?_set_ne (Ne.symm hj1)] at hq
    by_cases hj : j = i
    · subst hj
      have hlt : j < (rcl lv j).length := by
        have := (List.getElem?_eq_some_iff.mp hq).1
        simpa using this
      rw [List.getElem?_set_self hlt] at hq
      cases hq
      exact h'.2.2 (j, v) List.mem_cons_self
    · rw [List.getElem?_set_ne (Ne.symm hj)] at hq
      obtain ⟨h1, h2⟩ := rcl_get hq
      refine h'.2.2 (j, w) (List.mem_cons_of_mem _ (List.mem_filter.mpr ⟨lvA_mem.mpr h1, ?_⟩))
      simp only [Bool.and_eq_true, Bool.not_eq_true', beq_eq_false_iff_ne, Bool.and_eq_false_iff, ne_eq]
      refine ⟨hj, hj1, ?_⟩
      by_cases e : j + 1 = i
      · exact Or.inr (h2 e)
      · exact Or.inl e
/-- fewer locals known -/
theorem rL.sub {ls : Array Slot} {nL : Nat} {lv lv' : List (Option Value)} (h : rL ls nL lv) (hn : lv'.length = lv.length) (hs : ∀ (i : Nat) (v : Value), lv'[i]? = some (some v) → lv[i]? = some (some v)) : rL ls nL lv' :=
  ⟨hn.trans h.1, h.2.1, h.2.2.1, fun q hq => h.2.2.2 q (by obtain ⟨i, v⟩ := q; exact lvA_mem.mpr (hs i v (lvA_mem.mp hq)))⟩
def rsub : List (Option Value) → List (Option Value) → Prop
  | [], [] => True
  | none :: a, _ :: b => rsub a b
  | some x :: a, some y :: b => x = y ∧ rsub a b
  | _, _ => False
theorem rsub_get : ∀ (a b : List (Option Value)), rsub a b → a.length = b.length ∧ ∀ (i : Nat) (v : Value), a[i]? = some (some v) → b[i]? = some (some v)
  | [], [], _ => ⟨rfl, fun i v h => h⟩
  | none :: a, x :: b, h => by
    obtain ⟨h1, h2⟩ := rsub_get a b h
    refine ⟨by simp [h1], fun i v hi => ?_⟩
    cases i with
    | zero => cases hi
    | succ i => exact h2 i v hi
  | some x :: a, some y :: b, h => by
    obtain ⟨e, h⟩ := h
    subst e
    obtain ⟨h1, h2⟩ := rsub_get a b h
    refine ⟨by simp [h1], fun i v hi => ?_⟩
    cases i with
    | zero => exact hi
    | succ i => exact h2 i v hi
  | some x :: a, none :: b, h => h.elim
  | some x :: a, [], h => h.elim
  | none :: a, [], h => h.elim
  | [], x :: b, h => h.elim
def rG (p : Program) (l : Launch) (e : Env) (R : Room) (s : State) (m : MethodId) (args : Array Value) (below : List Frame) (meth : Method) (c : Code) (D : va_G) (A : Nat → Prop) (nL : Nat) (Q : State → Prop) (M : rMem) (k n : Nat) (lv : List (Option Value)) (pc : Nat) (st : List Value) : Prop :=
  ∀ (H : Heap) (locs : List Loc) (ls : Array Slot), rS D A s M H locs → rL ls nL lv → W p l e R s m args below meth c H locs k n Q (F0 m pc ls st)
section RG
variable {p : Program} {l : Launch} {e : Env} {R : Room} {s : State} {m : MethodId} {args : Array Value} {below : List Frame} {meth : Method} {c : Code} {cc : ByteArray} {nL : Nat} {own : String} {D : va_G} {A : Nat → Prop} {Q : State → Prop} {M : rMem} {k n pc : Nat} {lv lv' : List (Option Value)} {st : List Value}
theorem rg_iload_n (F : rF p l e R s m args below meth c cc nL own D A) {i : Fin 4} {x : Int32} (hd : decode cc pc = .ok (.iload_n i, 1)) (hv : lv[(i : Nat)]? = some (some (.int x))) (kk : rG p l e R s m args below meth c D A nL Q M k n lv (pc + 1) (.int x :: st)) : rG p l e R s m args below meth c D A nL Q M k n lv pc (st) := fun H locs ls hS hl => lv_iload_n F.1 F.2.1 hd rfl (hl.at hv) (kk H locs ls hS hl)
theorem rg_iload (F : rF p l e R s m args below meth c cc nL own D A) {i : Nat} {x : Int32} (hd : decode cc pc = .ok (.iload i, 2)) (hv : lv[i]? = some (some (.int x))) (kk : rG p l e R s m args below meth c D A nL Q M k n lv (pc + 2) (.int x :: st)) : rG p l e R s m args below meth c D A nL Q M k n lv pc (st) := fun H locs ls hS hl => lv_iload F.1 F.2.1 hd (hl.at hv) (kk H locs ls hS hl)
theorem rg_lload_n (F : rF p l e R s m args below meth c cc nL own D A) {i : Fin 4} {x : Int64} (hd : decode cc pc = .ok (.lload_n i, 1)) (hv : lv[(i : Nat)]? = some (some (.long x))) (kk : rG p l e R s m args below meth c D A nL Q M k n lv (pc + 1) (.long x :: st)) : rG p l e R s m args below meth c D A nL Q M k n lv pc (st) := fun H locs ls hS hl => lv_lload_n F.1 F.2.1 hd rfl (hl.at hv) (kk H locs ls hS hl)
theorem rg_lload (F : rF p l e R s m args below meth c cc nL own D A) {i : Nat} {x : Int64} (hd : decode cc pc = .ok (.lload i, 2)) (hv : lv[i]? = some (some (.long x))) (kk : rG p l e R s m args below meth c D A nL Q M k n lv (pc + 2) (.long x :: st)) : rG p l e R s m args below meth c D A nL Q M k n lv pc (st) := fun H locs ls hS hl => lv_lload F.1 F.2.1 hd (hl.at hv) (kk H locs ls hS hl)
theorem rg_dload_n (F : rF p l e R s m args below meth c cc nL own D A) {i : Fin 4} {x : UInt64} (hd : decode cc pc = .ok (.dload_n i, 1)) (hv : lv[(i : Nat)]? = some (some (.double x))) (kk : rG p l e R s m args below meth c D A nL Q M k n lv (pc + 1) (.double x :: st)) : rG p l e R s m args below meth c D A nL Q M k n lv pc (st) := fun H locs ls hS hl => lv_dload_n F.1 F.2.1 hd rfl (hl.at hv) (kk H locs ls hS hl)
theorem rg_dload (F : rF p l e R s m args below meth c cc nL own D A) {i : Nat} {x : UInt64} (hd : decode cc pc = .ok (.dload i, 2)) (hv : lv[i]? = some (some (.double x))) (kk : rG p l e R s m args below meth c D A nL Q M k n lv (pc + 2) (.double x :: st)) : rG p l e R s m args below meth c D A nL Q M k n lv pc (st) := fun H locs ls hS hl => lv_dload F.1 F.2.1 hd (hl.at hv) (kk H locs ls hS hl)
theorem rg_aload_n (F : rF p l e R s m args below meth c cc nL own D A) {i : Fin 4} {x : Nat} (hd : decode cc pc = .ok (.aload_n i, 1)) (hv : lv[(i : Nat)]? = some (some (.ref x))) (kk : rG p l e R s m args below meth c D A nL Q M k n lv (pc + 1) (.ref x :: st)) : rG p l e R s m args below meth c D A nL Q M k n lv pc (st) := fun H locs ls hS hl => lv_aload_n F.1 F.2.1 hd rfl (hl.at hv) (kk H locs ls hS hl)
theorem rg_aload (F : rF p l e R s m args below meth c cc nL own D A) {i : Nat} {x : Nat} (hd : decode cc pc = .ok (.aload i, 2)) (hv : lv[i]? = some (some (.ref x))) (kk : rG p l e R s m args below meth c D A nL Q M k n lv (pc + 2) (.ref x :: st)) : rG p l e R s m args below meth c D A nL Q M k n lv pc (st) := fun H locs ls hS hl => lv_aload F.1 F.2.1 hd (hl.at hv) (kk H locs ls hS hl)
theorem rg_aload_nN (F : rF p l e R s m args below meth c cc nL own D A) {i : Fin 4} (hd : decode cc pc = .ok (.aload_n i, 1)) (hv : lv[(i : Nat)]? = some (some .null)) (kk : rG p l e R s m args below meth c D A nL Q M k n lv (pc + 1) (.null :: st)) : rG p l e R s m args below meth c D A nL Q M k n lv pc (st) := fun H locs ls hS hl => lv_aload_nN F.1 F.2.1 hd rfl (hl.at hv) (kk H locs ls hS hl)
theorem rg_aloadN (F : rF p l e R s m args below meth c cc nL own D A) {i : Nat} (hd : decode cc pc = .ok (.aload i, 2)) (hv : lv[i]? = some (some .null)) (kk : rG p l e R s m args below meth c D A nL Q M k n lv (pc + 2) (.null :: st)) : rG p l e R s m args below meth c D A nL Q M k n lv pc (st) := fun H locs ls hS hl => lv_aloadN F.1 F.2.1 hd (hl.at hv) (kk H locs ls hS hl)
theorem rg_istore_n (F : rF p l e R s m args below meth c cc nL own D A) {i : Fin 4} {x : Int32} (hd : decode cc pc = .ok (.istore_n i, 1)) (hi : (i : Nat) < nL) (hlv : rst1 lv (i : Nat) (.int x) = lv') (kk : rG p l e R s m args below meth c D A nL Q M k n lv' (pc + 1) (st)) : rG p l e R s m args below meth c D A nL Q M k n lv pc (.int x :: st) := fun H locs ls hS hl => lv_istore_n F.1 F.2.1 hd rfl hl.2 hi rfl (fun ls9 h9 => kk H locs ls9 hS (hl.st1 hlv h9))
theorem rg_istore (F : rF p l e R s m args below meth c cc nL own D A) {i : Nat} {x : Int32} (hd : decode cc pc = .ok (.istore i, 2)) (hi : i < nL) (hlv : rst1 lv i (.int x) = lv') (kk : rG p l e R s m args below meth c D A nL Q M k n lv' (pc + 2) (st)) : rG p l e R s m args below meth c D A nL Q M k n lv pc (.int x :: st) := fun H locs ls hS hl => lv_istore F.1 F.2.1 hd hl.2 hi rfl (fun ls9 h9 => kk H locs ls9 hS (hl.st1 hlv h9))
theorem rg_astore_n (F : rF p l e R s m args below meth c cc nL own D A) {i : Fin 4} {x : Nat} (hd : decode cc pc = .ok (.astore_n i, 1)) (hi : (i : Nat) < nL) (hlv : rst1 lv (i : Nat) (.ref x) = lv') (kk : rG p l e R s m args below meth c D A nL Q M k n lv' (pc + 1) (st)) : rG p l e R s m args below meth c D A nL Q M k n lv pc (.ref x :: st) := fun H locs ls hS hl => lv_astore_n F.1 F.2.1 hd rfl hl.2 hi rfl (fun ls9 h9 => kk H locs ls9 hS (hl.st1 hlv h9))
theorem rg_astore (F : rF p l e R s m args below meth c cc nL own D A) {i : Nat} {x : Nat} (hd : decode cc pc = .ok (.astore i, 2)) (hi : i < nL) (hlv : rst1 lv i (.ref x) = lv') (kk : rG p l e R s m args below meth c D A nL Q M k n lv' (pc + 2) (st)) : rG p l e R s m args below meth c D A nL Q M k n lv pc (.ref x :: st) := fun H locs ls hS hl => lv_astore F.1 F.2.1 hd hl.2 hi rfl (fun ls9 h9 => kk H locs ls9 hS (hl.st1 hlv h9))
theorem rg_lstore_n (F : rF p l e R s m args below meth c cc nL own D A) {i : Fin 4} {x : Int64} (hd : decode cc pc = .ok (.lstore_n i, 1)) (hi : (i : Nat) + 1 < nL) (hlv : rst2 lv (i : Nat) (.long x) = lv') (kk : rG p l e R s m args below meth c D A nL Q M k n lv' (pc + 1) (st)) : rG p l e R s m args below meth c D A nL Q M k n lv pc (.long x :: st) := fun H locs ls hS hl => lv_lstore_n F.1 F.2.1 hd rfl hl.2 hi rfl (fun ls9 h9 => kk H locs ls9 hS (hl.st2 hlv h9))
theorem rg_lstore (F : rF p l e R s m args below meth c cc nL own D A) {i : Nat} {x : Int64} (hd : decode cc pc = .ok (.lstore i, 2)) (hi : i + 1 < nL) (hlv : rst2 lv i (.long x) = lv') (kk : rG p l e R s m args below meth c D A nL Q M k n lv' (pc + 2) (st)) : rG p l e R s m args below meth c D A nL Q M k n lv pc (.long x :: st) := fun H locs ls hS hl => lv_lstore F.1 F.2.1 hd hl.2 hi rfl (fun ls9 h9 => kk H locs ls9 hS (hl.st2 hlv h9))
theorem rg_dstore_n (F : rF p l e R s m args below meth c cc nL own D A) {i : Fin 4} {x : UInt64} (hd : decode cc pc = .ok (.dstore_n i, 1)) (hi : (i : Nat) + 1 < nL) (hlv : rst2 lv (i : Nat) (.double x) = lv') (kk : rG p l e R s m args below meth c D A nL Q M k n lv' (pc + 1) (st)) : rG p l e R s m args below meth c D A nL Q M k n lv pc (.double x :: st) := fun H locs ls hS hl => lv_dstore_n F.1 F.2.1 hd rfl hl.2 hi rfl (fun ls9 h9 => kk H locs ls9 hS (hl.st2 hlv h9))
theorem rg_dstore (F : rF p l e R s m args below meth c cc nL own D A) {i : Nat} {x : UInt64} (hd : decode cc pc = .ok (.dstore i, 2)) (hi : i + 1 < nL) (hlv : rst2 lv i (.double x) = lv') (kk : rG p l e R s m args below meth c D A nL Q M k n lv' (pc + 2) (st)) : rG p l e R s m args below meth c D A nL Q M k n lv pc (.double x :: st) := fun H locs ls hS hl => lv_dstore F.1 F.2.1 hd hl.2 hi rfl (fun ls9 h9 => kk H locs ls9 hS (hl.st2 hlv h9))
theorem rg_astore_nN (F : rF p l e R s m args below meth c cc nL own D A) {i : Fin 4} (hd : decode cc pc = .ok (.astore_n i, 1)) (hi : (i : Nat) < nL) (hlv : rst1 lv (i : Nat) .null = lv') (kk : rG p l e R s m args below meth c D A nL Q M k n lv' (pc + 1) (st)) : rG p l e R s m args below meth c D A nL Q M k n lv pc (.null :: st) := fun H locs ls hS hl => lv_astore_nN F.1 F.2.1 hd rfl hl.2 hi rfl (fun ls9 h9 => kk H locs ls9 hS (hl.st1 hlv h9))
theorem rg_astoreN (F : rF p l e R s m args below meth c cc nL own D A) {i : Nat} (hd : decode cc pc = .ok (.astore i, 2)) (hi : i < nL) (hlv : rst1 lv i .null = lv') (kk : rG p l e R s m args below meth c D A nL Q M k n lv' (pc + 2) (st)) : rG p l e R s m args below meth c D A nL Q M k n lv pc (.null :: st) := fun H locs ls hS hl => lv_astoreN F.1 F.2.1 hd hl.2 hi rfl (fun ls9 h9 => kk H locs ls9 hS (hl.st1 hlv h9))
theorem rg_iconst (F : rF p l e R s m args below meth c cc nL own D A) {i : Int} {v : Int32} (hd : decode cc pc = .ok (.iconst i, 1)) (hv : Int32.ofInt i = v) (kk : rG p l e R s m args below meth c D A nL Q M k n lv (pc + 1) (.int v :: st)) : rG p l e R s m args below meth c D A nL Q M k n lv pc (st) := fun H locs ls hS hl => lv_iconst F.1 F.2.1 hd hv (kk H locs ls hS hl)
theorem rg_bipush (F : rF p l e R s m args below meth c cc nL own D A) {i : Int} {v : Int32} (hd : decode cc pc = .ok (.bipush i, 2)) (hv : (Int8.ofInt i).toInt32 = v) (kk : rG p l e R s m args below meth c D A nL Q M k n lv (pc + 2) (.int v :: st)) : rG p l e R s m args below meth c D A nL Q M k n lv pc (st) := fun H locs ls hS hl => lv_bipush F.1 F.2.1 hd hv (kk H locs ls hS hl)
theorem rg_sipush (F : rF p l e R s m args below meth c cc nL own D A) {i : Int} {v : Int32} (hd : decode cc pc = .ok (.sipush i, 3)) (hv : (Int16.ofInt i).toInt32 = v) (kk : rG p l e R s m args below meth c D A nL Q M k n lv (pc + 3) (.int v :: st)) : rG p l e R s m args below meth c D A nL Q M k n lv pc (st) := fun H locs ls hS hl => lv_sipush F.1 F.2.1 hd hv (kk H locs ls hS hl)
theorem rg_lconst (F : rF p l e R s m args below meth c cc nL own D A) {i : Fin 2} {v : Int64} (hd : decode cc pc = .ok (.lconst i, 1)) (hv : Int64.ofNat (i : Nat) = v) (kk : rG p l e R s m args below meth c D A nL Q M k n lv (pc + 1) (.long v :: st)) : rG p l e R s m args below meth c D A nL Q M k n lv pc (st) := fun H locs ls hS hl => lv_lconst F.1 F.2.1 hd hv (kk H locs ls hS hl)
theorem rg_null (F : rF p l e R s m args below meth c cc nL own D A) (hd : decode cc pc = .ok (.aconst_null, 1)) (kk : rG p l e R s m args below meth c D A nL Q M k n lv (pc + 1) (.null :: st)) : rG p l e R s m args below meth c D A nL Q M k n lv pc (st) := fun H locs ls hS hl => lv_null F.1 F.2.1 hd (kk H locs ls hS hl)
theorem rg_ldc (F : rF p l e R s m args below meth c cc nL own D A) {i : Nat} {v : Int32} (hw : Cond.constant own i v ∈ wsL_law) (hd : decode cc pc = .ok (.ldc i, 2)) (kk : rG p l e R s m args below meth c D A nL Q M k n lv (pc + 2) (.int v :: st)) : rG p l e R s m args below meth c D A nL Q M k n lv pc (st) := fun H locs ls hS hl => lv_ldc F.1 F.2.1 F.2.2.2.1 (F.2.2.2.2.1 _ hw) hd (kk H locs ls hS hl)
theorem rg_ldcw (F : rF p l e R s m args below meth c cc nL own D A) {i : Nat} {v : Int32} (hw : Cond.constant own i v ∈ wsL_law) (hd : decode cc pc = .ok (.ldc_w i, 3)) (kk : rG p l e R s m args below meth c D A nL Q M k n lv (pc + 3) (.int v :: st)) : rG p l e R s m args below meth c D A nL Q M k n lv pc (st) := fun H locs ls hS hl => lv_ldcw F.1 F.2.1 F.2.2.2.1 (F.2.2.2.2.1 _ hw) hd (kk H locs ls hS hl)
theorem rg_ldc2 (F : rF p l e R s m args below meth c cc nL own D A) {i : Nat} {v : Int64} (hw : Cond.constantLong own i v ∈ wsL_law) (hd : decode cc pc = .ok (.ldc2_w i, 3)) (kk : rG p l e R s m args below meth c D A nL Q M k n lv (pc + 3) (.long v :: st)) : rG p l e R s m args below meth c D A nL Q M k n lv pc (st) := fun H locs ls hS hl => lv_ldc2 F.1 F.2.1 F.2.2.2.1 (F.2.2.2.2.1 _ hw) hd (kk H locs ls hS hl)
theorem rg_iinc (F : rF p l e R s m args below meth c cc nL own D A) {i : Nat} {j : Int} {x v : Int32} (hd : decode cc pc = .ok (.iinc i j, 3)) (hx : lv[i]? = some (some (.int x))) (hv : x + Int32.ofInt j = v) (hi : i < nL) (hlv : rst1 lv i (.int v) = lv') (kk : rG p l e R s m args below meth c D A nL Q M k n lv' (pc + 3) st) : rG p l e R s m args below meth c D A nL Q M k n lv pc st := fun H locs ls hS hl => by
  obtain ⟨q, hq⟩ := List.getElem?_of_mem (lvA_mem.mpr hx)
  exact lv_iinc F.1 F.2.1 hd hl.2 hq hv hi rfl (fun ls9 h9 => kk H locs ls9 hS (hl.st1 hlv h9))
theorem rg_iadd (F : rF p l e R s m args below meth c cc nL own D A) {x y v : Int32} (hd : decode cc pc = .ok (.iadd, 1)) (hv : x + y = v) (kk : rG p l e R s m args below meth c D A nL Q M k n lv (pc + 1) (.int v :: st)) : rG p l e R s m args below meth c D A nL Q M k n lv pc (.int y :: .int x :: st) := fun H locs ls hS hl => by subst hv; exact lv_iadd F.1 F.2.1 hd (kk H locs ls hS hl)
theorem rg_isub (F : rF p l e R s m args below meth c cc nL own D A) {x y v : Int32} (hd : decode cc pc = .ok (.isub, 1)) (hv : x - y = v) (kk : rG p l e R s m args below meth c D A nL Q M k n lv (pc + 1) (.int v :: st)) : rG p l e R s m args below meth c D A nL Q M k n lv pc (.int y :: .int x :: st) := fun H locs ls hS hl => by subst hv; exact lv_isub F.1 F.2.1 hd (kk H locs ls hS hl)
theorem rg_imul (F : rF p l e R s m args below meth c cc nL own D A) {x y v : Int32} (hd : decode cc pc = .ok (.imul, 1)) (hv : x * y = v) (kk : rG p l e R s m args below meth c D A nL Q M k n lv (pc + 1) (.int v :: st)) : rG p l e R s m args below meth c D A nL Q M k n lv pc (.int y :: .int x :: st) := fun H locs ls hS hl => by subst hv; exact lv_imul F.1 F.2.1 hd (kk H locs ls hS hl)
theorem rg_iand (F : rF p l e R s m args below meth c cc nL own D A) {x y v : Int32} (hd : decode cc pc = .ok (.iand, 1)) (hv : x &&& y = v) (kk : rG p l e R s m args below meth c D A nL Q M k n lv (pc + 1) (.int v :: st)) : rG p l e R s m args below meth c D A nL Q M k n lv pc (.int y :: .int x :: st) := fun H locs ls hS hl => by subst hv; exact lv_iand F.1 F.2.1 hd (kk H locs ls hS hl)
theorem rg_ior (F : rF p l e R s m args below meth c cc nL own D A) {x y v : Int32} (hd : decode cc pc = .ok (.ior, 1)) (hv : x ||| y = v) (kk : rG p l e R s m args below meth c D A nL Q M k n lv (pc + 1) (.int v :: st)) : rG p l e R s m args below meth c D A nL Q M k n lv pc (.int y :: .int x :: st) := fun H locs ls hS hl => by subst hv; exact lv_ior F.1 F.2.1 hd (kk H locs ls hS hl)
theorem rg_ixor (F : rF p l e R s m args below meth c cc nL own D A) {x y v : Int32} (hd : decode cc pc = .ok (.ixor, 1)) (hv : x ^^^ y = v) (kk : rG p l e R s m args below meth c D A nL Q M k n lv (pc + 1) (.int v :: st)) : rG p l e R s m args below meth c D A nL Q M k n lv pc (.int y :: .int x :: st) := fun H locs ls hS hl => by subst hv; exact lv_ixor F.1 F.2.1 hd (kk H locs ls hS hl)
theorem rg_ladd (F : rF p l e R s m args below meth c cc nL own D A) {x y v : Int64} (hd : decode cc pc = .ok (.ladd, 1)) (hv : x + y = v) (kk : rG p l e R s m args below meth c D A nL Q M k n lv (pc + 1) (.long v :: st)) : rG p l e R s m args below meth c D A nL Q M k n lv pc (.long y :: .long x :: st) := fun H locs ls hS hl => by subst hv; exact lv_ladd F.1 F.2.1 hd (kk H locs ls hS hl)
theorem rg_lsub (F : rF p l e R s m args below meth c cc nL own D A) {x y v : Int64} (hd : decode cc pc = .ok (.lsub, 1)) (hv : x - y = v) (kk : rG p l e R s m args below meth c D A nL Q M k n lv (pc + 1) (.long v :: st)) : rG p l e R s m args below meth c D A nL Q M k n lv pc (.long y :: .long x :: st) := fun H locs ls hS hl => by subst hv; exact lv_lsub F.1 F.2.1 hd (kk H locs ls hS hl)
theorem rg_lmul (F : rF p l e R s m args below meth c cc nL own D A) {x y v : Int64} (hd : decode cc pc = .ok (.lmul, 1)) (hv : x * y = v) (kk : rG p l e R s m args below meth c D A nL Q M k n lv (pc + 1) (.long v :: st)) : rG p l e R s m args below meth c D A nL Q M k n lv pc (.long y :: .long x :: st) := fun H locs ls hS hl => by subst hv; exact lv_lmul F.1 F.2.1 hd (kk H locs ls hS hl)
theorem rg_land (F : rF p l e R s m args below meth c cc nL own D A) {x y v : Int64} (hd : decode cc pc = .ok (.land, 1)) (hv : x &&& y = v) (kk : rG p l e R s m args below meth c D A nL Q M k n lv (pc + 1) (.long v :: st)) : rG p l e R s m args below meth c D A nL Q M k n lv pc (.long y :: .long x :: st) := fun H locs ls hS hl => by subst hv; exact lv_land F.1 F.2.1 hd (kk H locs ls hS hl)
theorem rg_lor (F : rF p l e R s m args below meth c cc nL own D A) {x y v : Int64} (hd : decode cc pc = .ok (.lor, 1)) (hv : x ||| y = v) (kk : rG p l e R s m args below meth c D A nL Q M k n lv (pc + 1) (.long v :: st)) : rG p l e R s m args below meth c D A nL Q M k n lv pc (.long y :: .long x :: st) := fun H locs ls hS hl => by subst hv; exact lv_lor F.1 F.2.1 hd (kk H locs ls hS hl)
theorem rg_lxor (F : rF p l e R s m args below meth c cc nL own D A) {x y v : Int64} (hd : decode cc pc = .ok (.lxor, 1)) (hv : x ^^^ y = v) (kk : rG p l e R s m args below meth c D A nL Q M k n lv (pc + 1) (.long v :: st)) : rG p l e R s m args below meth c D A nL Q M k n lv pc (.long y :: .long x :: st) := fun H locs ls hS hl => by subst hv; exact lv_lxor F.1 F.2.1 hd (kk H locs ls hS hl)
theorem rg_ishl (F : rF p l e R s m args below meth c cc nL own D A) {x y v : Int32} (hd : decode cc pc = .ok (.ishl, 1)) (hv : x <<< (y &&& 31) = v) (kk : rG p l e R s m args below meth c D A nL Q M k n lv (pc + 1) (.int v :: st)) : rG p l e R s m args below meth c D A nL Q M k n lv pc (.int y :: .int x :: st) := fun H locs ls hS hl => by subst hv; exact lv_ishl F.1 F.2.1 hd (kk H locs ls hS hl)
theorem rg_ishr (F : rF p l e R s m args below meth c cc nL own D A) {x y v : Int32} (hd : decode cc pc = .ok (.ishr, 1)) (hv : x >>> (y &&& 31) = v) (kk : rG p l e R s m args below meth c D A nL Q M k n lv (pc + 1) (.int v :: st)) : rG p l e R s m args below meth c D A nL Q M k n lv pc (.int y :: .int x :: st) := fun H locs ls hS hl => by subst hv; exact lv_ishr F.1 F.2.1 hd (kk H locs ls hS hl)
theorem rg_iushr (F : rF p l e R s m args below meth c cc nL own D A) {x y v : Int32} (hd : decode cc pc = .ok (.iushr, 1)) (hv : (x.toUInt32 >>> (y.toUInt32 &&& Int32.toUInt32 31)).toInt32 = v) (kk : rG p l e R s m args below meth c D A nL Q M k n lv (pc + 1) (.int v :: st)) : rG p l e R s m args below meth c D A nL Q M k n lv pc (.int y :: .int x :: st) := fun H locs ls hS hl => lv_iushr F.1 F.2.1 hd hv (kk H locs ls hS hl)
theorem rg_idiv (F : rF p l e R s m args below meth c cc nL own D A) {x y v : Int32} (hd : decode cc pc = .ok (.idiv, 1)) (hne : ¬ y = 0) (hv : x / y = v) (kk : rG p l e R s m args below meth c D A nL Q M k n lv (pc + 1) (.int v :: st)) : rG p l e R s m args below meth c D A nL Q M k n lv pc (.int y :: .int x :: st) := fun H locs ls hS hl => by subst hv; exact lv_idiv F.1 F.2.1 hd hne (kk H locs ls hS hl)
theorem rg_irem (F : rF p l e R s m args below meth c cc nL own D A) {x y v : Int32} (hd : decode cc pc = .ok (.irem, 1)) (hne : ¬ y = 0) (hv : x - x / y * y = v) (kk : rG p l e R s m args below meth c D A nL Q M k n lv (pc + 1) (.int v :: st)) : rG p l e R s m args below meth c D A nL Q M k n lv pc (.int y :: .int x :: st) := fun H locs ls hS hl => by subst hv; exact lv_irem F.1 F.2.1 hd hne (kk H locs ls hS hl)
theorem rg_lshl (F : rF p l e R s m args below meth c cc nL own D A) {x v : Int64} {y : Int32} (hd : decode cc pc = .ok (.lshl, 1)) (hv : x <<< (y.toInt64 &&& 63) = v) (kk : rG p l e R s m args below meth c D A nL Q M k n lv (pc + 1) (.long v :: st)) : rG p l e R s m args below meth c D A nL Q M k n lv pc (.int y :: .long x :: st) := fun H locs ls hS hl => lv_lshl F.1 F.2.1 hd hv (kk H locs ls hS hl)
theorem rg_lushr (F : rF p l e R s m args below meth c cc nL own D A) {x v : Int64} {y : Int32} (hd : decode cc pc = .ok (.lushr, 1)) (hv : (x.toUInt64 >>> (y.toInt64.toUInt64 &&& Int64.toUInt64 63)).toInt64 = v) (kk : rG p l e R s m args below meth c D A nL Q M k n lv (pc + 1) (.long v :: st)) : rG p l e R s m args below meth c D A nL Q M k n lv pc (.int y :: .long x :: st) := fun H locs ls hS hl => lv_lushr F.1 F.2.1 hd hv (kk H locs ls hS hl)
theorem rg_i2l (F : rF p l e R s m args below meth c cc nL own D A) {x : Int32} {v : Int64} (hd : decode cc pc = .ok (.i2l, 1)) (hv : x.toInt64 = v) (kk : rG p l e R s m args below meth c D A nL Q M k n lv (pc + 1) (.long v :: st)) : rG p l e R s m args below meth c D A nL Q M k n lv pc (.int x :: st) := fun H locs ls hS hl => lv_i2l F.1 F.2.1 hd hv (kk H locs ls hS hl)
theorem rg_l2i (F : rF p l e R s m args below meth c cc nL own D A) {x : Int64} {v : Int32} (hd : decode cc pc = .ok (.l2i, 1)) (hv : x.toInt32 = v) (kk : rG p l e R s m args below meth c D A nL Q M k n lv (pc + 1) (.int v :: st)) : rG p l e R s m args below meth c D A nL Q M k n lv pc (.long x :: st) := fun H locs ls hS hl => lv_l2i F.1 F.2.1 hd hv (kk H locs ls hS hl)
theorem rg_lcmp (F : rF p l e R s m args below meth c cc nL own D A) {x y : Int64} {v : Int32} (hd : decode cc pc = .ok (.lcmp, 1)) (hv : lg_cmp x y = v) (kk : rG p l e R s m args below meth c D A nL Q M k n lv (pc + 1) (.int v :: st)) : rG p l e R s m args below meth c D A nL Q M k n lv pc (.long y :: .long x :: st) := fun H locs ls hS hl => by subst hv; exact W.lcmp F.1 F.2.1 hd (kk H locs ls hS hl)
theorem rg_i2d (F : rF p l e R s m args below meth c cc nL own D A) {x : Int32} (hd : decode cc pc = .ok (.i2d, 1)) (kk : rG p l e R s m args below meth c D A nL Q M k n lv (pc + 1) (.double (FP.i2d x) :: st)) : rG p l e R s m args below meth c D A nL Q M k n lv pc (.int x :: st) := fun H locs ls hS hl => lv_i2d F.1 F.2.1 hd (kk H locs ls hS hl)
theorem rg_dcmp (F : rF p l e R s m args below meth c cc nL own D A) {x y : UInt64} {op : CmpOp} (hd : decode cc pc = .ok (.dcmp op, 1)) (kk : rG p l e R s m args below meth c D A nL Q M k n lv (pc + 1) (.int (Op.cmpValue (FP.dcmp x y) op) :: st)) : rG p l e R s m args below meth c D A nL Q M k n lv pc (.double y :: .double x :: st) := fun H locs ls hS hl => lv_dcmp F.1 F.2.1 hd (kk H locs ls hS hl)
theorem rg_ddiv (F : rF p l e R s m args below meth c cc nL own D A) {x y : UInt64} (hd : decode cc pc = .ok (.ddiv, 1)) (hne : vf_n64 (FP.ddiv x y)) (kk : rG p l e R s m args below meth c D A nL Q M k n lv (pc + 1) (.double (FP.ddiv x y) :: st)) : rG p l e R s m args below meth c D A nL Q M k n lv pc (.double y :: .double x :: st) := fun H locs ls hS hl => lv_ddiv F.1 F.2.1 hd hne (kk H locs ls hS hl)
theorem rg_dconst0 (F : rF p l e R s m args below meth c cc nL own D A) (hd : decode cc pc = .ok (.dconst 0, 1)) (kk : rG p l e R s m args below meth c D A nL Q M k n lv (pc + 1) (.double 0 :: st)) : rG p l e R s m args below meth c D A nL Q M k n lv pc (st) := fun H locs ls hS hl => lv_dconst0 F.1 F.2.1 hd (kk H locs ls hS hl)
theorem rg_dup (F : rF p l e R s m args below meth c cc nL own D A) {v : Value} (hd : decode cc pc = .ok (.dup, 1)) (hv : v.category = 1) (kk : rG p l e R s m args below meth c D A nL Q M k n lv (pc + 1) (v :: v :: st)) : rG p l e R s m args below meth c D A nL Q M k n lv pc (v :: st) := fun H locs ls hS hl => lv_dup F.1 F.2.1 hd hv (kk H locs ls hS hl)
theorem rg_pop (F : rF p l e R s m args below meth c cc nL own D A) {v : Value} (hd : decode cc pc = .ok (.pop, 1)) (hv : v.category = 1) (kk : rG p l e R s m args below meth c D A nL Q M k n lv (pc + 1) (st)) : rG p l e R s m args below meth c D A nL Q M k n lv pc (v :: st) := fun H locs ls hS hl => lv_pop F.1 F.2.1 hd hv (kk H locs ls hS hl)
theorem rg_dup_x1 (F : rF p l e R s m args below meth c cc nL own D A) {v w : Value} (hd : decode cc pc = .ok (.dup_x1, 1)) (hv : v.category = 1) (hw : w.category = 1) (kk : rG p l e R s m args below meth c D A nL Q M k n lv (pc + 1) (v :: w :: v :: st)) : rG p l e R s m args below meth c D A nL Q M k n lv pc (v :: w :: st) := fun H locs ls hS hl => lv_dup_x1 F.1 F.2.1 hd hv hw (kk H locs ls hS hl)
theorem rg_goto (F : rF p l e R s m args below meth c cc nL own D A) {off : Int} {tgt : Nat} (hd : decode cc pc = .ok (.goto off, 3)) (ht : (pc : Int) + off = (tgt : Int)) (kk : rG p l e R s m args below meth c D A nL Q M k n lv tgt st) : rG p l e R s m args below meth c D A nL Q M k n lv pc st := fun H locs ls hS hl => lv_goto F.1 F.2.1 hd ht (kk H locs ls hS hl)
theorem rg_if_eq (F : rF p l e R s m args below meth c cc nL own D A) {x : Int32} {off : Int} {tgt : Nat} (hd : decode cc pc = .ok (.ifCond .eq off, 3)) (ht : (pc : Int) + off = (tgt : Int)) (kt : x = 0 → rG p l e R s m args below meth c D A nL Q M k n lv tgt st) (kf : ¬ x = 0 → rG p l e R s m args below meth c D A nL Q M k n lv (pc + 3) st) : rG p l e R s m args below meth c D A nL Q M k n lv pc (.int x :: st) := fun H locs ls hS hl => lv_if_eq F.1 F.2.1 hd ht (fun h => kt h H locs ls hS hl) (fun h => kf h H locs ls hS hl)
theorem rg_if_ne (F : rF p l e R s m args below meth c cc nL own D A) {x : Int32} {off : Int} {tgt : Nat} (hd : decode cc pc = .ok (.ifCond .ne off, 3)) (ht : (pc : Int) + off = (tgt : Int)) (kt : ¬ x = 0 → rG p l e R s m args below meth c D A nL Q M k n lv tgt st) (kf : x = 0 → rG p l e R s m args below meth c D A nL Q M k n lv (pc + 3) st) : rG p l e R s m args below meth c D A nL Q M k n lv pc (.int x :: st) := fun H locs ls hS hl => lv_if_ne F.1 F.2.1 hd ht (fun h => kt h H locs ls hS hl) (fun h => kf h H locs ls hS hl)
theorem rg_if_lt (F : rF p l e R s m args below meth c cc nL own D A) {x : Int32} {off : Int} {tgt : Nat} (hd : decode cc pc = .ok (.ifCond .lt off, 3)) (ht : (pc : Int) + off = (tgt : Int)) (kt : x < 0 → rG p l e R s m args below meth c D A nL Q M k n lv tgt st) (kf : ¬ x < 0 → rG p l e R s m args below meth c D A nL Q M k n lv (pc + 3) st) : rG p l e R s m args below meth c D A nL Q M k n lv pc (.int x :: st) := fun H locs ls hS hl => lv_if_lt F.1 F.2.1 hd ht (fun h => kt h H locs ls hS hl) (fun h => kf h H locs ls hS hl)
theorem rg_if_ge (F : rF p l e R s m args below meth c cc nL own D A) {x : Int32} {off : Int} {tgt : Nat} (hd : decode cc pc = .ok (.ifCond .ge off, 3)) (ht : (pc : Int) + off = (tgt : Int)) (kt : 0 ≤ x → rG p l e R s m args below meth c D A nL Q M k n lv tgt st) (kf : ¬ 0 ≤ x → rG p l e R s m args below meth c D A nL Q M k n lv (pc + 3) st) : rG p l e R s m args below meth c D A nL Q M k n lv pc (.int x :: st) := fun H locs ls hS hl => lv_if_ge F.1 F.2.1 hd ht (fun h => kt h H locs ls hS hl) (fun h => kf h H locs ls hS hl)
theorem rg_if_gt (F : rF p l e R s m args below meth c cc nL own D A) {x : Int32} {off : Int} {tgt : Nat} (hd : decode cc pc = .ok (.ifCond .gt off, 3)) (ht : (pc : Int) + off = (tgt : Int)) (kt : 0 < x → rG p l e R s m args below meth c D A nL Q M k n lv tgt st) (kf : ¬ 0 < x → rG p l e R s m args below meth c D A nL Q M k n lv (pc + 3) st) : rG p l e R s m args below meth c D A nL Q M k n lv pc (.int x :: st) := fun H locs ls hS hl => lv_if_gt F.1 F.2.1 hd ht (fun h => kt h H locs ls hS hl) (fun h => kf h H locs ls hS hl)
theorem rg_if_le (F : rF p l e R s m args below meth c cc nL own D A) {x : Int32} {off : Int} {tgt : Nat} (hd : decode cc pc = .ok (.ifCond .le off, 3)) (ht : (pc : Int) + off = (tgt : Int)) (kt : x ≤ 0 → rG p l e R s m args below meth c D A nL Q M k n lv tgt st) (kf : ¬ x ≤ 0 → rG p l e R s m args below meth c D A nL Q M k n lv (pc + 3) st) : rG p l e R s m args below meth c D A nL Q M k n lv pc (.int x :: st) := fun H locs ls hS hl => lv_if_le F.1 F.2.1 hd ht (fun h => kt h H locs ls hS hl) (fun h => kf h H locs ls hS hl)
theorem rg_icmp_eq (F : rF p l e R s m args below meth c cc nL own D A) {x y : Int32} {off : Int} {tgt : Nat} (hd : decode cc pc = .ok (.if_icmp .eq off, 3)) (ht : (pc : Int) + off = (tgt : Int)) (kt : x = y → rG p l e R s m args below meth c D A nL Q M k n lv tgt st) (kf : ¬ x = y → rG p l e R s m args below meth c D A nL Q M k n lv (pc + 3) st) : rG p l e R s m args below meth c D A nL Q M k n lv pc (.int y :: .int x :: st) := fun H locs ls hS hl => lv_icmp_eq F.1 F.2.1 hd ht (fun h => kt h H locs ls hS hl) (fun h => kf h H locs ls hS hl)
theorem rg_icmp_ne (F : rF p l e R s m args below meth c cc nL own D A) {x y : Int32} {off : Int} {tgt : Nat} (hd : decode cc pc = .ok (.if_icmp .ne off, 3)) (ht : (pc : Int) + off = (tgt : Int)) (kt : ¬ x = y → rG p l e R s m args below meth c D A nL Q M k n lv tgt st) (kf : x = y → rG p l e R s m args below meth c D A nL Q M k n lv (pc + 3) st) : rG p l e R s m args below meth c D A nL Q M k n lv pc (.int y :: .int x :: st) := fun H locs ls hS hl => lv_icmp_ne F.1 F.2.1 hd ht (fun h => kt h H locs ls hS hl) (fun h => kf h H locs ls hS hl)
theorem rg_icmp_lt (F : rF p l e R s m args below meth c cc nL own D A) {x y : Int32} {off : Int} {tgt : Nat} (hd : decode cc pc = .ok (.if_icmp .lt off, 3)) (ht : (pc : Int) + off = (tgt : Int)) (kt : x < y → rG p l e R s m args below meth c D A nL Q M k n lv tgt st) (kf : ¬ x < y → rG p l e R s m args below meth c D A nL Q M k n lv (pc + 3) st) : rG p l e R s m args below meth c D A nL Q M k n lv pc (.int y :: .int x :: st) := fun H locs ls hS hl => lv_icmp_lt F.1 F.2.1 hd ht (fun h => kt h H locs ls hS hl) (fun h => kf h H locs ls hS hl)
theorem rg_icmp_ge (F : rF p l e R s m args below meth c cc nL own D A) {x y : Int32} {off : Int} {tgt : Nat} (hd : decode cc pc = .ok (.if_icmp .ge off, 3)) (ht : (pc : Int) + off = (tgt : Int)) (kt : y ≤ x → rG p l e R s m args below meth c D A nL Q M k n lv tgt st) (kf : ¬ y ≤ x → rG p l e R s m args below meth c D A nL Q M k n lv (pc + 3) st) : rG p l e R s m args below meth c D A nL Q M k n lv pc (.int y :: .int x :: st) := fun H locs ls hS hl => lv_icmp_ge F.1 F.2.1 hd ht (fun h => kt h H locs ls hS hl) (fun h => kf h H locs ls hS hl)
theorem rg_icmp_gt (F : rF p l e R s m args below meth c cc nL own D A) {x y : Int32} {off : Int} {tgt : Nat} (hd : decode cc pc = .ok (.if_icmp .gt off, 3)) (ht : (pc : Int) + off = (tgt : Int)) (kt : y < x → rG p l e R s m args below meth c D A nL Q M k n lv tgt st) (kf : ¬ y < x → rG p l e R s m args below meth c D A nL Q M k n lv (pc + 3) st) : rG p l e R s m args below meth c D A nL Q M k n lv pc (.int y :: .int x :: st) := fun H locs ls hS hl => lv_icmp_gt F.1 F.2.1 hd ht (fun h => kt h H locs ls hS hl) (fun h => kf h H locs ls hS hl)
theorem rg_icmp_le (F : rF p l e R s m args below meth c cc nL own D A) {x y : Int32} {off : Int} {tgt : Nat} (hd : decode cc pc = .ok (.if_icmp .le off, 3)) (ht : (pc : Int) + off = (tgt : Int)) (kt : x ≤ y → rG p l e R s m args below meth c D A nL Q M k n lv tgt st) (kf : ¬ x ≤ y → rG p l e R s m args below meth c D A nL Q M k n lv (pc + 3) st) : rG p l e R s m args below meth c D A nL Q M k n lv pc (.int y :: .int x :: st) := fun H locs ls hS hl => lv_icmp_le F.1 F.2.1 hd ht (fun h => kt h H locs ls hS hl) (fun h => kf h H locs ls hS hl)
theorem rg_ncmp_eq (F : rF p l e R s m args below meth c cc nL own D A) {a b : Nat} {off : Int} {tgt : Nat} (hd : decode cc pc = .ok (.if_icmp .eq off, 3)) (ht : (pc : Int) + off = (tgt : Int)) (ha : a < 2 ^ 31) (hb : b < 2 ^ 31) (kt : a = b → rG p l e R s m args below meth c D A nL Q M k n lv tgt st) (kf : ¬ a = b → rG p l e R s m args below meth c D A nL Q M k n lv (pc + 3) st) : rG p l e R s m args below meth c D A nL Q M k n lv pc (.int (nI b) :: .int (nI a) :: st) := rg_icmp_eq F hd ht (fun h => kt ((nI_eq ha hb).mp h)) (fun h => kf (fun z => h ((nI_eq ha hb).mpr z)))
theorem rg_ncmp_ne (F : rF p l e R s m args below meth c cc nL own D A) {a b : Nat} {off : Int} {tgt : Nat} (hd : decode cc pc = .ok (.if_icmp .ne off, 3)) (ht : (pc : Int) + off = (tgt : Int)) (ha : a < 2 ^ 31) (hb : b < 2 ^ 31) (kt : ¬ a = b → rG p l e R s m args below meth c D A nL Q M k n lv tgt st) (kf : a = b → rG p l e R s m args below meth c D A nL Q M k n lv (pc + 3) st) : rG p l e R s m args below meth c D A nL Q M k n lv pc (.int (nI b) :: .int (nI a) :: st) := rg_icmp_ne F hd ht (fun h => kt (fun z => h ((nI_eq ha hb).mpr z))) (fun h => kf ((nI_eq ha hb).mp h))
theorem rg_ncmp_lt (F : rF p l e R s m args below meth c cc nL own D A) {a b : Nat} {off : Int} {tgt : Nat} (hd : decode cc pc = .ok (.if_icmp .lt off, 3)) (ht : (pc : Int) + off = (tgt : Int)) (ha : a < 2 ^ 31) (hb : b < 2 ^ 31) (kt : a < b → rG p l e R s m args below meth c D A nL Q M k n lv tgt st) (kf : b ≤ a → rG p l e R s m args below meth c D A nL Q M k n lv (pc + 3) st) : rG p l e R s m args below meth c D A nL Q M k n lv pc (.int (nI b) :: .int (nI a) :: st) := rg_icmp_lt F hd ht (fun h => kt ((nI_ltI ha hb).mp h)) (fun h => kf (Nat.not_lt.mp (fun z => h ((nI_ltI ha hb).mpr z))))
theorem rg_ncmp_ge (F : rF p l e R s m args below meth c cc nL own D A) {a b : Nat} {off : Int} {tgt : Nat} (hd : decode cc pc = .ok (.if_icmp .ge off, 3)) (ht : (pc : Int) + off = (tgt : Int)) (ha : a < 2 ^ 31) (hb : b < 2 ^ 31) (kt : b ≤ a → rG p l e R s m args below meth c D A nL Q M k n lv tgt st) (kf : a < b → rG p l e R s m args below meth c D A nL Q M k n lv (pc + 3) st) : rG p l e R s m args below meth c D A nL Q M k n lv pc (.int (nI b) :: .int (nI a) :: st) := rg_icmp_ge F hd ht (fun h => kt ((nI_leI hb ha).mp h)) (fun h => kf (Nat.not_le.mp (fun z => h ((nI_leI hb ha).mpr z))))
theorem rg_ncmp_gt (F : rF p l e R s m args below meth c cc nL own D A) {a b : Nat} {off : Int} {tgt : Nat} (hd : decode cc pc = .ok (.if_icmp .gt off, 3)) (ht : (pc : Int) + off = (tgt : Int)) (ha : a < 2 ^ 31) (hb : b < 2 ^ 31) (kt : b < a → rG p l e R s m args below meth c D A nL Q M k n lv tgt st) (kf : a ≤ b → rG p l e R s m args below meth c D A nL Q M k n lv (pc + 3) st) : rG p l e R s m args below meth c D A nL Q M k n lv pc (.int (nI b) :: .int (nI a) :: st) := rg_icmp_gt F hd ht (fun h => kt ((nI_ltI hb ha).mp h)) (fun h => kf (Nat.not_lt.mp (fun z => h ((nI_ltI hb ha).mpr z))))
theorem rg_ncmp_le (F : rF p l e R s m args below meth c cc nL own D A) {a b : Nat} {off : Int} {tgt : Nat} (hd : decode cc pc = .ok (.if_icmp .le off, 3)) (ht : (pc : Int) + off = (tgt : Int)) (ha : a < 2 ^ 31) (hb : b < 2 ^ 31) (kt : a ≤ b → rG p l e R s m args below meth c D A nL Q M k n lv tgt st) (kf : b < a → rG p l e R s m args below meth c D A nL Q M k n lv (pc + 3) st) : rG p l e R s m args below meth c D A nL Q M k n lv pc (.int (nI b) :: .int (nI a) :: st) := rg_icmp_le F hd ht (fun h => kt ((nI_leI ha hb).mp h)) (fun h => kf (Nat.not_le.mp (fun z => h ((nI_leI ha hb).mpr z))))
theorem rg_nif_eq (F : rF p l e R s m args below meth c cc nL own D A) {a : Nat} {off : Int} {tgt : Nat} (hd : decode cc pc = .ok (.ifCond .eq off, 3)) (ht : (pc : Int) + off = (tgt : Int)) (ha : a < 2 ^ 31) (kt : a = 0 → rG p l e R s m args below meth c D A nL Q M k n lv tgt st) (kf : ¬ a = 0 → rG p l e R s m args below meth c D A nL Q M k n lv (pc + 3) st) : rG p l e R s m args below meth c D A nL Q M k n lv pc (.int (nI a) :: st) := rg_if_eq F hd ht (fun h => kt ((nI_eq ha (by decide)).mp h)) (fun h => kf (fun z => h (by rw [z]; rfl)))
theorem rg_nif_ne (F : rF p l e R s m args below meth c cc nL own D A) {a : Nat} {off : Int} {tgt : Nat} (hd : decode cc pc = .ok (.ifCond .ne off, 3)) (ht : (pc : Int) + off = (tgt : Int)) (ha : a < 2 ^ 31) (kt : ¬ a = 0 → rG p l e R s m args below meth c D A nL Q M k n lv tgt st) (kf : a = 0 → rG p l e R s m args below meth c D A nL Q M k n lv (pc + 3) st) : rG p l e R s m args below meth c D A nL Q M k n lv pc (.int (nI a) :: st) := rg_if_ne F hd ht (fun h => kt (fun z => h (by rw [z]; rfl))) (fun h => kf ((nI_eq ha (by decide)).mp h))
theorem rg_nif_gt (F : rF p l e R s m args below meth c cc nL own D A) {a : Nat} {off : Int} {tgt : Nat} (hd : decode cc pc = .ok (.ifCond .gt off, 3)) (ht : (pc : Int) + off = (tgt : Int)) (ha : a < 2 ^ 31) (kt : 0 < a → rG p l e R s m args below meth c D A nL Q M k n lv tgt st) (kf : a = 0 → rG p l e R s m args below meth c D A nL Q M k n lv (pc + 3) st) : rG p l e R s m args below meth c D A nL Q M k n lv pc (.int (nI a) :: st) := rg_if_gt F hd ht (fun h => kt ((nI_ltI (a := 0) (by decide) ha).mp h)) (fun h => kf (Nat.eq_zero_of_not_pos (fun z : 0 < a => h ((nI_ltI (a := 0) (by decide) ha).mpr z))))
theorem rg_nif_le (F : rF p l e R s m args below meth c cc nL own D A) {a : Nat} {off : Int} {tgt : Nat} (hd : decode cc pc = .ok (.ifCond .le off, 3)) (ht : (pc : Int) + off = (tgt : Int)) (ha : a < 2 ^ 31) (kt : a = 0 → rG p l e R s m args below meth c D A nL Q M k n lv tgt st) (kf : 0 < a → rG p l e R s m args below meth c D A nL Q M k n lv (pc + 3) st) : rG p l e R s m args below meth c D A nL Q M k n lv pc (.int (nI a) :: st) := rg_if_le F hd ht (fun h => kt (Nat.le_zero.mp ((nI_leI (b := 0) ha (by decide)).mp h))) (fun h => kf (Nat.pos_of_ne_zero (fun z => h ((nI_leI (b := 0) ha (by decide)).mpr (Nat.le_of_eq z)))))
theorem rg_bif_eq (F : rF p l e R s m args below meth c cc nL own D A) {b : Bool} {off : Int} {tgt : Nat} (hd : decode cc pc = .ok (.ifCond .eq off, 3)) (ht : (pc : Int) + off = (tgt : Int)) (kt : b = false → rG p l e R s m args below meth c D A nL Q M k n lv tgt st) (kf : b = true → rG p l e R s m args below meth c D A nL Q M k n lv (pc + 3) st) : rG p l e R s m args below meth c D A nL Q M k n lv pc (.int (nI b.toNat) :: st) := rg_nif_eq F hd ht (by cases b <;> decide) (fun h => kt (by cases b <;> simp_all)) (fun h => kf (by cases b <;> simp_all))
theorem rg_bif_ne (F : rF p l e R s m args below meth c cc nL own D A) {b : Bool} {off : Int} {tgt : Nat} (hd : decode cc pc = .ok (.ifCond .ne off, 3)) (ht : (pc : Int) + off = (tgt : Int)) (kt : b = true → rG p l e R s m args below meth c D A nL Q M k n lv tgt st) (kf : b = false → rG p l e R s m args below meth c D A nL Q M k n lv (pc + 3) st) : rG p l e R s m args below meth c D A nL Q M k n lv pc (.int (nI b.toNat) :: st) := rg_nif_ne F hd ht (by cases b <;> decide) (fun h => kt (by cases b <;> simp_all)) (fun h => kf (by cases b <;> simp_all))
theorem rg_ifnull (F : rF p l e R s m args below meth c cc nL own D A) {x : Nat} {off : Int} (hd : decode cc pc = .ok (.ifnull off, 3)) (kk : rG p l e R s m args below meth c D A nL Q M k n lv (pc + 3) st) : rG p l e R s m args below meth c D A nL Q M k n lv pc (.ref x :: st) := fun H locs ls hS hl => lv_ifnull F.1 F.2.1 hd (kk H locs ls hS hl)
theorem rg_ifnullN (F : rF p l e R s m args below meth c cc nL own D A) {off : Int} {tgt : Nat} (hd : decode cc pc = .ok (.ifnull off, 3)) (ht : (pc : Int) + off = (tgt : Int)) (kk : rG p l e R s m args below meth c D A nL Q M k n lv tgt st) : rG p l e R s m args below meth c D A nL Q M k n lv pc (.null :: st) := fun H locs ls hS hl => lv_ifnullN F.1 F.2.1 hd ht (kk H locs ls hS hl)
theorem rg_ifnonnull (F : rF p l e R s m args below meth c cc nL own D A) {x : Nat} {off : Int} {tgt : Nat} (hd : decode cc pc = .ok (.ifnonnull off, 3)) (ht : (pc : Int) + off = (tgt : Int)) (kk : rG p l e R s m args below meth c D A nL Q M k n lv tgt st) : rG p l e R s m args below meth c D A nL Q M k n lv pc (.ref x :: st) := fun H locs ls hS hl => lv_ifnonnull F.1 F.2.1 hd ht (kk H locs ls hS hl)
theorem rg_ifnonnullN (F : rF p l e R s m args below meth c cc nL own D A) {off : Int} (hd : decode cc pc = .ok (.ifnonnull off, 3)) (kk : rG p l e R s m args below meth c D A nL Q M k n lv (pc + 3) st) : rG p l e R s m args below meth c D A nL Q M k n lv pc (.null :: st) := fun H locs ls hS hl => lv_ifnonnullN F.1 F.2.1 hd (kk H locs ls hS hl)
theorem rg_tab (F : rF p l e R s m args below meth c cc nL own D A) {dflt lo hi : Int} {offs : Array Int} {len : Nat} {x : Int32} {off : Int} {tgt : Nat} (hd : decode cc pc = .ok (.tableswitch dflt lo hi offs, len)) (h1 : ¬ x.toInt < lo) (h2 : ¬ hi < x.toInt) (ho : offs[(x.toInt - lo).toNat]? = some off) (ht : (pc : Int) + off = (tgt : Int)) (kk : rG p l e R s m args below meth c D A nL Q M k n lv tgt st) : rG p l e R s m args below meth c D A nL Q M k n lv pc (.int x :: st) := fun H locs ls hS hl => lv_tableIn F.1 F.2.1 hd h1 h2 ho ht (kk H locs ls hS hl)
theorem rg_tabO (F : rF p l e R s m args below meth c cc nL own D A) {dflt lo hi : Int} {offs : Array Int} {len : Nat} {x : Int32} {tgt : Nat} (hd : decode cc pc = .ok (.tableswitch dflt lo hi offs, len)) (h : x.toInt < lo ∨ hi < x.toInt) (ht : (pc : Int) + dflt = (tgt : Int)) (kk : rG p l e R s m args below meth c D A nL Q M k n lv tgt st) : rG p l e R s m args below meth c D A nL Q M k n lv pc (.int x :: st) := fun H locs ls hS hl => lv_tableOut F.1 F.2.1 hd h ht (kk H locs ls hS hl)
theorem rg_top {v v2 : Value} (hv : v = v2) (kk : rG p l e R s m args below meth c D A nL Q M k n lv pc (v2 :: st)) : rG p l e R s m args below meth c D A nL Q M k n lv pc (v :: st) := hv ▸ kk
theorem rg_widen {k2 n2 : Nat} (h1 : k ≤ k2) (h2 : n ≤ n2) (kk : rG p l e R s m args below meth c D A nL Q M k2 n2 lv pc st) : rG p l e R s m args below meth c D A nL Q M k n lv pc st := fun H locs ls hS hl => W.widen h1 h2 (kk H locs ls hS hl)
theorem rg_sub (h : rsub lv' lv) (kk : rG p l e R s m args below meth c D A nL Q M k n lv' pc st) : rG p l e R s m args below meth c D A nL Q M k n lv pc st := fun H locs ls hS hl => kk H locs ls hS (hl.sub (rsub_get _ _ h).1 (rsub_get _ _ h).2)
theorem rg_mem {M2 : rMem} (h : M = M2) (kk : rG p l e R s m args below meth c D A nL Q M2 k n lv pc st) : rG p l e R s m args below meth c D A nL Q M k n lv pc st := h ▸ kk
theorem rS.sub {M2 : rMem} {H : Heap} {locs : List Loc} (h : rS D A s M H locs) (hs : ∀ a e, M2 a = some e → M a = some e) : rS D A s M2 H locs := ⟨fun a e he => h.1 a e (hs a e he), fun a e he => h.2.1 a e (hs a e he), h.2.2⟩
theorem rg_memsub {M2 : rMem} (h : ∀ a e, M2 a = some e → M a = some e) (kk : rG p l e R s m args below meth c D A nL Q M2 k n lv pc st) : rG p l e R s m args below meth c D A nL Q M k n lv pc st := fun H locs ls hS hl => kk H locs ls (hS.sub h) hl
theorem rg_eq {lv2 : List (Option Value)} {st2 : List Value} {pc2 : Nat} (h1 : lv = lv2) (h2 : st = st2) (h3 : pc = pc2) (kk : rG p l e R s m args below meth c D A nL Q M k n lv2 pc2 st2) : rG p l e R s m args below meth c D A nL Q M k n lv pc st := by subst h1 h2 h3; exact kk
theorem rg_get (F : rF p l e R s m args below meth c cc nL own D A) {ref C : String} {T : u_T} {N ci i a : Nat} {fs : List Value} {v : Value} (hc : vwCl[ci]? = some (C, T, N)) (hin : ∀ w ∈ u_ws C T N, w ∈ wsL_law) (hm : M a = some (.inr (ci, fs))) (j : Nat) (hj : j < N) (hw : Cond.fieldLink own i ref (T j).2.1 (T j).2.2.1 ∈ wsL_law) (hsame : ∀ x, s.fieldFound? (T j).1 (T j).2.1 (T j).2.2.1 = some x → s.fieldFound? ref (T j).2.1 (T j).2.2.1 = some x) (hv : fs[j]? = some v) (hd : decode cc pc = .ok (.getfield i, 3)) (kk : rG p l e R s m args below meth c D A nL Q M k n lv (pc + 3) (v :: st)) : rG p l e R s m args below meth c D A nL Q M k n lv pc (.ref a :: st) := fun H locs ls hS hl =>
  va_get (D := D) (ws := [(a, .inr (ci, fs))]) F.1 F.2.1 F.2.2.2.2.1 hin F.2.2.2.1 F.2.2.2.2.2.1 (fun q x hx => by cases q with | zero => cases hx; exact hS.1 a _ hm | succ q => simp at hx) 0 rfl hc j hj (F.2.2.2.2.1 _ hw) hsame hv hd (kk H locs ls hS hl)
theorem rg_put (F : rF p l e R s m args below meth c cc nL own D A) {ref C : String} {T : u_T} {N ci i a : Nat} {fs : List Value} {v : Value} {ty : FieldType} (hc : vwCl[ci]? = some (C, T, N)) (hin : ∀ w ∈ u_ws C T N, w ∈ wsL_law) (ty0 : Nat → FieldType) (hty : ∀ j, j < N → parseFieldDescriptor (T j).2.2.1 = some (ty0 j)) (hnm : ∀ a, a < N → ∀ b, b < N → a ≠ b → (T a).2.1 ≠ (T b).2.1) (hm : M a = some (.inr (ci, fs))) (j : Nat) (hj : j < N) (hw : Cond.fieldLink own i ref (T j).2.1 (T j).2.2.1 ∈ wsL_law) (hsame : ∀ x, s.fieldFound? (T j).1 (T j).2.1 (T j).2.2.1 = some x → s.fieldFound? ref (T j).2.1 (T j).2.2.1 = some x) (hfin : (T j).2.2.2 = false) (hty1 : parseFieldDescriptor (T j).2.2.1 = some ty) (hn : narrow ty v = v) (hfit : fits ty v = true) (hlen : j < fs.length) (hd : decode cc pc = .ok (.putfield i, 3)) (kk : rG p l e R s m args below meth c D A nL Q (mset M a (.inr (ci, fs.set j v))) k n lv (pc + 3) st) : rG p l e R s m args below meth c D A nL Q M k n lv pc (v :: .ref a :: st) := by
  intro H locs ls hS hl
  have hK := F.2.2.2.2.2.1
  have hts := F.2.2.2.2.1
  have hin9 : ∀ w ∈ u_ws C T N, w.before args s = true := fun w h => hts w (hin w h)
  have hap := va_apart (own := own) hin9 (fun w h => h) ty0 hty hnm hK hc
  obtain ⟨r, h1, cell, q1, q2, q3, q4⟩ := hS.1 a _ hm
  have hr : r = (C, T, N) := Option.some.inj (h1.symm.trans hc)
  subst hr
  obtain ⟨hSl, hfc, kC, hkC, hkind⟩ := hK.1 ci _ hc
  obtain ⟨cf, kf, fi, f, hi, hsl⟩ := hSl j hj
  have hlay := hin9 _ (u_in_lay hj)
  unfold u_lay at hlay
  rw [if_neg (by rw [hfin]; decide)] at hlay
  have hst := (u_facts hfc hkC (u_lays hin9 (fun w h => h) hj) hi).1
  have h6 := u_store hfc hkC hkind hlay hi hty1 hn hfit
  refine W.putK F.1 F.2.1 (f := f) ⟨F.2.2.2.1, hts _ hw, ⟨_, _, _, hsame _ hi⟩, hst⟩ (by rw [q2]; exact h6) q1 q3 (by rw [hsl]; exact k2_hasslot (q4 j hj)) rfl rfl hd fun H' e1 e2 e3 => ?_
  rw [hsl] at e1
  refine kk H' _ ls ⟨?_, ?_, hS.2.2.put e2 e3 (hS.2.1 a _ hm)⟩ hl
  · intro b x hb
    by_cases hba : b = a
    · subst hba
      rw [mset_eq] at hb
      cases hb
      exact ⟨_, hc, t_OB.to (V := updV (vp_V fs) j v) ⟨_, e1, q2, q3, t_set q4 hap hj v⟩ (fun j _ => vp_updV_set hlen v j)⟩
    · rw [mset_ne hba] at hb
      exact (hS.1 b x hb).kept (e3 b hba)
  · intro b x hb
    by_cases hba : b = a
    · subst hba; exact hS.2.1 b _ hm
    · rw [mset_ne hba] at hb
      exact hS.2.1 b x hb
theorem rg_putF (F : rF p l e R s m args below meth c cc nL own D A) {ref C : String} {T : u_T} {N ci i a : Nat} {fs : List Value} {v : Value} {ty : FieldType} (hc : vwCl[ci]? = some (C, T, N)) (hin : ∀ w ∈ u_ws C T N, w ∈ wsL_law) (ty0 : Nat → FieldType) (hty : ∀ j, j < N → parseFieldDescriptor (T j).2.2.1 = some (ty0 j)) (hnm : ∀ a, a < N → ∀ b, b < N → a ≠ b → (T a).2.1 ≠ (T b).2.1) (hm : M a = some (.inr (ci, fs))) (j : Nat) (hj : j < N) (hw : Cond.fieldLink own i ref (T j).2.1 (T j).2.2.1 ∈ wsL_law) (hsame : ∀ x, s.fieldFound? (T j).1 (T j).2.1 (T j).2.2.1 = some x → s.fieldFound? ref (T j).2.1 (T j).2.2.1 = some x) (hfin : (T j).2.2.2 = true) (hin2 : meth.name = "<init>") (hdecl : (T j).1 = own) (hty1 : parseFieldDescriptor (T j).2.2.1 = some ty) (hn : narrow ty v = v) (hfit : fits ty v = true) (hlen : j < fs.length) (hd : decode cc pc = .ok (.putfield i, 3)) (kk : rG p l e R s m args below meth c D A nL Q (mset M a (.inr (ci, fs.set j v))) k n lv (pc + 3) st) : rG p l e R s m args below meth c D A nL Q M k n lv pc (v :: .ref a :: st) := by
  intro H locs ls hS hl
  have hK := F.2.2.2.2.2.1
  have hts := F.2.2.2.2.1
  have hin9 : ∀ w ∈ u_ws C T N, w.before args s = true := fun w h => hts w (hin w h)
  have hap := va_apart (own := own) hin9 (fun w h => h) ty0 hty hnm hK hc
  obtain ⟨r, h1, cell, q1, q2, q3, q4⟩ := hS.1 a _ hm
  have hr : r = (C, T, N) := Option.some.inj (h1.symm.trans hc)
  subst hr
  obtain ⟨hSl, hfc, kC, hkC, hkind⟩ := hK.1 ci _ hc
  obtain ⟨cf, kf, fi, f, hi, hsl⟩ := hSl j hj
  have hlay := hin9 _ (u_in_lay hj)
  unfold u_lay at hlay
  rw [if_pos hfin] at hlay
  have hst := (u_facts hfc hkC (u_lays hin9 (fun w h => h) hj) hi).1
  have hcf : m.cls = cf := by
    obtain ⟨_, _, c', _, _, _, -, -, hf', -, -, -, hown2, -⟩ := Cond.laysFinal_spec hlay
    have e1 : c' = cf := by have := hi.symm.trans hf'; simp at this; exact this.1.symm
    rw [hdecl] at hown2
    rw [← e1]; exact Option.some.inj (F.2.2.2.1.symm.trans hown2)
  have h6 := u_fits hfc hkC hkind (Or.inr hlay) hi hty1 hn hfit
  refine W.putFinK F.1 F.2.1 F.2.2.2.1 (hts _ hw) (hsame _ hi) hst hcf hin2 (by rw [q2]; exact h6) q1 q3 (by rw [hsl]; exact k2_hasslot (q4 j hj)) rfl rfl hd fun H' e1 e2 e3 => ?_
  rw [hsl] at e1
  refine kk H' _ ls ⟨?_, ?_, hS.2.2.put e2 e3 (hS.2.1 a _ hm)⟩ hl
  · intro b x hb
    by_cases hba : b = a
    · subst hba
      rw [mset_eq] at hb
      cases hb
      exact ⟨_, hc, t_OB.to (V := updV (vp_V fs) j v) ⟨_, e1, q2, q3, t_set q4 hap hj v⟩ (fun j _ => vp_updV_set hlen v j)⟩
    · rw [mset_ne hba] at hb
      exact (hS.1 b x hb).kept (e3 b hba)
  · intro b x hb
    by_cases hba : b = a
    · subst hba; exact hS.2.1 b _ hm
    · rw [mset_ne hba] at hb
      exact hS.2.1 b x hb
end RG
end
section
section RH
variable {p : Program} {l : Launch} {e : Env} {R : Room} {s : State} {m : MethodId} {args : Array Value} {below : List Frame} {meth : Method} {c : Code} {cc : ByteArray} {nL : Nat} {own : String} {D : va_G} {A : Nat → Prop} {Q : State → Prop} {M : rMem} {k n pc : Nat} {lv lv' : List (Option Value)} {st : List Value}
theorem rS.set {H H1 : Heap} {locs : List Loc} {a i : Nat} {x y : va_E} (hS : rS D A s M H locs) (hm : M a = some x) (hy : va_at D vwCl (a, y) H1) (hz : H1.size = H.size) (ho : ∀ q : Nat, q ≠ a → H1[q]? = H[q]?) : rS D A s (mset M a y) H1 (locs ++ [⟨a, i⟩]) := by
  refine ⟨?_, ?_, hS.2.2.put hz ho (hS.2.1 a _ hm)⟩
  · intro b z hb
    by_cases hba : b = a
    · subst hba
      rw [mset_eq] at hb
      cases hb
      exact hy
    · rw [mset_ne hba] at hb
      exact (hS.1 b z hb).kept (ho b hba)
  · intro b z hb
    by_cases hba : b = a
    · subst hba; exact hS.2.1 b _ hm
    · rw [mset_ne hba] at hb
      exact hS.2.1 b z hb
theorem rS.new {H H1 : Heap} {locs : List Loc} {y : va_E} (hS : rS D A s M H locs) (hA : ∀ q, s.heap.size ≤ q → A q) (hy : va_at D vwCl (H.size, y) H1) (hz : H1.size = H.size + 1) (ho : ∀ q : Nat, q < H.size → H1[q]? = H[q]?) : M H.size = none ∧ rS D A s (mset M H.size y) H1 locs := by
  have hno : M H.size = none := by
    cases h : M H.size with
    | none => rfl
    | some x => exact absurd (hS.1 _ x h).lt (Nat.lt_irrefl _)
  refine ⟨hno, ?_, ?_, Nat.le_trans hS.2.2.1 (by omega), fun x h1 h2 => (ho x (Nat.lt_of_lt_of_le h1 hS.2.2.1)).trans (hS.2.2.2.1 x h1 h2), hS.2.2.2.2⟩
  · intro b z hb
    by_cases hba : b = H.size
    · subst hba
      rw [mset_eq] at hb
      cases hb
      exact hy
    · rw [mset_ne hba] at hb
      exact (hS.1 b z hb).kept (ho b (hS.1 b z hb).lt)
  · intro b z hb
    by_cases hba : b = H.size
    · subst hba; exact hA _ hS.2.2.1
    · rw [mset_ne hba] at hb
      exact hS.2.1 b z hb
theorem rS.newOut {H H1 : Heap} {locs : List Loc} (hS : rS D A s M H locs) (hz : H.size ≤ H1.size) (ho : ∀ q : Nat, q < H.size → H1[q]? = H[q]?) : rS D A s M H1 locs :=
  ⟨fun b z hb => (hS.1 b z hb).kept (ho b (hS.1 b z hb).lt), hS.2.1, Nat.le_trans hS.2.2.1 hz, fun x h1 h2 => (ho x (Nat.lt_of_lt_of_le h1 hS.2.2.1)).trans (hS.2.2.2.1 x h1 h2), hS.2.2.2.2⟩
theorem rK_arr (hK : va_K D vwCl (rTy D) s) (t : Nat) {cA : ClassId} {ty : FieldType} (ht : (rTy D)[t]? = some (cA, ty)) : ArrOfT s cA ty := (hK.2 t _ ht).1
theorem rG_arr1 {H : Heap} {a : Nat} {x : va_E} (h : va_at D vwCl (a, x) H) : va_P D vwCl [(a, x)] H := fun q y hy => by
  cases q with
  | zero => cases hy; exact h
  | succ q => simp at hy
theorem rg_iald (F : rF p l e R s m args below meth c cc nL own D A) {a len j : Nat} {f : Nat → Int32} {x : Int32} (hm : M a = some (.inl (D.1 6, (len, .inl f)))) (hj : j < len) (hl2 : len < 2 ^ 31) (hx : f j = x) (hd : decode cc pc = .ok (.iaload, 1)) (kk : rG p l e R s m args below meth c D A nL Q M k n lv (pc + 1) (.int x :: st)) : rG p l e R s m args below meth c D A nL Q M k n lv pc (.int (nI j) :: .ref a :: st) := by
  intro H locs ls hS hl
  have h := kk H locs ls hS hl
  rw [← hx, ← show (nI j).toNatClampNeg = j from nI_clamp (by omega)] at h
  exact va_iald F.1 F.2.1 F.2.2.2.2.2.1 (rG_arr1 (hS.1 a _ hm)) 0 0 rfl rfl (vp_in_nI hj hl2) hd h
theorem rg_lald (F : rF p l e R s m args below meth c cc nL own D A) {a len j : Nat} {f : Nat → Int64} {x : Int64} (hm : M a = some (.inl (D.1 7, (len, .inr (.inl f))))) (hj : j < len) (hl2 : len < 2 ^ 31) (hx : f j = x) (hd : decode cc pc = .ok (.laload, 1)) (kk : rG p l e R s m args below meth c D A nL Q M k n lv (pc + 1) (.long x :: st)) : rG p l e R s m args below meth c D A nL Q M k n lv pc (.int (nI j) :: .ref a :: st) := by
  intro H locs ls hS hl
  have h := kk H locs ls hS hl
  rw [← hx, ← show (nI j).toNatClampNeg = j from nI_clamp (by omega)] at h
  exact va_lald F.1 F.2.1 F.2.2.2.2.2.1 (rG_arr1 (hS.1 a _ hm)) 0 1 rfl rfl (vp_in_nI hj hl2) hd h
theorem rg_aald (F : rF p l e R s m args below meth c cc nL own D A) {a len j : Nat} {f : Nat → Option Nat} {x : Value} (hm : M a = some (.inl (D.1 8, (len, .inr (.inr (.inr (.inr f))))))) (hj : j < len) (hl2 : len < 2 ^ 31) (hx : va_rf (f j) = x) (hd : decode cc pc = .ok (.aaload, 1)) (kk : rG p l e R s m args below meth c D A nL Q M k n lv (pc + 1) (x :: st)) : rG p l e R s m args below meth c D A nL Q M k n lv pc (.int (nI j) :: .ref a :: st) := by
  intro H locs ls hS hl
  have h := kk H locs ls hS hl
  rw [← hx, ← show (nI j).toNatClampNeg = j from nI_clamp (by omega)] at h
  exact va_aldq F.1 F.2.1 F.2.2.2.2.2.1 (rG_arr1 (hS.1 a _ hm)) 0 2 rfl rfl (vp_in_nI hj hl2) hd h
theorem rg_iast (F : rF p l e R s m args below meth c cc nL own D A) {a len j : Nat} {f : Nat → Int32} {x : Int32} (hm : M a = some (.inl (D.1 6, (len, .inl f)))) (hj : j < len) (hl2 : len < 2 ^ 31) (hd : decode cc pc = .ok (.iastore, 1)) (kk : rG p l e R s m args below meth c D A nL Q (mset M a (.inl (D.1 6, (len, .inl (upd f j x))))) k n lv (pc + 1) st) : rG p l e R s m args below meth c D A nL Q M k n lv pc (.int x :: .int (nI j) :: .ref a :: st) := by
  intro H locs ls hS hl
  have hin := vp_in_nI hj hl2
  have hcl : (nI j).toNatClampNeg = j := nI_clamp (by omega)
  refine W.iast F.1 F.2.1 (hS.1 a _ hm) (rK_arr F.2.2.2.2.2.1 0 rfl len (fun j => .int (f j))) (fun q => by cases q) (by show ¬ (nI j < 0 ∨ (arrV _ _ _).slots.size ≤ _); rw [arrV_size]; exact hin) rfl rfl hd fun H1 e9 z oq => ?_
  refine kk H1 _ ls (hS.set hm ?_ z oq) hl
  show H1[a]? = some (vp_cell _ _)
  rw [e9, vp_cell_i, vp_cell_i, arrV_store, hcl]
  congr 2
  funext q
  by_cases hq : q = j
  · subst hq; simp [updV, upd]
  · simp [updV, upd, hq]
theorem rg_last (F : rF p l e R s m args below meth c cc nL own D A) {a len j : Nat} {f : Nat → Int64} {x : Int64} (hm : M a = some (.inl (D.1 7, (len, .inr (.inl f))))) (hj : j < len) (hl2 : len < 2 ^ 31) (hd : decode cc pc = .ok (.lastore, 1)) (kk : rG p l e R s m args below meth c D A nL Q (mset M a (.inl (D.1 7, (len, .inr (.inl (vp_updL f j x)))))) k n lv (pc + 1) st) : rG p l e R s m args below meth c D A nL Q M k n lv pc (.long x :: .int (nI j) :: .ref a :: st) := by
  intro H locs ls hS hl
  have hin := vp_in_nI hj hl2
  have hcl : (nI j).toNatClampNeg = j := nI_clamp (by omega)
  refine W.last F.1 F.2.1 (hS.1 a _ hm) (rK_arr F.2.2.2.2.2.1 1 rfl len (fun j => .long (f j))) (fun q => by cases q) (by show ¬ (nI j < 0 ∨ (arrV _ _ _).slots.size ≤ _); rw [arrV_size]; exact hin) rfl rfl hd fun H1 e9 z oq => ?_
  refine kk H1 _ ls (hS.set hm ?_ z oq) hl
  show H1[a]? = some (vp_cell _ _)
  rw [e9, vp_cell_l, vp_cell_l, arrV_store, hcl]
  congr 2
  funext q
  by_cases hq : q = j
  · subst hq; simp [updV, vp_updL]
  · simp [updV, vp_updL, hq]
/-- an object goes into an array of Objects -/
theorem rg_aast (F : rF p l e R s m args below meth c cc nL own D A) {a len j v ci : Nat} {f : Nat → Option Nat} {vs : List Value} {C : String} {T : u_T} {N : Nat} (hm : M a = some (.inl (D.1 8, (len, .inr (.inr (.inr (.inr f))))))) (hv : M v = some (.inr (ci, vs))) (hc : vwCl[ci]? = some (C, T, N)) (hw : Cond.castable C "java/lang/Object" ∈ tables_1) (hj : j < len) (hl2 : len < 2 ^ 31) (hd : decode cc pc = .ok (.aastore, 1)) (kk : rG p l e R s m args below meth c D A nL Q (mset M a (.inl (D.1 8, (len, .inr (.inr (.inr (.inr (va_up f j (some v))))))))) k n lv (pc + 1) st) : rG p l e R s m args below meth c D A nL Q M k n lv pc (.ref v :: .int (nI j) :: .ref a :: st) := by
  intro H locs ls hS hl
  have hin := vp_in_nI hj hl2
  have hcl : (nI j).toNatClampNeg = j := nI_clamp (by omega)
  have hK := F.2.2.2.2.2.1
  have hn : va_Nw (.castable C "java/lang/Object") s := F.2.2.2.2.2.2.2.1.2.2.2.2.2.2.2.2.2.1 _ hw rfl
  obtain ⟨c0, t0, g0, g1, g2⟩ := Cond.castable_spec hn
  have hany : va_Any "java/lang/Object" s H v := va_rAny hK (rG_arr1 (hS.1 v _ hv)) (q0 := 0) rfl hc (fun comp c1 h1 h2 => by cases h1.symm.trans g1; cases h2.symm.trans g0; exact g2)
  have hva : v ≠ a := mne_oa hv hm
  have hD2 : va_D A [(a, .inl (D.1 8, (len, .inr (.inr (.inr (.inr f))))))] := ⟨fun i j p q hi hj _ => by (have := (List.getElem?_eq_some_iff.mp hi).1; have := (List.getElem?_eq_some_iff.mp hj).1; simp at *; omega), fun i q hi => by (cases i with | zero => cases hi; exact hS.2.1 a _ hm | succ i => simp at hi)⟩
  obtain ⟨cellV, v1, v2, ⟨kv, v3⟩, v4⟩ := hany
  obtain ⟨kA, comp, k1, k2, k3, -⟩ := (hK.2 2 _ rfl).2
  obtain ⟨kcomp, hkc, -⟩ := Vm.findClass_spec k3
  refine W.aast F.1 F.2.1 (hS.1 a _ hm) (fun q h => by cases h) (fun h => by cases h) k1 k2 rfl hkc ⟨fun q => hin (Or.inl q), by show _ < (arrV _ _ _).slots.size; rw [arrV_size]; exact Nat.not_le.mp (fun q => hin (Or.inr q))⟩ v1 (fun q h => by rw [h] at v2; cases v2) v3 (v4 comp k3) rfl rfl hd fun H1 e9 z oq => ?_
  refine kk H1 _ ls (hS.set hm ?_ z oq) hl
  show H1[a]? = some (vp_cell _ _)
  rw [e9, vp_cell_q, vp_cell_q, arrV_store, hcl]
  congr 2
  funext q
  by_cases hq : q = j
  · subst hq; simp [updV, va_up, va_rf]
  · simp [updV, va_up, hq]
theorem rg_alen (F : rF p l e R s m args below meth c cc nL own D A) {a len t : Nat} {cA : ClassId} {ty : FieldType} {x : (Nat → Int32) ⊕ (Nat → Int64) ⊕ (Nat → UInt32) ⊕ (Nat → UInt64) ⊕ (Nat → Option Nat)} (hm : M a = some (.inl (cA, (len, x)))) (ht : (rTy D)[t]? = some (cA, ty)) (hd : decode cc pc = .ok (.arraylength, 1)) (kk : rG p l e R s m args below meth c D A nL Q M k n lv (pc + 1) (.int (nI len) :: st)) : rG p l e R s m args below meth c D A nL Q M k n lv pc (.ref a :: st) := fun H locs ls hS hl =>
  va_alen (D := D) F.1 F.2.1 F.2.2.2.2.2.1 (rG_arr1 (hS.1 a _ hm)) 0 t rfl ht rfl hd (kk H locs ls hS hl)
/-- the empty array of ArrayList -/
theorem rg_alenT0 (F : rF p l e R s m args below meth c cc nL own D A) (hd : decode cc pc = .ok (.arraylength, 1)) (kk : rG p l e R s m args below meth c D A nL Q M k n lv (pc + 1) (.int (nI 0) :: st)) : rG p l e R s m args below meth c D A nL Q M k n lv pc (.ref (rT0 D) :: st) := fun H locs ls hS hl =>
  va_tlen F.1 F.2.1 F.2.2.2.2.2.2.2.1.1 hS.2.2 rfl hd (kk H locs ls hS hl)
theorem rg_getsT0 (F : rF p l e R s m args below meth c cc nL own D A) {i : Nat} (hw : Cond.fieldLink own i "java/util/ArrayList" "DEFAULTCAPACITY_EMPTY_ELEMENTDATA" "[Ljava/lang/Object;" ∈ wsL_law) (hd : decode cc pc = .ok (.getstatic i, 3)) (kk : rG p l e R s m args below meth c D A nL Q M k n lv (pc + 3) (.ref (rT0 D) :: st)) : rG p l e R s m args below meth c D A nL Q M k n lv pc st := fun H locs ls hS hl =>
  va_gets F.1 F.2.1 F.2.2.2.2.2.2.2.1.2.1 hS.2.2 F.2.2.2.1 (F.2.2.2.2.1 _ hw) (fun _ h => h) hd (kk H locs ls hS hl)
theorem rg_getsT1 (F : rF p l e R s m args below meth c cc nL own D A) {i : Nat} (hw : Cond.fieldLink own i "RhymeTaxModel" "FOOT" "[I" ∈ wsL_law) (hd : decode cc pc = .ok (.getstatic i, 3)) (kk : rG p l e R s m args below meth c D A nL Q M k n lv (pc + 3) (.ref (rT1 D) :: st)) : rG p l e R s m args below meth c D A nL Q M k n lv pc st := fun H locs ls hS hl =>
  va_gets F.1 F.2.1 F.2.2.2.2.2.2.2.1.2.2.2.2.2.1 hS.2.2 F.2.2.2.1 (F.2.2.2.2.1 _ hw) (fun _ h => h) hd (kk H locs ls hS hl)
theorem rg_getsT2 (F : rF p l e R s m args below meth c cc nL own D A) {i : Nat} (hw : Cond.fieldLink own i "RhymeTaxModel" "BEAT" "[I" ∈ wsL_law) (hd : decode cc pc = .ok (.getstatic i, 3)) (kk : rG p l e R s m args below meth c D A nL Q M k n lv (pc + 3) (.ref (rT2 D) :: st)) : rG p l e R s m args below meth c D A nL Q M k n lv pc st := fun H locs ls hS hl =>
  va_gets F.1 F.2.1 F.2.2.2.2.2.2.2.1.2.2.2.2.2.2.2.1 hS.2.2 F.2.2.2.1 (F.2.2.2.2.1 _ hw) (fun _ h => h) hd (kk H locs ls hS hl)
theorem rg_foot (F : rF p l e R s m args below meth c cc nL own D A) {j : Nat} (hj : j < 4) (hd : decode cc pc = .ok (.iaload, 1)) (kk : rG p l e R s m args below meth c D A nL Q M k n lv (pc + 1) (.int (nI (rFoot j)) :: st)) : rG p l e R s m args below meth c D A nL Q M k n lv pc (.int (nI j) :: .ref (rT1 D) :: st) := fun H locs ls hS hl =>
  va_ti F.1 F.2.1 F.2.2.2.2.2.2.2.1.2.2.2.2.1 hS.2.2 (vp_in_nI hj (by decide)) (by rw [nI_clamp (by omega)]) hd (kk H locs ls hS hl)
theorem rg_beat (F : rF p l e R s m args below meth c cc nL own D A) {j : Nat} (hj : j < 4) (hd : decode cc pc = .ok (.iaload, 1)) (kk : rG p l e R s m args below meth c D A nL Q M k n lv (pc + 1) (.int (nI (rBeat j)) :: st)) : rG p l e R s m args below meth c D A nL Q M k n lv pc (.int (nI j) :: .ref (rT2 D) :: st) := fun H locs ls hS hl =>
  va_ti F.1 F.2.1 F.2.2.2.2.2.2.2.1.2.2.2.2.2.2.1 hS.2.2 (vp_in_nI hj (by decide)) (by rw [nI_clamp (by omega)]) hd (kk H locs ls hS hl)
/-- new arrays, new objects -/
theorem rg_newI (F : rF p l e R s m args below meth c cc nL own D A) {N : Nat} (hN : N < 100000) (hcells : k + 1 ≤ R.cells) (hslots : n + N ≤ R.slots) (hw : Cond.arrayClass .int ∈ wsL_law) (hd : decode cc pc = .ok (.newarray .int, 2)) (kk : ∀ a : Nat, M a = none → rG p l e R s m args below meth c D A nL Q (mset M a (.inl (D.1 6, (N, .inl (fun _ => 0))))) (k + 1) (n + N) lv (pc + 2) (.ref a :: st)) : rG p l e R s m args below meth c D A nL Q M k n lv pc (.int (nI N) :: st) := by
  intro H locs ls hS hl
  refine va_newaK F.1 F.2.1 (atype := .int) (F.2.2.2.2.1 _ hw) rfl hd rfl (nI_pos (by omega)) (nI_clamp (by omega)) (by show N * 4 ≤ _; omega) hcells hslots rfl fun H1 cA e1 z1 o1 hAr hNm => ?_
  have hcA : cA = D.1 6 := Option.some.inj (hNm.symm.trans (F.2.2.2.2.2.1.2 0 _ rfl).2)
  subst hcA
  obtain ⟨h1, h2⟩ := hS.new (y := .inl (D.1 6, (N, .inl (fun _ => 0)))) F.2.2.2.2.2.2.1 (H1 := H1) e1 z1 o1
  exact kk _ h1 H1 locs ls h2 hl
theorem rg_newL (F : rF p l e R s m args below meth c cc nL own D A) {N : Nat} (hN : N < 10000) (hcells : k + 1 ≤ R.cells) (hslots : n + N ≤ R.slots) (hw : Cond.arrayClass .long ∈ wsL_law) (hd : decode cc pc = .ok (.newarray .long, 2)) (kk : ∀ a : Nat, M a = none → rG p l e R s m args below meth c D A nL Q (mset M a (.inl (D.1 7, (N, .inr (.inl (fun _ => 0)))))) (k + 1) (n + N) lv (pc + 2) (.ref a :: st)) : rG p l e R s m args below meth c D A nL Q M k n lv pc (.int (nI N) :: st) := by
  intro H locs ls hS hl
  refine va_newaK F.1 F.2.1 (atype := .long) (F.2.2.2.2.1 _ hw) rfl hd rfl (nI_pos (by omega)) (nI_clamp (by omega)) (by show N * 8 ≤ _; omega) hcells hslots rfl fun H1 cA e1 z1 o1 hAr hNm => ?_
  have hcA : cA = D.1 7 := Option.some.inj (hNm.symm.trans (F.2.2.2.2.2.1.2 1 _ rfl).2)
  subst hcA
  obtain ⟨h1, h2⟩ := hS.new (y := .inl (D.1 7, (N, .inr (.inl (fun _ => 0))))) F.2.2.2.2.2.2.1 (H1 := H1) e1 z1 o1
  exact kk _ h1 H1 locs ls h2 hl
theorem rg_newA (F : rF p l e R s m args below meth c cc nL own D A) {N i : Nat} (hN : N < 100000) (hcells : k + 1 ≤ R.cells) (hslots : n + N ≤ R.slots) (hw : Cond.classLink own i "java/lang/Object" ∈ wsL_law) (hover : Cond.arrayOver (.object "java/lang/Object") ∈ tables_1) (hd : decode cc pc = .ok (.anewarray i, 3)) (kk : ∀ a : Nat, M a = none → rG p l e R s m args below meth c D A nL Q (mset M a (.inl (D.1 8, (N, .inr (.inr (.inr (.inr (fun _ => none)))))))) (k + 1) (n + N) lv (pc + 3) (.ref a :: st)) : rG p l e R s m args below meth c D A nL Q M k n lv pc (.int (nI N) :: st) := by
  intro H locs ls hS hl
  have hcl : (nI N).toNatClampNeg = N := nI_clamp (by omega)
  have hov : va_AO "java/lang/Object" s := F.2.2.2.2.2.2.2.1.2.2.2.2.2.2.2.2.2.1 _ hover rfl
  refine W.anew F.1 F.2.1 F.2.2.2.1 (F.2.2.2.2.1 _ hw) (va_AO.use hov) rfl hd rfl (nI_pos (by omega)) (by rw [hcl]; omega) hcells (by rw [hcl]; exact hslots) fun cA kA comp f1 f2 f3 f4 => ?_
  have hcA : cA = D.1 8 := by
    obtain ⟨_, _, -, -, -, h4⟩ := (F.2.2.2.2.2.1.2 2 _ rfl).2
    exact Option.some.inj (f1.symm.trans h4)
  subst hcA
  rw [hcl]
  generalize hH1 : H.push ({ cls := D.1 8, slots := Array.replicate N .null, vm := .none } : Cell) = H1
  have z1 : H1.size = H.size + 1 := by rw [← hH1, Array.size_push]
  have e1 : H1[H.size]? = some (arrV (D.1 8) N (fun _ => .null)) := by rw [← hH1, Array.getElem?_push_size, ← arrV_new]
  have o1 : ∀ q : Nat, q < H.size → H1[q]? = H[q]? := fun q hq => by rw [← hH1, Array.getElem?_push, if_neg (Nat.ne_of_lt hq)]
  obtain ⟨h1, h2⟩ := hS.new (y := .inl (D.1 8, (N, .inr (.inr (.inr (.inr (fun _ => none))))))) F.2.2.2.2.2.2.1 (H1 := H1) e1 z1 o1
  exact kk _ h1 H1 locs ls h2 hl
theorem rg_new (F : rF p l e R s m args below meth c cc nL own D A) {C : String} {T : u_T} {N ci i : Nat} {fs : List Value} (hc : vwCl[ci]? = some (C, T, N)) (hin : ∀ w ∈ u_ws C T N, w ∈ wsL_law) (ty : Nat → FieldType) (hty : ∀ j, j < N → parseFieldDescriptor (T j).2.2.1 = some (ty j)) (hfs : ∀ j, j < N → defaultValue (ty j) = vp_V fs j) (hw : Cond.classLink own i C ∈ wsL_law) (hw2 : Cond.instantiable C N ∈ wsL_law) (hw3 : Cond.initialized C ∈ wsL_law) (hcells : k + 1 ≤ R.cells) (hslots : n + N ≤ R.slots) (hd : decode cc pc = .ok (.new i, 3)) (kk : ∀ a : Nat, M a = none → rG p l e R s m args below meth c D A nL Q (mset M a (.inr (ci, fs))) (k + 1) (n + N) lv (pc + 3) (.ref a :: st)) : rG p l e R s m args below meth c D A nL Q M k n lv pc st := by
  intro H locs ls hS hl
  have hK := F.2.2.2.2.2.1
  have hts : ∀ w ∈ u_ws C T N, w.before args s = true := fun w h => F.2.2.2.2.1 _ (hin w h)
  have hKn := hK.1 ci _ hc
  refine W.newcK F.1 F.2.1 F.2.2.2.1 (F.2.2.2.2.1 _ hw) (F.2.2.2.2.1 _ hw2) (F.2.2.2.2.1 _ hw3) rfl hd hcells hslots hKn.2.1 rfl fun H1 kC hkC e1 z1 o1 => ?_
  obtain ⟨h1, h2⟩ := hS.new (y := .inr (ci, fs)) F.2.2.2.2.2.2.1 (H1 := H1) ⟨_, hc, (u_born ty hts (fun w h => h) hKn hkC e1 hty).to hfs⟩ z1 o1
  exact kk _ h1 H1 locs ls h2 hl
theorem rg_cast (F : rF p l e R s m args below meth c cc nL own D A) {C : String} {T : u_T} {N ci i a : Nat} {fs : List Value} (hc : vwCl[ci]? = some (C, T, N)) (hm : M a = some (.inr (ci, fs))) (hw : Cond.classLink own i C ∈ wsL_law) (hd : decode cc pc = .ok (.checkcast i, 3)) (kk : rG p l e R s m args below meth c D A nL Q M k n lv (pc + 3) (.ref a :: st)) : rG p l e R s m args below meth c D A nL Q M k n lv pc (.ref a :: st) := fun H locs ls hS hl =>
  va_castS F.1 F.2.1 F.2.2.2.1 (F.2.2.2.2.1 _ hw) (F.2.2.2.2.2.1.1 ci _ hc).2 (va_recv F.2.2.2.2.2.1 (rG_arr1 (hS.1 a _ hm)) (q0 := 0) hc rfl) hd (kk H locs ls hS hl)
theorem rg_objInit (F : rF p l e R s m args below meth c cc nL own D A) {i a : Nat} (hw : Cond.methodLink own i objectInit ∈ wsL_law) (hw2 : Cond.instanceMethod objectInit ∈ wsL_law) (hw3 : Cond.code objectInit ⟨#[0xb1]⟩ 1 none ∈ wsL_law) (hd : decode cc pc = .ok (.invokespecial i, 3)) (hfr : 1 ≤ R.frames) (hlo : (st.map fun v => v.category).sum + 12 ≤ R.locals) (kk : rG p l e R s m args below meth c D A nL Q M k n lv (pc + 3) st) : rG p l e R s m args below meth c D A nL Q M k n lv pc (.ref a :: st) := fun H locs ls hS hl =>
  W.objInit F.1 F.2.1 F.2.2.2.1 (F.2.2.2.2.1 _ hw) (F.2.2.2.2.1 _ hw2) (F.2.2.2.2.1 _ hw3) rfl (by rw [F.2.2.1]; exact hl.2.1) rfl hd hfr (by have : 2 * (F0 m pc ls (.ref a :: st)).monitorRoom = 0 := rfl; rw [this]; omega) (W.eq (g2 := F0 m (pc + 3) ls st) rfl (kk H locs ls hS hl))
end RH
end
section
def wS (y : MethodName) (cc : ByteArray) (maxL : Nat) (ret : Option FieldType) : List Cond := Cond.code y cc maxL ret :: wsL_law
def cPre (D : va_G) (M : rMem) (sz : Nat) (av : List Value) : Array Value → State → Prop := va_Pc av (fun U => U.heap.size = sz ∧ rP D M U.heap ∧ va_K D vwCl (rTy D) U ∧ rStat D (fr M sz) U U.heap)
def cB (D : va_G) (A : Nat → Prop) (M' : rMem) (t : State) : Prop := rP D M' t.heap ∧ rI A M'
abbrev rR (lev mc ms : Nat) : Room := { frames := lev, cells := mc, slots := ms, locals := 32 * lev }
def CM (l : Launch) (D : va_G) (y : MethodName) (cc : ByteArray) (maxL : Nat) (ret : Option FieldType) (lev mc ms : Nat) (M : rMem) (av : List Value) (Qc : (Nat → Prop) → Array Value → State → Outcome → State → Prop) : Prop :=
  ∀ sz : Nat, Met l y (wS y cc maxL ret) (rR lev mc ms) (cPre D M sz av) (Qc (fr M sz)) mc ms (fr M sz)
abbrev CMi (l : Launch) (D : va_G) (y : MethodName) (cc : ByteArray) (maxL : Nat) (ret : Option FieldType) (lev mc ms : Nat) (M : rMem) (av : List Value) (post : Int32 → rMem → Prop) : Prop := CM l D y cc maxL ret lev mc ms M av (fun A => va_Qi post (cB D A) A)
abbrev CMl (l : Launch) (D : va_G) (y : MethodName) (cc : ByteArray) (maxL : Nat) (ret : Option FieldType) (lev mc ms : Nat) (M : rMem) (av : List Value) (post : Int64 → rMem → Prop) : Prop := CM l D y cc maxL ret lev mc ms M av (fun A => va_Ql post (cB D A) A)
abbrev CMd (l : Launch) (D : va_G) (y : MethodName) (cc : ByteArray) (maxL : Nat) (ret : Option FieldType) (lev mc ms : Nat) (M : rMem) (av : List Value) (post : UInt64 → rMem → Prop) : Prop := CM l D y cc maxL ret lev mc ms M av (fun A => va_Qd post (cB D A) A)
abbrev CMv (l : Launch) (D : va_G) (y : MethodName) (cc : ByteArray) (maxL : Nat) (lev mc ms : Nat) (M : rMem) (av : List Value) (post : rMem → Prop) : Prop := CM l D y cc maxL none lev mc ms M av (fun A => va_Qv post (cB D A) A)
abbrev CMq (l : Launch) (D : va_G) (y : MethodName) (cc : ByteArray) (maxL : Nat) (ret : Option FieldType) (lev mc ms : Nat) (M : rMem) (av : List Value) (post : Option Nat → rMem → Prop) : Prop := CM l D y cc maxL ret lev mc ms M av (fun A => va_Qq post (cB D A) A)
theorem cPre_blind {D : va_G} {M : rMem} {sz : Nat} {av : List Value} : FrameBlind (cPre D M sz av) := fun a U g mk h => ⟨h.1, h.2.1, h.2.2.1, va_K.moved (u := U) (U := U.calling g mk a) (Vm.Alike.refl U.vm) h.2.2.2.1, rStat.moved (u := U) (U := U.calling g mk a) (State.WarmedH.refl U) h.2.2.2.2⟩
/-- a method's body, from its entry -/
theorem rM {l : Launch} {D : va_G} {y : MethodName} {cc : ByteArray} {maxL : Nat} {ret : Option FieldType} {lev mc ms : Nat} {M : rMem} {av : List Value} {Qc : (Nat → Prop) → Array Value → State → Outcome → State → Prop} {lv0 : List (Option Value)}
    (hy : plainName y.cls = true) (hl0 : lvA lv0 = lv_args 0 av) (hn0 : lv0.length = maxL) (hsl : (lg_sl av).length ≤ maxL)
    (body : ∀ (p : Program) (e : Env) (s : State) (m : MethodId) (args : Array Value) (below : List Frame) (meth : Method) (c : Code) (A : Nat → Prop), rF p l e (rR lev mc ms) s m args below meth c cc maxL y.cls D A → meth.sig.returnType = ret → meth.name = y.name → rG p l e (rR lev mc ms) s m args below meth c D A maxL (MQ below (Qc A) args s mc ms A) M 0 0 lv0 0 []) : CM l D y cc maxL ret lev mc ms M av Qc := by
  intro sz
  refine Met.ofW (cc := cc) (maxL := maxL) (ret := ret) hy rfl ?_
  intro p e s m args below meth c s₁ B hml hv
  obtain ⟨rfl, hsz, hP, hK, hSt⟩ := hv
  subst hsz
  have F : rF p l e (rR lev mc ms) s m av.toArray below meth c cc maxL y.cls D (fr M s.heap.size) := ⟨B.exec, B.bytes, hml, findClass_of_methodNamed B.named, fun w h => atoms_spec (ws := wS y cc maxL ret) B.pre w (List.mem_cons_of_mem _ h), hK, fun q h => Or.inr h, hSt, B.notSynchronized⟩
  have h := body p e s m av.toArray below meth c _ F B.returns (name_of_methodNamed B.named B.method).1
  have hl := lv_entry av hsl
  rw [lg_entry_eq]
  exact h s.heap [] _ ⟨hP, fun a x hx => Or.inl ⟨x, hx⟩, va_S.rf⟩ ⟨hn0, by rw [hl0]; exact hl⟩
section RC
variable {p : Program} {l : Launch} {e : Env} {R : Room} {s : State} {m : MethodId} {args : Array Value} {below : List Frame} {meth : Method} {c : Code} {cc : ByteArray} {nL : Nat} {own : String} {D : va_G} {A : Nat → Prop} {Q : State → Prop} {M : rMem} {k n pc : Nat} {lv lv' : List (Option Value)} {st : List Value} {mc ms : Nat}
theorem rg_getN (F : rF p l e R s m args below meth c cc nL own D A) {ref C host : String} {T : u_T} {N ci i a : Nat} {fs : List Value} {v : Value} (hc : vwCl[ci]? = some (C, T, N)) (hin : ∀ w ∈ u_ws C T N, w ∈ wsL_law) (hm : M a = some (.inr (ci, fs))) (j : Nat) (hj : j < N) (hw : Cond.fieldLinkNest own i ref (T j).2.1 (T j).2.2.1 host ∈ tables_1) (hsame : ∀ x, s.fieldFound? (T j).1 (T j).2.1 (T j).2.2.1 = some x → s.fieldFound? ref (T j).2.1 (T j).2.2.1 = some x) (hv : fs[j]? = some v) (hd : decode cc pc = .ok (.getfield i, 3)) (kk : rG p l e R s m args below meth c D A nL Q M k n lv (pc + 3) (v :: st)) : rG p l e R s m args below meth c D A nL Q M k n lv pc (.ref a :: st) := fun H locs ls hS hl =>
  va_getN (D := D) (ws := [(a, .inr (ci, fs))]) F.1 F.2.1 F.2.2.2.2.1 hin F.2.2.2.1 F.2.2.2.2.2.1 (rG_arr1 (hS.1 a _ hm)) 0 rfl hc j hj (va_Nw.use rfl (F.2.2.2.2.2.2.2.1.2.2.2.2.2.2.2.2.2.1 _ hw rfl)) hsame hv hd (kk H locs ls hS hl)
theorem rg_iret (F : rF p l e R s m args below meth c cc nL own D A) {post : Int32 → rMem → Prop} {v : Int32} (hr : meth.sig.returnType = some .int) (hk : k ≤ mc) (hn : n ≤ ms) (hd : decode cc pc = .ok (.ireturn, 1)) (hp : post v M) : rG p l e R s m args below meth c D A nL (MQ below (va_Qi post (cB D A) A) args s mc ms A) M k n lv pc [.int v] := fun H locs ls hS hl =>
  W.widen hk hn (W.iret F.1 F.2.1 hr (fun t ht hW => ⟨⟨v, M, rfl, hp, by rw [cB, ht]; exact ⟨hS.1, hS.2.1⟩⟩, hS.2.2.F ht⟩) hS.2.2.2.2 hd F.2.2.2.2.2.2.2.2)
theorem rg_zret (F : rF p l e R s m args below meth c cc nL own D A) {post : Int32 → rMem → Prop} {v : Int32} (hz : narrow .boolean (.int v) = .int v) (hr : meth.sig.returnType = some .boolean) (hk : k ≤ mc) (hn : n ≤ ms) (hd : decode cc pc = .ok (.ireturn, 1)) (hp : post v M) : rG p l e R s m args below meth c D A nL (MQ below (va_Qi post (cB D A) A) args s mc ms A) M k n lv pc [.int v] := fun H locs ls hS hl =>
  W.widen hk hn (W.zret F.1 F.2.1 hr hz (fun t ht hW => ⟨⟨v, M, rfl, hp, by rw [cB, ht]; exact ⟨hS.1, hS.2.1⟩⟩, hS.2.2.F ht⟩) hS.2.2.2.2 hd F.2.2.2.2.2.2.2.2)
theorem rg_lret (F : rF p l e R s m args below meth c cc nL own D A) {post : Int64 → rMem → Prop} {v : Int64} (hr : meth.sig.returnType = some .long) (hk : k ≤ mc) (hn : n ≤ ms) (hd : decode cc pc = .ok (.lreturn, 1)) (hp : post v M) : rG p l e R s m args below meth c D A nL (MQ below (va_Ql post (cB D A) A) args s mc ms A) M k n lv pc [.long v] := fun H locs ls hS hl =>
  W.widen hk hn (W.lret F.1 F.2.1 hr (fun t ht hW => ⟨⟨v, M, rfl, hp, by rw [cB, ht]; exact ⟨hS.1, hS.2.1⟩⟩, hS.2.2.F ht⟩) hS.2.2.2.2 hd F.2.2.2.2.2.2.2.2)
theorem rg_dret (F : rF p l e R s m args below meth c cc nL own D A) {post : UInt64 → rMem → Prop} {v : UInt64} (hr : meth.sig.returnType = some .double) (hk : k ≤ mc) (hn : n ≤ ms) (hd : decode cc pc = .ok (.dreturn, 1)) (hp : post v M) : rG p l e R s m args below meth c D A nL (MQ below (va_Qd post (cB D A) A) args s mc ms A) M k n lv pc [.double v] := fun H locs ls hS hl =>
  W.widen hk hn (W.dret F.1 F.2.1 hr (fun t ht hW => ⟨⟨v, M, rfl, hp, by rw [cB, ht]; exact ⟨hS.1, hS.2.1⟩⟩, hS.2.2.F ht⟩) hS.2.2.2.2 hd F.2.2.2.2.2.2.2.2)
theorem rg_vret (F : rF p l e R s m args below meth c cc nL own D A) {post : rMem → Prop} (hr : meth.sig.returnType = none) (hk : k ≤ mc) (hn : n ≤ ms) (hd : decode cc pc = .ok (.return_, 1)) (hp : post M) : rG p l e R s m args below meth c D A nL (MQ below (va_Qv post (cB D A) A) args s mc ms A) M k n lv pc [] := fun H locs ls hS hl =>
  W.widen hk hn (W.vret F.1 F.2.1 hr (fun t ht hW => ⟨⟨M, rfl, hp, by rw [cB, ht]; exact ⟨hS.1, hS.2.1⟩⟩, hS.2.2.F ht⟩) hS.2.2.2.2 hd F.2.2.2.2.2.2.2.2)
theorem rg_aret (F : rF p l e R s m args below meth c cc nL own D A) {post : Option Nat → rMem → Prop} {rt : FieldType} (r : Option Nat) {v : Value} (hv : v = va_rf r) (hr : meth.sig.returnType = some rt) (hrt : (∃ n, rt = .object n) ∨ ∃ t, rt = .array t) (hk : k ≤ mc) (hn : n ≤ ms) (hd : decode cc pc = .ok (.areturn, 1)) (hp : post r M) : rG p l e R s m args below meth c D A nL (MQ below (va_Qq post (cB D A) A) args s mc ms A) M k n lv pc [v] := fun H locs ls hS hl => by
  subst hv
  exact W.widen hk hn (W.aret F.1 F.2.1 hr hrt (by cases r with | none => exact Or.inl rfl | some a => exact Or.inr ⟨a, rfl⟩) (fun t ht hW => ⟨⟨r, M, rfl, hp, by rw [cB, ht]; exact ⟨hS.1, hS.2.1⟩⟩, hS.2.2.F ht⟩) hS.2.2.2.2 hd F.2.2.2.2.2.2.2.2)
theorem rC_pre (F : rF p l e R s m args below meth c cc nL own D A) {H : Heap} {locs : List Loc} (hS : rS D A s M H locs) (av : List Value) (U : State) (hU : U.heap = H) (hW : s.WarmedH U.vm) : cPre D M H.size av av.toArray U := by
  refine ⟨rfl, by rw [hU], by rw [hU]; exact hS.1, va_K.moved hW.alike F.2.2.2.2.2.1, ?_⟩
  rw [hU]
  have h1 : rStat D A s H := F.2.2.2.2.2.2.2.1.kept (fun a h1 h2 => hS.2.2.2.1 a h1 h2)
  refine (rStat.moved hW h1).narrow (fun q hq => ?_)
  rcases hq with ⟨x, hx⟩ | hq
  · exact hS.2.1 q x hx
  · exact F.2.2.2.2.2.2.1 q (Nat.le_trans hS.2.2.1 hq)
theorem rC_fr (F : rF p l e R s m args below meth c cc nL own D A) {H : Heap} {locs : List Loc} (hS : rS D A s M H locs) (q : Nat) (hq : fr M H.size q) : A q := by
  rcases hq with ⟨x, hx⟩ | hq
  · exact hS.2.1 q x hx
  · exact F.2.2.2.2.2.2.1 q (Nat.le_trans hS.2.2.1 hq)
theorem rC_post (F : rF p l e R s m args below meth c cc nL own D A) {H H1 : Heap} {locs locs1 : List Loc} {M1 : rMem} {t : State} (hS : rS D A s M H locs) (hB : cB D (fr M H.size) M1 t) (ht : t.heap = H1) (hS1 : va_S A s.heap H1 locs1) : rS D A s M1 H1 locs1 :=
  ⟨by rw [← ht]; exact hB.1, fun a x hx => rC_fr F hS a (hB.2 a x hx), hS1⟩
def rOk (y : MethodName) (n : Nat) : Prop := y.cls ≠ "java/lang/invoke/MethodHandle" ∧ y.cls ≠ "java/lang/invoke/VarHandle" ∧ (parseMethodDescriptor y.desc).map (fun d => d.parameters.length) = some n
def rVq (y : MethodName) (cc : ByteArray) (maxL : Nat) (ret : Option FieldType) (n : Nat) : Prop := Cond.instanceMethod y ∈ wsL_law ∧ Cond.selects y.cls y y ∈ wsL_law ∧ Cond.initialized y.cls ∈ wsL_law ∧ Cond.code y cc maxL ret ∈ wsL_law ∧ rOk y n
def rSq (y : MethodName) (cc : ByteArray) (maxL : Nat) (ret : Option FieldType) (n : Nat) : Prop := Cond.static y ∈ wsL_law ∧ Cond.initialized y.cls ∈ wsL_law ∧ Cond.code y cc maxL ret ∈ wsL_law ∧ rOk y n
def rIq (y : MethodName) (cc : ByteArray) (maxL : Nat) (n : Nat) : Prop := Cond.instanceMethod y ∈ wsL_law ∧ Cond.initialized y.cls ∈ wsL_law ∧ Cond.code y cc maxL none ∈ wsL_law ∧ y.name = "<init>" ∧ rOk y n
theorem rGS {y : MethodName} {cc : ByteArray} {maxL : Nat} {ret : Option FieldType} {i : Nat} (h1 : Cond.methodLink own i y ∈ wsL_law) (n : Nat) (h : rSq y cc maxL ret n) : GoodIn wsL_law (va_wsS own i y (wS y cc maxL ret)) := by
  intro w hw
  have hm : w ∈ wsL_law := by
    simp only [va_wsS, wS, List.mem_append, List.mem_cons, List.not_mem_nil, or_false] at hw
    rcases hw with (rfl | rfl | rfl) | rfl | hw
    · exact h1
    · exact h.1
    · exact h.2.1
    · exact h.2.2.1
    · exact hw
  exact wsL_gi w hm
theorem rGV {y : MethodName} {cc : ByteArray} {maxL : Nat} {ret : Option FieldType} {i : Nat} (h1 : Cond.methodLink own i y ∈ wsL_law) (n : Nat) (h : rVq y cc maxL ret n) : GoodIn wsL_law (wsV own i y.cls y (wS y cc maxL ret)) := by
  intro w hw
  have hm : w ∈ wsL_law := by
    simp only [wsV, wS, List.mem_append, List.mem_cons, List.not_mem_nil, or_false] at hw
    rcases hw with (rfl | rfl | rfl | rfl) | rfl | hw
    · exact h1
    · exact h.1
    · exact h.2.1
    · exact h.2.2.1
    · exact h.2.2.2.1
    · exact hw
  exact wsL_gi w hm
theorem rGI {y : MethodName} {cc : ByteArray} {maxL : Nat} {ret : Option FieldType} (h1 : Cond.code y cc maxL ret ∈ wsL_law) : GoodIn wsL_law (wS y cc maxL ret) := by
  intro w hw
  rcases List.mem_cons.mp hw with rfl | hw
  · exact wsL_gi _ h1
  · exact wsL_gi w hw
theorem rg_callVi (F : rF p l e R s m args below meth c cc nL own D A) {y : MethodName} {cc2 : ByteArray} {maxL lev mc2 ms2 i np : Nat} {ret : Option FieldType} {post : Int32 → rMem → Prop} {b ci N : Nat} {T : u_T} {fs : List Value} {As rest : List Value} (hM : CMi l D y cc2 maxL ret lev mc2 ms2 M (.ref b :: As) post) (hw : Cond.methodLink own i y ∈ wsL_law) (hq : rVq y cc2 maxL ret np) (hrc : vwCl[ci]? = some (y.cls, T, N)) (hrm : M b = some (.inr (ci, fs))) (hn : As.length = np) (hst : st = As.reverse ++ .ref b :: rest) (hcat : (rest.map fun v => v.category).sum ≤ 8) (hlev : lev + 1 ≤ R.frames) (hloc : 8 + (maxL + 11) + 32 * lev ≤ R.locals) (hcs : k + mc2 ≤ R.cells ∧ n + ms2 ≤ R.slots) (hd : decode cc pc = .ok (.invokevirtual i, 3)) (kk : ∀ (r : Int32) (M1 : rMem), post r M1 → rG p l e R s m args below meth c D A nL Q M1 (k + mc2) (n + ms2) lv (pc + 3) (.int r :: rest)) : rG p l e R s m args below meth c D A nL Q M k n lv pc st := by
  subst hst
  intro H locs ls hS hl
  exact va_calli (va_runV (As := As) (rest := rest) ⟨F.1, F.2.1, F.2.2.1, F.2.2.2.1, F.2.2.2.2.1⟩ (hM H.size) (cwV (own := own) np F.2.2.2.2.1 (rGV hw np hq) rfl rfl rfl ⟨rfl, hq.2.2.2.2⟩ ⟨hlev, by show 8 + (maxL + 11) + 32 * lev ≤ R.locals; exact hloc⟩) ⟨cPre_blind, va_recv F.2.2.2.2.2.1 (rG_arr1 (hS.1 b _ hrm)) (q0 := 0) hrc rfl, rC_pre F hS _⟩ rfl hn hl.2.1 rfl (lv_room hcat) hd hcs) hS.2.2 (fun q _ h => rC_fr F hS q h) (fun q h => rC_fr F hS q h) (fun r u t H1 locs1 ht hvm hp hB hz hk hS1 => kk r u hp H1 locs1 ls (rC_post F hS hB ht hS1) hl)
theorem rg_callVl (F : rF p l e R s m args below meth c cc nL own D A) {y : MethodName} {cc2 : ByteArray} {maxL lev mc2 ms2 i np : Nat} {ret : Option FieldType} {post : Int64 → rMem → Prop} {b ci N : Nat} {T : u_T} {fs : List Value} {As rest : List Value} (hM : CMl l D y cc2 maxL ret lev mc2 ms2 M (.ref b :: As) post) (hw : Cond.methodLink own i y ∈ wsL_law) (hq : rVq y cc2 maxL ret np) (hrc : vwCl[ci]? = some (y.cls, T, N)) (hrm : M b = some (.inr (ci, fs))) (hn : As.length = np) (hst : st = As.reverse ++ .ref b :: rest) (hcat : (rest.map fun v => v.category).sum ≤ 8) (hlev : lev + 1 ≤ R.frames) (hloc : 8 + (maxL + 11) + 32 * lev ≤ R.locals) (hcs : k + mc2 ≤ R.cells ∧ n + ms2 ≤ R.slots) (hd : decode cc pc = .ok (.invokevirtual i, 3)) (kk : ∀ (r : Int64) (M1 : rMem), post r M1 → rG p l e R s m args below meth c D A nL Q M1 (k + mc2) (n + ms2) lv (pc + 3) (.long r :: rest)) : rG p l e R s m args below meth c D A nL Q M k n lv pc st := by
  subst hst
  intro H locs ls hS hl
  exact va_calll (va_runV (As := As) (rest := rest) ⟨F.1, F.2.1, F.2.2.1, F.2.2.2.1, F.2.2.2.2.1⟩ (hM H.size) (cwV (own := own) np F.2.2.2.2.1 (rGV hw np hq) rfl rfl rfl ⟨rfl, hq.2.2.2.2⟩ ⟨hlev, by show 8 + (maxL + 11) + 32 * lev ≤ R.locals; exact hloc⟩) ⟨cPre_blind, va_recv F.2.2.2.2.2.1 (rG_arr1 (hS.1 b _ hrm)) (q0 := 0) hrc rfl, rC_pre F hS _⟩ rfl hn hl.2.1 rfl (lv_room hcat) hd hcs) hS.2.2 (fun q _ h => rC_fr F hS q h) (fun q h => rC_fr F hS q h) (fun r u t H1 locs1 ht hvm hp hB hz hk hS1 => kk r u hp H1 locs1 ls (rC_post F hS hB ht hS1) hl)
theorem rg_callVd (F : rF p l e R s m args below meth c cc nL own D A) {y : MethodName} {cc2 : ByteArray} {maxL lev mc2 ms2 i np : Nat} {ret : Option FieldType} {post : UInt64 → rMem → Prop} {b ci N : Nat} {T : u_T} {fs : List Value} {As rest : List Value} (hM : CMd l D y cc2 maxL ret lev mc2 ms2 M (.ref b :: As) post) (hw : Cond.methodLink own i y ∈ wsL_law) (hq : rVq y cc2 maxL ret np) (hrc : vwCl[ci]? = some (y.cls, T, N)) (hrm : M b = some (.inr (ci, fs))) (hn : As.length = np) (hst : st = As.reverse ++ .ref b :: rest) (hcat : (rest.map fun v => v.category).sum ≤ 8) (hlev : lev + 1 ≤ R.frames) (hloc : 8 + (maxL + 11) + 32 * lev ≤ R.locals) (hcs : k + mc2 ≤ R.cells ∧ n + ms2 ≤ R.slots) (hd : decode cc pc = .ok (.invokevirtual i, 3)) (kk : ∀ (r : UInt64) (M1 : rMem), post r M1 → rG p l e R s m args below meth c D A nL Q M1 (k + mc2) (n + ms2) lv (pc + 3) (.double r :: rest)) : rG p l e R s m args below meth c D A nL Q M k n lv pc st := by
  subst hst
  intro H locs ls hS hl
  exact va_calld (va_runV (As := As) (rest := rest) ⟨F.1, F.2.1, F.2.2.1, F.2.2.2.1, F.2.2.2.2.1⟩ (hM H.size) (cwV (own := own) np F.2.2.2.2.1 (rGV hw np hq) rfl rfl rfl ⟨rfl, hq.2.2.2.2⟩ ⟨hlev, by show 8 + (maxL + 11) + 32 * lev ≤ R.locals; exact hloc⟩) ⟨cPre_blind, va_recv F.2.2.2.2.2.1 (rG_arr1 (hS.1 b _ hrm)) (q0 := 0) hrc rfl, rC_pre F hS _⟩ rfl hn hl.2.1 rfl (lv_room hcat) hd hcs) hS.2.2 (fun q _ h => rC_fr F hS q h) (fun q h => rC_fr F hS q h) (fun r u t H1 locs1 ht hvm hp hB hz hk hS1 => kk r u hp H1 locs1 ls (rC_post F hS hB ht hS1) hl)
theorem rg_callVv (F : rF p l e R s m args below meth c cc nL own D A) {y : MethodName} {cc2 : ByteArray} {maxL lev mc2 ms2 i np : Nat} {post : rMem → Prop} {b ci N : Nat} {T : u_T} {fs : List Value} {As rest : List Value} (hM : CMv l D y cc2 maxL lev mc2 ms2 M (.ref b :: As) post) (hw : Cond.methodLink own i y ∈ wsL_law) (hq : rVq y cc2 maxL none np) (hrc : vwCl[ci]? = some (y.cls, T, N)) (hrm : M b = some (.inr (ci, fs))) (hn : As.length = np) (hst : st = As.reverse ++ .ref b :: rest) (hcat : (rest.map fun v => v.category).sum ≤ 8) (hlev : lev + 1 ≤ R.frames) (hloc : 8 + (maxL + 11) + 32 * lev ≤ R.locals) (hcs : k + mc2 ≤ R.cells ∧ n + ms2 ≤ R.slots) (hd : decode cc pc = .ok (.invokevirtual i, 3)) (kk : ∀ M1 : rMem, post M1 → rG p l e R s m args below meth c D A nL Q M1 (k + mc2) (n + ms2) lv (pc + 3) rest) : rG p l e R s m args below meth c D A nL Q M k n lv pc st := by
  subst hst
  intro H locs ls hS hl
  exact va_callv (va_runV (As := As) (rest := rest) ⟨F.1, F.2.1, F.2.2.1, F.2.2.2.1, F.2.2.2.2.1⟩ (hM H.size) (cwV (own := own) np F.2.2.2.2.1 (rGV hw np hq) rfl rfl rfl ⟨rfl, hq.2.2.2.2⟩ ⟨hlev, by show 8 + (maxL + 11) + 32 * lev ≤ R.locals; exact hloc⟩) ⟨cPre_blind, va_recv F.2.2.2.2.2.1 (rG_arr1 (hS.1 b _ hrm)) (q0 := 0) hrc rfl, rC_pre F hS _⟩ rfl hn hl.2.1 rfl (lv_room hcat) hd hcs) hS.2.2 (fun q _ h => rC_fr F hS q h) (fun q h => rC_fr F hS q h) (fun u t H1 locs1 ht hvm hp hB hz hk hS1 => kk u hp H1 locs1 ls (rC_post F hS hB ht hS1) hl)
theorem rg_callVq (F : rF p l e R s m args below meth c cc nL own D A) {y : MethodName} {cc2 : ByteArray} {maxL lev mc2 ms2 i np : Nat} {ret : Option FieldType} {post : Option Nat → rMem → Prop} {b ci N : Nat} {T : u_T} {fs : List Value} {As rest : List Value} (hM : CMq l D y cc2 maxL ret lev mc2 ms2 M (.ref b :: As) post) (hw : Cond.methodLink own i y ∈ wsL_law) (hq : rVq y cc2 maxL ret np) (hrc : vwCl[ci]? = some (y.cls, T, N)) (hrm : M b = some (.inr (ci, fs))) (hn : As.length = np) (hst : st = As.reverse ++ .ref b :: rest) (hcat : (rest.map fun v => v.category).sum ≤ 8) (hlev : lev + 1 ≤ R.frames) (hloc : 8 + (maxL + 11) + 32 * lev ≤ R.locals) (hcs : k + mc2 ≤ R.cells ∧ n + ms2 ≤ R.slots) (hd : decode cc pc = .ok (.invokevirtual i, 3)) (kk : ∀ (r : Option Nat) (M1 : rMem), post r M1 → rG p l e R s m args below meth c D A nL Q M1 (k + mc2) (n + ms2) lv (pc + 3) (va_rf r :: rest)) : rG p l e R s m args below meth c D A nL Q M k n lv pc st := by
  subst hst
  intro H locs ls hS hl
  exact va_callq (va_runV (As := As) (rest := rest) ⟨F.1, F.2.1, F.2.2.1, F.2.2.2.1, F.2.2.2.2.1⟩ (hM H.size) (cwV (own := own) np F.2.2.2.2.1 (rGV hw np hq) rfl rfl rfl ⟨rfl, hq.2.2.2.2⟩ ⟨hlev, by show 8 + (maxL + 11) + 32 * lev ≤ R.locals; exact hloc⟩) ⟨cPre_blind, va_recv F.2.2.2.2.2.1 (rG_arr1 (hS.1 b _ hrm)) (q0 := 0) hrc rfl, rC_pre F hS _⟩ rfl hn hl.2.1 rfl (lv_room hcat) hd hcs) hS.2.2 (fun q _ h => rC_fr F hS q h) (fun q h => rC_fr F hS q h) (fun r u t H1 locs1 ht hvm hp hB hz hk hS1 => kk r u hp H1 locs1 ls (rC_post F hS hB ht hS1) hl)
theorem rg_callSi (F : rF p l e R s m args below meth c cc nL own D A) {y : MethodName} {cc2 : ByteArray} {maxL lev mc2 ms2 i np : Nat} {ret : Option FieldType} {post : Int32 → rMem → Prop} {As rest : List Value} (hM : CMi l D y cc2 maxL ret lev mc2 ms2 M As post) (hw : Cond.methodLink own i y ∈ wsL_law) (hq : rSq y cc2 maxL ret np) (hn : As.length = np) (hst : st = As.reverse ++ rest) (hcat : (rest.map fun v => v.category).sum ≤ 8) (hlev : lev + 1 ≤ R.frames) (hloc : 8 + (maxL + 11) + 32 * lev ≤ R.locals) (hcs : k + mc2 ≤ R.cells ∧ n + ms2 ≤ R.slots) (hd : decode cc pc = .ok (.invokestatic i, 3)) (kk : ∀ (r : Int32) (M1 : rMem), post r M1 → rG p l e R s m args below meth c D A nL Q M1 (k + mc2) (n + ms2) lv (pc + 3) (.int r :: rest)) : rG p l e R s m args below meth c D A nL Q M k n lv pc st := by
  subst hst
  intro H locs ls hS hl
  exact va_calli (va_runS (As := As) (rest := rest) ⟨F.1, F.2.1, F.2.2.1, F.2.2.2.1, F.2.2.2.2.1⟩ (hM H.size) (va_cwS (own := own) np F.2.2.2.2.1 (rGS hw np hq) rfl rfl rfl hq.2.2.2 ⟨hlev, by show 8 + (maxL + 11) + 32 * lev ≤ R.locals; exact hloc⟩) ⟨cPre_blind, rC_pre F hS _⟩ rfl hn hl.2.1 rfl (lv_room hcat) hd hcs) hS.2.2 (fun q _ h => rC_fr F hS q h) (fun q h => rC_fr F hS q h) (fun r u t H1 locs1 ht hvm hp hB hz hk hS1 => kk r u hp H1 locs1 ls (rC_post F hS hB ht hS1) hl)
theorem rg_callSl (F : rF p l e R s m args below meth c cc nL own D A) {y : MethodName} {cc2 : ByteArray} {maxL lev mc2 ms2 i np : Nat} {ret : Option FieldType} {post : Int64 → rMem → Prop} {As rest : List Value} (hM : CMl l D y cc2 maxL ret lev mc2 ms2 M As post) (hw : Cond.methodLink own i y ∈ wsL_law) (hq : rSq y cc2 maxL ret np) (hn : As.length = np) (hst : st = As.reverse ++ rest) (hcat : (rest.map fun v => v.category).sum ≤ 8) (hlev : lev + 1 ≤ R.frames) (hloc : 8 + (maxL + 11) + 32 * lev ≤ R.locals) (hcs : k + mc2 ≤ R.cells ∧ n + ms2 ≤ R.slots) (hd : decode cc pc = .ok (.invokestatic i, 3)) (kk : ∀ (r : Int64) (M1 : rMem), post r M1 → rG p l e R s m args below meth c D A nL Q M1 (k + mc2) (n + ms2) lv (pc + 3) (.long r :: rest)) : rG p l e R s m args below meth c D A nL Q M k n lv pc st := by
  subst hst
  intro H locs ls hS hl
  exact va_calll (va_runS (As := As) (rest := rest) ⟨F.1, F.2.1, F.2.2.1, F.2.2.2.1, F.2.2.2.2.1⟩ (hM H.size) (va_cwS (own := own) np F.2.2.2.2.1 (rGS hw np hq) rfl rfl rfl hq.2.2.2 ⟨hlev, by show 8 + (maxL + 11) + 32 * lev ≤ R.locals; exact hloc⟩) ⟨cPre_blind, rC_pre F hS _⟩ rfl hn hl.2.1 rfl (lv_room hcat) hd hcs) hS.2.2 (fun q _ h => rC_fr F hS q h) (fun q h => rC_fr F hS q h) (fun r u t H1 locs1 ht hvm hp hB hz hk hS1 => kk r u hp H1 locs1 ls (rC_post F hS hB ht hS1) hl)
theorem rg_callSd (F : rF p l e R s m args below meth c cc nL own D A) {y : MethodName} {cc2 : ByteArray} {maxL lev mc2 ms2 i np : Nat} {ret : Option FieldType} {post : UInt64 → rMem → Prop} {As rest : List Value} (hM : CMd l D y cc2 maxL ret lev mc2 ms2 M As post) (hw : Cond.methodLink own i y ∈ wsL_law) (hq : rSq y cc2 maxL ret np) (hn : As.length = np) (hst : st = As.reverse ++ rest) (hcat : (rest.map fun v => v.category).sum ≤ 8) (hlev : lev + 1 ≤ R.frames) (hloc : 8 + (maxL + 11) + 32 * lev ≤ R.locals) (hcs : k + mc2 ≤ R.cells ∧ n + ms2 ≤ R.slots) (hd : decode cc pc = .ok (.invokestatic i, 3)) (kk : ∀ (r : UInt64) (M1 : rMem), post r M1 → rG p l e R s m args below meth c D A nL Q M1 (k + mc2) (n + ms2) lv (pc + 3) (.double r :: rest)) : rG p l e R s m args below meth c D A nL Q M k n lv pc st := by
  subst hst
  intro H locs ls hS hl
  exact va_calld (va_runS (As := As) (rest := rest) ⟨F.1, F.2.1, F.2.2.1, F.2.2.2.1, F.2.2.2.2.1⟩ (hM H.size) (va_cwS (own := own) np F.2.2.2.2.1 (rGS hw np hq) rfl rfl rfl hq.2.2.2 ⟨hlev, by show 8 + (maxL + 11) + 32 * lev ≤ R.locals; exact hloc⟩) ⟨cPre_blind, rC_pre F hS _⟩ rfl hn hl.2.1 rfl (lv_room hcat) hd hcs) hS.2.2 (fun q _ h => rC_fr F hS q h) (fun q h => rC_fr F hS q h) (fun r u t H1 locs1 ht hvm hp hB hz hk hS1 => kk r u hp H1 locs1 ls (rC_post F hS hB ht hS1) hl)
theorem rg_callSv (F : rF p l e R s m args below meth c cc nL own D A) {y : MethodName} {cc2 : ByteArray} {maxL lev mc2 ms2 i np : Nat} {post : rMem → Prop} {As rest : List Value} (hM : CMv l D y cc2 maxL lev mc2 ms2 M As post) (hw : Cond.methodLink own i y ∈ wsL_law) (hq : rSq y cc2 maxL none np) (hn : As.length = np) (hst : st = As.reverse ++ rest) (hcat : (rest.map fun v => v.category).sum ≤ 8) (hlev : lev + 1 ≤ R.frames) (hloc : 8 + (maxL + 11) + 32 * lev ≤ R.locals) (hcs : k + mc2 ≤ R.cells ∧ n + ms2 ≤ R.slots) (hd : decode cc pc = .ok (.invokestatic i, 3)) (kk : ∀ M1 : rMem, post M1 → rG p l e R s m args below meth c D A nL Q M1 (k + mc2) (n + ms2) lv (pc + 3) rest) : rG p l e R s m args below meth c D A nL Q M k n lv pc st := by
  subst hst
  intro H locs ls hS hl
  exact va_callv (va_runS (As := As) (rest := rest) ⟨F.1, F.2.1, F.2.2.1, F.2.2.2.1, F.2.2.2.2.1⟩ (hM H.size) (va_cwS (own := own) np F.2.2.2.2.1 (rGS hw np hq) rfl rfl rfl hq.2.2.2 ⟨hlev, by show 8 + (maxL + 11) + 32 * lev ≤ R.locals; exact hloc⟩) ⟨cPre_blind, rC_pre F hS _⟩ rfl hn hl.2.1 rfl (lv_room hcat) hd hcs) hS.2.2 (fun q _ h => rC_fr F hS q h) (fun q h => rC_fr F hS q h) (fun u t H1 locs1 ht hvm hp hB hz hk hS1 => kk u hp H1 locs1 ls (rC_post F hS hB ht hS1) hl)
theorem rg_callSq (F : rF p l e R s m args below meth c cc nL own D A) {y : MethodName} {cc2 : ByteArray} {maxL lev mc2 ms2 i np : Nat} {ret : Option FieldType} {post : Option Nat → rMem → Prop} {As rest : List Value} (hM : CMq l D y cc2 maxL ret lev mc2 ms2 M As post) (hw : Cond.methodLink own i y ∈ wsL_law) (hq : rSq y cc2 maxL ret np) (hn : As.length = np) (hst : st = As.reverse ++ rest) (hcat : (rest.map fun v => v.category).sum ≤ 8) (hlev : lev + 1 ≤ R.frames) (hloc : 8 + (maxL + 11) + 32 * lev ≤ R.locals) (hcs : k + mc2 ≤ R.cells ∧ n + ms2 ≤ R.slots) (hd : decode cc pc = .ok (.invokestatic i, 3)) (kk : ∀ (r : Option Nat) (M1 : rMem), post r M1 → rG p l e R s m args below meth c D A nL Q M1 (k + mc2) (n + ms2) lv (pc + 3) (va_rf r :: rest)) : rG p l e R s m args below meth c D A nL Q M k n lv pc st := by
  subst hst
  intro H locs ls hS hl
  exact va_callq (va_runS (As := As) (rest := rest) ⟨F.1, F.2.1, F.2.2.1, F.2.2.2.1, F.2.2.2.2.1⟩ (hM H.size) (va_cwS (own := own) np F.2.2.2.2.1 (rGS hw np hq) rfl rfl rfl hq.2.2.2 ⟨hlev, by show 8 + (maxL + 11) + 32 * lev ≤ R.locals; exact hloc⟩) ⟨cPre_blind, rC_pre F hS _⟩ rfl hn hl.2.1 rfl (lv_room hcat) hd hcs) hS.2.2 (fun q _ h => rC_fr F hS q h) (fun q h => rC_fr F hS q h) (fun r u t H1 locs1 ht hvm hp hB hz hk hS1 => kk r u hp H1 locs1 ls (rC_post F hS hB ht hS1) hl)
theorem rg_callIv (F : rF p l e R s m args below meth c cc nL own D A) {y : MethodName} {cc2 : ByteArray} {maxL lev mc2 ms2 i np : Nat} {post : rMem → Prop} {b : Nat} {As rest : List Value} (hM : CMv l D y cc2 maxL lev mc2 ms2 M (.ref b :: As) post) (hw : Cond.methodLink own i y ∈ wsL_law) (hq : rIq y cc2 maxL np) (hn : As.length = np) (hst : st = As.reverse ++ .ref b :: rest) (hcat : (rest.map fun v => v.category).sum ≤ 8) (hlev : lev + 1 ≤ R.frames) (hloc : 8 + (maxL + 11) + 32 * lev ≤ R.locals) (hcs : k + mc2 ≤ R.cells ∧ n + ms2 ≤ R.slots) (hd : decode cc pc = .ok (.invokespecial i, 3)) (kk : ∀ M1 : rMem, post M1 → rG p l e R s m args below meth c D A nL Q M1 (k + mc2) (n + ms2) lv (pc + 3) rest) : rG p l e R s m args below meth c D A nL Q M k n lv pc st := by
  subst hst
  intro H locs ls hS hl
  exact va_callv (va_runI (As := As) (rest := rest) ⟨F.1, F.2.1, F.2.2.1, F.2.2.2.1, F.2.2.2.2.1⟩ (hM H.size) (cwI (own := own) np F.2.2.2.2.1 (rGI hq.2.2.1) rfl rfl rfl (F.2.2.2.2.1 _ hq.2.1) (F.2.2.2.2.1 _ hw) (F.2.2.2.2.1 _ hq.1) hq.2.2.2.1 hq.2.2.2.2 ⟨hlev, by show 8 + (maxL + 11) + 32 * lev ≤ R.locals; exact hloc⟩) ⟨cPre_blind, rC_pre F hS _⟩ rfl hn hl.2.1 rfl (lv_room hcat) hd hcs) hS.2.2 (fun q _ h => rC_fr F hS q h) (fun q h => rC_fr F hS q h) (fun u t H1 locs1 ht hvm hp hB hz hk hS1 => kk u hp H1 locs1 ls (rC_post F hS hB ht hS1) hl)
theorem rg_callNi (F : rF p l e R s m args below meth c cc nL own D A) {y : MethodName} {cc2 : ByteArray} {maxL lev mc2 ms2 i np : Nat} {ret : Option FieldType} {post : Int32 → rMem → Prop} {host : String} {As rest : List Value} (hM : CMi l D y cc2 maxL ret lev mc2 ms2 M As post) (hw : Cond.methodLinkNest own i y host ∈ tables_1) (hq : rSq y cc2 maxL ret np) (hn : As.length = np) (hst : st = As.reverse ++ rest) (hcat : (rest.map fun v => v.category).sum ≤ 8) (hlev : lev + 1 ≤ R.frames) (hloc : 8 + (maxL + 11) + 32 * lev ≤ R.locals) (hcs : k + mc2 ≤ R.cells ∧ n + ms2 ≤ R.slots) (hd : decode cc pc = .ok (.invokestatic i, 3)) (kk : ∀ (r : Int32) (M1 : rMem), post r M1 → rG p l e R s m args below meth c D A nL Q M1 (k + mc2) (n + ms2) lv (pc + 3) (.int r :: rest)) : rG p l e R s m args below meth c D A nL Q M k n lv pc st := by
  subst hst
  intro H locs ls hS hl
  exact va_calli (va_runSN (As := As) (rest := rest) ⟨F.1, F.2.1, F.2.2.1, F.2.2.2.1, F.2.2.2.2.1⟩ (hM H.size) (⟨va_cnB (own := own) np F.2.2.2.2.1 (rGI hq.2.2.1) rfl rfl rfl (F.2.2.2.2.2.2.2.1.2.2.2.2.2.2.2.2.2.1 _ hw rfl) (F.2.2.2.2.1 _ hq.2.1) hq.2.2.2 ⟨hlev, by show 8 + (maxL + 11) + 32 * lev ≤ R.locals; exact hloc⟩, F.2.2.2.2.1 _ hq.1, trivial⟩) ⟨cPre_blind, rC_pre F hS _⟩ rfl hn hl.2.1 rfl (lv_room hcat) hd hcs) hS.2.2 (fun q _ h => rC_fr F hS q h) (fun q h => rC_fr F hS q h) (fun r u t H1 locs1 ht hvm hp hB hz hk hS1 => kk r u hp H1 locs1 ls (rC_post F hS hB ht hS1) hl)
theorem rg_callNl (F : rF p l e R s m args below meth c cc nL own D A) {y : MethodName} {cc2 : ByteArray} {maxL lev mc2 ms2 i np : Nat} {ret : Option FieldType} {post : Int64 → rMem → Prop} {host : String} {As rest : List Value} (hM : CMl l D y cc2 maxL ret lev mc2 ms2 M As post) (hw : Cond.methodLinkNest own i y host ∈ tables_1) (hq : rSq y cc2 maxL ret np) (hn : As.length = np) (hst : st = As.reverse ++ rest) (hcat : (rest.map fun v => v.category).sum ≤ 8) (hlev : lev + 1 ≤ R.frames) (hloc : 8 + (maxL + 11) + 32 * lev ≤ R.locals) (hcs : k + mc2 ≤ R.cells ∧ n + ms2 ≤ R.slots) (hd : decode cc pc = .ok (.invokestatic i, 3)) (kk : ∀ (r : Int64) (M1 : rMem), post r M1 → rG p l e R s m args below meth c D A nL Q M1 (k + mc2) (n + ms2) lv (pc + 3) (.long r :: rest)) : rG p l e R s m args below meth c D A nL Q M k n lv pc st := by
  subst hst
  intro H locs ls hS hl
  exact va_calll (va_runSN (As := As) (rest := rest) ⟨F.1, F.2.1, F.2.2.1, F.2.2.2.1, F.2.2.2.2.1⟩ (hM H.size) (⟨va_cnB (own := own) np F.2.2.2.2.1 (rGI hq.2.2.1) rfl rfl rfl (F.2.2.2.2.2.2.2.1.2.2.2.2.2.2.2.2.2.1 _ hw rfl) (F.2.2.2.2.1 _ hq.2.1) hq.2.2.2 ⟨hlev, by show 8 + (maxL + 11) + 32 * lev ≤ R.locals; exact hloc⟩, F.2.2.2.2.1 _ hq.1, trivial⟩) ⟨cPre_blind, rC_pre F hS _⟩ rfl hn hl.2.1 rfl (lv_room hcat) hd hcs) hS.2.2 (fun q _ h => rC_fr F hS q h) (fun q h => rC_fr F hS q h) (fun r u t H1 locs1 ht hvm hp hB hz hk hS1 => kk r u hp H1 locs1 ls (rC_post F hS hB ht hS1) hl)
theorem rg_callNd (F : rF p l e R s m args below meth c cc nL own D A) {y : MethodName} {cc2 : ByteArray} {maxL lev mc2 ms2 i np : Nat} {ret : Option FieldType} {post : UInt64 → rMem → Prop} {host : String} {As rest : List Value} (hM : CMd l D y cc2 maxL ret lev mc2 ms2 M As post) (hw : Cond.methodLinkNest own i y host ∈ tables_1) (hq : rSq y cc2 maxL ret np) (hn : As.length = np) (hst : st = As.reverse ++ rest) (hcat : (rest.map fun v => v.category).sum ≤ 8) (hlev : lev + 1 ≤ R.frames) (hloc : 8 + (maxL + 11) + 32 * lev ≤ R.locals) (hcs : k + mc2 ≤ R.cells ∧ n + ms2 ≤ R.slots) (hd : decode cc pc = .ok (.invokestatic i, 3)) (kk : ∀ (r : UInt64) (M1 : rMem), post r M1 → rG p l e R s m args below meth c D A nL Q M1 (k + mc2) (n + ms2) lv (pc + 3) (.double r :: rest)) : rG p l e R s m args below meth c D A nL Q M k n lv pc st := by
  subst hst
  intro H locs ls hS hl
  exact va_calld (va_runSN (As := As) (rest := rest) ⟨F.1, F.2.1, F.2.2.1, F.2.2.2.1, F.2.2.2.2.1⟩ (hM H.size) (⟨va_cnB (own := own) np F.2.2.2.2.1 (rGI hq.2.2.1) rfl rfl rfl (F.2.2.2.2.2.2.2.1.2.2.2.2.2.2.2.2.2.1 _ hw rfl) (F.2.2.2.2.1 _ hq.2.1) hq.2.2.2 ⟨hlev, by show 8 + (maxL + 11) + 32 * lev ≤ R.locals; exact hloc⟩, F.2.2.2.2.1 _ hq.1, trivial⟩) ⟨cPre_blind, rC_pre F hS _⟩ rfl hn hl.2.1 rfl (lv_room hcat) hd hcs) hS.2.2 (fun q _ h => rC_fr F hS q h) (fun q h => rC_fr F hS q h) (fun r u t H1 locs1 ht hvm hp hB hz hk hS1 => kk r u hp H1 locs1 ls (rC_post F hS hB ht hS1) hl)
theorem rg_callNv (F : rF p l e R s m args below meth c cc nL own D A) {y : MethodName} {cc2 : ByteArray} {maxL lev mc2 ms2 i np : Nat} {post : rMem → Prop} {host : String} {As rest : List Value} (hM : CMv l D y cc2 maxL lev mc2 ms2 M As post) (hw : Cond.methodLinkNest own i y host ∈ tables_1) (hq : rSq y cc2 maxL none np) (hn : As.length = np) (hst : st = As.reverse ++ rest) (hcat : (rest.map fun v => v.category).sum ≤ 8) (hlev : lev + 1 ≤ R.frames) (hloc : 8 + (maxL + 11) + 32 * lev ≤ R.locals) (hcs : k + mc2 ≤ R.cells ∧ n + ms2 ≤ R.slots) (hd : decode cc pc = .ok (.invokestatic i, 3)) (kk : ∀ M1 : rMem, post M1 → rG p l e R s m args below meth c D A nL Q M1 (k + mc2) (n + ms2) lv (pc + 3) rest) : rG p l e R s m args below meth c D A nL Q M k n lv pc st := by
  subst hst
  intro H locs ls hS hl
  exact va_callv (va_runSN (As := As) (rest := rest) ⟨F.1, F.2.1, F.2.2.1, F.2.2.2.1, F.2.2.2.2.1⟩ (hM H.size) (⟨va_cnB (own := own) np F.2.2.2.2.1 (rGI hq.2.2.1) rfl rfl rfl (F.2.2.2.2.2.2.2.1.2.2.2.2.2.2.2.2.2.1 _ hw rfl) (F.2.2.2.2.1 _ hq.2.1) hq.2.2.2 ⟨hlev, by show 8 + (maxL + 11) + 32 * lev ≤ R.locals; exact hloc⟩, F.2.2.2.2.1 _ hq.1, trivial⟩) ⟨cPre_blind, rC_pre F hS _⟩ rfl hn hl.2.1 rfl (lv_room hcat) hd hcs) hS.2.2 (fun q _ h => rC_fr F hS q h) (fun q h => rC_fr F hS q h) (fun u t H1 locs1 ht hvm hp hB hz hk hS1 => kk u hp H1 locs1 ls (rC_post F hS hB ht hS1) hl)
theorem rg_callNq (F : rF p l e R s m args below meth c cc nL own D A) {y : MethodName} {cc2 : ByteArray} {maxL lev mc2 ms2 i np : Nat} {ret : Option FieldType} {post : Option Nat → rMem → Prop} {host : String} {As rest : List Value} (hM : CMq l D y cc2 maxL ret lev mc2 ms2 M As post) (hw : Cond.methodLinkNest own i y host ∈ tables_1) (hq : rSq y cc2 maxL ret np) (hn : As.length = np) (hst : st = As.reverse ++ rest) (hcat : (rest.map fun v => v.category).sum ≤ 8) (hlev : lev + 1 ≤ R.frames) (hloc : 8 + (maxL + 11) + 32 * lev ≤ R.locals) (hcs : k + mc2 ≤ R.cells ∧ n + ms2 ≤ R.slots) (hd : decode cc pc = .ok (.invokestatic i, 3)) (kk : ∀ (r : Option Nat) (M1 : rMem), post r M1 → rG p l e R s m args below meth c D A nL Q M1 (k + mc2) (n + ms2) lv (pc + 3) (va_rf r :: rest)) : rG p l e R s m args below meth c D A nL Q M k n lv pc st := by
  subst hst
  intro H locs ls hS hl
  exact va_callq (va_runSN (As := As) (rest := rest) ⟨F.1, F.2.1, F.2.2.1, F.2.2.2.1, F.2.2.2.2.1⟩ (hM H.size) (⟨va_cnB (own := own) np F.2.2.2.2.1 (rGI hq.2.2.1) rfl rfl rfl (F.2.2.2.2.2.2.2.1.2.2.2.2.2.2.2.2.2.1 _ hw rfl) (F.2.2.2.2.1 _ hq.2.1) hq.2.2.2 ⟨hlev, by show 8 + (maxL + 11) + 32 * lev ≤ R.locals; exact hloc⟩, F.2.2.2.2.1 _ hq.1, trivial⟩) ⟨cPre_blind, rC_pre F hS _⟩ rfl hn hl.2.1 rfl (lv_room hcat) hd hcs) hS.2.2 (fun q _ h => rC_fr F hS q h) (fun q h => rC_fr F hS q h) (fun r u t H1 locs1 ht hvm hp hB hz hk hS1 => kk r u hp H1 locs1 ls (rC_post F hS hB ht hS1) hl)
end RC
end
section
theorem iq_X0_init : rIq yX0_init cX0_init 1 0 := ⟨q229, q161, q0, rfl, ⟨by decide +kernel, by decide +kernel, by decide +kernel⟩⟩
theorem sq_X3_lowBits : rSq yX3_lowBits cX3_lowBits 1 ((some .long)) 1 := ⟨q174, q127, q1, ⟨by decide +kernel, by decide +kernel, by decide +kernel⟩⟩
theorem vq_X0_cutBehind : rVq yX0_cutBehind cX0_cutBehind 3 (none) 1 := ⟨q283, q284, q161, q2, ⟨by decide +kernel, by decide +kernel, by decide +kernel⟩⟩
theorem vq_X0_addTo : rVq yX0_addTo cX0_addTo 4 (none) 2 := ⟨q164, q165, q161, q3, ⟨by decide +kernel, by decide +kernel, by decide +kernel⟩⟩
theorem vq_X0_add : rVq yX0_add cX0_add 6 (none) 2 := ⟨q159, q160, q161, q4, ⟨by decide +kernel, by decide +kernel, by decide +kernel⟩⟩
theorem vq_X0_cellAt : rVq yX0_cellAt cX0_cellAt 2 ((some .long)) 1 := ⟨q172, q173, q161, q5, ⟨by decide +kernel, by decide +kernel, by decide +kernel⟩⟩
theorem vq_X0_read : rVq yX0_read cX0_read 7 ((some .long)) 2 := ⟨q169, q170, q161, q6, ⟨by decide +kernel, by decide +kernel, by decide +kernel⟩⟩
theorem iq_Jxa1e45_init_da8c8 : rIq yJxa1e45_init_da8c8 cJxa1e45_init_da8c8 1 0 := ⟨q30, q31, q7, rfl, ⟨by decide +kernel, by decide +kernel, by decide +kernel⟩⟩
theorem iq_Jxc12de_init_da8c8 : rIq yJxc12de_init_da8c8 cJxc12de_init_da8c8 1 0 := ⟨q26, q27, q8, rfl, ⟨by decide +kernel, by decide +kernel, by decide +kernel⟩⟩
theorem iq_Jx4a65c_init_da8c8 : rIq yJx4a65c_init_da8c8 cJx4a65c_init_da8c8 1 0 := ⟨q22, q19, q9, rfl, ⟨by decide +kernel, by decide +kernel, by decide +kernel⟩⟩
theorem iq_X1_init : rIq yX1_init cX1_init 5 4 := ⟨q298, q134, q33, rfl, ⟨by decide +kernel, by decide +kernel, by decide +kernel⟩⟩
theorem vq_Jx4a65c_size_8abf5 : rVq yJx4a65c_size_8abf5 cJx4a65c_size_8abf5 1 ((some .int)) 0 := ⟨q41, q42, q19, q34, ⟨by decide +kernel, by decide +kernel, by decide +kernel⟩⟩
theorem sq_J3_checkIndex_8e157 : rSq yJ3_checkIndex_8e157 cJ3_checkIndex_8e157 3 ((some .int)) 3 := ⟨q51, q52, q35, ⟨by decide +kernel, by decide +kernel, by decide +kernel⟩⟩
theorem sq_J15_checkIndex_7cf53 : rSq yJ15_checkIndex_7cf53 cJ15_checkIndex_7cf53 2 ((some .int)) 2 := ⟨q48, q49, q36, ⟨by decide +kernel, by decide +kernel, by decide +kernel⟩⟩
theorem vq_Jx4a65c_elementData_915e3 : rVq yJx4a65c_elementData_915e3 cJx4a65c_elementData_915e3 2 ((some (.object "java/lang/Object"))) 1 := ⟨q54, q55, q19, q37, ⟨by decide +kernel, by decide +kernel, by decide +kernel⟩⟩
theorem vq_Jx4a65c_get_915e3 : rVq yJx4a65c_get_915e3 cJx4a65c_get_915e3 2 ((some (.object "java/lang/Object"))) 1 := ⟨q45, q46, q19, q38, ⟨by decide +kernel, by decide +kernel, by decide +kernel⟩⟩
theorem vq_X1_lastWord : rVq yX1_lastWord cX1_lastWord 2 ((some (.object "RhymeTax$Word"))) 0 := ⟨q193, q194, q134, q56, ⟨by decide +kernel, by decide +kernel, by decide +kernel⟩⟩
theorem vq_X1_usesOf : rVq yX1_usesOf cX1_usesOf 4 ((some .int)) 1 := ⟨q257, q258, q134, q58, ⟨by decide +kernel, by decide +kernel, by decide +kernel⟩⟩
theorem sq_J8_hugeLength_7cf53 : rSq yJ8_hugeLength_7cf53 cJ8_hugeLength_7cf53 3 ((some .int)) 2 := ⟨q74, q70, q59, ⟨by decide +kernel, by decide +kernel, by decide +kernel⟩⟩
theorem sq_J8_newLength_cabcc : rSq yJ8_newLength_cabcc cJ8_newLength_cabcc 4 ((some .int)) 3 := ⟨q69, q70, q60, ⟨by decide +kernel, by decide +kernel, by decide +kernel⟩⟩
theorem sq_J7_copyOf_6403c : rSq yJ7_copyOf_6403c cJ7_copyOf_6403c 4 ((some (.array (.object "java/lang/Object")))) 3 := ⟨q83, q77, q61, ⟨by decide +kernel, by decide +kernel, by decide +kernel⟩⟩
theorem sq_J7_copyOf_1904c : rSq yJ7_copyOf_1904c cJ7_copyOf_1904c 2 ((some (.array (.object "java/lang/Object")))) 2 := ⟨q76, q77, q62, ⟨by decide +kernel, by decide +kernel, by decide +kernel⟩⟩
theorem vq_Jx4a65c_grow_92f84 : rVq yJx4a65c_grow_92f84 cJx4a65c_grow_92f84 4 ((some (.array (.object "java/lang/Object")))) 1 := ⟨q95, q96, q19, q93, ⟨by decide +kernel, by decide +kernel, by decide +kernel⟩⟩
theorem vq_Jx4a65c_grow_d5877 : rVq yJx4a65c_grow_d5877 cJx4a65c_grow_d5877 1 ((some (.array (.object "java/lang/Object")))) 0 := ⟨q99, q100, q19, q97, ⟨by decide +kernel, by decide +kernel, by decide +kernel⟩⟩
theorem vq_Jx4a65c_add_72be8 : rVq yJx4a65c_add_72be8 cJx4a65c_add_72be8 4 (none) 3 := ⟨q105, q106, q19, q101, ⟨by decide +kernel, by decide +kernel, by decide +kernel⟩⟩
theorem vq_Jx4a65c_add_9ea2d : rVq yJx4a65c_add_9ea2d cJx4a65c_add_9ea2d 2 ((some .boolean)) 1 := ⟨q124, q125, q19, q107, ⟨by decide +kernel, by decide +kernel, by decide +kernel⟩⟩
theorem sq_X3_isBelow : rSq yX3_isBelow cX3_isBelow 2 ((some .boolean)) 2 := ⟨q126, q127, q108, ⟨by decide +kernel, by decide +kernel, by decide +kernel⟩⟩
theorem vq_Jx4a65c_set_bcc79 : rVq yJx4a65c_set_bcc79 cJx4a65c_set_bcc79 4 ((some (.object "java/lang/Object"))) 2 := ⟨q129, q130, q19, q109, ⟨by decide +kernel, by decide +kernel, by decide +kernel⟩⟩
theorem vq_X2_meltsInto : rVq yX2_meltsInto cX2_meltsInto 2 ((some .boolean)) 1 := ⟨q117, q118, q119, q110, ⟨by decide +kernel, by decide +kernel, by decide +kernel⟩⟩
theorem vq_X1_joinWords : rVq yX1_joinWords cX1_joinWords 4 (none) 0 := ⟨q132, q133, q134, q122, ⟨by decide +kernel, by decide +kernel, by decide +kernel⟩⟩
theorem vq_X1_putWord : rVq yX1_putWord cX1_putWord 3 (none) 2 := ⟨q305, q306, q134, q135, ⟨by decide +kernel, by decide +kernel, by decide +kernel⟩⟩
theorem vq_Jx4a65c_fastRemove_b59b0 : rVq yJx4a65c_fastRemove_b59b0 cJx4a65c_fastRemove_b59b0 4 (none) 2 := ⟨q142, q143, q19, q136, ⟨by decide +kernel, by decide +kernel, by decide +kernel⟩⟩
theorem vq_Jx4a65c_remove_915e3 : rVq yJx4a65c_remove_915e3 cJx4a65c_remove_915e3 4 ((some (.object "java/lang/Object"))) 1 := ⟨q139, q140, q19, q137, ⟨by decide +kernel, by decide +kernel, by decide +kernel⟩⟩
theorem vq_X1_dropLast : rVq yX1_dropLast cX1_dropLast 2 (none) 0 := ⟨q317, q318, q134, q145, ⟨by decide +kernel, by decide +kernel, by decide +kernel⟩⟩
theorem sq_X3_footSize : rSq yX3_footSize cX3_footSize 1 ((some .int)) 1 := ⟨q167, q127, q146, ⟨by decide +kernel, by decide +kernel, by decide +kernel⟩⟩
theorem sq_X3_askedBy : rSq yX3_askedBy cX3_askedBy 1 ((some .long)) 1 := ⟨q178, q127, q147, ⟨by decide +kernel, by decide +kernel, by decide +kernel⟩⟩
theorem sq_J13_bitCount_95d88 : rSq yJ13_bitCount_95d88 cJ13_bitCount_95d88 2 ((some .int)) 1 := ⟨q184, q185, q148, ⟨by decide +kernel, by decide +kernel, by decide +kernel⟩⟩
theorem sq_X1_offBy : rSq yX1_offBy cX1_offBy 4 ((some .int)) 3 := ⟨q177, q134, q149, ⟨by decide +kernel, by decide +kernel, by decide +kernel⟩⟩
theorem vq_X1_scanIn : rVq yX1_scanIn cX1_scanIn 4 (none) 2 := ⟨q286, q287, q134, q189, ⟨by decide +kernel, by decide +kernel, by decide +kernel⟩⟩
theorem vq_X2_lastStress : rVq yX2_lastStress cX2_lastStress 1 ((some .int)) 0 := ⟨q201, q202, q119, q190, ⟨by decide +kernel, by decide +kernel, by decide +kernel⟩⟩
theorem vq_X2_rhymeWith : rVq yX2_rhymeWith cX2_rhymeWith 4 ((some .int)) 1 := ⟨q196, q197, q119, q191, ⟨by decide +kernel, by decide +kernel, by decide +kernel⟩⟩
theorem sq_X3_rhymeBetween : rSq yX3_rhymeBetween cX3_rhymeBetween 4 ((some .int)) 2 := ⟨q210, q127, q205, ⟨by decide +kernel, by decide +kernel, by decide +kernel⟩⟩
theorem vq_Jx4a65c_isEmpty_aae02 : rVq yJx4a65c_isEmpty_aae02 cJx4a65c_isEmpty_aae02 1 ((some .boolean)) 0 := ⟨q212, q213, q19, q206, ⟨by decide +kernel, by decide +kernel, by decide +kernel⟩⟩
theorem vq_X1_payRhyme : rVq yX1_payRhyme cX1_payRhyme 1 (none) 0 := ⟨q289, q290, q134, q214, ⟨by decide +kernel, by decide +kernel, by decide +kernel⟩⟩
theorem vq_X1_faultsBy : rVq yX1_faultsBy cX1_faultsBy 5 ((some .int)) 2 := ⟨q337, q338, q134, q215, ⟨by decide +kernel, by decide +kernel, by decide +kernel⟩⟩
theorem vq_X1_isFaultless : rVq yX1_isFaultless cX1_isFaultless 1 ((some .boolean)) 0 := ⟨q344, q345, q134, q216, ⟨by decide +kernel, by decide +kernel, by decide +kernel⟩⟩
theorem vq_X1_stressAt : rVq yX1_stressAt cX1_stressAt 2 ((some .int)) 1 := ⟨q329, q330, q134, q217, ⟨by decide +kernel, by decide +kernel, by decide +kernel⟩⟩
theorem vq_X1_tells : rVq yX1_tells cX1_tells 2 ((some .int)) 1 := ⟨q325, q326, q134, q218, ⟨by decide +kernel, by decide +kernel, by decide +kernel⟩⟩
theorem iq_X2_init : rIq yX2_init cX2_init 7 6 := ⟨q243, q119, q219, rfl, ⟨by decide +kernel, by decide +kernel, by decide +kernel⟩⟩
theorem iq_X3_init : rIq yX3_init cX3_init 1 0 := ⟨q575, q127, q232, rfl, ⟨by decide +kernel, by decide +kernel, by decide +kernel⟩⟩
theorem vq_X3_word : rVq yX3_word cX3_word 7 ((some .int)) 5 := ⟨q514, q515, q127, q246, ⟨by decide +kernel, by decide +kernel, by decide +kernel⟩⟩
theorem sq_X3_refuseOutside : rSq yX3_refuseOutside cX3_refuseOutside 2 (none) 2 := ⟨q250, q127, q247, ⟨by decide +kernel, by decide +kernel, by decide +kernel⟩⟩
theorem vq_X3_neededWord : rVq yX3_neededWord cX3_neededWord 2 ((some (.object "RhymeTax$Word"))) 1 := ⟨q270, q271, q127, q254, ⟨by decide +kernel, by decide +kernel, by decide +kernel⟩⟩
theorem vq_X3_usesOf : rVq yX3_usesOf cX3_usesOf 4 ((some .int)) 1 := ⟨q266, q267, q127, q259, ⟨by decide +kernel, by decide +kernel, by decide +kernel⟩⟩
theorem vq_X3_aboutWord : rVq yX3_aboutWord cX3_aboutWord 3 ((some .int)) 2 := ⟨q273, q274, q127, q268, ⟨by decide +kernel, by decide +kernel, by decide +kernel⟩⟩
theorem vq_X3_about : rVq yX3_about cX3_about 4 ((some .int)) 2 := ⟨q519, q520, q127, q275, ⟨by decide +kernel, by decide +kernel, by decide +kernel⟩⟩
theorem vq_X3_lastWithMark : rVq yX3_lastWithMark cX3_lastWithMark 4 ((some (.object "RhymeTax$Line"))) 1 := ⟨q295, q296, q127, q277, ⟨by decide +kernel, by decide +kernel, by decide +kernel⟩⟩
theorem vq_X3_scanFrom : rVq yX3_scanFrom cX3_scanFrom 6 (none) 1 := ⟨q300, q301, q127, q291, ⟨by decide +kernel, by decide +kernel, by decide +kernel⟩⟩
theorem vq_X3_line : rVq yX3_line cX3_line 5 ((some .int)) 3 := ⟨q523, q524, q127, q302, ⟨by decide +kernel, by decide +kernel, by decide +kernel⟩⟩
theorem vq_X3_neededLine : rVq yX3_neededLine cX3_neededLine 2 ((some (.object "RhymeTax$Line"))) 1 := ⟨q310, q311, q127, q303, ⟨by decide +kernel, by decide +kernel, by decide +kernel⟩⟩
theorem vq_X3_putWord : rVq yX3_putWord cX3_putWord 4 (none) 3 := ⟨q313, q314, q127, q307, ⟨by decide +kernel, by decide +kernel, by decide +kernel⟩⟩
theorem vq_X3_write : rVq yX3_write cX3_write 7 ((some .int)) 3 := ⟨q527, q528, q127, q315, ⟨by decide +kernel, by decide +kernel, by decide +kernel⟩⟩
theorem vq_X3_strike : rVq yX3_strike cX3_strike 4 ((some .int)) 1 := ⟨q531, q532, q127, q319, ⟨by decide +kernel, by decide +kernel, by decide +kernel⟩⟩
theorem sq_X3_neededWordOf : rSq yX3_neededWordOf cX3_neededWordOf 2 ((some (.object "RhymeTax$Word"))) 2 := ⟨q322, q127, q320, ⟨by decide +kernel, by decide +kernel, by decide +kernel⟩⟩
theorem vq_X3_written : rVq yX3_written cX3_written 3 ((some .int)) 2 := ⟨q535, q536, q127, q323, ⟨by decide +kernel, by decide +kernel, by decide +kernel⟩⟩
theorem vq_X3_told : rVq yX3_told cX3_told 4 ((some .int)) 2 := ⟨q539, q540, q127, q327, ⟨by decide +kernel, by decide +kernel, by decide +kernel⟩⟩
theorem vq_X3_stress : rVq yX3_stress cX3_stress 4 ((some .int)) 2 := ⟨q543, q544, q127, q331, ⟨by decide +kernel, by decide +kernel, by decide +kernel⟩⟩
theorem vq_X3_melted : rVq yX3_melted cX3_melted 2 ((some .int)) 1 := ⟨q547, q548, q127, q333, ⟨by decide +kernel, by decide +kernel, by decide +kernel⟩⟩
theorem vq_X3_rhyme : rVq yX3_rhyme cX3_rhyme 3 ((some .int)) 2 := ⟨q551, q552, q127, q335, ⟨by decide +kernel, by decide +kernel, by decide +kernel⟩⟩
theorem vq_X3_scans : rVq yX3_scans cX3_scans 7 ((some .int)) 1 := ⟨q555, q556, q127, q339, ⟨by decide +kernel, by decide +kernel, by decide +kernel⟩⟩
theorem vq_X3_lost : rVq yX3_lost cX3_lost 2 ((some .int)) 0 := ⟨q348, q349, q127, q340, ⟨by decide +kernel, by decide +kernel, by decide +kernel⟩⟩
theorem vq_X3_allTaxes : rVq yX3_allTaxes cX3_allTaxes 3 ((some .int)) 0 := ⟨q351, q352, q127, q342, ⟨by decide +kernel, by decide +kernel, by decide +kernel⟩⟩
theorem vq_X3_countInLines : rVq yX3_countInLines cX3_countInLines 5 ((some .int)) 1 := ⟨q354, q355, q127, q346, ⟨by decide +kernel, by decide +kernel, by decide +kernel⟩⟩
theorem vq_X3_countAll : rVq yX3_countAll cX3_countAll 2 ((some .int)) 1 := ⟨q358, q359, q127, q356, ⟨by decide +kernel, by decide +kernel, by decide +kernel⟩⟩
theorem vq_X3_count : rVq yX3_count cX3_count 2 ((some .int)) 1 := ⟨q559, q560, q127, q360, ⟨by decide +kernel, by decide +kernel, by decide +kernel⟩⟩
theorem vq_X3_taxesWith : rVq yX3_taxesWith cX3_taxesWith 6 ((some .int)) 4 := ⟨q363, q364, q127, q361, ⟨by decide +kernel, by decide +kernel, by decide +kernel⟩⟩
theorem vq_X3_tries : rVq yX3_tries cX3_tries 5 ((some .int)) 3 := ⟨q563, q564, q127, q365, ⟨by decide +kernel, by decide +kernel, by decide +kernel⟩⟩
theorem vq_X3_bestWord : rVq yX3_bestWord cX3_bestWord 9 ((some (.object "RhymeTax$Word"))) 3 := ⟨q369, q370, q127, q367, ⟨by decide +kernel, by decide +kernel, by decide +kernel⟩⟩
theorem vq_X3_best : rVq yX3_best cX3_best 4 ((some .int)) 2 := ⟨q567, q568, q127, q371, ⟨by decide +kernel, by decide +kernel, by decide +kernel⟩⟩
theorem vq_X3_worst : rVq yX3_worst cX3_worst 8 ((some .int)) 0 := ⟨q654, q655, q127, q372, ⟨by decide +kernel, by decide +kernel, by decide +kernel⟩⟩
theorem vq_X3_mean : rVq yX3_mean cX3_mean 2 ((some .double)) 0 := ⟨q660, q661, q127, q373, ⟨by decide +kernel, by decide +kernel, by decide +kernel⟩⟩
theorem sq_X3_mix : rSq yX3_mix cX3_mix 4 ((some .long)) 2 := ⟨q376, q127, q374, ⟨by decide +kernel, by decide +kernel, by decide +kernel⟩⟩
theorem sq_X3_mixLine : rSq yX3_mixLine cX3_mixLine 6 ((some .long)) 2 := ⟨q381, q127, q378, ⟨by decide +kernel, by decide +kernel, by decide +kernel⟩⟩
theorem vq_X3_digest : rVq yX3_digest cX3_digest 6 ((some .long)) 0 := ⟨q666, q667, q127, q382, ⟨by decide +kernel, by decide +kernel, by decide +kernel⟩⟩
theorem iq_X4_init : rIq yX4_init cX4_init 1 0 := ⟨q577, q395, q383, rfl, ⟨by decide +kernel, by decide +kernel, by decide +kernel⟩⟩
theorem vq_X4_thrown : rVq yX4_thrown cX4_thrown 1 ((some .int)) 0 := ⟨q586, q587, q395, q384, ⟨by decide +kernel, by decide +kernel, by decide +kernel⟩⟩
theorem vq_X4_no : rVq yX4_no cX4_no 2 ((some .int)) 1 := ⟨q412, q413, q395, q385, ⟨by decide +kernel, by decide +kernel, by decide +kernel⟩⟩
theorem sq_X4_isIn : rSq yX4_isIn cX4_isIn 3 ((some .boolean)) 3 := ⟨q398, q395, q386, ⟨by decide +kernel, by decide +kernel, by decide +kernel⟩⟩
theorem vq_X4_isWord : rVq yX4_isWord cX4_isWord 2 ((some .boolean)) 1 := ⟨q393, q394, q395, q387, ⟨by decide +kernel, by decide +kernel, by decide +kernel⟩⟩
theorem vq_X4_isLine : rVq yX4_isLine cX4_isLine 2 ((some .boolean)) 1 := ⟨q479, q480, q395, q388, ⟨by decide +kernel, by decide +kernel, by decide +kernel⟩⟩
theorem vq_X4_word : rVq yX4_word cX4_word 6 ((some .int)) 5 := ⟨q583, q584, q395, q389, ⟨by decide +kernel, by decide +kernel, by decide +kernel⟩⟩
theorem vq_X4_aboutTold : rVq yX4_aboutTold cX4_aboutTold 6 ((some .int)) 2 := ⟨q400, q401, q395, q390, ⟨by decide +kernel, by decide +kernel, by decide +kernel⟩⟩
theorem vq_X4_about : rVq yX4_about cX4_about 3 ((some .int)) 2 := ⟨q591, q592, q395, q414, ⟨by decide +kernel, by decide +kernel, by decide +kernel⟩⟩
theorem vq_X4_line : rVq yX4_line cX4_line 4 ((some .int)) 3 := ⟨q596, q597, q395, q415, ⟨by decide +kernel, by decide +kernel, by decide +kernel⟩⟩
theorem vq_X4_write : rVq yX4_write cX4_write 4 ((some .int)) 3 := ⟨q601, q602, q395, q416, ⟨by decide +kernel, by decide +kernel, by decide +kernel⟩⟩
theorem vq_X4_strike : rVq yX4_strike cX4_strike 2 ((some .int)) 1 := ⟨q606, q607, q395, q417, ⟨by decide +kernel, by decide +kernel, by decide +kernel⟩⟩
theorem vq_X4_written : rVq yX4_written cX4_written 3 ((some .int)) 2 := ⟨q611, q612, q395, q418, ⟨by decide +kernel, by decide +kernel, by decide +kernel⟩⟩
theorem vq_X4_melts : rVq yX4_melts cX4_melts 3 ((some .boolean)) 2 := ⟨q446, q447, q395, q419, ⟨by decide +kernel, by decide +kernel, by decide +kernel⟩⟩
theorem vq_X4_putOwn : rVq yX4_putOwn cX4_putOwn 8 ((some .int)) 2 := ⟨q443, q444, q395, q420, ⟨by decide +kernel, by decide +kernel, by decide +kernel⟩⟩
theorem sq_X4_beat : rSq yX4_beat cX4_beat 2 ((some .int)) 2 := ⟨q453, q395, q421, ⟨by decide +kernel, by decide +kernel, by decide +kernel⟩⟩
theorem vq_X4_room : rVq yX4_room cX4_room 2 ((some .int)) 1 := ⟨q449, q450, q395, q422, ⟨by decide +kernel, by decide +kernel, by decide +kernel⟩⟩
theorem vq_X4_lacks : rVq yX4_lacks cX4_lacks 2 ((some .int)) 1 := ⟨q462, q463, q395, q423, ⟨by decide +kernel, by decide +kernel, by decide +kernel⟩⟩
theorem vq_X4_last : rVq yX4_last cX4_last 2 ((some .int)) 1 := ⟨q472, q473, q395, q424, ⟨by decide +kernel, by decide +kernel, by decide +kernel⟩⟩
theorem sq_X4_lastStress : rSq yX4_lastStress cX4_lastStress 2 ((some .int)) 2 := ⟨q475, q395, q425, ⟨by decide +kernel, by decide +kernel, by decide +kernel⟩⟩
theorem vq_X4_rhymeOf : rVq yX4_rhymeOf cX4_rhymeOf 5 ((some .int)) 2 := ⟨q469, q470, q395, q426, ⟨by decide +kernel, by decide +kernel, by decide +kernel⟩⟩
theorem vq_X4_rhymeAhead : rVq yX4_rhymeAhead cX4_rhymeAhead 3 ((some .int)) 1 := ⟨q465, q466, q395, q427, ⟨by decide +kernel, by decide +kernel, by decide +kernel⟩⟩
theorem sq_J6_bitCount_0f7a4 : rSq yJ6_bitCount_0f7a4 cJ6_bitCount_0f7a4 1 ((some .int)) 1 := ⟨q456, q457, q428, ⟨by decide +kernel, by decide +kernel, by decide +kernel⟩⟩
theorem vq_X4_scan : rVq yX4_scan cX4_scan 5 ((some .int)) 0 := ⟨q482, q483, q395, q476, ⟨by decide +kernel, by decide +kernel, by decide +kernel⟩⟩
theorem vq_X4_toldOf : rVq yX4_toldOf cX4_toldOf 4 ((some .int)) 2 := ⟨q485, q486, q395, q477, ⟨by decide +kernel, by decide +kernel, by decide +kernel⟩⟩
theorem vq_X4_told : rVq yX4_told cX4_told 3 ((some .int)) 2 := ⟨q616, q617, q395, q487, ⟨by decide +kernel, by decide +kernel, by decide +kernel⟩⟩
theorem vq_X4_stress : rVq yX4_stress cX4_stress 3 ((some .int)) 2 := ⟨q621, q622, q395, q488, ⟨by decide +kernel, by decide +kernel, by decide +kernel⟩⟩
theorem vq_X4_melted : rVq yX4_melted cX4_melted 4 ((some .int)) 1 := ⟨q626, q627, q395, q489, ⟨by decide +kernel, by decide +kernel, by decide +kernel⟩⟩
theorem vq_X4_rhyme : rVq yX4_rhyme cX4_rhyme 3 ((some .int)) 2 := ⟨q631, q632, q395, q490, ⟨by decide +kernel, by decide +kernel, by decide +kernel⟩⟩
theorem vq_X4_scans : rVq yX4_scans cX4_scans 6 ((some .int)) 1 := ⟨q636, q637, q395, q492, ⟨by decide +kernel, by decide +kernel, by decide +kernel⟩⟩
theorem vq_X4_counted : rVq yX4_counted cX4_counted 7 ((some .int)) 1 := ⟨q495, q496, q395, q493, ⟨by decide +kernel, by decide +kernel, by decide +kernel⟩⟩
theorem vq_X4_count : rVq yX4_count cX4_count 2 ((some .int)) 1 := ⟨q641, q642, q395, q497, ⟨by decide +kernel, by decide +kernel, by decide +kernel⟩⟩
theorem vq_X4_taxesWith : rVq yX4_taxesWith cX4_taxesWith 5 ((some .int)) 2 := ⟨q500, q501, q395, q498, ⟨by decide +kernel, by decide +kernel, by decide +kernel⟩⟩
theorem vq_X4_tries : rVq yX4_tries cX4_tries 4 ((some .int)) 3 := ⟨q646, q647, q395, q502, ⟨by decide +kernel, by decide +kernel, by decide +kernel⟩⟩
theorem vq_X4_best : rVq yX4_best cX4_best 7 ((some .int)) 2 := ⟨q651, q652, q395, q503, ⟨by decide +kernel, by decide +kernel, by decide +kernel⟩⟩
theorem vq_X4_worst : rVq yX4_worst cX4_worst 7 ((some .int)) 0 := ⟨q657, q658, q395, q504, ⟨by decide +kernel, by decide +kernel, by decide +kernel⟩⟩
theorem vq_X4_mean : rVq yX4_mean cX4_mean 1 ((some .double)) 0 := ⟨q663, q664, q395, q505, ⟨by decide +kernel, by decide +kernel, by decide +kernel⟩⟩
theorem vq_X4_digest : rVq yX4_digest cX4_digest 5 ((some .long)) 0 := ⟨q669, q670, q395, q508, ⟨by decide +kernel, by decide +kernel, by decide +kernel⟩⟩
end
section
theorem nx_and (a b : Nat) : nI a &&& nI b = nI (a &&& b) := by
  apply Int32.toBitVec_inj.1
  show BitVec.ofNat 32 a &&& BitVec.ofNat 32 b = BitVec.ofNat 32 (a &&& b)
  apply BitVec.eq_of_getLsbD_eq
  intro i hi
  simp [hi]
theorem nx_xor (a b : Nat) : nI a ^^^ nI b = nI (a ^^^ b) := by
  apply Int32.toBitVec_inj.1
  show BitVec.ofNat 32 a ^^^ BitVec.ofNat 32 b = BitVec.ofNat 32 (a ^^^ b)
  apply BitVec.eq_of_getLsbD_eq
  intro i hi
  simp [hi]
theorem wb_tb (n : Nat) : (lN n).toBitVec = BitVec.ofNat 64 n := rfl
theorem wb_inj {a b : Int64} (h : a.toBitVec = b.toBitVec) : a = b := Int64.toBitVec_inj.mp h
theorem wb_tn {n : Nat} (h : n < 2 ^ 64) : (lN n).toBitVec.toNat = n := by rw [wb_tb, BitVec.toNat_ofNat, Nat.mod_eq_of_lt h]
theorem wb_of (x : Int64) : ∃ n, n < 2 ^ 64 ∧ x = lN n := ⟨x.toBitVec.toNat, x.toBitVec.isLt, wb_inj (by rw [wb_tb]; simp)⟩
theorem wb_of32 (x : Int32) : ∃ n, n < 2 ^ 32 ∧ x = nI n := ⟨x.toBitVec.toNat, x.toBitVec.isLt, Int32.toBitVec_inj.mp (by show _ = BitVec.ofNat 32 _; simp)⟩
theorem wb_c : ∀ k, k < 64 → ((nI k).toInt64 &&& 63) = lN k := by decide +kernel
theorem wb_cu : ∀ k, k < 64 → ((nI k).toInt64.toUInt64 &&& Int64.toUInt64 63) = UInt64.ofNat k := by decide +kernel
theorem wb_sm : ∀ k, k < 64 → (BitVec.ofNat 64 k).smod 64 = BitVec.ofNat 64 k := by decide +kernel
theorem wb_pw {a b : Nat} (h : a ≤ b) : 2 ^ b = 2 ^ a * 2 ^ (b - a) := by rw [← Nat.pow_add]; congr 1; omega
theorem wb_lt2 {a b : Nat} (h : a < b) : 2 ^ a < 2 ^ b := Nat.pow_lt_pow_right (by decide) h
theorem wb_mod (n : Nat) : lN n = lN (n % 2 ^ 64) := wb_inj (by rw [wb_tb, wb_tb]; apply BitVec.eq_of_toNat_eq; rw [BitVec.toNat_ofNat, BitVec.toNat_ofNat, Nat.mod_mod])
theorem wb_shr {n k : Nat} (hn : n < 2 ^ 64) (hk : k < 64) : ((lN n).toUInt64 >>> ((nI k).toInt64.toUInt64 &&& Int64.toUInt64 63)).toInt64 = lN (n / 2 ^ k) := by
  rw [wb_cu k hk]
  apply wb_inj
  apply BitVec.eq_of_toNat_eq
  show ((lN n).toUInt64 >>> UInt64.ofNat k).toNat = (BitVec.ofNat 64 _).toNat
  have h1 : (UInt64.ofNat k).toNat = k := by
    show (BitVec.ofNat 64 k).toNat = k
    rw [BitVec.toNat_ofNat, Nat.mod_eq_of_lt (by omega)]
  have h2 : (lN n).toUInt64.toNat = n := wb_tn hn
  rw [UInt64.toNat_shiftRight, h1, h2, Nat.mod_eq_of_lt hk, Nat.shiftRight_eq_div_pow, BitVec.toNat_ofNat, Nat.mod_eq_of_lt (Nat.lt_of_le_of_lt (Nat.div_le_self _ _) hn)]
theorem wb_shl (n : Nat) {k : Nat} (hk : k < 64) : lN n <<< ((nI k).toInt64 &&& 63) = lN (n * 2 ^ k) := by
  rw [wb_c k hk]
  apply wb_inj
  rw [Int64.toBitVec_shiftLeft, wb_tb, wb_tb, wb_tb, wb_sm k hk]
  apply BitVec.eq_of_toNat_eq
  rw [BitVec.shiftLeft_eq', BitVec.toNat_shiftLeft, BitVec.toNat_ofNat, BitVec.toNat_ofNat, BitVec.toNat_ofNat, Nat.mod_eq_of_lt (show k < 2 ^ 64 by omega), Nat.shiftLeft_eq, Nat.mul_mod, Nat.mod_mod, ← Nat.mul_mod]
theorem wb_and {a b : Nat} (ha : a < 2 ^ 64) (hb : b < 2 ^ 64) : lN a &&& lN b = lN (a &&& b) := by
  apply wb_inj
  rw [Int64.toBitVec_and, wb_tb, wb_tb, wb_tb]
  apply BitVec.eq_of_toNat_eq
  rw [BitVec.toNat_and, BitVec.toNat_ofNat, BitVec.toNat_ofNat, BitVec.toNat_ofNat, Nat.mod_eq_of_lt ha, Nat.mod_eq_of_lt hb, Nat.mod_eq_of_lt (Nat.and_lt_two_pow _ hb)]
theorem wb_or {a b : Nat} (ha : a < 2 ^ 64) (hb : b < 2 ^ 64) : lN a ||| lN b = lN (a ||| b) := by
  apply wb_inj
  rw [Int64.toBitVec_or, wb_tb, wb_tb, wb_tb]
  apply BitVec.eq_of_toNat_eq
  rw [BitVec.toNat_or, BitVec.toNat_ofNat, BitVec.toNat_ofNat, BitVec.toNat_ofNat, Nat.mod_eq_of_lt ha, Nat.mod_eq_of_lt hb, Nat.mod_eq_of_lt (Nat.or_lt_two_pow ha hb)]
theorem wb_mask {n k : Nat} (hn : n < 2 ^ 64) (hk : k < 64) : lN n &&& lN (2 ^ k - 1) = lN (n % 2 ^ k) := by
  rw [wb_and hn (by have := wb_lt2 hk; omega), Nat.and_two_pow_sub_one_eq_mod]
theorem wb_a1 {n : Nat} (hn : n < 2 ^ 64) : lN n &&& 1 = lN (n % 2) := wb_mask (k := 1) hn (by decide)
theorem wb_bit {n k : Nat} (hn : n < 2 ^ 64) (hk : k < 64) : ((lN n).toUInt64 >>> ((nI k).toInt64.toUInt64 &&& Int64.toUInt64 63)).toInt64 &&& 1 = lN (n / 2 ^ k % 2) := by
  rw [wb_shr hn hk, wb_a1 (Nat.lt_of_le_of_lt (Nat.div_le_self _ _) hn)]
theorem rn_s31 : ∀ k, k < 32 → ((nI k &&& 31).toBitVec.smod 32).toNat = k := by decide +kernel
theorem rn_u31 : ∀ k, k < 32 → (((nI k).toUInt32 &&& Int32.toUInt32 31).toBitVec % 32).toNat = k := by decide +kernel
theorem rn_shr {n k : Nat} (hn : n < 2 ^ 31) (hk : k < 32) : nI n >>> (nI k &&& 31) = nI (n / 2 ^ k) := pk_shrN hn _ k (rn_s31 k hk)
theorem rn_ushr {n k : Nat} (hn : n < 2 ^ 32) (hk : k < 32) : ((nI n).toUInt32 >>> ((nI k).toUInt32 &&& Int32.toUInt32 31)).toInt32 = nI (n / 2 ^ k) := pk_ushrN hn _ k (rn_u31 k hk)
theorem rn_inj {a b : Int32} (h : a.toBitVec.toNat = b.toBitVec.toNat) : a = b := Int32.toBitVec_inj.mp (BitVec.eq_of_toNat_eq h)
theorem rn_tn (n : Nat) : (nI n).toBitVec.toNat = n % 2 ^ 32 := by
  show (BitVec.ofNat 32 n).toNat = n % 2 ^ 32
  rw [BitVec.toNat_ofNat]
theorem rn_shl {n k : Nat} (hk : k < 32) : nI n <<< (nI k &&& 31) = nI (n * 2 ^ k) := by
  apply rn_inj
  rw [pk_shl _ _ k (rn_s31 k hk), rn_tn, rn_tn, Nat.mod_mul_mod]
theorem rn_and1 {n : Nat} (h : n < 2 ^ 32) : nI n &&& nI 1 = nI (n % 2) := by
  have := pk_andN (n := n) h (m := nI 1) 1 (by decide)
  rw [this]
theorem rn_or (a b : Nat) : nI a ||| nI b = nI (a ||| b) := by
  apply Int32.toBitVec_inj.1
  show BitVec.ofNat 32 a ||| BitVec.ofNat 32 b = BitVec.ofNat 32 (a ||| b)
  apply BitVec.eq_of_getLsbD_eq
  intro i hi
  simp [BitVec.getLsbD_or, BitVec.getLsbD_ofNat, hi, Nat.testBit_or]
theorem rn_lxor {a b : Nat} (_ : a < 2 ^ 64) (_ : b < 2 ^ 64) : lN a ^^^ lN b = lN (a ^^^ b) := by
  apply wb_inj
  show BitVec.ofNat 64 a ^^^ BitVec.ofNat 64 b = BitVec.ofNat 64 (a ^^^ b)
  apply BitVec.eq_of_getLsbD_eq
  intro i hi
  simp [BitVec.getLsbD_xor, BitVec.getLsbD_ofNat, hi, Nat.testBit_xor]
theorem rn_pred {n : Nat} (h : 0 < n) : nI n + Int32.ofInt (-1) = nI (n - 1) := by
  obtain ⟨j, rfl⟩ : ∃ j, n = j + 1 := ⟨n - 1, by omega⟩
  exact pk_m1 j
theorem mset_swap {M : rMem} {a b : Nat} {e1 e2 e3 : va_E} (h : a ≠ b) : mset (mset (mset M a e1) b e2) a e3 = mset (mset M a e3) b e2 := by
  rw [mset_comm (Ne.symm h), mset_mset]
theorem mset_swap2 {M : rMem} {a b c : Nat} {e1 e2 e3 e4 : va_E} (h : a ≠ b) (h2 : a ≠ c) : mset (mset (mset (mset M a e1) b e2) c e4) a e3 = mset (mset (mset M a e3) b e2) c e4 := by
  rw [mset_comm (Ne.symm h2), mset_swap h]
end
section
def mL (M : rMem) (N : Nat) : va_W := (List.range N).filterMap (fun q => (M q).map (fun x => (q, x)))
theorem mL_mem {M : rMem} {N a : Nat} {x : va_E} : (a, x) ∈ mL M N ↔ a < N ∧ M a = some x := by
  unfold mL
  rw [List.mem_filterMap]
  constructor
  · rintro ⟨q, h1, h2⟩
    cases h : M q with
    | none => rw [h] at h2; cases h2
    | some y =>
      rw [h] at h2
      cases h2
      exact ⟨List.mem_range.mp h1, h⟩
  · rintro ⟨h1, h2⟩
    exact ⟨a, List.mem_range.mpr h1, by rw [h2]; rfl⟩
theorem mL_nodup (M : rMem) (N : Nat) : ((mL M N).map Prod.fst).Nodup := by
  unfold mL
  induction N with
  | zero => exact List.nodup_nil
  | succ N ih =>
    rw [List.range_succ, List.filterMap_append, List.map_append, List.nodup_append]
    refine ⟨ih, ?_, ?_⟩
    · cases h : M N <;> simp [h]
    · intro a ha b hb
      obtain ⟨⟨a1, x⟩, h1, rfl⟩ := List.mem_map.mp ha
      have h2 : a1 < N := (mL_mem (M := M) (N := N).mp h1).1
      cases h : M N with
      | none => simp [h] at hb
      | some y =>
        simp [h] at hb
        subst hb
        exact Nat.ne_of_lt h2
section RK4
variable {p : Program} {l : Launch} {e : Env} {R : Room} {s : State} {m : MethodId} {args : Array Value} {below : List Frame} {meth : Method} {c : Code} {cc : ByteArray} {nL : Nat} {own : String} {D : va_G} {A : Nat → Prop} {Q : State → Prop} {M : rMem} {k n pc : Nat} {lv lv' : List (Option Value)} {st : List Value}
theorem rS.list {H : Heap} {locs : List Loc} (hS : rS D A s M H locs) : ∃ ws : va_W, va_P D vwCl ws H ∧ va_D A ws ∧ (∀ a x, M a = some x → ∃ i : Nat, ws[i]? = some (a, x)) ∧ ∀ (i : Nat) (q : Nat × va_E), ws[i]? = some q → M q.1 = some q.2 := by
  have hin : ∀ (i : Nat) (q : Nat × va_E), (mL M H.size)[i]? = some q → M q.1 = some q.2 := fun i q hq => by
    obtain ⟨a, x⟩ := q
    exact (mL_mem.mp (List.mem_of_getElem? hq)).2
  refine ⟨mL M H.size, fun i q hq => ?_, ⟨fun i j p q hi hj hpq => ?_, fun i q hq => hS.2.1 _ _ (hin i q hq)⟩, fun a x hx => ?_, hin⟩
  · obtain ⟨a, x⟩ := q
    exact hS.1 a x (hin i _ hq)
  · have h1 : ((mL M H.size).map Prod.fst)[i]? = some p.1 := by rw [List.getElem?_map, hi]; rfl
    have h2 : ((mL M H.size).map Prod.fst)[j]? = some p.1 := by rw [List.getElem?_map, hj, hpq]; rfl
    obtain ⟨l1, e1⟩ := List.getElem?_eq_some_iff.mp h1
    obtain ⟨l2, e2⟩ := List.getElem?_eq_some_iff.mp h2
    have hnd := List.pairwise_iff_getElem.mp (mL_nodup M H.size)
    rcases Nat.lt_trichotomy i j with h | h | h
    · exact absurd (e1.trans e2.symm) (hnd i j l1 l2 h)
    · exact h
    · exact absurd (e2.trans e1.symm) (hnd j i l2 l1 h)
  · have h1 : (a, x) ∈ mL M H.size := mL_mem.mpr ⟨(hS.1 a x hx).lt, hx⟩
    obtain ⟨i, hi⟩ := List.getElem?_of_mem h1
    exact ⟨i, hi⟩
theorem rS.back {H1 : Heap} {locs1 : List Loc} {ws : va_W} {i a : Nat} {x y : va_E} (h1 : ∀ a x, M a = some x → ∃ i : Nat, ws[i]? = some (a, x)) (hi : ws[i]? = some (a, x)) (hP : va_P D vwCl (ws.set i (a, y)) H1) (hD : va_D A (ws.set i (a, y))) (hS : va_S A s.heap H1 locs1) : rS D A s (mset M a y) H1 locs1 := by
  have key : ∀ b z, mset M a y b = some z → ∃ j : Nat, (ws.set i (a, y))[j]? = some (b, z) := by
    intro b z hb
    by_cases hba : b = a
    · subst hba
      rw [mset_eq] at hb
      cases hb
      exact ⟨i, List.getElem?_set_self (List.getElem?_eq_some_iff.mp hi).1⟩
    · rw [mset_ne hba] at hb
      obtain ⟨j, hj⟩ := h1 b z hb
      refine ⟨j, ?_⟩
      rw [List.getElem?_set_ne]
      · exact hj
      · intro e
        subst e
        rw [hi] at hj
        cases hj
        exact hba rfl
  exact ⟨fun b z hb => by obtain ⟨j, hj⟩ := key b z hb; exact hP j _ hj, fun b z hb => by obtain ⟨j, hj⟩ := key b z hb; exact hD.2 j _ hj, hS⟩
theorem rg_aastN (F : rF p l e R s m args below meth c cc nL own D A) {a len j : Nat} {f : Nat → Option Nat} (hm : M a = some (.inl (D.1 8, (len, .inr (.inr (.inr (.inr f))))))) (hj : j < len) (hl2 : len < 2 ^ 31) (hd : decode cc pc = .ok (.aastore, 1)) (kk : rG p l e R s m args below meth c D A nL Q (mset M a (.inl (D.1 8, (len, .inr (.inr (.inr (.inr (va_up f j none))))))))  k n lv (pc + 1) st) : rG p l e R s m args below meth c D A nL Q M k n lv pc (.null :: .int (nI j) :: .ref a :: st) := by
  intro H locs ls hS hl
  obtain ⟨ws, hP, hD, h1, -⟩ := hS.list
  obtain ⟨i, hi⟩ := h1 a _ hm
  have hcl : (nI j).toNatClampNeg = j := nI_clamp (by omega)
  refine va_astqN F.1 F.2.1 F.2.2.2.2.2.1 hP hD hS.2.2 i 2 hi rfl (vp_in_nI hj hl2) hd (fun H1 locs1 hP1 hD1 hS1 => ?_)
  rw [hcl] at hP1 hD1
  exact kk H1 locs1 ls (rS.back h1 hi hP1 hD1 hS1) hl
/-- System.arraycopy of references: from a0 to a -/
theorem rg_copyQ (F : rF p l e R s m args below meth c cc nL own D A) {i a a0 n0 n1 sp dp z : Nat} {f g : Nat → Option Nat} (hm0 : M a0 = some (.inl (D.1 8, (n0, .inr (.inr (.inr (.inr f))))))) (hm1 : M a = some (.inl (D.1 8, (n1, .inr (.inr (.inr (.inr g)))))))
    (hw : Cond.methodLink own i arraycopyName ∈ wsL_law) (hw2 : Cond.native arraycopyName ∈ wsL_law) (hw3 : Cond.static arraycopyName ∈ wsL_law) (hw4 : Cond.initialized "java/lang/System" ∈ wsL_law)
    (h4 : sp + z ≤ n0) (h5 : dp + z ≤ n1) (hz0 : n0 < 2 ^ 31) (hz1 : n1 < 2 ^ 31) (hel : ∀ j, j < z → ∀ y, f (sp + j) = some y → ∃ (ci : Nat) (C : String) (T : u_T) (N : Nat) (fs : List Value), M y = some (.inr (ci, fs)) ∧ vwCl[ci]? = some (C, T, N) ∧ Cond.castable C "java/lang/Object" ∈ tables_1)
    (hfr : 1 ≤ R.frames) (hlo : (st.map fun v => v.category).sum + (nativeFrameWords "java/lang/System" "arraycopy" 5 + 11) ≤ R.locals) (hd : decode cc pc = .ok (.invokestatic i, 3))
    (kk : rG p l e R s m args below meth c D A nL Q (mset M a (.inl (D.1 8, (n1, .inr (.inr (.inr (.inr (va_cpy f g sp dp z)))))))) k n lv (pc + 3) st) : rG p l e R s m args below meth c D A nL Q M k n lv pc (.int (nI z) :: .int (nI dp) :: .ref a :: .int (nI sp) :: .ref a0 :: st) := by
  intro H locs ls hS hl
  obtain ⟨ws, hP, hD, h1, hin⟩ := hS.list
  obtain ⟨q0, hq0⟩ := h1 a0 _ hm0
  obtain ⟨q1, hq1⟩ := h1 a _ hm1
  have e1 : (nI sp).toNatClampNeg = sp := nI_clamp (by omega)
  have e2 : (nI dp).toNatClampNeg = dp := nI_clamp (by omega)
  have e3 : (nI z).toNatClampNeg = z := nI_clamp (by omega)
  refine va_copyM F.1 F.2.1 (by rw [F.2.2.1]; exact hl.2.1.symm) F.2.2.2.1 (F.2.2.2.2.1 _ hw) (F.2.2.2.2.1 _ hw2) (F.2.2.2.2.1 _ hw3) (F.2.2.2.2.1 _ hw4) F.2.2.2.2.2.1 hP hD hS.2.2 q0 q1 2 2 hq0 hq1 rfl rfl (nI_pos (by omega)) (nI_pos (by omega)) (nI_pos (by omega)) (by rw [e1, e3]; exact h4) (by rw [e2, e3]; exact h5) ?_ hfr hlo hd (fun H1 locs1 hP1 hD1 hS1 => ?_)
  · intro j hj y hy
    rw [e1] at hy
    rw [e3] at hj
    obtain ⟨ci, C, T, N, fs, g1, g2, g3⟩ := hel j hj y hy
    have hn : va_Nw (.castable C "java/lang/Object") s := F.2.2.2.2.2.2.2.1.2.2.2.2.2.2.2.2.2.1 _ g3 rfl
    obtain ⟨c0, t0, k0, k1, k2⟩ := Cond.castable_spec hn
    exact va_rAny F.2.2.2.2.2.1 (rG_arr1 (hS.1 y _ g1)) (q0 := 0) rfl g2 (fun comp c1 h1 h2 => by cases h1.symm.trans k1; cases h2.symm.trans k0; exact k2)
  · rw [e1, e2, e3] at hP1 hD1
    exact kk H1 locs1 ls (rS.back h1 hq1 hP1 hD1 hS1) hl
/-- System.arraycopy within one row of ints -/
theorem rg_copyI (F : rF p l e R s m args below meth c cc nL own D A) {i a n0 sp dp z : Nat} {f : Nat → Int32} (hm0 : M a = some (.inl (D.1 6, (n0, .inl f))))
    (hw : Cond.methodLink own i arraycopyName ∈ wsL_law) (hw2 : Cond.native arraycopyName ∈ wsL_law) (hw3 : Cond.static arraycopyName ∈ wsL_law) (hw4 : Cond.initialized "java/lang/System" ∈ wsL_law)
    (h4 : sp + z ≤ n0) (h5 : dp + z ≤ n0) (hz0 : n0 < 2 ^ 31)
    (hfr : 1 ≤ R.frames) (hlo : (st.map fun v => v.category).sum + (nativeFrameWords "java/lang/System" "arraycopy" 5 + 11) ≤ R.locals) (hd : decode cc pc = .ok (.invokestatic i, 3))
    (kk : rG p l e R s m args below meth c D A nL Q (mset M a (.inl (D.1 6, (n0, .inl (va_cpy f f sp dp z))))) k n lv (pc + 3) st) : rG p l e R s m args below meth c D A nL Q M k n lv pc (.int (nI z) :: .int (nI dp) :: .ref a :: .int (nI sp) :: .ref a :: st) := by
  intro H locs ls hS hl
  obtain ⟨ws, hP, hD, h1, hin⟩ := hS.list
  obtain ⟨q0, hq0⟩ := h1 a _ hm0
  have e1 : (nI sp).toNatClampNeg = sp := nI_clamp (by omega)
  have e2 : (nI dp).toNatClampNeg = dp := nI_clamp (by omega)
  have e3 : (nI z).toNatClampNeg = z := nI_clamp (by omega)
  refine va_copyi F.1 F.2.1 (by rw [F.2.2.1]; exact hl.2.1.symm) F.2.2.2.1 (F.2.2.2.2.1 _ hw) (F.2.2.2.2.1 _ hw2) (F.2.2.2.2.1 _ hw3) (F.2.2.2.2.1 _ hw4) F.2.2.2.2.2.1 hP hD hS.2.2 q0 q0 0 0 hq0 hq0 rfl rfl rfl (nI_pos (by omega)) (nI_pos (by omega)) (nI_pos (by omega)) (by rw [e1, e3]; exact h4) (by rw [e2, e3]; exact h5) (fun j _ => rfl) hfr hlo hd (fun H1 locs1 hP1 hD1 hS1 => ?_)
  rw [e1, e2, e3] at hP1 hD1
  exact kk H1 locs1 ls (rS.back h1 hq0 hP1 hD1 hS1) hl
theorem rg_max (F : rF p l e R s m args below meth c cc nL own D A) {i : Nat} {x y v : Int32} (hw : Cond.methodLink own i Lib.Math.max.name ∈ wsL_law) (hw2 : Cond.static Lib.Math.max.name ∈ wsL_law) (hw3 : Cond.initialized "java/lang/Math" ∈ wsL_law) (hw4 : Cond.code Lib.Math.max.name Lib.Math.max.code 2 (some .int) ∈ wsL_law) (hfr : 1 ≤ R.frames) (hlo : (st.map fun v => v.category).sum + 13 ≤ R.locals) (hc : k ≤ R.cells ∧ n ≤ R.slots) (hv : (if x < y then y else x) = v) (hd : decode cc pc = .ok (.invokestatic i, 3)) (kk : rG p l e R s m args below meth c D A nL Q M k n lv (pc + 3) (.int v :: st)) : rG p l e R s m args below meth c D A nL Q M k n lv pc (.int y :: .int x :: st) := fun H locs ls hS hl =>
  va_mmax F.1 F.2.1 (by rw [F.2.2.1]; exact hl.2.1.symm) F.2.2.2.1 (F.2.2.2.2.1 _ hw) (F.2.2.2.2.1 _ hw2) (F.2.2.2.2.1 _ hw3) (F.2.2.2.2.1 _ hw4) hfr hlo hc.1 hc.2 hd (by rw [hv]; exact kk H locs ls hS hl)
theorem rg_min (F : rF p l e R s m args below meth c cc nL own D A) {i : Nat} {x y v : Int32} (hw : Cond.methodLink own i Lib.Math.min.name ∈ wsL_law) (hw2 : Cond.static Lib.Math.min.name ∈ wsL_law) (hw3 : Cond.initialized "java/lang/Math" ∈ wsL_law) (hw4 : Cond.code Lib.Math.min.name Lib.Math.min.code 2 (some .int) ∈ wsL_law) (hfr : 1 ≤ R.frames) (hlo : (st.map fun v => v.category).sum + 13 ≤ R.locals) (hc : k ≤ R.cells ∧ n ≤ R.slots) (hv : (if y < x then y else x) = v) (hd : decode cc pc = .ok (.invokestatic i, 3)) (kk : rG p l e R s m args below meth c D A nL Q M k n lv (pc + 3) (.int v :: st)) : rG p l e R s m args below meth c D A nL Q M k n lv pc (.int y :: .int x :: st) := fun H locs ls hS hl =>
  va_mmin F.1 F.2.1 (by rw [F.2.2.1]; exact hl.2.1.symm) F.2.2.2.1 (F.2.2.2.2.1 _ hw) (F.2.2.2.2.1 _ hw2) (F.2.2.2.2.1 _ hw3) (F.2.2.2.2.1 _ hw4) hfr hlo hc.1 hc.2 hd (by rw [hv]; exact kk H locs ls hS hl)
theorem rn_max (a b : Nat) (ha : a < 2 ^ 31) (hb : b < 2 ^ 31) : (if nI a < nI b then nI b else nI a) = nI (max a b) := by
  by_cases h : a < b
  · rw [if_pos ((nI_ltI ha hb).mpr h), Nat.max_eq_right (Nat.le_of_lt h)]
  · rw [if_neg (fun z => h ((nI_ltI ha hb).mp z)), Nat.max_eq_left (Nat.not_lt.mp h)]
theorem rn_min (a b : Nat) (ha : a < 2 ^ 31) (hb : b < 2 ^ 31) : (if nI b < nI a then nI b else nI a) = nI (min a b) := by
  by_cases h : b < a
  · rw [if_pos ((nI_ltI hb ha).mpr h), Nat.min_eq_right (Nat.le_of_lt h)]
  · rw [if_neg (fun z => h ((nI_ltI hb ha).mp z)), Nat.min_eq_left (Nat.not_lt.mp h)]
theorem rg_acmp_ne (F : rF p l e R s m args below meth c cc nL own D A) {x y : Nat} {off : Int} {tgt : Nat} (hd : decode cc pc = .ok (.if_acmp .ne off, 3)) (ht : (pc : Int) + off = (tgt : Int)) (kt : ¬ x = y → rG p l e R s m args below meth c D A nL Q M k n lv tgt st) (kf : x = y → rG p l e R s m args below meth c D A nL Q M k n lv (pc + 3) st) : rG p l e R s m args below meth c D A nL Q M k n lv pc (.ref y :: .ref x :: st) := fun H locs ls hS hl =>
  lv_acmp_ne (rx := some x) (ry := some y) F.1 F.2.1 hd ht (fun h => kt (fun e => h (by rw [e])) H locs ls hS hl) (fun h => kf (Option.some.inj h) H locs ls hS hl)
theorem rg_acmp_eq (F : rF p l e R s m args below meth c cc nL own D A) {x y : Nat} {off : Int} {tgt : Nat} (hd : decode cc pc = .ok (.if_acmp .eq off, 3)) (ht : (pc : Int) + off = (tgt : Int)) (kt : x = y → rG p l e R s m args below meth c D A nL Q M k n lv tgt st) (kf : ¬ x = y → rG p l e R s m args below meth c D A nL Q M k n lv (pc + 3) st) : rG p l e R s m args below meth c D A nL Q M k n lv pc (.ref y :: .ref x :: st) := fun H locs ls hS hl =>
  lv_acmp_eq (rx := some x) (ry := some y) F.1 F.2.1 hd ht (fun h => kt (Option.some.inj h) H locs ls hS hl) (fun h => kf (fun e => h (by rw [e])) H locs ls hS hl)
/-- the class of a row of Objects, asked of the row and as a constant, is one object -/
theorem rg_getC (F : rF p l e R s m args below meth c cc nL own D A) {i a len mi : Nat} {f : Nat → Option Nat} (hmi : va_Mi "[Ljava/lang/Object;" mi s) (hm : M a = some (.inl (D.1 8, (len, .inr (.inr (.inr (.inr f))))))) (hw : Cond.methodLink own i ⟨"java/lang/Object", "getClass", "()Ljava/lang/Class;"⟩ ∈ wsL_law) (hdc : Cond.declares ⟨"java/lang/Object", "getClass", "()Ljava/lang/Class;"⟩ ∈ tables_1) (hw2 : Cond.selects "[Ljava/lang/Object;" ⟨"java/lang/Object", "getClass", "()Ljava/lang/Class;"⟩ ⟨"java/lang/Object", "getClass", "()Ljava/lang/Class;"⟩ ∈ wsL_law) (hw3 : Cond.instanceMethod ⟨"java/lang/Object", "getClass", "()Ljava/lang/Class;"⟩ ∈ wsL_law) (hw4 : Cond.native ⟨"java/lang/Object", "getClass", "()Ljava/lang/Class;"⟩ ∈ wsL_law) (hfr : 1 ≤ R.frames) (hlo : (st.map fun v => v.category).sum + 14 ≤ R.locals) (hd : decode cc pc = .ok (.invokevirtual i, 3)) (kk : rG p l e R s m args below meth c D A nL Q M k n lv (pc + 3) (.ref mi :: st)) : rG p l e R s m args below meth c D A nL Q M k n lv pc (.ref a :: st) := fun H locs ls hS hl =>
  va_getC F.1 F.2.1 (by rw [F.2.2.1]; exact hl.2.1.symm) F.2.2.2.1 (F.2.2.2.2.1 _ hw) (va_Nw.use rfl (F.2.2.2.2.2.2.2.1.2.2.2.2.2.2.2.2.2.1 _ hdc rfl)) (F.2.2.2.2.1 _ hw2) (F.2.2.2.2.1 _ hw3) (F.2.2.2.2.1 _ hw4) hmi ⟨_, hS.1 a _ hm, rfl, va_nmO (F.2.2.2.2.2.1.2 2 _ rfl).2 rfl⟩ hfr hlo hd (kk H locs ls hS hl)
theorem rg_ldcM (F : rF p l e R s m args below meth c cc nL own D A) {i mi : Nat} {C : String} (hmi : va_Mi C mi s) (hw : Cond.classLink own i C ∈ wsL_law) (hd : decode cc pc = .ok (.ldc i, 2)) (kk : rG p l e R s m args below meth c D A nL Q M k n lv (pc + 2) (.ref mi :: st)) : rG p l e R s m args below meth c D A nL Q M k n lv pc st := fun H locs ls hS hl =>
  va_ldcM F.1 F.2.1 F.2.2.2.1 (F.2.2.2.2.1 _ hw) hmi hd (kk H locs ls hS hl)
theorem rg_dup2 (F : rF p l e R s m args below meth c cc nL own D A) {v w : Value} (hd : decode cc pc = .ok (.dup2, 1)) (hv : v.category = 1) (hw : w.category = 1) (kk : rG p l e R s m args below meth c D A nL Q M k n lv (pc + 1) (v :: w :: v :: w :: st)) : rG p l e R s m args below meth c D A nL Q M k n lv pc (v :: w :: st) := fun H locs ls hS hl =>
  lv_dup2_11 F.1 F.2.1 hd hv hw (kk H locs ls hS hl)
end RK4
end
section
def rBel (x : Int32) (b : Nat) : Bool := decide (0 ≤ x.toInt ∧ x.toInt < b)
theorem rBel_neg {x : Int32} {b : Nat} (h : x < 0) : rBel x b = false := by
  have := Int32.lt_iff_toInt_lt.mp h
  have e : (0 : Int32).toInt = 0 := by decide
  unfold rBel
  apply decide_eq_false
  omega
theorem rBel_ge {x : Int32} {b : Nat} (h : nI b ≤ x) (hb : b < 2 ^ 31) : rBel x b = false := by
  have := Int32.le_iff_toInt_le.mp h
  rw [nI_toInt hb] at this
  unfold rBel
  apply decide_eq_false
  omega
theorem rBel_lt {x : Int32} {b : Nat} (hb : b < 2 ^ 31) (h : ¬ x < 0) (h2 : ¬ nI b ≤ x) : rBel x b = true := by
  have h1 : ¬ x.toInt < 0 := fun q => h (Int32.lt_iff_toInt_lt.mpr q)
  have h3 : ¬ (b : Int) ≤ x.toInt := fun q => h2 (Int32.le_iff_toInt_le.mpr (by rw [nI_toInt hb]; exact q))
  unfold rBel
  apply decide_eq_true
  omega
theorem rBel_nI {j b : Nat} (hj : j < 2 ^ 31) : rBel (nI j) b = decide (j < b) := by
  unfold rBel
  rw [nI_toInt hj]
  apply decide_eq_decide.mpr
  omega
theorem rBel_of {x : Int32} {b : Nat} (hb : b < 2 ^ 31) (h : rBel x b = true) : ∃ j : Nat, j < b ∧ x = nI j := by
  have := of_decide_eq_true h
  refine ⟨x.toInt.toNat, by omega, ?_⟩
  apply Int32.toInt_inj.mp
  rw [nI_toInt (by omega)]
  omega
set_option maxHeartbeats 4000000 in
set_option maxRecDepth 100000 in
theorem c_isBelow (l : Launch) (D : va_G) (M : rMem) (x : Int32) (b : Nat) (hb : b < 2 ^ 31) : CMi l D yX3_isBelow cX3_isBelow 2 ((some .boolean)) 1 0 0 M [.int (x), .int (nI b)] (fun r M' => r = nI (rBel x b).toNat ∧ M' = M) := by
  refine rM (lv0 := [some (.int (x)), some (.int (nI b))]) (by decide) rfl rfl (Nat.le_of_ble_eq_true rfl) (fun P0 E0 S0 m0 as0 bl0 mt0 c0 A F hr hnm => ?_)
  refine rg_iload_n F (pc := 0) dX3_isBelow_0 rfl ?_
  refine rg_if_lt F (pc := 1) (tgt := 13) dX3_isBelow_1 (by decide) (fun c1 => ?_) (fun c1 => ?_)
  · refine rg_iconst F (pc := 13) (v := nI 0) dX3_isBelow_13 (by decide) ?_
    exact rg_zret F (pc := 14) rfl hr (by decide) (by decide) dX3_isBelow_14 ⟨by rw [rBel_neg c1]; rfl, rfl⟩
  · refine rg_iload_n F (pc := 4) dX3_isBelow_4 rfl ?_
    refine rg_iload_n F (pc := 5) dX3_isBelow_5 rfl ?_
    refine rg_icmp_ge F (pc := 6) (tgt := 13) dX3_isBelow_6 (by decide) (fun c6 => ?_) (fun c6 => ?_)
    · refine rg_iconst F (pc := 13) (v := nI 0) dX3_isBelow_13 (by decide) ?_
      exact rg_zret F (pc := 14) rfl hr (by decide) (by decide) dX3_isBelow_14 ⟨by rw [rBel_ge c6 hb]; rfl, rfl⟩
    · refine rg_iconst F (pc := 9) (v := nI 1) dX3_isBelow_9 (by decide) ?_
      refine rg_goto F (pc := 10) (tgt := 14) dX3_isBelow_10 (by decide) ?_
      exact rg_zret F (pc := 14) rfl hr (by decide) (by decide) dX3_isBelow_14 ⟨by rw [rBel_lt hb c1 c6]; rfl, rfl⟩
def rLst (s t : Nat) : Nat := t / 2 ^ (s - 1) % 2
set_option maxHeartbeats 4000000 in
set_option maxRecDepth 100000 in
theorem c_lastStress (l : Launch) (D : va_G) (M : rMem) (a num s t v e o : Nat) (hm : M a = some (.inr (3, [.int (nI num), .int (nI s), .int (nI t), .int (nI v), .int (nI e), .int (nI o)]))) (hs : 1 ≤ s) (hs4 : s ≤ 4) (ht : t < 16) : CMi l D yX2_lastStress cX2_lastStress 1 ((some .int)) 1 0 0 M [.ref (a)] (fun r M' => r = nI (rLst s t) ∧ M' = M) := by
  refine rM (lv0 := [some (.ref (a))]) (by decide) rfl rfl (Nat.le_of_ble_eq_true rfl) (fun P0 E0 S0 m0 as0 bl0 mt0 c0 A F hr hnm => ?_)
  refine rg_aload_n F (pc := 0) dX2_lastStress_0 rfl ?_
  refine rg_get F (pc := 1) (ci := 3) rfl inX2 hm 2 (by decide) q203 (fun _ h9 => h9) rfl dX2_lastStress_1 ?_
  refine rg_aload_n F (pc := 4) dX2_lastStress_4 rfl ?_
  refine rg_get F (pc := 5) (ci := 3) rfl inX2 hm 1 (by decide) q204 (fun _ h9 => h9) rfl dX2_lastStress_5 ?_
  refine rg_iconst F (pc := 8) (v := nI 1) dX2_lastStress_8 (by decide) ?_
  refine rg_isub F (pc := 9) (v := nI (s - 1)) dX2_lastStress_9 (pk_sub (by omega)) ?_
  refine rg_ishr F (pc := 10) (v := nI (t / 2 ^ (s - 1))) dX2_lastStress_10 (rn_shr (by omega) (by omega)) ?_
  refine rg_iconst F (pc := 11) (v := nI 1) dX2_lastStress_11 (by decide) ?_
  refine rg_iand F (pc := 12) (v := nI ((t / 2 ^ (s - 1)) % 2)) dX2_lastStress_12 (rn_and1 (Nat.lt_of_le_of_lt (Nat.div_le_self _ _) (by omega))) ?_
  exact rg_iret F (pc := 13) hr (by decide) (by decide) dX2_lastStress_13 ⟨rfl, rfl⟩
set_option maxHeartbeats 4000000 in
set_option maxRecDepth 100000 in
theorem c_meltsInto (l : Launch) (D : va_G) (M : rMem) (a num s t v e o b num2 s2 t2 v2 e2 o2 : Nat) (hm : M a = some (.inr (3, [.int (nI num), .int (nI s), .int (nI t), .int (nI v), .int (nI e), .int (nI o)]))) (hm2 : M b = some (.inr (3, [.int (nI num2), .int (nI s2), .int (nI t2), .int (nI v2), .int (nI e2), .int (nI o2)]))) (he : e < 10) (ho : o2 < 2) : CMi l D yX2_meltsInto cX2_meltsInto 2 ((some .boolean)) 1 0 0 M [.ref (a), .ref (b)] (fun r M' => r = nI (decide (e = 0 ∧ o2 = 1)).toNat ∧ M' = M) := by
  refine rM (lv0 := [some (.ref (a)), some (.ref (b))]) (by decide) rfl rfl (Nat.le_of_ble_eq_true rfl) (fun P0 E0 S0 m0 as0 bl0 mt0 c0 A F hr hnm => ?_)
  refine rg_aload_n F (pc := 0) dX2_meltsInto_0 rfl ?_
  refine rg_get F (pc := 1) (ci := 3) rfl inX2 hm 4 (by decide) q120 (fun _ h9 => h9) rfl dX2_meltsInto_1 ?_
  refine rg_nif_ne F (pc := 4) (tgt := 18) dX2_meltsInto_4 (by decide) (by omega) (fun c4 => ?_) (fun c4 => ?_)
  · refine rg_iconst F (pc := 18) (v := nI 0) dX2_meltsInto_18 (by decide) ?_
    exact rg_zret F (pc := 19) rfl hr (by decide) (by decide) dX2_meltsInto_19 ⟨by rw [(show decide (e = 0 ∧ o2 = 1) = false from decide_eq_false (by omega))]; rfl, rfl⟩
  · refine rg_aload_n F (pc := 7) dX2_meltsInto_7 rfl ?_
    refine rg_get F (pc := 8) (ci := 3) rfl inX2 hm2 5 (by decide) q121 (fun _ h9 => h9) rfl dX2_meltsInto_8 ?_
    refine rg_nif_eq F (pc := 11) (tgt := 18) dX2_meltsInto_11 (by decide) (by omega) (fun c11 => ?_) (fun c11 => ?_)
    · refine rg_iconst F (pc := 18) (v := nI 0) dX2_meltsInto_18 (by decide) ?_
      exact rg_zret F (pc := 19) rfl hr (by decide) (by decide) dX2_meltsInto_19 ⟨by rw [(show decide (e = 0 ∧ o2 = 1) = false from decide_eq_false (by omega))]; rfl, rfl⟩
    · refine rg_iconst F (pc := 14) (v := nI 1) dX2_meltsInto_14 (by decide) ?_
      refine rg_goto F (pc := 15) (tgt := 19) dX2_meltsInto_15 (by decide) ?_
      exact rg_zret F (pc := 19) rfl hr (by decide) (by decide) dX2_meltsInto_19 ⟨by rw [(show decide (e = 0 ∧ o2 = 1) = true from decide_eq_true (by omega))]; rfl, rfl⟩
theorem rLst_lt (s t : Nat) : rLst s t < 2 := Nat.mod_lt _ (by decide)
def rRhy (n v e ls n2 v2 e2 ls2 : Nat) : Nat := if n = n2 ∨ v ≠ v2 then 0 else 1 + (if e = e2 then 1 else 0) + (if ls = ls2 then 1 else 0)
set_option maxHeartbeats 4000000 in
set_option maxRecDepth 100000 in
theorem c_rhymeWith (l : Launch) (D : va_G) (M : rMem) (a num s t v e o b num2 s2 t2 v2 e2 o2 : Nat) (hm : M a = some (.inr (3, [.int (nI num), .int (nI s), .int (nI t), .int (nI v), .int (nI e), .int (nI o)]))) (hm2 : M b = some (.inr (3, [.int (nI num2), .int (nI s2), .int (nI t2), .int (nI v2), .int (nI e2), .int (nI o2)]))) (hn : num < 100) (hv : v < 10) (he : e < 10) (hn2 : num2 < 100) (hv2 : v2 < 10) (he2 : e2 < 10) (hs : 1 ≤ s) (hs4 : s ≤ 4) (ht : t < 16) (hs2 : 1 ≤ s2) (hs42 : s2 ≤ 4) (ht2 : t2 < 16) : CMi l D yX2_rhymeWith cX2_rhymeWith 4 ((some .int)) 3 0 0 M [.ref (a), .ref (b)] (fun r M' => r = nI (rRhy num v e (rLst s t) num2 v2 e2 (rLst s2 t2)) ∧ M' = M) := by
  refine rM (lv0 := [some (.ref (a)), some (.ref (b)), none, none]) (by decide) rfl rfl (Nat.le_of_ble_eq_true rfl) (fun P0 E0 S0 m0 as0 bl0 mt0 c0 A F hr hnm => ?_)
  refine rg_aload_n F (pc := 0) dX2_rhymeWith_0 rfl ?_
  refine rg_get F (pc := 1) (ci := 3) rfl inX2 hm 0 (by decide) q198 (fun _ h9 => h9) rfl dX2_rhymeWith_1 ?_
  refine rg_aload_n F (pc := 4) dX2_rhymeWith_4 rfl ?_
  refine rg_get F (pc := 5) (ci := 3) rfl inX2 hm2 0 (by decide) q198 (fun _ h9 => h9) rfl dX2_rhymeWith_5 ?_
  refine rg_ncmp_eq F (pc := 8) (tgt := 22) dX2_rhymeWith_8 (by decide) (by omega) (by omega) (fun c8 => ?_) (fun c8 => ?_)
  · refine rg_iconst F (pc := 22) (v := nI 0) dX2_rhymeWith_22 (by decide) ?_
    exact rg_iret F (pc := 23) hr (by decide) (by decide) dX2_rhymeWith_23 ⟨by simp [rRhy, *] <;> rfl, rfl⟩
  · refine rg_aload_n F (pc := 11) dX2_rhymeWith_11 rfl ?_
    refine rg_get F (pc := 12) (ci := 3) rfl inX2 hm 3 (by decide) q199 (fun _ h9 => h9) rfl dX2_rhymeWith_12 ?_
    refine rg_aload_n F (pc := 15) dX2_rhymeWith_15 rfl ?_
    refine rg_get F (pc := 16) (ci := 3) rfl inX2 hm2 3 (by decide) q199 (fun _ h9 => h9) rfl dX2_rhymeWith_16 ?_
    refine rg_ncmp_eq F (pc := 19) (tgt := 24) dX2_rhymeWith_19 (by decide) (by omega) (by omega) (fun c19 => ?_) (fun c19 => ?_)
    · refine rg_aload_n F (pc := 24) dX2_rhymeWith_24 rfl ?_
      refine rg_get F (pc := 25) (ci := 3) rfl inX2 hm 4 (by decide) q120 (fun _ h9 => h9) rfl dX2_rhymeWith_25 ?_
      refine rg_aload_n F (pc := 28) dX2_rhymeWith_28 rfl ?_
      refine rg_get F (pc := 29) (ci := 3) rfl inX2 hm2 4 (by decide) q120 (fun _ h9 => h9) rfl dX2_rhymeWith_29 ?_
      refine rg_ncmp_ne F (pc := 32) (tgt := 39) dX2_rhymeWith_32 (by decide) (by omega) (by omega) (fun c32 => ?_) (fun c32 => ?_)
      · refine rg_iconst F (pc := 39) (v := nI 0) dX2_rhymeWith_39 (by decide) ?_
        refine rg_istore_n F (pc := 40) (lv' := [some (.ref (a)), some (.ref (b)), some (.int (nI 0)), none]) dX2_rhymeWith_40 (Nat.le_of_ble_eq_true rfl) rfl ?_
        refine rg_aload_n F (pc := 41) dX2_rhymeWith_41 rfl ?_
        refine rg_callVi F (pc := 42) (As := []) (rest := []) (ci := 3) (c_lastStress l D _ a num s t v e o hm hs hs4 ht) q200 vq_X2_lastStress rfl hm rfl rfl (Nat.le_of_ble_eq_true rfl) (Nat.le_of_ble_eq_true rfl) (Nat.le_of_ble_eq_true rfl) ⟨(Nat.le_of_ble_eq_true rfl), (Nat.le_of_ble_eq_true rfl)⟩ dX2_rhymeWith_42 (fun r1 M1 hp => ?_)
        refine rg_top (v2 := .int (nI (rLst s t))) (by rw [hp.1]) ?_
        refine rg_mem (M2 := M) hp.2 ?_
        refine rg_aload_n F (pc := 45) dX2_rhymeWith_45 rfl ?_
        refine rg_callVi F (pc := 46) (As := []) (rest := [.int (nI (rLst s t))]) (ci := 3) (c_lastStress l D _ b num2 s2 t2 v2 e2 o2 hm2 hs2 hs42 ht2) q200 vq_X2_lastStress rfl hm2 rfl rfl (Nat.le_of_ble_eq_true rfl) (Nat.le_of_ble_eq_true rfl) (Nat.le_of_ble_eq_true rfl) ⟨(Nat.le_of_ble_eq_true rfl), (Nat.le_of_ble_eq_true rfl)⟩ dX2_rhymeWith_46 (fun r1 M1 hp => ?_)
        refine rg_top (v2 := .int (nI (rLst s2 t2))) (by rw [hp.1]) ?_
        refine rg_mem (M2 := M) hp.2 ?_
        refine rg_ncmp_ne F (pc := 49) (tgt := 56) dX2_rhymeWith_49 (by decide) (Nat.lt_trans (rLst_lt _ _) (by decide)) (Nat.lt_trans (rLst_lt _ _) (by decide)) (fun c49 => ?_) (fun c49 => ?_)
        · refine rg_iconst F (pc := 56) (v := nI 0) dX2_rhymeWith_56 (by decide) ?_
          refine rg_istore_n F (pc := 57) (lv' := [some (.ref (a)), some (.ref (b)), some (.int (nI 0)), some (.int (nI 0))]) dX2_rhymeWith_57 (Nat.le_of_ble_eq_true rfl) rfl ?_
          refine rg_iconst F (pc := 58) (v := nI 1) dX2_rhymeWith_58 (by decide) ?_
          refine rg_iload_n F (pc := 59) dX2_rhymeWith_59 rfl ?_
          refine rg_iadd F (pc := 60) (v := nI (1 + 0)) dX2_rhymeWith_60 (nI_add _ _) ?_
          refine rg_iload_n F (pc := 61) dX2_rhymeWith_61 rfl ?_
          refine rg_iadd F (pc := 62) (v := nI ((1 + 0) + 0)) dX2_rhymeWith_62 (nI_add _ _) ?_
          exact rg_iret F (pc := 63) hr (by decide) (by decide) dX2_rhymeWith_63 ⟨by simp [rRhy, *] <;> rfl, rfl⟩
        · refine rg_iconst F (pc := 52) (v := nI 1) dX2_rhymeWith_52 (by decide) ?_
          refine rg_goto F (pc := 53) (tgt := 57) dX2_rhymeWith_53 (by decide) ?_
          refine rg_istore_n F (pc := 57) (lv' := [some (.ref (a)), some (.ref (b)), some (.int (nI 0)), some (.int (nI 1))]) dX2_rhymeWith_57 (Nat.le_of_ble_eq_true rfl) rfl ?_
          refine rg_iconst F (pc := 58) (v := nI 1) dX2_rhymeWith_58 (by decide) ?_
          refine rg_iload_n F (pc := 59) dX2_rhymeWith_59 rfl ?_
          refine rg_iadd F (pc := 60) (v := nI (1 + 0)) dX2_rhymeWith_60 (nI_add _ _) ?_
          refine rg_iload_n F (pc := 61) dX2_rhymeWith_61 rfl ?_
          refine rg_iadd F (pc := 62) (v := nI ((1 + 0) + 1)) dX2_rhymeWith_62 (nI_add _ _) ?_
          exact rg_iret F (pc := 63) hr (by decide) (by decide) dX2_rhymeWith_63 ⟨by simp [rRhy, *] <;> rfl, rfl⟩
      · refine rg_iconst F (pc := 35) (v := nI 1) dX2_rhymeWith_35 (by decide) ?_
        refine rg_goto F (pc := 36) (tgt := 40) dX2_rhymeWith_36 (by decide) ?_
        refine rg_istore_n F (pc := 40) (lv' := [some (.ref (a)), some (.ref (b)), some (.int (nI 1)), none]) dX2_rhymeWith_40 (Nat.le_of_ble_eq_true rfl) rfl ?_
        refine rg_aload_n F (pc := 41) dX2_rhymeWith_41 rfl ?_
        refine rg_callVi F (pc := 42) (As := []) (rest := []) (ci := 3) (c_lastStress l D _ a num s t v e o hm hs hs4 ht) q200 vq_X2_lastStress rfl hm rfl rfl (Nat.le_of_ble_eq_true rfl) (Nat.le_of_ble_eq_true rfl) (Nat.le_of_ble_eq_true rfl) ⟨(Nat.le_of_ble_eq_true rfl), (Nat.le_of_ble_eq_true rfl)⟩ dX2_rhymeWith_42 (fun r1 M1 hp => ?_)
        refine rg_top (v2 := .int (nI (rLst s t))) (by rw [hp.1]) ?_
        refine rg_mem (M2 := M) hp.2 ?_
        refine rg_aload_n F (pc := 45) dX2_rhymeWith_45 rfl ?_
        refine rg_callVi F (pc := 46) (As := []) (rest := [.int (nI (rLst s t))]) (ci := 3) (c_lastStress l D _ b num2 s2 t2 v2 e2 o2 hm2 hs2 hs42 ht2) q200 vq_X2_lastStress rfl hm2 rfl rfl (Nat.le_of_ble_eq_true rfl) (Nat.le_of_ble_eq_true rfl) (Nat.le_of_ble_eq_true rfl) ⟨(Nat.le_of_ble_eq_true rfl), (Nat.le_of_ble_eq_true rfl)⟩ dX2_rhymeWith_46 (fun r1 M1 hp => ?_)
        refine rg_top (v2 := .int (nI (rLst s2 t2))) (by rw [hp.1]) ?_
        refine rg_mem (M2 := M) hp.2 ?_
        refine rg_ncmp_ne F (pc := 49) (tgt := 56) dX2_rhymeWith_49 (by decide) (Nat.lt_trans (rLst_lt _ _) (by decide)) (Nat.lt_trans (rLst_lt _ _) (by decide)) (fun c49 => ?_) (fun c49 => ?_)
        · refine rg_iconst F (pc := 56) (v := nI 0) dX2_rhymeWith_56 (by decide) ?_
          refine rg_istore_n F (pc := 57) (lv' := [some (.ref (a)), some (.ref (b)), some (.int (nI 1)), some (.int (nI 0))]) dX2_rhymeWith_57 (Nat.le_of_ble_eq_true rfl) rfl ?_
          refine rg_iconst F (pc := 58) (v := nI 1) dX2_rhymeWith_58 (by decide) ?_
          refine rg_iload_n F (pc := 59) dX2_rhymeWith_59 rfl ?_
          refine rg_iadd F (pc := 60) (v := nI (1 + 1)) dX2_rhymeWith_60 (nI_add _ _) ?_
          refine rg_iload_n F (pc := 61) dX2_rhymeWith_61 rfl ?_
          refine rg_iadd F (pc := 62) (v := nI ((1 + 1) + 0)) dX2_rhymeWith_62 (nI_add _ _) ?_
          exact rg_iret F (pc := 63) hr (by decide) (by decide) dX2_rhymeWith_63 ⟨by simp [rRhy, *] <;> rfl, rfl⟩
        · refine rg_iconst F (pc := 52) (v := nI 1) dX2_rhymeWith_52 (by decide) ?_
          refine rg_goto F (pc := 53) (tgt := 57) dX2_rhymeWith_53 (by decide) ?_
          refine rg_istore_n F (pc := 57) (lv' := [some (.ref (a)), some (.ref (b)), some (.int (nI 1)), some (.int (nI 1))]) dX2_rhymeWith_57 (Nat.le_of_ble_eq_true rfl) rfl ?_
          refine rg_iconst F (pc := 58) (v := nI 1) dX2_rhymeWith_58 (by decide) ?_
          refine rg_iload_n F (pc := 59) dX2_rhymeWith_59 rfl ?_
          refine rg_iadd F (pc := 60) (v := nI (1 + 1)) dX2_rhymeWith_60 (nI_add _ _) ?_
          refine rg_iload_n F (pc := 61) dX2_rhymeWith_61 rfl ?_
          refine rg_iadd F (pc := 62) (v := nI ((1 + 1) + 1)) dX2_rhymeWith_62 (nI_add _ _) ?_
          exact rg_iret F (pc := 63) hr (by decide) (by decide) dX2_rhymeWith_63 ⟨by simp [rRhy, *] <;> rfl, rfl⟩
    · refine rg_iconst F (pc := 22) (v := nI 0) dX2_rhymeWith_22 (by decide) ?_
      exact rg_iret F (pc := 23) hr (by decide) (by decide) dX2_rhymeWith_23 ⟨by simp [rRhy, *] <;> rfl, rfl⟩
end
section
set_option maxHeartbeats 4000000 in
set_option maxRecDepth 100000 in
theorem c_pcheck (l : Launch) (D : va_G) (M : rMem) (j n : Nat) (hj : j < n) (hn : n < 2 ^ 31) : CMi l D yJ3_checkIndex_8e157 cJ3_checkIndex_8e157 3 ((some .int)) 1 0 0 M [.int (nI j), .int (nI n), .null] (fun r M' => r = nI j ∧ M' = M) := by
  refine rM (lv0 := [some (.int (nI j)), some (.int (nI n)), some (.null)]) (by decide) rfl rfl (Nat.le_of_ble_eq_true rfl) (fun P0 E0 S0 m0 as0 bl0 mt0 c0 A F hr hnm => ?_)
  refine rg_iload_n F (pc := 0) dJ3_checkIndex_8e157_0 rfl ?_
  refine rg_if_lt F (pc := 1) (tgt := 9) dJ3_checkIndex_8e157_1 (by decide) (fun c9 => absurd c9 (nI_pos (by omega))) (fun _ => ?_)
  refine rg_iload_n F (pc := 4) dJ3_checkIndex_8e157_4 rfl ?_
  refine rg_iload_n F (pc := 5) dJ3_checkIndex_8e157_5 rfl ?_
  refine rg_ncmp_lt F (pc := 6) (tgt := 16) dJ3_checkIndex_8e157_6 (by decide) (by omega) (by omega) (fun c6 => ?_) (fun c6 => by exfalso; omega)
  refine rg_iload_n F (pc := 16) dJ3_checkIndex_8e157_16 rfl ?_
  exact rg_iret F (pc := 17) hr (by decide) (by decide) dJ3_checkIndex_8e157_17 ⟨rfl, rfl⟩
set_option maxHeartbeats 4000000 in
set_option maxRecDepth 100000 in
theorem c_ocheck (l : Launch) (D : va_G) (M : rMem) (j n : Nat) (hj : j < n) (hn : n < 2 ^ 31) : CMi l D yJ15_checkIndex_7cf53 cJ15_checkIndex_7cf53 2 ((some .int)) 2 0 0 M [.int (nI j), .int (nI n)] (fun r M' => r = nI j ∧ M' = M) := by
  refine rM (lv0 := [some (.int (nI j)), some (.int (nI n))]) (by decide) rfl rfl (Nat.le_of_ble_eq_true rfl) (fun P0 E0 S0 m0 as0 bl0 mt0 c0 A F hr hnm => ?_)
  refine rg_iload_n F (pc := 0) dJ15_checkIndex_7cf53_0 rfl ?_
  refine rg_iload_n F (pc := 1) dJ15_checkIndex_7cf53_1 rfl ?_
  refine rg_null F (pc := 2) dJ15_checkIndex_7cf53_2 ?_
  refine rg_callSi F (pc := 3) (As := [.int (nI j), .int (nI n), .null]) (rest := []) (c_pcheck l D _ j n hj hn) q50 sq_J3_checkIndex_8e157 rfl rfl (Nat.le_of_ble_eq_true rfl) (Nat.le_of_ble_eq_true rfl) (Nat.le_of_ble_eq_true rfl) ⟨(Nat.le_of_ble_eq_true rfl), (Nat.le_of_ble_eq_true rfl)⟩ dJ15_checkIndex_7cf53_3 (fun r1 M1 hp => ?_)
  refine rg_top (v2 := .int (nI j)) (by rw [hp.1]) ?_
  refine rg_mem (M2 := M) hp.2 ?_
  exact rg_iret F (pc := 6) hr (by decide) (by decide) dJ15_checkIndex_7cf53_6 ⟨rfl, rfl⟩
set_option maxHeartbeats 4000000 in
set_option maxRecDepth 100000 in
theorem c_size (l : Launch) (D : va_G) (M : rMem) (a : Nat) (md : Int32) (bk n : Nat) (hm : M a = some (.inr (0, [.int md, .ref bk, .int (nI n)]))) : CMi l D yJx4a65c_size_8abf5 cJx4a65c_size_8abf5 1 ((some .int)) 1 0 0 M [.ref (a)] (fun r M' => r = nI n ∧ M' = M) := by
  refine rM (lv0 := [some (.ref (a))]) (by decide) rfl rfl (Nat.le_of_ble_eq_true rfl) (fun P0 E0 S0 m0 as0 bl0 mt0 c0 A F hr hnm => ?_)
  refine rg_aload_n F (pc := 0) dJx4a65c_size_8abf5_0 rfl ?_
  refine rg_get F (pc := 1) (ci := 0) rfl inJx4a65c hm 2 (by decide) q43 (fun _ h9 => h9) rfl dJx4a65c_size_8abf5_1 ?_
  exact rg_iret F (pc := 4) hr (by decide) (by decide) dJx4a65c_size_8abf5_4 ⟨rfl, rfl⟩
set_option maxHeartbeats 4000000 in
set_option maxRecDepth 100000 in
theorem c_isEmpty (l : Launch) (D : va_G) (M : rMem) (a : Nat) (md : Int32) (bk n : Nat) (hm : M a = some (.inr (0, [.int md, .ref bk, .int (nI n)]))) (hn : n < 2 ^ 31) : CMi l D yJx4a65c_isEmpty_aae02 cJx4a65c_isEmpty_aae02 1 ((some .boolean)) 1 0 0 M [.ref (a)] (fun r M' => r = nI (decide (n = 0)).toNat ∧ M' = M) := by
  refine rM (lv0 := [some (.ref (a))]) (by decide) rfl rfl (Nat.le_of_ble_eq_true rfl) (fun P0 E0 S0 m0 as0 bl0 mt0 c0 A F hr hnm => ?_)
  refine rg_aload_n F (pc := 0) dJx4a65c_isEmpty_aae02_0 rfl ?_
  refine rg_get F (pc := 1) (ci := 0) rfl inJx4a65c hm 2 (by decide) q43 (fun _ h9 => h9) rfl dJx4a65c_isEmpty_aae02_1 ?_
  refine rg_nif_ne F (pc := 4) (tgt := 11) dJx4a65c_isEmpty_aae02_4 (by decide) (by omega) (fun c4 => ?_) (fun c4 => ?_)
  · refine rg_iconst F (pc := 11) (v := nI 0) dJx4a65c_isEmpty_aae02_11 (by decide) ?_
    exact rg_zret F (pc := 12) rfl hr (by decide) (by decide) dJx4a65c_isEmpty_aae02_12 ⟨by rw [(show decide (n = 0) = false from decide_eq_false (by omega))]; rfl, rfl⟩
  · refine rg_iconst F (pc := 7) (v := nI 1) dJx4a65c_isEmpty_aae02_7 (by decide) ?_
    refine rg_goto F (pc := 8) (tgt := 12) dJx4a65c_isEmpty_aae02_8 (by decide) ?_
    exact rg_zret F (pc := 12) rfl hr (by decide) (by decide) dJx4a65c_isEmpty_aae02_12 ⟨by rw [(show decide (n = 0) = true from decide_eq_true (by omega))]; rfl, rfl⟩
set_option maxHeartbeats 4000000 in
set_option maxRecDepth 100000 in
theorem c_elem (l : Launch) (D : va_G) (M : rMem) (a : Nat) (md : Int32) (bk n cap j : Nat) (f : Nat → Option Nat) (hm : M a = some (.inr (0, [.int md, .ref bk, .int (nI n)]))) (hb : M bk = some (.inl (D.1 8, (cap, .inr (.inr (.inr (.inr f))))))) (hj : j < cap) (hc : cap < 2 ^ 31) : CMq l D yJx4a65c_elementData_915e3 cJx4a65c_elementData_915e3 2 ((some (.object "java/lang/Object"))) 1 0 0 M [.ref (a), .int (nI j)] (fun r M' => r = f j ∧ M' = M) := by
  refine rM (lv0 := [some (.ref (a)), some (.int (nI j))]) (by decide) rfl rfl (Nat.le_of_ble_eq_true rfl) (fun P0 E0 S0 m0 as0 bl0 mt0 c0 A F hr hnm => ?_)
  refine rg_aload_n F (pc := 0) dJx4a65c_elementData_915e3_0 rfl ?_
  refine rg_get F (pc := 1) (ci := 0) rfl inJx4a65c hm 1 (by decide) q24 (fun _ h9 => h9) rfl dJx4a65c_elementData_915e3_1 ?_
  refine rg_iload_n F (pc := 4) dJx4a65c_elementData_915e3_4 rfl ?_
  refine rg_aald F (pc := 5) (x := va_rf (f j)) hb (by omega) (by omega) rfl dJx4a65c_elementData_915e3_5 ?_
  exact rg_aret F (pc := 6) (f j) rfl hr (Or.inl ⟨_, rfl⟩) (by decide) (by decide) dJx4a65c_elementData_915e3_6 ⟨rfl, rfl⟩
set_option maxHeartbeats 4000000 in
set_option maxRecDepth 100000 in
theorem c_get (l : Launch) (D : va_G) (M : rMem) (a : Nat) (md : Int32) (bk n cap j : Nat) (f : Nat → Option Nat) (hm : M a = some (.inr (0, [.int md, .ref bk, .int (nI n)]))) (hb : M bk = some (.inl (D.1 8, (cap, .inr (.inr (.inr (.inr f))))))) (hj : j < n) (hn : n ≤ cap) (hc : cap ≤ 100) : CMq l D yJx4a65c_get_915e3 cJx4a65c_get_915e3 2 ((some (.object "java/lang/Object"))) 3 0 0 M [.ref (a), .int (nI j)] (fun r M' => r = f j ∧ M' = M) := by
  refine rM (lv0 := [some (.ref (a)), some (.int (nI j))]) (by decide) rfl rfl (Nat.le_of_ble_eq_true rfl) (fun P0 E0 S0 m0 as0 bl0 mt0 c0 A F hr hnm => ?_)
  refine rg_iload_n F (pc := 0) dJx4a65c_get_915e3_0 rfl ?_
  refine rg_aload_n F (pc := 1) dJx4a65c_get_915e3_1 rfl ?_
  refine rg_get F (pc := 2) (ci := 0) rfl inJx4a65c hm 2 (by decide) q43 (fun _ h9 => h9) rfl dJx4a65c_get_915e3_2 ?_
  refine rg_callSi F (pc := 5) (As := [.int (nI j), .int (nI n)]) (rest := []) (c_ocheck l D _ j n hj (by omega)) q47 sq_J15_checkIndex_7cf53 rfl rfl (Nat.le_of_ble_eq_true rfl) (Nat.le_of_ble_eq_true rfl) (Nat.le_of_ble_eq_true rfl) ⟨(Nat.le_of_ble_eq_true rfl), (Nat.le_of_ble_eq_true rfl)⟩ dJx4a65c_get_915e3_5 (fun r1 M1 hp => ?_)
  refine rg_top (v2 := .int (nI j)) (by rw [hp.1]) ?_
  refine rg_mem (M2 := M) hp.2 ?_
  refine rg_pop F (pc := 8) dJx4a65c_get_915e3_8 rfl ?_
  refine rg_aload_n F (pc := 9) dJx4a65c_get_915e3_9 rfl ?_
  refine rg_iload_n F (pc := 10) dJx4a65c_get_915e3_10 rfl ?_
  refine rg_callVq F (pc := 11) (As := [.int (nI j)]) (rest := []) (ci := 0) (c_elem l D _ a md bk n cap j f hm hb (by omega) (by omega)) q53 vq_Jx4a65c_elementData_915e3 rfl hm rfl rfl (Nat.le_of_ble_eq_true rfl) (Nat.le_of_ble_eq_true rfl) (Nat.le_of_ble_eq_true rfl) ⟨(Nat.le_of_ble_eq_true rfl), (Nat.le_of_ble_eq_true rfl)⟩ dJx4a65c_get_915e3_11 (fun r1 M1 hp => ?_)
  refine rg_top (v2 := va_rf (f j)) (by rw [hp.1]) ?_
  refine rg_mem (M2 := M) hp.2 ?_
  exact rg_aret F (pc := 14) (f j) rfl hr (Or.inl ⟨_, rfl⟩) (by decide) (by decide) dJx4a65c_get_915e3_14 ⟨rfl, rfl⟩
set_option maxHeartbeats 4000000 in
set_option maxRecDepth 100000 in
theorem c_set (l : Launch) (D : va_G) (M : rMem) (a : Nat) (md : Int32) (bk n cap j : Nat) (f : Nat → Option Nat) (x : Nat) (v ci : Nat) (vs : List Value) (C : String) (T : u_T) (N : Nat) (hm : M a = some (.inr (0, [.int md, .ref bk, .int (nI n)]))) (hb : M bk = some (.inl (D.1 8, (cap, .inr (.inr (.inr (.inr f))))))) (hj : j < n) (hn : n ≤ cap) (hc : cap ≤ 100) (hx : f j = some x) (hv : M v = some (.inr (ci, vs))) (hcl : vwCl[ci]? = some (C, T, N)) (hca : Cond.castable C "java/lang/Object" ∈ tables_1) : CMq l D yJx4a65c_set_bcc79 cJx4a65c_set_bcc79 4 ((some (.object "java/lang/Object"))) 3 0 0 M [.ref (a), .int (nI j), .ref (v)] (fun r M' => r = some x ∧ M' = mset M bk (.inl (D.1 8, (cap, .inr (.inr (.inr (.inr (va_up f j (some v))))))))) := by
  refine rM (lv0 := [some (.ref (a)), some (.int (nI j)), some (.ref (v)), none]) (by decide) rfl rfl (Nat.le_of_ble_eq_true rfl) (fun P0 E0 S0 m0 as0 bl0 mt0 c0 A F hr hnm => ?_)
  refine rg_iload_n F (pc := 0) dJx4a65c_set_bcc79_0 rfl ?_
  refine rg_aload_n F (pc := 1) dJx4a65c_set_bcc79_1 rfl ?_
  refine rg_get F (pc := 2) (ci := 0) rfl inJx4a65c hm 2 (by decide) q43 (fun _ h9 => h9) rfl dJx4a65c_set_bcc79_2 ?_
  refine rg_callSi F (pc := 5) (As := [.int (nI j), .int (nI n)]) (rest := []) (c_ocheck l D _ j n hj (by omega)) q47 sq_J15_checkIndex_7cf53 rfl rfl (Nat.le_of_ble_eq_true rfl) (Nat.le_of_ble_eq_true rfl) (Nat.le_of_ble_eq_true rfl) ⟨(Nat.le_of_ble_eq_true rfl), (Nat.le_of_ble_eq_true rfl)⟩ dJx4a65c_set_bcc79_5 (fun r1 M1 hp => ?_)
  refine rg_top (v2 := .int (nI j)) (by rw [hp.1]) ?_
  refine rg_mem (M2 := M) hp.2 ?_
  refine rg_pop F (pc := 8) dJx4a65c_set_bcc79_8 rfl ?_
  refine rg_aload_n F (pc := 9) dJx4a65c_set_bcc79_9 rfl ?_
  refine rg_iload_n F (pc := 10) dJx4a65c_set_bcc79_10 rfl ?_
  refine rg_callVq F (pc := 11) (As := [.int (nI j)]) (rest := []) (ci := 0) (c_elem l D _ a md bk n cap j f hm hb (by omega) (by omega)) q53 vq_Jx4a65c_elementData_915e3 rfl hm rfl rfl (Nat.le_of_ble_eq_true rfl) (Nat.le_of_ble_eq_true rfl) (Nat.le_of_ble_eq_true rfl) ⟨(Nat.le_of_ble_eq_true rfl), (Nat.le_of_ble_eq_true rfl)⟩ dJx4a65c_set_bcc79_11 (fun r1 M1 hp => ?_)
  refine rg_top (v2 := .ref x) (by rw [hp.1, hx]; rfl) ?_
  refine rg_mem (M2 := M) hp.2 ?_
  refine rg_astore_n F (pc := 14) (lv' := [some (.ref (a)), some (.int (nI j)), some (.ref (v)), some (.ref (x))]) dJx4a65c_set_bcc79_14 (Nat.le_of_ble_eq_true rfl) rfl ?_
  refine rg_aload_n F (pc := 15) dJx4a65c_set_bcc79_15 rfl ?_
  refine rg_get F (pc := 16) (ci := 0) rfl inJx4a65c hm 1 (by decide) q24 (fun _ h9 => h9) rfl dJx4a65c_set_bcc79_16 ?_
  refine rg_iload_n F (pc := 19) dJx4a65c_set_bcc79_19 rfl ?_
  refine rg_aload_n F (pc := 20) dJx4a65c_set_bcc79_20 rfl ?_
  refine rg_aast F (pc := 21) hb hv hcl hca (by omega) (by omega) dJx4a65c_set_bcc79_21 ?_
  refine rg_aload_n F (pc := 22) dJx4a65c_set_bcc79_22 rfl ?_
  exact rg_aret F (pc := 23) (some (x)) rfl hr (Or.inl ⟨_, rfl⟩) (by decide) (by decide) dJx4a65c_set_bcc79_23 ⟨rfl, rfl⟩
set_option maxHeartbeats 4000000 in
set_option maxRecDepth 100000 in
theorem c_newLength (l : Launch) (D : va_G) (M : rMem) (o g h : Nat) (hs : 0 < o + max g h) (hb : o + max g h < 2 ^ 30) (hg : g < 2 ^ 30) (hh : h < 2 ^ 30) : CMi l D yJ8_newLength_cabcc cJ8_newLength_cabcc 4 ((some .int)) 1 0 0 M [.int (nI o), .int (nI g), .int (nI h)] (fun r M' => r = nI (o + max g h) ∧ M' = M) := by
  refine rM (lv0 := [some (.int (nI o)), some (.int (nI g)), some (.int (nI h)), none]) (by decide) rfl rfl (Nat.le_of_ble_eq_true rfl) (fun P0 E0 S0 m0 as0 bl0 mt0 c0 A F hr hnm => ?_)
  refine rg_iload_n F (pc := 0) dJ8_newLength_cabcc_0 rfl ?_
  refine rg_iload_n F (pc := 1) dJ8_newLength_cabcc_1 rfl ?_
  refine rg_iload_n F (pc := 2) dJ8_newLength_cabcc_2 rfl ?_
  refine rg_max F (pc := 3) (v := nI (max g h)) q71 q64 q65 q66 (Nat.le_of_ble_eq_true rfl) (Nat.le_of_ble_eq_true rfl) ⟨(Nat.le_of_ble_eq_true rfl), (Nat.le_of_ble_eq_true rfl)⟩ (rn_max _ _ (by omega) (by omega)) dJ8_newLength_cabcc_3 ?_
  refine rg_iadd F (pc := 6) (v := nI (o + (max g h))) dJ8_newLength_cabcc_6 (nI_add _ _) ?_
  refine rg_istore_n F (pc := 7) (lv' := [some (.int (nI o)), some (.int (nI g)), some (.int (nI h)), some (.int (nI (o + (max g h))))]) dJ8_newLength_cabcc_7 (Nat.le_of_ble_eq_true rfl) rfl ?_
  refine rg_iconst F (pc := 8) (v := nI 0) dJ8_newLength_cabcc_8 (by decide) ?_
  refine rg_iload_n F (pc := 9) dJ8_newLength_cabcc_9 rfl ?_
  refine rg_ncmp_ge F (pc := 10) (tgt := 21) dJ8_newLength_cabcc_10 (by decide) (by omega) (by omega) (fun c10 => by exfalso; omega) (fun c10 => ?_)
  refine rg_iload_n F (pc := 13) dJ8_newLength_cabcc_13 rfl ?_
  refine rg_ldc F (pc := 14) (v := 2147483639) q72 dJ8_newLength_cabcc_14 ?_
  refine rg_top (v2 := .int (nI 2147483639)) rfl ?_
  refine rg_icmp_gt F (pc := 16) (tgt := 21) dJ8_newLength_cabcc_16 (by decide) (fun c16 => absurd c16 (Int32.not_lt.mpr (nI_le (a := o + max g h) (b := 2147483639) (by omega) (by decide)))) (fun c16 => ?_)
  refine rg_iload_n F (pc := 19) dJ8_newLength_cabcc_19 rfl ?_
  exact rg_iret F (pc := 20) hr (by decide) (by decide) dJ8_newLength_cabcc_20 ⟨rfl, rfl⟩
set_option maxHeartbeats 4000000 in
set_option maxRecDepth 100000 in
theorem c_copyOf3 (l : Launch) (D : va_G) (M : rMem) (bk cap nl : Nat) (f : Nat → Option Nat) (hb : M bk = some (.inl (D.1 8, (cap, .inr (.inr (.inr (.inr f))))))) (hcn : cap ≤ nl) (hnl : nl ≤ 100) (hel : ∀ i, i < cap → ∃ (y ci : Nat) (C : String) (T : u_T) (N : Nat) (fs : List Value), f i = some y ∧ M y = some (.inr (ci, fs)) ∧ vwCl[ci]? = some (C, T, N) ∧ Cond.castable C "java/lang/Object" ∈ tables_1) : CMq l D yJ7_copyOf_6403c cJ7_copyOf_6403c 4 ((some (.array (.object "java/lang/Object")))) 2 1 100 M [.ref (bk), .int (nI nl), .ref (rT3 D)] (fun r M' => ∃ q, M q = none ∧ r = some q ∧ M' = mset M q (.inl (D.1 8, (nl, .inr (.inr (.inr (.inr (va_cpy f (fun _ => none) 0 0 cap)))))))) := by
  refine rM (lv0 := [some (.ref (bk)), some (.int (nI nl)), some (.ref (rT3 D)), none]) (by decide) rfl rfl (Nat.le_of_ble_eq_true rfl) (fun P0 E0 S0 m0 as0 bl0 mt0 c0 A F hr hnm => ?_)
  refine rg_aload_n F (pc := 0) dJ7_copyOf_6403c_0 rfl ?_
  refine rg_ldcM F (pc := 1) F.2.2.2.2.2.2.2.1.2.2.2.2.2.2.2.2.2.2 q84 dJ7_copyOf_6403c_1 ?_
  refine rg_acmp_ne F (pc := 3) (tgt := 13) dJ7_copyOf_6403c_3 (by decide) (fun c3 => absurd rfl c3) (fun c3 => ?_)
  refine rg_iload_n F (pc := 6) dJ7_copyOf_6403c_6 rfl ?_
  refine rg_newA F (pc := 7) (by omega) (Nat.le_of_ble_eq_true rfl) (by show 0 + nl ≤ 100; omega) q85 qn1 dJ7_copyOf_6403c_7 (fun q7 hq7 => ?_)
  refine rg_widen (k2 := 1) (n2 := 100) (by omega) (by omega) ?_
  refine rg_goto F (pc := 10) (tgt := 24) dJ7_copyOf_6403c_10 (by decide) ?_
  refine rg_astore_n F (pc := 24) (lv' := [some (.ref (bk)), some (.int (nI nl)), some (.ref (rT3 D)), some (.ref (q7))]) dJ7_copyOf_6403c_24 (Nat.le_of_ble_eq_true rfl) rfl ?_
  refine rg_aload_n F (pc := 25) dJ7_copyOf_6403c_25 rfl ?_
  refine rg_iconst F (pc := 26) (v := nI 0) dJ7_copyOf_6403c_26 (by decide) ?_
  refine rg_aload_n F (pc := 27) dJ7_copyOf_6403c_27 rfl ?_
  refine rg_iconst F (pc := 28) (v := nI 0) dJ7_copyOf_6403c_28 (by decide) ?_
  refine rg_aload_n F (pc := 29) dJ7_copyOf_6403c_29 rfl ?_
  refine rg_alen F (pc := 30) (t := 2) (mset_keep hb (mne_none hb hq7)) rfl dJ7_copyOf_6403c_30 ?_
  refine rg_iload_n F (pc := 31) dJ7_copyOf_6403c_31 rfl ?_
  refine rg_min F (pc := 32) (v := nI (min cap nl)) q86 q87 q65 q88 (Nat.le_of_ble_eq_true rfl) (Nat.le_of_ble_eq_true rfl) ⟨(Nat.le_of_ble_eq_true rfl), (Nat.le_of_ble_eq_true rfl)⟩ (rn_min _ _ (by omega) (by omega)) dJ7_copyOf_6403c_32 ?_
  refine rg_top (v2 := .int (nI cap)) (by rw [Nat.min_eq_left hcn]) ?_
  refine rg_copyQ F (pc := 35) (mset_keep hb (mne_none hb hq7)) mset_eq q89 q90 q91 q92 (by omega) (by omega) (by omega) (by omega) (fun i hi y hy => by obtain ⟨y9, ci, C, T, N, fs, h1, h2, h3, h4⟩ := hel i hi; rw [Nat.zero_add, h1] at hy; cases hy; exact ⟨ci, C, T, N, fs, mset_keep h2 (mne_none h2 hq7), h3, h4⟩) (Nat.le_of_ble_eq_true rfl) (Nat.le_of_ble_eq_true rfl) dJ7_copyOf_6403c_35 ?_
  refine rg_mem (M2 := (mset M q7 (.inl (D.1 8, (nl, .inr (.inr (.inr (.inr (va_cpy f (fun _ => none) 0 0 cap))))))))) mset_mset ?_
  refine rg_aload_n F (pc := 38) dJ7_copyOf_6403c_38 rfl ?_
  exact rg_aret F (pc := 39) (some (q7)) rfl hr (Or.inr ⟨_, rfl⟩) (by omega) (by omega) dJ7_copyOf_6403c_39 ⟨q7, hq7, rfl, rfl⟩
set_option maxHeartbeats 4000000 in
set_option maxRecDepth 100000 in
theorem c_copyOf2 (l : Launch) (D : va_G) (M : rMem) (bk cap nl : Nat) (f : Nat → Option Nat) (hb : M bk = some (.inl (D.1 8, (cap, .inr (.inr (.inr (.inr f))))))) (hcn : cap ≤ nl) (hnl : nl ≤ 100) (hel : ∀ i, i < cap → ∃ (y ci : Nat) (C : String) (T : u_T) (N : Nat) (fs : List Value), f i = some y ∧ M y = some (.inr (ci, fs)) ∧ vwCl[ci]? = some (C, T, N) ∧ Cond.castable C "java/lang/Object" ∈ tables_1) : CMq l D yJ7_copyOf_1904c cJ7_copyOf_1904c 2 ((some (.array (.object "java/lang/Object")))) 3 1 100 M [.ref (bk), .int (nI nl)] (fun r M' => ∃ q, M q = none ∧ r = some q ∧ M' = mset M q (.inl (D.1 8, (nl, .inr (.inr (.inr (.inr (va_cpy f (fun _ => none) 0 0 cap)))))))) := by
  refine rM (lv0 := [some (.ref (bk)), some (.int (nI nl))]) (by decide) rfl rfl (Nat.le_of_ble_eq_true rfl) (fun P0 E0 S0 m0 as0 bl0 mt0 c0 A F hr hnm => ?_)
  refine rg_aload_n F (pc := 0) dJ7_copyOf_1904c_0 rfl ?_
  refine rg_iload_n F (pc := 1) dJ7_copyOf_1904c_1 rfl ?_
  refine rg_aload_n F (pc := 2) dJ7_copyOf_1904c_2 rfl ?_
  refine rg_getC F (pc := 3) F.2.2.2.2.2.2.2.1.2.2.2.2.2.2.2.2.2.2 hb q78 qn28 q79 q80 q81 (Nat.le_of_ble_eq_true rfl) (Nat.le_of_ble_eq_true rfl) dJ7_copyOf_1904c_3 ?_
  refine rg_callSq F (pc := 6) (As := [.ref (bk), .int (nI nl), .ref (rT3 D)]) (rest := []) (c_copyOf3 l D _ bk cap nl f hb hcn hnl hel) q82 sq_J7_copyOf_6403c rfl rfl (Nat.le_of_ble_eq_true rfl) (Nat.le_of_ble_eq_true rfl) (Nat.le_of_ble_eq_true rfl) ⟨(Nat.le_of_ble_eq_true rfl), (Nat.le_of_ble_eq_true rfl)⟩ dJ7_copyOf_1904c_6 (fun r1 M1 hp => ?_)
  refine rg_widen (k2 := 1) (n2 := 100) (by decide) (by decide) ?_
  obtain ⟨q7, hq7, hr9, hM9⟩ := hp
  refine rg_top (v2 := .ref q7) (by rw [hr9]; rfl) ?_
  refine rg_mem (M2 := (mset M q7 (.inl (D.1 8, (nl, .inr (.inr (.inr (.inr (va_cpy f (fun _ => none) 0 0 cap))))))))) hM9 ?_
  exact rg_aret F (pc := 9) (some (q7)) rfl hr (Or.inr ⟨_, rfl⟩) (by decide) (by decide) dJ7_copyOf_1904c_9 ⟨q7, hq7, rfl, rfl⟩
set_option maxHeartbeats 4000000 in
set_option maxRecDepth 100000 in
theorem c_grow1_first (l : Launch) (D : va_G) (M : rMem) (a : Nat) (md : Int32) (n : Nat) (hm : M a = some (.inr (0, [.int md, .ref (rT0 D), .int (nI n)]))) : CMq l D yJx4a65c_grow_92f84 cJx4a65c_grow_92f84 4 ((some (.array (.object "java/lang/Object")))) 4 1 100 M [.ref (a), .int (nI 1)] (fun r M' => ∃ q, M q = none ∧ r = some q ∧ M' = mset (mset M q (.inl (D.1 8, (10, .inr (.inr (.inr (.inr (fun _ => none)))))))) a (.inr (0, [.int md, .ref q, .int (nI n)]))) := by
  refine rM (lv0 := [some (.ref (a)), some (.int (nI 1)), none, none]) (by decide) rfl rfl (Nat.le_of_ble_eq_true rfl) (fun P0 E0 S0 m0 as0 bl0 mt0 c0 A F hr hnm => ?_)
  refine rg_aload_n F (pc := 0) dJx4a65c_grow_92f84_0 rfl ?_
  refine rg_get F (pc := 1) (ci := 0) rfl inJx4a65c hm 1 (by decide) q24 (fun _ h9 => h9) rfl dJx4a65c_grow_92f84_1 ?_
  refine rg_alenT0 F (pc := 4) dJx4a65c_grow_92f84_4 ?_
  refine rg_istore_n F (pc := 5) (lv' := [some (.ref (a)), some (.int (nI 1)), some (.int (nI 0)), none]) dJx4a65c_grow_92f84_5 (Nat.le_of_ble_eq_true rfl) rfl ?_
  refine rg_iload_n F (pc := 6) dJx4a65c_grow_92f84_6 rfl ?_
  refine rg_nif_gt F (pc := 7) (tgt := 20) dJx4a65c_grow_92f84_7 (by decide) (by omega) (fun c7 => by exfalso; omega) (fun c7 => ?_)
  refine rg_aload_n F (pc := 10) dJx4a65c_grow_92f84_10 rfl ?_
  refine rg_get F (pc := 11) (ci := 0) rfl inJx4a65c hm 1 (by decide) q24 (fun _ h9 => h9) rfl dJx4a65c_grow_92f84_11 ?_
  refine rg_getsT0 F (pc := 14) q23 dJx4a65c_grow_92f84_14 ?_
  refine rg_acmp_eq F (pc := 17) (tgt := 45) dJx4a65c_grow_92f84_17 (by decide) (fun c17 => ?_) (fun c17 => absurd rfl c17)
  refine rg_aload_n F (pc := 45) dJx4a65c_grow_92f84_45 rfl ?_
  refine rg_bipush F (pc := 46) (v := nI 10) dJx4a65c_grow_92f84_46 (by decide) ?_
  refine rg_iload_n F (pc := 48) dJx4a65c_grow_92f84_48 rfl ?_
  refine rg_max F (pc := 49) (v := nI (max 10 1)) q63 q64 q65 q66 (Nat.le_of_ble_eq_true rfl) (Nat.le_of_ble_eq_true rfl) ⟨(Nat.le_of_ble_eq_true rfl), (Nat.le_of_ble_eq_true rfl)⟩ (rn_max _ _ (by omega) (by omega)) dJx4a65c_grow_92f84_49 ?_
  refine rg_top (v2 := .int (nI 10)) (rfl) ?_
  refine rg_newA F (pc := 52) (by omega) (Nat.le_of_ble_eq_true rfl) (Nat.le_of_ble_eq_true rfl) q67 qn1 dJx4a65c_grow_92f84_52 (fun q7 hq7 => ?_)
  refine rg_widen (k2 := 1) (n2 := 100) (by omega) (by omega) ?_
  refine rg_dup_x1 F (pc := 55) dJx4a65c_grow_92f84_55 rfl rfl ?_
  refine rg_put F (pc := 56) (ci := 0) (ty := tyJx4a65c 1) rfl inJx4a65c tyJx4a65c tyJx4a65c_ok nmJx4a65c (mset_keep hm (mne_none hm hq7)) 1 (by decide) q24 (fun _ h9 => h9) rfl (tyJx4a65c_ok 1 (by decide)) rfl rfl (Nat.le_of_ble_eq_true rfl) dJx4a65c_grow_92f84_56 ?_
  refine rg_mem (M2 := (mset (mset M q7 (.inl (D.1 8, (10, .inr (.inr (.inr (.inr (fun _ => none)))))))) a (.inr (0, [.int (md), .ref (q7), .int (nI n)])))) rfl ?_
  exact rg_aret F (pc := 59) (some (q7)) rfl hr (Or.inr ⟨_, rfl⟩) (by decide) (by decide) dJx4a65c_grow_92f84_59 ⟨q7, hq7, rfl, rfl⟩
set_option maxHeartbeats 4000000 in
set_option maxRecDepth 100000 in
theorem c_grow1 (l : Launch) (D : va_G) (M : rMem) (a : Nat) (md : Int32) (bk n cap : Nat) (f : Nat → Option Nat) (hm : M a = some (.inr (0, [.int md, .ref bk, .int (nI n)]))) (hb : M bk = some (.inl (D.1 8, (cap, .inr (.inr (.inr (.inr f))))))) (hc1 : 1 ≤ cap) (hc : cap ≤ 60) (hel : ∀ i, i < cap → ∃ (y ci : Nat) (C : String) (T : u_T) (N : Nat) (fs : List Value), f i = some y ∧ M y = some (.inr (ci, fs)) ∧ vwCl[ci]? = some (C, T, N) ∧ Cond.castable C "java/lang/Object" ∈ tables_1) : CMq l D yJx4a65c_grow_92f84 cJx4a65c_grow_92f84 4 ((some (.array (.object "java/lang/Object")))) 4 1 100 M [.ref (a), .int (nI (cap + 1))] (fun r M' => ∃ q, M q = none ∧ r = some q ∧ M' = mset (mset M q (.inl (D.1 8, (cap + max 1 (cap / 2), .inr (.inr (.inr (.inr (va_cpy f (fun _ => none) 0 0 cap)))))))) a (.inr (0, [.int md, .ref q, .int (nI n)]))) := by
  refine rM (lv0 := [some (.ref (a)), some (.int (nI (cap + 1))), none, none]) (by decide) rfl rfl (Nat.le_of_ble_eq_true rfl) (fun P0 E0 S0 m0 as0 bl0 mt0 c0 A F hr hnm => ?_)
  refine rg_aload_n F (pc := 0) dJx4a65c_grow_92f84_0 rfl ?_
  refine rg_get F (pc := 1) (ci := 0) rfl inJx4a65c hm 1 (by decide) q24 (fun _ h9 => h9) rfl dJx4a65c_grow_92f84_1 ?_
  refine rg_alen F (pc := 4) (t := 2) hb rfl dJx4a65c_grow_92f84_4 ?_
  refine rg_istore_n F (pc := 5) (lv' := [some (.ref (a)), some (.int (nI (cap + 1))), some (.int (nI cap)), none]) dJx4a65c_grow_92f84_5 (Nat.le_of_ble_eq_true rfl) rfl ?_
  refine rg_iload_n F (pc := 6) dJx4a65c_grow_92f84_6 rfl ?_
  refine rg_nif_gt F (pc := 7) (tgt := 20) dJx4a65c_grow_92f84_7 (by decide) (by omega) (fun c7 => ?_) (fun c7 => by exfalso; omega)
  refine rg_iload_n F (pc := 20) dJx4a65c_grow_92f84_20 rfl ?_
  refine rg_iload_n F (pc := 21) dJx4a65c_grow_92f84_21 rfl ?_
  refine rg_iload_n F (pc := 22) dJx4a65c_grow_92f84_22 rfl ?_
  refine rg_isub F (pc := 23) (v := nI 1) dJx4a65c_grow_92f84_23 ((pk_sub (by omega)).trans (by rw [Nat.add_sub_cancel_left])) ?_
  refine rg_iload_n F (pc := 24) dJx4a65c_grow_92f84_24 rfl ?_
  refine rg_iconst F (pc := 25) (v := nI 1) dJx4a65c_grow_92f84_25 (by decide) ?_
  refine rg_ishr F (pc := 26) (v := nI (cap / 2 ^ 1)) dJx4a65c_grow_92f84_26 (rn_shr (by omega) (by omega)) ?_
  refine rg_top (v2 := .int (nI (cap / 2))) (by rw [Nat.pow_one]) ?_
  refine rg_callSi F (pc := 27) (As := [.int (nI cap), .int (nI 1), .int (nI (cap / 2))]) (rest := []) (c_newLength l D _ cap 1 (cap / 2) (by omega) (by omega) (by omega) (by omega)) q68 sq_J8_newLength_cabcc rfl rfl (Nat.le_of_ble_eq_true rfl) (Nat.le_of_ble_eq_true rfl) (Nat.le_of_ble_eq_true rfl) ⟨(Nat.le_of_ble_eq_true rfl), (Nat.le_of_ble_eq_true rfl)⟩ dJx4a65c_grow_92f84_27 (fun r1 M1 hp => ?_)
  refine rg_top (v2 := .int (nI (cap + max 1 (cap / 2)))) (by rw [hp.1]) ?_
  refine rg_mem (M2 := M) hp.2 ?_
  refine rg_istore_n F (pc := 30) (lv' := [some (.ref (a)), some (.int (nI (cap + 1))), some (.int (nI cap)), some (.int (nI (cap + max 1 (cap / 2))))]) dJx4a65c_grow_92f84_30 (Nat.le_of_ble_eq_true rfl) rfl ?_
  refine rg_aload_n F (pc := 31) dJx4a65c_grow_92f84_31 rfl ?_
  refine rg_aload_n F (pc := 32) dJx4a65c_grow_92f84_32 rfl ?_
  refine rg_get F (pc := 33) (ci := 0) rfl inJx4a65c hm 1 (by decide) q24 (fun _ h9 => h9) rfl dJx4a65c_grow_92f84_33 ?_
  refine rg_iload_n F (pc := 36) dJx4a65c_grow_92f84_36 rfl ?_
  refine rg_callSq F (pc := 37) (As := [.ref (bk), .int (nI (cap + max 1 (cap / 2)))]) (rest := [.ref (a)]) (c_copyOf2 l D _ bk cap (cap + max 1 (cap / 2)) f hb (by omega) (by omega) hel) q75 sq_J7_copyOf_1904c rfl rfl (Nat.le_of_ble_eq_true rfl) (Nat.le_of_ble_eq_true rfl) (Nat.le_of_ble_eq_true rfl) ⟨(Nat.le_of_ble_eq_true rfl), (Nat.le_of_ble_eq_true rfl)⟩ dJx4a65c_grow_92f84_37 (fun r1 M1 hp => ?_)
  refine rg_widen (k2 := 1) (n2 := 100) (by decide) (by decide) ?_
  obtain ⟨q7, hq7, hr9, hM9⟩ := hp
  refine rg_top (v2 := .ref q7) (by rw [hr9]; rfl) ?_
  refine rg_mem (M2 := (mset M q7 (.inl (D.1 8, (cap + max 1 (cap / 2), .inr (.inr (.inr (.inr (va_cpy f (fun _ => none) 0 0 cap))))))))) hM9 ?_
  refine rg_dup_x1 F (pc := 40) dJx4a65c_grow_92f84_40 rfl rfl ?_
  refine rg_put F (pc := 41) (ci := 0) (ty := tyJx4a65c 1) rfl inJx4a65c tyJx4a65c tyJx4a65c_ok nmJx4a65c (mset_keep hm (mne_none hm hq7)) 1 (by decide) q24 (fun _ h9 => h9) rfl (tyJx4a65c_ok 1 (by decide)) rfl rfl (Nat.le_of_ble_eq_true rfl) dJx4a65c_grow_92f84_41 ?_
  refine rg_mem (M2 := (mset (mset M q7 (.inl (D.1 8, (cap + max 1 (cap / 2), .inr (.inr (.inr (.inr (va_cpy f (fun _ => none) 0 0 cap)))))))) a (.inr (0, [.int (md), .ref (q7), .int (nI n)])))) rfl ?_
  exact rg_aret F (pc := 44) (some (q7)) rfl hr (Or.inr ⟨_, rfl⟩) (by decide) (by decide) dJx4a65c_grow_92f84_44 ⟨q7, hq7, rfl, rfl⟩
set_option maxHeartbeats 4000000 in
set_option maxRecDepth 100000 in
theorem c_grow0_first (l : Launch) (D : va_G) (M : rMem) (a : Nat) (md : Int32) (hm : M a = some (.inr (0, [.int md, .ref (rT0 D), .int (nI 0)]))) : CMq l D yJx4a65c_grow_d5877 cJx4a65c_grow_d5877 1 ((some (.array (.object "java/lang/Object")))) 5 1 100 M [.ref (a)] (fun r M' => ∃ q, M q = none ∧ r = some q ∧ M' = mset (mset M q (.inl (D.1 8, (10, .inr (.inr (.inr (.inr (fun _ => none)))))))) a (.inr (0, [.int md, .ref q, .int (nI 0)]))) := by
  refine rM (lv0 := [some (.ref (a))]) (by decide) rfl rfl (Nat.le_of_ble_eq_true rfl) (fun P0 E0 S0 m0 as0 bl0 mt0 c0 A F hr hnm => ?_)
  refine rg_aload_n F (pc := 0) dJx4a65c_grow_d5877_0 rfl ?_
  refine rg_aload_n F (pc := 1) dJx4a65c_grow_d5877_1 rfl ?_
  refine rg_get F (pc := 2) (ci := 0) rfl inJx4a65c hm 2 (by decide) q43 (fun _ h9 => h9) rfl dJx4a65c_grow_d5877_2 ?_
  refine rg_iconst F (pc := 5) (v := nI 1) dJx4a65c_grow_d5877_5 (by decide) ?_
  refine rg_iadd F (pc := 6) (v := nI (0 + 1)) dJx4a65c_grow_d5877_6 (nI_add _ _) ?_
  refine rg_top (v2 := .int (nI 1)) (rfl) ?_
  refine rg_callVq F (pc := 7) (As := [.int (nI 1)]) (rest := []) (ci := 0) (c_grow1_first l D _ a md 0 hm) q94 vq_Jx4a65c_grow_92f84 rfl hm rfl rfl (Nat.le_of_ble_eq_true rfl) (Nat.le_of_ble_eq_true rfl) (Nat.le_of_ble_eq_true rfl) ⟨(Nat.le_of_ble_eq_true rfl), (Nat.le_of_ble_eq_true rfl)⟩ dJx4a65c_grow_d5877_7 (fun r1 M1 hp => ?_)
  refine rg_widen (k2 := 1) (n2 := 100) (by decide) (by decide) ?_
  obtain ⟨q7, hq7, hr9, hM9⟩ := hp
  refine rg_top (v2 := .ref q7) (by rw [hr9]; rfl) ?_
  refine rg_mem (M2 := (mset (mset M q7 (.inl (D.1 8, (10, .inr (.inr (.inr (.inr (fun _ => none)))))))) a (.inr (0, [.int (md), .ref (q7), .int (nI 0)])))) hM9 ?_
  exact rg_aret F (pc := 10) (some (q7)) rfl hr (Or.inr ⟨_, rfl⟩) (by decide) (by decide) dJx4a65c_grow_d5877_10 ⟨q7, hq7, rfl, rfl⟩
set_option maxHeartbeats 4000000 in
set_option maxRecDepth 100000 in
theorem c_grow0 (l : Launch) (D : va_G) (M : rMem) (a : Nat) (md : Int32) (bk cap : Nat) (f : Nat → Option Nat) (hm : M a = some (.inr (0, [.int md, .ref bk, .int (nI cap)]))) (hb : M bk = some (.inl (D.1 8, (cap, .inr (.inr (.inr (.inr f))))))) (hc1 : 1 ≤ cap) (hc : cap ≤ 60) (hel : ∀ i, i < cap → ∃ (y ci : Nat) (C : String) (T : u_T) (N : Nat) (fs : List Value), f i = some y ∧ M y = some (.inr (ci, fs)) ∧ vwCl[ci]? = some (C, T, N) ∧ Cond.castable C "java/lang/Object" ∈ tables_1) : CMq l D yJx4a65c_grow_d5877 cJx4a65c_grow_d5877 1 ((some (.array (.object "java/lang/Object")))) 5 1 100 M [.ref (a)] (fun r M' => ∃ q, M q = none ∧ r = some q ∧ M' = mset (mset M q (.inl (D.1 8, (cap + max 1 (cap / 2), .inr (.inr (.inr (.inr (va_cpy f (fun _ => none) 0 0 cap)))))))) a (.inr (0, [.int md, .ref q, .int (nI cap)]))) := by
  refine rM (lv0 := [some (.ref (a))]) (by decide) rfl rfl (Nat.le_of_ble_eq_true rfl) (fun P0 E0 S0 m0 as0 bl0 mt0 c0 A F hr hnm => ?_)
  refine rg_aload_n F (pc := 0) dJx4a65c_grow_d5877_0 rfl ?_
  refine rg_aload_n F (pc := 1) dJx4a65c_grow_d5877_1 rfl ?_
  refine rg_get F (pc := 2) (ci := 0) rfl inJx4a65c hm 2 (by decide) q43 (fun _ h9 => h9) rfl dJx4a65c_grow_d5877_2 ?_
  refine rg_iconst F (pc := 5) (v := nI 1) dJx4a65c_grow_d5877_5 (by decide) ?_
  refine rg_iadd F (pc := 6) (v := nI (cap + 1)) dJx4a65c_grow_d5877_6 (nI_add _ _) ?_
  refine rg_callVq F (pc := 7) (As := [.int (nI (cap + 1))]) (rest := []) (ci := 0) (c_grow1 l D _ a md bk cap cap f hm hb hc1 hc hel) q94 vq_Jx4a65c_grow_92f84 rfl hm rfl rfl (Nat.le_of_ble_eq_true rfl) (Nat.le_of_ble_eq_true rfl) (Nat.le_of_ble_eq_true rfl) ⟨(Nat.le_of_ble_eq_true rfl), (Nat.le_of_ble_eq_true rfl)⟩ dJx4a65c_grow_d5877_7 (fun r1 M1 hp => ?_)
  refine rg_widen (k2 := 1) (n2 := 100) (by decide) (by decide) ?_
  obtain ⟨q7, hq7, hr9, hM9⟩ := hp
  refine rg_top (v2 := .ref q7) (by rw [hr9]; rfl) ?_
  refine rg_mem (M2 := (mset (mset M q7 (.inl (D.1 8, (cap + max 1 (cap / 2), .inr (.inr (.inr (.inr (va_cpy f (fun _ => none) 0 0 cap)))))))) a (.inr (0, [.int (md), .ref (q7), .int (nI cap)])))) hM9 ?_
  exact rg_aret F (pc := 10) (some (q7)) rfl hr (Or.inr ⟨_, rfl⟩) (by decide) (by decide) dJx4a65c_grow_d5877_10 ⟨q7, hq7, rfl, rfl⟩
/-- a list: its cell, its row (the shared empty one, or its own), the addresses of its elements -/
def isL (D : va_G) (M : rMem) (a : Nat) (md : Int32) (bk n : Nat) (g : Nat → Nat) : Prop :=
  M a = some (.inr (0, [.int md, .ref bk, .int (nI n)])) ∧ ((n = 0 ∧ bk = rT0 D) ∨ ∃ (cap : Nat) (f : Nat → Option Nat), M bk = some (.inl (D.1 8, (cap, .inr (.inr (.inr (.inr f)))))) ∧ n ≤ cap ∧ 1 ≤ cap ∧ cap ≤ 60 ∧ ∀ i, i < n → f i = some (g i))
/-- an object that may go into a list -/
def isE (M : rMem) (y : Nat) : Prop := ∃ (ci : Nat) (C : String) (T : u_T) (N : Nat) (fs : List Value), M y = some (.inr (ci, fs)) ∧ ci ≠ 0 ∧ vwCl[ci]? = some (C, T, N) ∧ Cond.castable C "java/lang/Object" ∈ tables_1
def addP (D : va_G) (M : rMem) (a : Nat) (md : Int32) (bk n : Nat) (g : Nat → Nat) (v : Nat) (M' : rMem) : Prop := ∃ (bk2 cap2 : Nat) (f2 : Nat → Option Nat), M' = mset (mset M a (.inr (0, [.int md, .ref bk2, .int (nI (n + 1))]))) bk2 (.inl (D.1 8, (cap2, .inr (.inr (.inr (.inr f2)))))) ∧ (bk2 = bk ∧ (∃ x, M bk = some (.inl x)) ∨ M bk2 = none) ∧ n + 1 ≤ cap2 ∧ cap2 ≤ 60 ∧ ∀ i, i < n + 1 → f2 i = some (va_up g n v i)
set_option maxHeartbeats 4000000 in
set_option maxRecDepth 100000 in
theorem c_add3_room (l : Launch) (D : va_G) (M : rMem) (a : Nat) (md : Int32) (bk n cap : Nat) (f : Nat → Option Nat) (g : Nat → Nat) (v ci : Nat) (vs : List Value) (C : String) (T : u_T) (N : Nat) (hm : M a = some (.inr (0, [.int md, .ref bk, .int (nI n)]))) (hb : M bk = some (.inl (D.1 8, (cap, .inr (.inr (.inr (.inr f))))))) (hn : n < cap) (hc : cap ≤ 60) (hf : ∀ i, i < n → f i = some (g i)) (hv : M v = some (.inr (ci, vs))) (hci : ci ≠ 0) (hcl : vwCl[ci]? = some (C, T, N)) (hca : Cond.castable C "java/lang/Object" ∈ tables_1) : CMv l D yJx4a65c_add_72be8 cJx4a65c_add_72be8 4 6 1 100 M [.ref (a), .ref (v), .ref (bk), .int (nI n)] (fun M' => addP D M a md bk n g v M') := by
  refine rM (lv0 := [some (.ref (a)), some (.ref (v)), some (.ref (bk)), some (.int (nI n))]) (by decide) rfl rfl (Nat.le_of_ble_eq_true rfl) (fun P0 E0 S0 m0 as0 bl0 mt0 c0 A F hr hnm => ?_)
  refine rg_iload_n F (pc := 0) dJx4a65c_add_72be8_0 rfl ?_
  refine rg_aload_n F (pc := 1) dJx4a65c_add_72be8_1 rfl ?_
  refine rg_alen F (pc := 2) (t := 2) hb rfl dJx4a65c_add_72be8_2 ?_
  refine rg_ncmp_ne F (pc := 3) (tgt := 11) dJx4a65c_add_72be8_3 (by decide) (by omega) (by omega) (fun c3 => ?_) (fun c3 => by exfalso; omega)
  refine rg_aload_n F (pc := 11) dJx4a65c_add_72be8_11 rfl ?_
  refine rg_iload_n F (pc := 12) dJx4a65c_add_72be8_12 rfl ?_
  refine rg_aload_n F (pc := 13) dJx4a65c_add_72be8_13 rfl ?_
  refine rg_aast F (pc := 14) hb hv hcl hca (by omega) (by omega) dJx4a65c_add_72be8_14 ?_
  refine rg_aload_n F (pc := 15) dJx4a65c_add_72be8_15 rfl ?_
  refine rg_iload_n F (pc := 16) dJx4a65c_add_72be8_16 rfl ?_
  refine rg_iconst F (pc := 17) (v := nI 1) dJx4a65c_add_72be8_17 (by decide) ?_
  refine rg_iadd F (pc := 18) (v := nI (n + 1)) dJx4a65c_add_72be8_18 (nI_add _ _) ?_
  refine rg_put F (pc := 19) (ci := 0) (ty := tyJx4a65c 2) rfl inJx4a65c tyJx4a65c tyJx4a65c_ok nmJx4a65c (mset_keep hm (mne_oa hm hb)) 2 (by decide) q43 (fun _ h9 => h9) rfl (tyJx4a65c_ok 2 (by decide)) rfl rfl (Nat.le_of_ble_eq_true rfl) dJx4a65c_add_72be8_19 ?_
  refine rg_mem (M2 := (mset (mset M bk (.inl (D.1 8, (cap, .inr (.inr (.inr (.inr (va_up f n (some v))))))))) a (.inr (0, [.int (md), .ref (bk), .int (nI (n + 1))])))) rfl ?_
  exact rg_vret F (pc := 22) hr (by decide) (by decide) dJx4a65c_add_72be8_22 ⟨bk, cap, va_up f n (some v), mset_comm (mne_ao hb hm), Or.inl ⟨rfl, _, hb⟩, hn, hc, fun i hi => by unfold va_up; by_cases h : i = n <;> simp [h]; exact hf i (by omega)⟩
set_option maxHeartbeats 4000000 in
set_option maxRecDepth 100000 in
theorem c_add3_full (l : Launch) (D : va_G) (M : rMem) (a : Nat) (md : Int32) (bk cap : Nat) (f : Nat → Option Nat) (g : Nat → Nat) (v ci : Nat) (vs : List Value) (C : String) (T : u_T) (N : Nat) (hm : M a = some (.inr (0, [.int md, .ref bk, .int (nI cap)]))) (hb : M bk = some (.inl (D.1 8, (cap, .inr (.inr (.inr (.inr f))))))) (hc1 : 1 ≤ cap) (hc : cap < 40) (hf : ∀ i, i < cap → f i = some (g i)) (hel : ∀ i, i < cap → isE M (g i)) (hv : M v = some (.inr (ci, vs))) (hci : ci ≠ 0) (hcl : vwCl[ci]? = some (C, T, N)) (hca : Cond.castable C "java/lang/Object" ∈ tables_1) : CMv l D yJx4a65c_add_72be8 cJx4a65c_add_72be8 4 6 1 100 M [.ref (a), .ref (v), .ref (bk), .int (nI cap)] (fun M' => addP D M a md bk cap g v M') := by
  have hel9 : ∀ i, i < cap → ∃ (y ci : Nat) (C : String) (T : u_T) (N : Nat) (fs : List Value), f i = some y ∧ M y = some (.inr (ci, fs)) ∧ vwCl[ci]? = some (C, T, N) ∧ Cond.castable C "java/lang/Object" ∈ tables_1 := fun i hi => by obtain ⟨ci, C, T, N, fs, h1, h2, h3, h4⟩ := hel i hi; exact ⟨g i, ci, C, T, N, fs, hf i hi, h1, h3, h4⟩
  refine rM (lv0 := [some (.ref (a)), some (.ref (v)), some (.ref (bk)), some (.int (nI cap))]) (by decide) rfl rfl (Nat.le_of_ble_eq_true rfl) (fun P0 E0 S0 m0 as0 bl0 mt0 c0 A F hr hnm => ?_)
  refine rg_iload_n F (pc := 0) dJx4a65c_add_72be8_0 rfl ?_
  refine rg_aload_n F (pc := 1) dJx4a65c_add_72be8_1 rfl ?_
  refine rg_alen F (pc := 2) (t := 2) hb rfl dJx4a65c_add_72be8_2 ?_
  refine rg_ncmp_ne F (pc := 3) (tgt := 11) dJx4a65c_add_72be8_3 (by decide) (by omega) (by omega) (fun c3 => absurd rfl c3) (fun c3 => ?_)
  refine rg_aload_n F (pc := 6) dJx4a65c_add_72be8_6 rfl ?_
  refine rg_callVq F (pc := 7) (As := []) (rest := []) (ci := 0) (c_grow0 l D _ a md bk cap f hm hb hc1 (by omega) hel9) q98 vq_Jx4a65c_grow_d5877 rfl hm rfl rfl (Nat.le_of_ble_eq_true rfl) (Nat.le_of_ble_eq_true rfl) (Nat.le_of_ble_eq_true rfl) ⟨(Nat.le_of_ble_eq_true rfl), (Nat.le_of_ble_eq_true rfl)⟩ dJx4a65c_add_72be8_7 (fun r1 M1 hp => ?_)
  refine rg_widen (k2 := 1) (n2 := 100) (by decide) (by decide) ?_
  obtain ⟨q7, hq7, hr9, hM9⟩ := hp
  refine rg_top (v2 := .ref q7) (by rw [hr9]; rfl) ?_
  refine rg_mem (M2 := (mset (mset M q7 (.inl (D.1 8, (cap + max 1 (cap / 2), .inr (.inr (.inr (.inr (va_cpy f (fun _ => none) 0 0 cap)))))))) a (.inr (0, [.int (md), .ref (q7), .int (nI cap)])))) hM9 ?_
  refine rg_astore_n F (pc := 10) (lv' := [some (.ref (a)), some (.ref (v)), some (.ref (q7)), some (.int (nI cap))]) dJx4a65c_add_72be8_10 (Nat.le_of_ble_eq_true rfl) rfl ?_
  refine rg_aload_n F (pc := 11) dJx4a65c_add_72be8_11 rfl ?_
  refine rg_iload_n F (pc := 12) dJx4a65c_add_72be8_12 rfl ?_
  refine rg_aload_n F (pc := 13) dJx4a65c_add_72be8_13 rfl ?_
  refine rg_aast F (pc := 14) (mset_keep mset_eq (Ne.symm (mne_none hm hq7))) (mset_keep (mset_keep hv (mne_none hv hq7)) (mne_ci hv hm hci)) hcl hca (by omega) (by omega) dJx4a65c_add_72be8_14 ?_
  refine rg_mem (M2 := (mset (mset M q7 (.inl (D.1 8, (cap + max 1 (cap / 2), .inr (.inr (.inr (.inr (va_up (va_cpy f (fun _ => none) 0 0 cap) cap (some v))))))))) a (.inr (0, [.int (md), .ref (q7), .int (nI cap)])))) (mset_swap (Ne.symm (mne_none hm hq7))) ?_
  refine rg_aload_n F (pc := 15) dJx4a65c_add_72be8_15 rfl ?_
  refine rg_iload_n F (pc := 16) dJx4a65c_add_72be8_16 rfl ?_
  refine rg_iconst F (pc := 17) (v := nI 1) dJx4a65c_add_72be8_17 (by decide) ?_
  refine rg_iadd F (pc := 18) (v := nI (cap + 1)) dJx4a65c_add_72be8_18 (nI_add _ _) ?_
  refine rg_put F (pc := 19) (ci := 0) (ty := tyJx4a65c 2) rfl inJx4a65c tyJx4a65c tyJx4a65c_ok nmJx4a65c mset_eq 2 (by decide) q43 (fun _ h9 => h9) rfl (tyJx4a65c_ok 2 (by decide)) rfl rfl (Nat.le_of_ble_eq_true rfl) dJx4a65c_add_72be8_19 ?_
  refine rg_mem (M2 := (mset (mset (mset M q7 (.inl (D.1 8, (cap + max 1 (cap / 2), .inr (.inr (.inr (.inr (va_up (va_cpy f (fun _ => none) 0 0 cap) cap (some v))))))))) a (.inr (0, [.int (md), .ref (q7), .int (nI cap)]))) a (.inr (0, [.int (md), .ref (q7), .int (nI (cap + 1))])))) rfl ?_
  refine rg_mem (M2 := (mset (mset M q7 (.inl (D.1 8, (cap + max 1 (cap / 2), .inr (.inr (.inr (.inr (va_up (va_cpy f (fun _ => none) 0 0 cap) cap (some v))))))))) a (.inr (0, [.int (md), .ref (q7), .int (nI (cap + 1))])))) mset_mset ?_
  exact rg_vret F (pc := 22) hr (by decide) (by decide) dJx4a65c_add_72be8_22 ⟨q7, cap + max 1 (cap / 2), va_up (va_cpy f (fun _ => none) 0 0 cap) cap (some v), mset_comm (mne_none hm hq7).symm, Or.inr hq7, by omega, by omega, fun i hi => by unfold va_up; by_cases h : i = cap <;> simp [h]; rw [pk_cpy_in (Nat.zero_le _) (by omega), Nat.zero_add, Nat.sub_zero]; exact hf i (by omega)⟩
set_option maxHeartbeats 4000000 in
set_option maxRecDepth 100000 in
theorem c_add3_first (l : Launch) (D : va_G) (M : rMem) (a : Nat) (md : Int32) (g : Nat → Nat) (v ci : Nat) (vs : List Value) (C : String) (T : u_T) (N : Nat) (hm : M a = some (.inr (0, [.int md, .ref (rT0 D), .int (nI 0)]))) (hv : M v = some (.inr (ci, vs))) (hci : ci ≠ 0) (hcl : vwCl[ci]? = some (C, T, N)) (hca : Cond.castable C "java/lang/Object" ∈ tables_1) : CMv l D yJx4a65c_add_72be8 cJx4a65c_add_72be8 4 6 1 100 M [.ref (a), .ref (v), .ref (rT0 D), .int (nI 0)] (fun M' => addP D M a md (rT0 D) 0 g v M') := by
  refine rM (lv0 := [some (.ref (a)), some (.ref (v)), some (.ref (rT0 D)), some (.int (nI 0))]) (by decide) rfl rfl (Nat.le_of_ble_eq_true rfl) (fun P0 E0 S0 m0 as0 bl0 mt0 c0 A F hr hnm => ?_)
  refine rg_iload_n F (pc := 0) dJx4a65c_add_72be8_0 rfl ?_
  refine rg_aload_n F (pc := 1) dJx4a65c_add_72be8_1 rfl ?_
  refine rg_alenT0 F (pc := 2) dJx4a65c_add_72be8_2 ?_
  refine rg_ncmp_ne F (pc := 3) (tgt := 11) dJx4a65c_add_72be8_3 (by decide) (by omega) (by omega) (fun c3 => absurd rfl c3) (fun c3 => ?_)
  refine rg_aload_n F (pc := 6) dJx4a65c_add_72be8_6 rfl ?_
  refine rg_callVq F (pc := 7) (As := []) (rest := []) (ci := 0) (c_grow0_first l D _ a md hm) q98 vq_Jx4a65c_grow_d5877 rfl hm rfl rfl (Nat.le_of_ble_eq_true rfl) (Nat.le_of_ble_eq_true rfl) (Nat.le_of_ble_eq_true rfl) ⟨(Nat.le_of_ble_eq_true rfl), (Nat.le_of_ble_eq_true rfl)⟩ dJx4a65c_add_72be8_7 (fun r1 M1 hp => ?_)
  refine rg_widen (k2 := 1) (n2 := 100) (by decide) (by decide) ?_
  obtain ⟨q7, hq7, hr9, hM9⟩ := hp
  refine rg_top (v2 := .ref q7) (by rw [hr9]; rfl) ?_
  refine rg_mem (M2 := (mset (mset M q7 (.inl (D.1 8, (10, .inr (.inr (.inr (.inr (fun _ => none)))))))) a (.inr (0, [.int (md), .ref (q7), .int (nI 0)])))) hM9 ?_
  refine rg_astore_n F (pc := 10) (lv' := [some (.ref (a)), some (.ref (v)), some (.ref (q7)), some (.int (nI 0))]) dJx4a65c_add_72be8_10 (Nat.le_of_ble_eq_true rfl) rfl ?_
  refine rg_aload_n F (pc := 11) dJx4a65c_add_72be8_11 rfl ?_
  refine rg_iload_n F (pc := 12) dJx4a65c_add_72be8_12 rfl ?_
  refine rg_aload_n F (pc := 13) dJx4a65c_add_72be8_13 rfl ?_
  refine rg_aast F (pc := 14) (mset_keep mset_eq (Ne.symm (mne_none hm hq7))) (mset_keep (mset_keep hv (mne_none hv hq7)) (mne_ci hv hm hci)) hcl hca (by omega) (by omega) dJx4a65c_add_72be8_14 ?_
  refine rg_mem (M2 := (mset (mset M q7 (.inl (D.1 8, (10, .inr (.inr (.inr (.inr (va_up (fun _ => none) 0 (some v))))))))) a (.inr (0, [.int (md), .ref (q7), .int (nI 0)])))) (mset_swap (Ne.symm (mne_none hm hq7))) ?_
  refine rg_aload_n F (pc := 15) dJx4a65c_add_72be8_15 rfl ?_
  refine rg_iload_n F (pc := 16) dJx4a65c_add_72be8_16 rfl ?_
  refine rg_iconst F (pc := 17) (v := nI 1) dJx4a65c_add_72be8_17 (by decide) ?_
  refine rg_iadd F (pc := 18) (v := nI (0 + 1)) dJx4a65c_add_72be8_18 (nI_add _ _) ?_
  refine rg_put F (pc := 19) (ci := 0) (ty := tyJx4a65c 2) rfl inJx4a65c tyJx4a65c tyJx4a65c_ok nmJx4a65c mset_eq 2 (by decide) q43 (fun _ h9 => h9) rfl (tyJx4a65c_ok 2 (by decide)) rfl rfl (Nat.le_of_ble_eq_true rfl) dJx4a65c_add_72be8_19 ?_
  refine rg_mem (M2 := (mset (mset (mset M q7 (.inl (D.1 8, (10, .inr (.inr (.inr (.inr (va_up (fun _ => none) 0 (some v))))))))) a (.inr (0, [.int (md), .ref (q7), .int (nI 0)]))) a (.inr (0, [.int (md), .ref (q7), .int (nI (0 + 1))])))) rfl ?_
  refine rg_mem (M2 := (mset (mset M q7 (.inl (D.1 8, (10, .inr (.inr (.inr (.inr (va_up (fun _ => none) 0 (some v))))))))) a (.inr (0, [.int (md), .ref (q7), .int (nI (0 + 1))])))) mset_mset ?_
  exact rg_vret F (pc := 22) hr (by decide) (by decide) dJx4a65c_add_72be8_22 ⟨q7, 10, va_up (fun _ => none) 0 (some v), mset_comm (mne_none hm hq7).symm, Or.inr hq7, by omega, by omega, fun i hi => by (have h : i = 0 := (by omega)); subst h; simp [va_up]⟩
theorem c_add3 (l : Launch) (D : va_G) (M : rMem) (a : Nat) (md : Int32) (bk n : Nat) (g : Nat → Nat) (v : Nat) (hL : isL D M a md bk n g) (hn : n < 40) (hel : ∀ i, i < n → isE M (g i)) (hv : isE M v) : CMv l D yJx4a65c_add_72be8 cJx4a65c_add_72be8 4 6 1 100 M [.ref (a), .ref (v), .ref (bk), .int (nI n)] (fun M' => addP D M a md bk n g v M') := by
  obtain ⟨ci, C, T, N, vs, hv, hci, hcl, hca⟩ := hv
  rcases hL with ⟨hm, (⟨rfl, rfl⟩ | ⟨cap, f, hb, h1, h2, h3, hf⟩)⟩
  · exact c_add3_first l D M a md g v ci vs C T N hm hv hci hcl hca
  · by_cases h : n < cap
    · exact c_add3_room l D M a md bk n cap f g v ci vs C T N hm hb h h3 hf hv hci hcl hca
    · have e : n = cap := by omega
      subst e
      exact c_add3_full l D M a md bk n f g v ci vs C T N hm hb h2 hn hf hel hv hci hcl hca
theorem isL_mod {D : va_G} {M : rMem} {a : Nat} {md md2 : Int32} {bk n : Nat} {g : Nat → Nat} (h : isL D M a md bk n g) : isL D (mset M a (.inr (0, [.int md2, .ref bk, .int (nI n)]))) a md2 bk n g := by
  refine ⟨mset_eq, ?_⟩
  rcases h with ⟨hm, (h | ⟨cap, f, hb, h1⟩)⟩
  · exact Or.inl h
  · exact Or.inr ⟨cap, f, mset_keep hb (mne_ao hb hm), h1⟩
theorem isE_mod {M : rMem} {y a : Nat} {x e : List Value} (h : isE M y) (hm : M a = some (.inr (0, x))) : isE (mset M a (.inr (0, e))) y := by
  obtain ⟨ci, C, T, N, fs, h1, h2, h3, h4⟩ := h
  exact ⟨ci, C, T, N, fs, mset_keep h1 (mne_ci h1 hm h2), h2, h3, h4⟩
theorem addP_mod {D : va_G} {M M' : rMem} {a : Nat} {md : Int32} {bk n v : Nat} {g : Nat → Nat} {x e : List Value} (hm : M a = some (.inr (0, x))) (h : addP D (mset M a (.inr (0, e))) a md bk n g v M') : addP D M a md bk n g v M' := by
  obtain ⟨bk2, cap2, f2, h1, h2, h3⟩ := h
  refine ⟨bk2, cap2, f2, by rw [h1, mset_mset], ?_, h3⟩
  rcases h2 with ⟨h, y, hy⟩ | h
  · refine Or.inl ⟨h, y, ?_⟩
    by_cases he : bk = a
    · rw [he, mset_eq] at hy; cases hy
    · rw [mset_ne he] at hy; exact hy
  · refine Or.inr ?_
    by_cases he : bk2 = a
    · rw [he, mset_eq] at h; cases h
    · rw [mset_ne he] at h; exact h
set_option maxHeartbeats 4000000 in
set_option maxRecDepth 100000 in
theorem c_add (l : Launch) (D : va_G) (M : rMem) (a : Nat) (md : Int32) (bk n : Nat) (g : Nat → Nat) (v : Nat) (hL : isL D M a md bk n g) (hn : n < 40) (hel : ∀ i, i < n → isE M (g i)) (hv : isE M v) : CMi l D yJx4a65c_add_9ea2d cJx4a65c_add_9ea2d 2 ((some .boolean)) 7 1 100 M [.ref (a), .ref (v)] (fun r M' => r = nI 1 ∧ ∃ md2, addP D M a md2 bk n g v M') := by
  refine rM (lv0 := [some (.ref (a)), some (.ref (v))]) (by decide) rfl rfl (Nat.le_of_ble_eq_true rfl) (fun P0 E0 S0 m0 as0 bl0 mt0 c0 A F hr hnm => ?_)
  refine rg_aload_n F (pc := 0) dJx4a65c_add_9ea2d_0 rfl ?_
  refine rg_dup F (pc := 1) dJx4a65c_add_9ea2d_1 rfl ?_
  refine rg_get F (pc := 2) (ci := 0) rfl inJx4a65c hL.1 0 (by decide) q102 (u_same (F.2.2.2.2.1 _ q103)) rfl dJx4a65c_add_9ea2d_2 ?_
  refine rg_iconst F (pc := 5) (v := nI 1) dJx4a65c_add_9ea2d_5 (by decide) ?_
  refine rg_iadd F (pc := 6) (v := md + (nI 1)) dJx4a65c_add_9ea2d_6 rfl ?_
  refine rg_put F (pc := 7) (ci := 0) (ty := tyJx4a65c 0) rfl inJx4a65c tyJx4a65c tyJx4a65c_ok nmJx4a65c hL.1 0 (by decide) q102 (u_same (F.2.2.2.2.1 _ q103)) rfl (tyJx4a65c_ok 0 (by decide)) rfl rfl (Nat.le_of_ble_eq_true rfl) dJx4a65c_add_9ea2d_7 ?_
  refine rg_mem (M2 := (mset M a (.inr (0, [.int (md + (nI 1)), .ref (bk), .int (nI n)])))) rfl ?_
  refine rg_aload_n F (pc := 10) dJx4a65c_add_9ea2d_10 rfl ?_
  refine rg_aload_n F (pc := 11) dJx4a65c_add_9ea2d_11 rfl ?_
  refine rg_aload_n F (pc := 12) dJx4a65c_add_9ea2d_12 rfl ?_
  refine rg_get F (pc := 13) (ci := 0) rfl inJx4a65c mset_eq 1 (by decide) q24 (fun _ h9 => h9) rfl dJx4a65c_add_9ea2d_13 ?_
  refine rg_aload_n F (pc := 16) dJx4a65c_add_9ea2d_16 rfl ?_
  refine rg_get F (pc := 17) (ci := 0) rfl inJx4a65c mset_eq 2 (by decide) q43 (fun _ h9 => h9) rfl dJx4a65c_add_9ea2d_17 ?_
  refine rg_callVv F (pc := 20) (As := [.ref (v), .ref (bk), .int (nI n)]) (rest := []) (ci := 0) (c_add3 l D _ a (md + nI 1) bk n g v (isL_mod hL) hn (fun i hi => isE_mod (hel i hi) hL.1) (isE_mod hv hL.1)) q104 vq_Jx4a65c_add_72be8 rfl mset_eq rfl rfl (Nat.le_of_ble_eq_true rfl) (Nat.le_of_ble_eq_true rfl) (Nat.le_of_ble_eq_true rfl) ⟨(Nat.le_of_ble_eq_true rfl), (Nat.le_of_ble_eq_true rfl)⟩ dJx4a65c_add_9ea2d_20 (fun M1 hp => ?_)
  refine rg_widen (k2 := 1) (n2 := 100) (by decide) (by decide) ?_
  obtain ⟨bk2, cap2, f2, hM9, h91, h92, h93, h94⟩ := hp
  refine rg_iconst F (pc := 23) (v := nI 1) dJx4a65c_add_9ea2d_23 (by decide) ?_
  exact rg_zret F (pc := 24) rfl hr (by decide) (by decide) dJx4a65c_add_9ea2d_24 ⟨rfl, md + nI 1, addP_mod hL.1 ⟨bk2, cap2, f2, hM9, h91, h92, h93, h94⟩⟩
set_option maxHeartbeats 4000000 in
set_option maxRecDepth 100000 in
theorem c_fastRemove (l : Launch) (D : va_G) (M : rMem) (a : Nat) (md : Int32) (bk k cap : Nat) (f : Nat → Option Nat) (hm : M a = some (.inr (0, [.int md, .ref bk, .int (nI (k + 1))]))) (hb : M bk = some (.inl (D.1 8, (cap, .inr (.inr (.inr (.inr f))))))) (hn : k < cap) (hc : cap ≤ 100) : CMv l D yJx4a65c_fastRemove_b59b0 cJx4a65c_fastRemove_b59b0 4 1 0 0 M [.ref (a), .ref (bk), .int (nI k)] (fun M' => M' = mset (mset M a (.inr (0, [.int (md + nI 1), .ref bk, .int (nI k)]))) bk (.inl (D.1 8, (cap, .inr (.inr (.inr (.inr (va_up f k none)))))))) := by
  refine rM (lv0 := [some (.ref (a)), some (.ref (bk)), some (.int (nI k)), none]) (by decide) rfl rfl (Nat.le_of_ble_eq_true rfl) (fun P0 E0 S0 m0 as0 bl0 mt0 c0 A F hr hnm => ?_)
  refine rg_aload_n F (pc := 0) dJx4a65c_fastRemove_b59b0_0 rfl ?_
  refine rg_dup F (pc := 1) dJx4a65c_fastRemove_b59b0_1 rfl ?_
  refine rg_get F (pc := 2) (ci := 0) rfl inJx4a65c hm 0 (by decide) q102 (u_same (F.2.2.2.2.1 _ q103)) rfl dJx4a65c_fastRemove_b59b0_2 ?_
  refine rg_iconst F (pc := 5) (v := nI 1) dJx4a65c_fastRemove_b59b0_5 (by decide) ?_
  refine rg_iadd F (pc := 6) (v := md + (nI 1)) dJx4a65c_fastRemove_b59b0_6 rfl ?_
  refine rg_put F (pc := 7) (ci := 0) (ty := tyJx4a65c 0) rfl inJx4a65c tyJx4a65c tyJx4a65c_ok nmJx4a65c hm 0 (by decide) q102 (u_same (F.2.2.2.2.1 _ q103)) rfl (tyJx4a65c_ok 0 (by decide)) rfl rfl (Nat.le_of_ble_eq_true rfl) dJx4a65c_fastRemove_b59b0_7 ?_
  refine rg_mem (M2 := (mset M a (.inr (0, [.int (md + (nI 1)), .ref (bk), .int (nI (k + 1))])))) rfl ?_
  refine rg_aload_n F (pc := 10) dJx4a65c_fastRemove_b59b0_10 rfl ?_
  refine rg_get F (pc := 11) (ci := 0) rfl inJx4a65c mset_eq 2 (by decide) q43 (fun _ h9 => h9) rfl dJx4a65c_fastRemove_b59b0_11 ?_
  refine rg_iconst F (pc := 14) (v := nI 1) dJx4a65c_fastRemove_b59b0_14 (by decide) ?_
  refine rg_isub F (pc := 15) (v := nI k) dJx4a65c_fastRemove_b59b0_15 ((pk_sub (by omega)).trans (by rw [Nat.add_sub_cancel])) ?_
  refine rg_dup F (pc := 16) dJx4a65c_fastRemove_b59b0_16 rfl ?_
  refine rg_istore_n F (pc := 17) (lv' := [some (.ref (a)), some (.ref (bk)), some (.int (nI k)), some (.int (nI k))]) dJx4a65c_fastRemove_b59b0_17 (Nat.le_of_ble_eq_true rfl) rfl ?_
  refine rg_iload_n F (pc := 18) dJx4a65c_fastRemove_b59b0_18 rfl ?_
  refine rg_ncmp_le F (pc := 19) (tgt := 34) dJx4a65c_fastRemove_b59b0_19 (by decide) (by omega) (by omega) (fun c19 => ?_) (fun c19 => by exfalso; omega)
  refine rg_aload_n F (pc := 34) dJx4a65c_fastRemove_b59b0_34 rfl ?_
  refine rg_aload_n F (pc := 35) dJx4a65c_fastRemove_b59b0_35 rfl ?_
  refine rg_iload_n F (pc := 36) dJx4a65c_fastRemove_b59b0_36 rfl ?_
  refine rg_dup_x1 F (pc := 37) dJx4a65c_fastRemove_b59b0_37 rfl rfl ?_
  refine rg_put F (pc := 38) (ci := 0) (ty := tyJx4a65c 2) rfl inJx4a65c tyJx4a65c tyJx4a65c_ok nmJx4a65c mset_eq 2 (by decide) q43 (fun _ h9 => h9) rfl (tyJx4a65c_ok 2 (by decide)) rfl rfl (Nat.le_of_ble_eq_true rfl) dJx4a65c_fastRemove_b59b0_38 ?_
  refine rg_mem (M2 := (mset (mset M a (.inr (0, [.int (md + (nI 1)), .ref (bk), .int (nI (k + 1))]))) a (.inr (0, [.int (md + (nI 1)), .ref (bk), .int (nI k)])))) rfl ?_
  refine rg_mem (M2 := (mset M a (.inr (0, [.int (md + (nI 1)), .ref (bk), .int (nI k)])))) mset_mset ?_
  refine rg_null F (pc := 41) dJx4a65c_fastRemove_b59b0_41 ?_
  refine rg_aastN F (pc := 42) (mset_keep hb (mne_ao hb hm)) (by omega) (by omega) dJx4a65c_fastRemove_b59b0_42 ?_
  exact rg_vret F (pc := 43) hr (by decide) (by decide) dJx4a65c_fastRemove_b59b0_43 rfl
set_option maxHeartbeats 4000000 in
set_option maxRecDepth 100000 in
theorem c_remove (l : Launch) (D : va_G) (M : rMem) (a : Nat) (md : Int32) (bk k cap : Nat) (f : Nat → Option Nat) (x : Nat) (hm : M a = some (.inr (0, [.int md, .ref bk, .int (nI (k + 1))]))) (hb : M bk = some (.inl (D.1 8, (cap, .inr (.inr (.inr (.inr f))))))) (hn : k < cap) (hc : cap ≤ 100) (hx : f k = some x) : CMq l D yJx4a65c_remove_915e3 cJx4a65c_remove_915e3 4 ((some (.object "java/lang/Object"))) 3 0 0 M [.ref (a), .int (nI k)] (fun r M' => r = some x ∧ M' = mset (mset M a (.inr (0, [.int (md + nI 1), .ref bk, .int (nI k)]))) bk (.inl (D.1 8, (cap, .inr (.inr (.inr (.inr (va_up f k none)))))))) := by
  refine rM (lv0 := [some (.ref (a)), some (.int (nI k)), none, none]) (by decide) rfl rfl (Nat.le_of_ble_eq_true rfl) (fun P0 E0 S0 m0 as0 bl0 mt0 c0 A F hr hnm => ?_)
  refine rg_iload_n F (pc := 0) dJx4a65c_remove_915e3_0 rfl ?_
  refine rg_aload_n F (pc := 1) dJx4a65c_remove_915e3_1 rfl ?_
  refine rg_get F (pc := 2) (ci := 0) rfl inJx4a65c hm 2 (by decide) q43 (fun _ h9 => h9) rfl dJx4a65c_remove_915e3_2 ?_
  refine rg_callSi F (pc := 5) (As := [.int (nI k), .int (nI (k + 1))]) (rest := []) (c_ocheck l D _ k (k + 1) (by omega) (by omega)) q47 sq_J15_checkIndex_7cf53 rfl rfl (Nat.le_of_ble_eq_true rfl) (Nat.le_of_ble_eq_true rfl) (Nat.le_of_ble_eq_true rfl) ⟨(Nat.le_of_ble_eq_true rfl), (Nat.le_of_ble_eq_true rfl)⟩ dJx4a65c_remove_915e3_5 (fun r1 M1 hp => ?_)
  refine rg_top (v2 := .int (nI k)) (by rw [hp.1]) ?_
  refine rg_mem (M2 := M) hp.2 ?_
  refine rg_pop F (pc := 8) dJx4a65c_remove_915e3_8 rfl ?_
  refine rg_aload_n F (pc := 9) dJx4a65c_remove_915e3_9 rfl ?_
  refine rg_get F (pc := 10) (ci := 0) rfl inJx4a65c hm 1 (by decide) q24 (fun _ h9 => h9) rfl dJx4a65c_remove_915e3_10 ?_
  refine rg_astore_n F (pc := 13) (lv' := [some (.ref (a)), some (.int (nI k)), some (.ref (bk)), none]) dJx4a65c_remove_915e3_13 (Nat.le_of_ble_eq_true rfl) rfl ?_
  refine rg_aload_n F (pc := 14) dJx4a65c_remove_915e3_14 rfl ?_
  refine rg_iload_n F (pc := 15) dJx4a65c_remove_915e3_15 rfl ?_
  refine rg_aald F (pc := 16) (x := .ref (x)) hb (by omega) (by omega) (by rw [hx]; rfl) dJx4a65c_remove_915e3_16 ?_
  refine rg_astore_n F (pc := 17) (lv' := [some (.ref (a)), some (.int (nI k)), some (.ref (bk)), some (.ref (x))]) dJx4a65c_remove_915e3_17 (Nat.le_of_ble_eq_true rfl) rfl ?_
  refine rg_aload_n F (pc := 18) dJx4a65c_remove_915e3_18 rfl ?_
  refine rg_aload_n F (pc := 19) dJx4a65c_remove_915e3_19 rfl ?_
  refine rg_iload_n F (pc := 20) dJx4a65c_remove_915e3_20 rfl ?_
  refine rg_callVv F (pc := 21) (As := [.ref (bk), .int (nI k)]) (rest := []) (ci := 0) (c_fastRemove l D _ a md bk k cap f hm hb hn hc) q141 vq_Jx4a65c_fastRemove_b59b0 rfl hm rfl rfl (Nat.le_of_ble_eq_true rfl) (Nat.le_of_ble_eq_true rfl) (Nat.le_of_ble_eq_true rfl) ⟨(Nat.le_of_ble_eq_true rfl), (Nat.le_of_ble_eq_true rfl)⟩ dJx4a65c_remove_915e3_21 (fun M1 hp => ?_)
  refine rg_mem (M2 := (mset (mset M a (.inr (0, [.int (md + nI 1), .ref (bk), .int (nI k)]))) bk (.inl (D.1 8, (cap, .inr (.inr (.inr (.inr (va_up f k none))))))))) hp ?_
  refine rg_aload_n F (pc := 24) dJx4a65c_remove_915e3_24 rfl ?_
  exact rg_aret F (pc := 25) (some (x)) rfl hr (Or.inl ⟨_, rfl⟩) (by decide) (by decide) dJx4a65c_remove_915e3_25 ⟨rfl, rfl⟩
set_option maxHeartbeats 4000000 in
set_option maxRecDepth 100000 in
theorem c_acInit (l : Launch) (D : va_G) (M : rMem) (a : Nat) : CMv l D yJxa1e45_init_da8c8 cJxa1e45_init_da8c8 1 1 0 0 M [.ref (a)] (fun M' => M' = M) := by
  refine rM (lv0 := [some (.ref (a))]) (by decide) rfl rfl (Nat.le_of_ble_eq_true rfl) (fun P0 E0 S0 m0 as0 bl0 mt0 c0 A F hr hnm => ?_)
  refine rg_aload_n F (pc := 0) dJxa1e45_init_da8c8_0 rfl ?_
  refine rg_objInit F (pc := 1) q32 q11 q12 dJxa1e45_init_da8c8_1 (Nat.le_of_ble_eq_true rfl) (Nat.le_of_ble_eq_true rfl) ?_
  exact rg_vret F (pc := 4) hr (by decide) (by decide) dJxa1e45_init_da8c8_4 rfl
set_option maxHeartbeats 4000000 in
set_option maxRecDepth 100000 in
theorem c_alInit (l : Launch) (D : va_G) (M : rMem) (a : Nat) (md : Int32) (e0 : Option Nat) (z : Int32) (hm : M a = some (.inr (0, [.int md, va_rf e0, .int z]))) : CMv l D yJxc12de_init_da8c8 cJxc12de_init_da8c8 1 2 0 0 M [.ref (a)] (fun M' => M' = mset M a (.inr (0, [.int (nI 0), va_rf e0, .int z]))) := by
  refine rM (lv0 := [some (.ref (a))]) (by decide) rfl rfl (Nat.le_of_ble_eq_true rfl) (fun P0 E0 S0 m0 as0 bl0 mt0 c0 A F hr hnm => ?_)
  refine rg_aload_n F (pc := 0) dJxc12de_init_da8c8_0 rfl ?_
  refine rg_callIv F (pc := 1) (As := []) (rest := []) (c_acInit l D _ a) q29 iq_Jxa1e45_init_da8c8 rfl rfl (Nat.le_of_ble_eq_true rfl) (Nat.le_of_ble_eq_true rfl) (Nat.le_of_ble_eq_true rfl) ⟨(Nat.le_of_ble_eq_true rfl), (Nat.le_of_ble_eq_true rfl)⟩ dJxc12de_init_da8c8_1 (fun M1 hp => ?_)
  refine rg_mem (M2 := M) hp ?_
  refine rg_aload_n F (pc := 4) dJxc12de_init_da8c8_4 rfl ?_
  refine rg_iconst F (pc := 5) (v := nI 0) dJxc12de_init_da8c8_5 (by decide) ?_
  refine rg_put F (pc := 6) (ci := 0) (ty := tyJx4a65c 0) rfl inJx4a65c tyJx4a65c tyJx4a65c_ok nmJx4a65c hm 0 (by decide) q28 (fun _ h9 => h9) rfl (tyJx4a65c_ok 0 (by decide)) rfl rfl (Nat.le_of_ble_eq_true rfl) dJxc12de_init_da8c8_6 ?_
  refine rg_mem (M2 := (mset M a (.inr (0, [.int (nI 0), va_rf (e0), .int (z)])))) rfl ?_
  exact rg_vret F (pc := 9) hr (by decide) (by decide) dJxc12de_init_da8c8_9 rfl
set_option maxHeartbeats 4000000 in
set_option maxRecDepth 100000 in
theorem c_listInit (l : Launch) (D : va_G) (M : rMem) (a : Nat) (md : Int32) (e0 : Option Nat) (z : Int32) (hm : M a = some (.inr (0, [.int md, va_rf e0, .int z]))) : CMv l D yJx4a65c_init_da8c8 cJx4a65c_init_da8c8 1 3 0 0 M [.ref (a)] (fun M' => M' = mset M a (.inr (0, [.int (nI 0), .ref (rT0 D), .int z]))) := by
  refine rM (lv0 := [some (.ref (a))]) (by decide) rfl rfl (Nat.le_of_ble_eq_true rfl) (fun P0 E0 S0 m0 as0 bl0 mt0 c0 A F hr hnm => ?_)
  refine rg_aload_n F (pc := 0) dJx4a65c_init_da8c8_0 rfl ?_
  refine rg_callIv F (pc := 1) (As := []) (rest := []) (c_alInit l D _ a md e0 z hm) q25 iq_Jxc12de_init_da8c8 rfl rfl (Nat.le_of_ble_eq_true rfl) (Nat.le_of_ble_eq_true rfl) (Nat.le_of_ble_eq_true rfl) ⟨(Nat.le_of_ble_eq_true rfl), (Nat.le_of_ble_eq_true rfl)⟩ dJx4a65c_init_da8c8_1 (fun M1 hp => ?_)
  refine rg_mem (M2 := (mset M a (.inr (0, [.int (nI 0), va_rf (e0), .int (z)])))) hp ?_
  refine rg_aload_n F (pc := 4) dJx4a65c_init_da8c8_4 rfl ?_
  refine rg_getsT0 F (pc := 5) q23 dJx4a65c_init_da8c8_5 ?_
  refine rg_put F (pc := 8) (ci := 0) (ty := tyJx4a65c 1) rfl inJx4a65c tyJx4a65c tyJx4a65c_ok nmJx4a65c mset_eq 1 (by decide) q24 (fun _ h9 => h9) rfl (tyJx4a65c_ok 1 (by decide)) rfl rfl (Nat.le_of_ble_eq_true rfl) dJx4a65c_init_da8c8_8 ?_
  refine rg_mem (M2 := (mset (mset M a (.inr (0, [.int (nI 0), va_rf (e0), .int (z)]))) a (.inr (0, [.int (nI 0), .ref (rT0 D), .int (z)])))) rfl ?_
  refine rg_mem (M2 := (mset M a (.inr (0, [.int (nI 0), .ref (rT0 D), .int (z)])))) mset_mset ?_
  exact rg_vret F (pc := 11) hr (by decide) (by decide) dJx4a65c_init_da8c8_11 rfl
end
section
def pb1 (m n : Nat) : Nat := n - (n / 2 ^ 1 &&& m)
def pb2 (m n : Nat) : Nat := (n &&& m) + (n / 2 ^ 2 &&& m)
def pb3 (m n : Nat) : Nat := n + n / 2 ^ 4 &&& m
def pop : Nat → Nat → Nat
  | 0, _ => 0
  | k + 1, n => pop k n + n / 2 ^ k % 2
theorem pn_split {a b m m' : Nat} (ha : a < 256) (hm : m < 256) : (a + 256 * b) &&& (m + 256 * m') = (a &&& m) + 256 * (b &&& m') := by
  have h1 : ((a + 256 * b) &&& (m + 256 * m')) % 2 ^ 8 = a &&& m := by
    rw [Nat.and_mod_two_pow, show (a + 256 * b) % 2 ^ 8 = a by omega, show (m + 256 * m') % 2 ^ 8 = m by omega]
  have h2 : ((a + 256 * b) &&& (m + 256 * m')) / 2 ^ 8 = b &&& m' := by
    rw [Nat.and_div_two_pow, show (a + 256 * b) / 2 ^ 8 = b by omega, show (m + 256 * m') / 2 ^ 8 = m' by omega]
  have := Nat.div_add_mod ((a + 256 * b) &&& (m + 256 * m')) (2 ^ 8)
  rw [h1, h2] at this
  omega
theorem pn_d1 : ∀ a, a < 256 → ∀ t, t < 2 → (a / 2 + 128 * t) &&& 85 = (a / 2 &&& 85) := by decide +kernel
theorem pn_d2 : ∀ a, a < 256 → ∀ t, t < 4 → (a / 4 + 64 * t) &&& 51 = (a / 4 &&& 51) := by decide +kernel
theorem pn_d3 : ∀ a, a < 69 → ∀ t, t < 5 → (a + a / 16 + 16 * t) &&& 15 = (a + a / 16 &&& 15) := by decide +kernel
theorem pn_1 {a b m' : Nat} (ha : a < 256) : pb1 (85 + 256 * m') (a + 256 * b) = pb1 85 a + 256 * pb1 m' b := by
  unfold pb1
  rw [show (a + 256 * b) / 2 ^ 1 = (a / 2 + 128 * (b % 2)) + 256 * (b / 2) by omega, pn_split (by omega) (by omega), pn_d1 a ha _ (Nat.mod_lt _ (by decide)), Nat.pow_one]
  have h1 : (a / 2 &&& 85) ≤ a / 2 := Nat.and_le_left
  have h2 : (b / 2 &&& m') ≤ b / 2 := Nat.and_le_left
  omega
theorem pn_2 {a b m' : Nat} (ha : a < 256) : pb2 (51 + 256 * m') (a + 256 * b) = pb2 51 a + 256 * pb2 m' b := by
  unfold pb2
  rw [show (a + 256 * b) / 2 ^ 2 = (a / 4 + 64 * (b % 4)) + 256 * (b / 4) by omega, pn_split (a := a / 4 + 64 * (b % 4)) (by omega) (by omega), pn_d2 a ha _ (Nat.mod_lt _ (by decide)), pn_split ha (by omega)]
  show _ = (a &&& 51) + (a / 4 &&& 51) + 256 * ((b &&& m') + (b / 4 &&& m'))
  omega
theorem pn_3 {a b m' : Nat} (ha : a < 69) (hb : b % 16 < 5) : pb3 (15 + 256 * m') (a + 256 * b) = pb3 15 a + 256 * pb3 m' b := by
  unfold pb3
  rw [show (a + 256 * b) + (a + 256 * b) / 2 ^ 4 = (a + a / 16 + 16 * (b % 16)) + 256 * (b + b / 16) by omega, pn_split (by omega) (by omega), pn_d3 a ha _ hb]
theorem pn_b : ∀ a, a < 256 → pb1 85 a < 256 ∧ pb2 51 (pb1 85 a) < 69 ∧ pb2 51 (pb1 85 a) % 16 < 5 ∧ pb3 15 (pb2 51 (pb1 85 a)) = pop 8 a ∧ pop 8 a ≤ 8 := by decide +kernel
theorem pn_cI : ∀ c, c < 4 → pb2 13107 (pb1 21845 c) % 16 < 5 ∧ pb3 3855 (pb2 13107 (pb1 21845 c)) = pop 2 c ∧ pop 2 c ≤ 2 := by decide +kernel
theorem pn_cL : ∀ c, c < 4 → pb2 56294995342131 (pb1 93824992236885 c) % 16 < 5 ∧ pb3 16557351571215 (pb2 56294995342131 (pb1 93824992236885 c)) = pop 2 c ∧ pop 2 c ≤ 2 := by decide +kernel
theorem pn_pop8 (a y : Nat) (ha : a < 256) : ∀ k, pop (8 + k) (a + 256 * y) = pop 8 a + pop k y
  | 0 => by
    simp only [pop, Nat.add_zero, Nat.reducePow]
    omega
  | k + 1 => by
    show pop (8 + k) (a + 256 * y) + (a + 256 * y) / 2 ^ (8 + k) % 2 = pop 8 a + (pop k y + y / 2 ^ k % 2)
    rw [pn_pop8 a y ha k, Nat.pow_add, ← Nat.div_div_eq_div_mul, show (a + 256 * y) / 2 ^ 8 = y by omega]
    omega
theorem pn_pop (a b c : Nat) (ha : a < 256) (hb : b < 256) (_ : c < 4) : pop 18 (a + 256 * (b + 256 * c)) = pop 8 a + pop 8 b + pop 2 c := by
  have h1 := pn_pop8 a (b + 256 * c) ha 10
  have h2 := pn_pop8 b c hb 2
  rw [show 8 + 10 = 18 from rfl] at h1
  rw [show 8 + 2 = 10 from rfl] at h2
  omega
theorem pn_x (n M1 M2 M3 : Nat) (hn : n < 262144) (m1 m2 m3 : Nat) (e1 : M1 = 85 + 256 * (85 + 256 * m1)) (e2 : M2 = 51 + 256 * (51 + 256 * m2)) (e3 : M3 = 15 + 256 * (15 + 256 * m3)) (hc : ∀ c, c < 4 → pb2 m2 (pb1 m1 c) % 16 < 5 ∧ pb3 m3 (pb2 m2 (pb1 m1 c)) = pop 2 c ∧ pop 2 c ≤ 2) :
    ∃ A B C : Nat, A ≤ 8 ∧ B ≤ 8 ∧ C ≤ 2 ∧ pop 18 n = A + B + C ∧ pb3 M3 (pb2 M2 (pb1 M1 n)) = A + 256 * (B + 256 * C) := by
  obtain ⟨a, b, c, ha, hb, hcc, rfl⟩ : ∃ a b c : Nat, a < 256 ∧ b < 256 ∧ c < 4 ∧ n = a + 256 * (b + 256 * c) := ⟨n % 256, n / 256 % 256, n / 65536, by omega, by omega, by omega, by omega⟩
  obtain ⟨a1, a2, a3, a4, a5⟩ := pn_b a ha
  obtain ⟨b1, b2, b3, b4, b5⟩ := pn_b b hb
  obtain ⟨c3, c4, c5⟩ := hc c hcc
  refine ⟨pop 8 a, pop 8 b, pop 2 c, a5, b5, c5, pn_pop a b c ha hb hcc, ?_⟩
  subst e1 e2 e3
  rw [pn_1 ha, pn_1 hb, pn_2 a1, pn_2 b1, pn_3 a2 (by omega), pn_3 b2 (by omega), a4, b4, c4]
theorem pop_le (k n : Nat) : pop k n ≤ k := by
  induction k with
  | zero => exact Nat.le_refl _
  | succ k ih =>
    have : n / 2 ^ k % 2 < 2 := Nat.mod_lt _ (by decide)
    show pop k n + n / 2 ^ k % 2 ≤ k + 1
    omega
theorem pn_I (n : Nat) (hn : n < 262144) : ∃ x y : Nat, x = pb3 252645135 (pb2 858993459 (pb1 1431655765 n)) ∧ y = x + x / 2 ^ 8 ∧ x < 2 ^ 20 ∧ y < 2 ^ 20 ∧ (y + y / 2 ^ 16 &&& 63) = pop 18 n := by
  obtain ⟨A, B, C, hA, hB, hC, hp, hx⟩ := pn_x n 1431655765 858993459 252645135 hn 21845 13107 3855 rfl rfl rfl pn_cI
  refine ⟨_, _, rfl, rfl, by rw [hx]; omega, by rw [hx]; omega, ?_⟩
  have e1 : (A + 256 * (B + 256 * C)) / 2 ^ 8 = B + 256 * C := by omega
  have e2 : (A + 256 * (B + 256 * C) + (B + 256 * C)) / 2 ^ 16 = C := by omega
  rw [hx, hp, e1, e2, show (63 : Nat) = 2 ^ 6 - 1 from rfl, Nat.and_two_pow_sub_one_eq_mod]
  omega
theorem pn_L (n : Nat) (hn : n < 262144) : ∃ x y z : Nat, x = pb3 1085102592571150095 (pb2 3689348814741910323 (pb1 6148914691236517205 n)) ∧ y = x + x / 2 ^ 8 ∧ z = y + y / 2 ^ 16 ∧ x < 2 ^ 20 ∧ y < 2 ^ 20 ∧ z < 2 ^ 20 ∧ (z + z / 2 ^ 32 &&& 127) = pop 18 n := by
  obtain ⟨A, B, C, hA, hB, hC, hp, hx⟩ := pn_x n 6148914691236517205 3689348814741910323 1085102592571150095 hn 93824992236885 56294995342131 16557351571215 rfl rfl rfl pn_cL
  refine ⟨_, _, _, rfl, rfl, rfl, by rw [hx]; omega, by rw [hx]; omega, by rw [hx]; omega, ?_⟩
  have e1 : (A + 256 * (B + 256 * C)) / 2 ^ 8 = B + 256 * C := by omega
  have e2 : (A + 256 * (B + 256 * C) + (B + 256 * C)) / 2 ^ 16 = C := by omega
  have e3 : (A + 256 * (B + 256 * C) + (B + 256 * C) + C) / 2 ^ 32 = 0 := by omega
  rw [hx, hp, e1, e2, e3, show (127 : Nat) = 2 ^ 7 - 1 from rfl, Nat.and_two_pow_sub_one_eq_mod]
  omega
end
section
theorem pb1_lt {m n : Nat} : pb1 m n ≤ n := Nat.sub_le _ _
theorem pb2_lt {m n : Nat} : pb2 m n ≤ 2 * n := by
  have h1 : (n &&& m) ≤ n := Nat.and_le_left
  have h2 : (n / 2 ^ 2 &&& m) ≤ n / 2 ^ 2 := Nat.and_le_left
  have h3 := Nat.div_le_self n (2 ^ 2)
  unfold pb2
  omega
theorem pb_sub {m n : Nat} : (n / 2 ^ 1 &&& m) ≤ n := Nat.le_trans Nat.and_le_left (Nat.div_le_self _ _)
theorem pb3_l {m n : Nat} : (n + n / 2 ^ 4 &&& m) = pb3 m n := rfl
set_option maxHeartbeats 4000000 in
set_option maxRecDepth 100000 in
theorem c_bitsI (l : Launch) (D : va_G) (M : rMem) (n : Nat) (hn : n < 262144) : CMi l D yJ6_bitCount_0f7a4 cJ6_bitCount_0f7a4 1 ((some .int)) 1 0 0 M [.int (nI n)] (fun r M' => r = nI (pop 18 n) ∧ M' = M) := by
  have hb1 : pb1 1431655765 n ≤ n := pb1_lt
  have hb2 : pb2 858993459 (pb1 1431655765 n) ≤ 2 * pb1 1431655765 n := pb2_lt
  obtain ⟨x3, y3, hx3, hy3, lx3, ly3, hr3⟩ := pn_I n hn
  refine rM (lv0 := [some (.int (nI n))]) (by decide) rfl rfl (Nat.le_of_ble_eq_true rfl) (fun P0 E0 S0 m0 as0 bl0 mt0 c0 A F hr hnm => ?_)
  refine rg_iload_n F (pc := 0) dJ6_bitCount_0f7a4_0 rfl ?_
  refine rg_iload_n F (pc := 1) dJ6_bitCount_0f7a4_1 rfl ?_
  refine rg_iconst F (pc := 2) (v := nI 1) dJ6_bitCount_0f7a4_2 (by decide) ?_
  refine rg_iushr F (pc := 3) (v := nI (n / 2 ^ 1)) dJ6_bitCount_0f7a4_3 (rn_ushr (by omega) (by omega)) ?_
  refine rg_ldcw F (pc := 4) (v := 1431655765) q458 dJ6_bitCount_0f7a4_4 ?_
  refine rg_top (v2 := .int (nI 1431655765)) rfl ?_
  refine rg_iand F (pc := 7) (v := nI ((n / 2 ^ 1) &&& 1431655765)) dJ6_bitCount_0f7a4_7 (nx_and _ _) ?_
  refine rg_isub F (pc := 8) (v := nI (pb1 1431655765 n)) dJ6_bitCount_0f7a4_8 (pk_sub pb_sub) ?_
  refine rg_istore_n F (pc := 9) (lv' := [some (.int (nI (pb1 1431655765 n)))]) dJ6_bitCount_0f7a4_9 (Nat.le_of_ble_eq_true rfl) rfl ?_
  refine rg_iload_n F (pc := 10) dJ6_bitCount_0f7a4_10 rfl ?_
  refine rg_ldcw F (pc := 11) (v := 858993459) q459 dJ6_bitCount_0f7a4_11 ?_
  refine rg_top (v2 := .int (nI 858993459)) rfl ?_
  refine rg_iand F (pc := 14) (v := nI ((pb1 1431655765 n) &&& 858993459)) dJ6_bitCount_0f7a4_14 (nx_and _ _) ?_
  refine rg_iload_n F (pc := 15) dJ6_bitCount_0f7a4_15 rfl ?_
  refine rg_iconst F (pc := 16) (v := nI 2) dJ6_bitCount_0f7a4_16 (by decide) ?_
  refine rg_iushr F (pc := 17) (v := nI ((pb1 1431655765 n) / 2 ^ 2)) dJ6_bitCount_0f7a4_17 (rn_ushr (by omega) (by omega)) ?_
  refine rg_ldcw F (pc := 18) (v := 858993459) q459 dJ6_bitCount_0f7a4_18 ?_
  refine rg_top (v2 := .int (nI 858993459)) rfl ?_
  refine rg_iand F (pc := 21) (v := nI (((pb1 1431655765 n) / 2 ^ 2) &&& 858993459)) dJ6_bitCount_0f7a4_21 (nx_and _ _) ?_
  refine rg_iadd F (pc := 22) (v := nI (pb2 858993459 (pb1 1431655765 n))) dJ6_bitCount_0f7a4_22 (nI_add _ _) ?_
  refine rg_istore_n F (pc := 23) (lv' := [some (.int (nI (pb2 858993459 (pb1 1431655765 n))))]) dJ6_bitCount_0f7a4_23 (Nat.le_of_ble_eq_true rfl) rfl ?_
  refine rg_iload_n F (pc := 24) dJ6_bitCount_0f7a4_24 rfl ?_
  refine rg_iload_n F (pc := 25) dJ6_bitCount_0f7a4_25 rfl ?_
  refine rg_iconst F (pc := 26) (v := nI 4) dJ6_bitCount_0f7a4_26 (by decide) ?_
  refine rg_iushr F (pc := 27) (v := nI ((pb2 858993459 (pb1 1431655765 n)) / 2 ^ 4)) dJ6_bitCount_0f7a4_27 (rn_ushr (by omega) (by omega)) ?_
  refine rg_iadd F (pc := 28) (v := nI ((pb2 858993459 (pb1 1431655765 n)) + ((pb2 858993459 (pb1 1431655765 n)) / 2 ^ 4))) dJ6_bitCount_0f7a4_28 (nI_add _ _) ?_
  refine rg_ldcw F (pc := 29) (v := 252645135) q460 dJ6_bitCount_0f7a4_29 ?_
  refine rg_top (v2 := .int (nI 252645135)) rfl ?_
  refine rg_iand F (pc := 32) (v := nI x3) dJ6_bitCount_0f7a4_32 ((nx_and _ _).trans (by rw [hx3]; rfl)) ?_
  refine rg_istore_n F (pc := 33) (lv' := [some (.int (nI x3))]) dJ6_bitCount_0f7a4_33 (Nat.le_of_ble_eq_true rfl) rfl ?_
  refine rg_iload_n F (pc := 34) dJ6_bitCount_0f7a4_34 rfl ?_
  refine rg_iload_n F (pc := 35) dJ6_bitCount_0f7a4_35 rfl ?_
  refine rg_bipush F (pc := 36) (v := nI 8) dJ6_bitCount_0f7a4_36 (by decide) ?_
  refine rg_iushr F (pc := 38) (v := nI (x3 / 2 ^ 8)) dJ6_bitCount_0f7a4_38 (rn_ushr (by omega) (by omega)) ?_
  refine rg_iadd F (pc := 39) (v := nI y3) dJ6_bitCount_0f7a4_39 ((nI_add _ _).trans (by rw [hy3])) ?_
  refine rg_istore_n F (pc := 40) (lv' := [some (.int (nI y3))]) dJ6_bitCount_0f7a4_40 (Nat.le_of_ble_eq_true rfl) rfl ?_
  refine rg_iload_n F (pc := 41) dJ6_bitCount_0f7a4_41 rfl ?_
  refine rg_iload_n F (pc := 42) dJ6_bitCount_0f7a4_42 rfl ?_
  refine rg_bipush F (pc := 43) (v := nI 16) dJ6_bitCount_0f7a4_43 (by decide) ?_
  refine rg_iushr F (pc := 45) (v := nI (y3 / 2 ^ 16)) dJ6_bitCount_0f7a4_45 (rn_ushr (by omega) (by omega)) ?_
  refine rg_iadd F (pc := 46) (v := nI (y3 + (y3 / 2 ^ 16))) dJ6_bitCount_0f7a4_46 (nI_add _ _) ?_
  refine rg_istore_n F (pc := 47) (lv' := [some (.int (nI (y3 + (y3 / 2 ^ 16))))]) dJ6_bitCount_0f7a4_47 (Nat.le_of_ble_eq_true rfl) rfl ?_
  refine rg_iload_n F (pc := 48) dJ6_bitCount_0f7a4_48 rfl ?_
  refine rg_bipush F (pc := 49) (v := nI 63) dJ6_bitCount_0f7a4_49 (by decide) ?_
  refine rg_iand F (pc := 51) (v := nI (pop 18 n)) dJ6_bitCount_0f7a4_51 ((nx_and _ _).trans (by rw [hr3])) ?_
  exact rg_iret F (pc := 52) hr (by decide) (by decide) dJ6_bitCount_0f7a4_52 ⟨rfl, rfl⟩
set_option maxHeartbeats 4000000 in
set_option maxRecDepth 100000 in
theorem c_bitsL (l : Launch) (D : va_G) (M : rMem) (n : Nat) (hn : n < 262144) : CMi l D yJ13_bitCount_95d88 cJ13_bitCount_95d88 2 ((some .int)) 1 0 0 M [.long (lN n)] (fun r M' => r = nI (pop 18 n) ∧ M' = M) := by
  have hb1 : pb1 6148914691236517205 n ≤ n := pb1_lt
  have hb2 : pb2 3689348814741910323 (pb1 6148914691236517205 n) ≤ 2 * pb1 6148914691236517205 n := pb2_lt
  obtain ⟨x3, y3, z3, hx3, hy3, hz3, lx3, ly3, lz3, hr3⟩ := pn_L n hn
  refine rM (lv0 := [some (.long (lN n)), none]) (by decide) rfl rfl (Nat.le_of_ble_eq_true rfl) (fun P0 E0 S0 m0 as0 bl0 mt0 c0 A F hr hnm => ?_)
  refine rg_lload_n F (pc := 0) dJ13_bitCount_95d88_0 rfl ?_
  refine rg_lload_n F (pc := 1) dJ13_bitCount_95d88_1 rfl ?_
  refine rg_iconst F (pc := 2) (v := nI 1) dJ13_bitCount_95d88_2 (by decide) ?_
  refine rg_lushr F (pc := 3) (v := lN (n / 2 ^ 1)) dJ13_bitCount_95d88_3 (wb_shr (by omega) (by omega)) ?_
  refine rg_ldc2 F (pc := 4) (v := 6148914691236517205) q186 dJ13_bitCount_95d88_4 ?_
  refine rg_top (v2 := .long (lN 6148914691236517205)) rfl ?_
  refine rg_land F (pc := 7) (v := lN ((n / 2 ^ 1) &&& 6148914691236517205)) dJ13_bitCount_95d88_7 (wb_and (Nat.lt_of_le_of_lt (Nat.div_le_self _ _) (by omega)) (by decide)) ?_
  refine rg_lsub F (pc := 8) (v := lN (pb1 6148914691236517205 n)) dJ13_bitCount_95d88_8 (lN_sub pb_sub) ?_
  refine rg_lstore_n F (pc := 9) (lv' := [some (.long (lN (pb1 6148914691236517205 n))), none]) dJ13_bitCount_95d88_9 (Nat.le_of_ble_eq_true rfl) rfl ?_
  refine rg_lload_n F (pc := 10) dJ13_bitCount_95d88_10 rfl ?_
  refine rg_ldc2 F (pc := 11) (v := 3689348814741910323) q187 dJ13_bitCount_95d88_11 ?_
  refine rg_top (v2 := .long (lN 3689348814741910323)) rfl ?_
  refine rg_land F (pc := 14) (v := lN ((pb1 6148914691236517205 n) &&& 3689348814741910323)) dJ13_bitCount_95d88_14 (wb_and (by omega) (by decide)) ?_
  refine rg_lload_n F (pc := 15) dJ13_bitCount_95d88_15 rfl ?_
  refine rg_iconst F (pc := 16) (v := nI 2) dJ13_bitCount_95d88_16 (by decide) ?_
  refine rg_lushr F (pc := 17) (v := lN ((pb1 6148914691236517205 n) / 2 ^ 2)) dJ13_bitCount_95d88_17 (wb_shr (by omega) (by omega)) ?_
  refine rg_ldc2 F (pc := 18) (v := 3689348814741910323) q187 dJ13_bitCount_95d88_18 ?_
  refine rg_top (v2 := .long (lN 3689348814741910323)) rfl ?_
  refine rg_land F (pc := 21) (v := lN (((pb1 6148914691236517205 n) / 2 ^ 2) &&& 3689348814741910323)) dJ13_bitCount_95d88_21 (wb_and (Nat.lt_of_le_of_lt (Nat.div_le_self _ _) (by omega)) (by decide)) ?_
  refine rg_ladd F (pc := 22) (v := lN (pb2 3689348814741910323 (pb1 6148914691236517205 n))) dJ13_bitCount_95d88_22 (lN_add _ _) ?_
  refine rg_lstore_n F (pc := 23) (lv' := [some (.long (lN (pb2 3689348814741910323 (pb1 6148914691236517205 n)))), none]) dJ13_bitCount_95d88_23 (Nat.le_of_ble_eq_true rfl) rfl ?_
  refine rg_lload_n F (pc := 24) dJ13_bitCount_95d88_24 rfl ?_
  refine rg_lload_n F (pc := 25) dJ13_bitCount_95d88_25 rfl ?_
  refine rg_iconst F (pc := 26) (v := nI 4) dJ13_bitCount_95d88_26 (by decide) ?_
  refine rg_lushr F (pc := 27) (v := lN ((pb2 3689348814741910323 (pb1 6148914691236517205 n)) / 2 ^ 4)) dJ13_bitCount_95d88_27 (wb_shr (by omega) (by omega)) ?_
  refine rg_ladd F (pc := 28) (v := lN ((pb2 3689348814741910323 (pb1 6148914691236517205 n)) + ((pb2 3689348814741910323 (pb1 6148914691236517205 n)) / 2 ^ 4))) dJ13_bitCount_95d88_28 (lN_add _ _) ?_
  refine rg_ldc2 F (pc := 29) (v := 1085102592571150095) q188 dJ13_bitCount_95d88_29 ?_
  refine rg_top (v2 := .long (lN 1085102592571150095)) rfl ?_
  refine rg_land F (pc := 32) (v := lN x3) dJ13_bitCount_95d88_32 ((wb_and (by omega) (by decide)).trans (by rw [hx3]; rfl)) ?_
  refine rg_lstore_n F (pc := 33) (lv' := [some (.long (lN x3)), none]) dJ13_bitCount_95d88_33 (Nat.le_of_ble_eq_true rfl) rfl ?_
  refine rg_lload_n F (pc := 34) dJ13_bitCount_95d88_34 rfl ?_
  refine rg_lload_n F (pc := 35) dJ13_bitCount_95d88_35 rfl ?_
  refine rg_bipush F (pc := 36) (v := nI 8) dJ13_bitCount_95d88_36 (by decide) ?_
  refine rg_lushr F (pc := 38) (v := lN (x3 / 2 ^ 8)) dJ13_bitCount_95d88_38 (wb_shr (by omega) (by omega)) ?_
  refine rg_ladd F (pc := 39) (v := lN y3) dJ13_bitCount_95d88_39 ((lN_add _ _).trans (by rw [hy3])) ?_
  refine rg_lstore_n F (pc := 40) (lv' := [some (.long (lN y3)), none]) dJ13_bitCount_95d88_40 (Nat.le_of_ble_eq_true rfl) rfl ?_
  refine rg_lload_n F (pc := 41) dJ13_bitCount_95d88_41 rfl ?_
  refine rg_lload_n F (pc := 42) dJ13_bitCount_95d88_42 rfl ?_
  refine rg_bipush F (pc := 43) (v := nI 16) dJ13_bitCount_95d88_43 (by decide) ?_
  refine rg_lushr F (pc := 45) (v := lN (y3 / 2 ^ 16)) dJ13_bitCount_95d88_45 (wb_shr (by omega) (by omega)) ?_
  refine rg_ladd F (pc := 46) (v := lN z3) dJ13_bitCount_95d88_46 ((lN_add _ _).trans (by rw [hz3])) ?_
  refine rg_lstore_n F (pc := 47) (lv' := [some (.long (lN z3)), none]) dJ13_bitCount_95d88_47 (Nat.le_of_ble_eq_true rfl) rfl ?_
  refine rg_lload_n F (pc := 48) dJ13_bitCount_95d88_48 rfl ?_
  refine rg_lload_n F (pc := 49) dJ13_bitCount_95d88_49 rfl ?_
  refine rg_bipush F (pc := 50) (v := nI 32) dJ13_bitCount_95d88_50 (by decide) ?_
  refine rg_lushr F (pc := 52) (v := lN (z3 / 2 ^ 32)) dJ13_bitCount_95d88_52 (wb_shr (by omega) (by omega)) ?_
  refine rg_ladd F (pc := 53) (v := lN (z3 + (z3 / 2 ^ 32))) dJ13_bitCount_95d88_53 (lN_add _ _) ?_
  refine rg_lstore_n F (pc := 54) (lv' := [some (.long (lN (z3 + (z3 / 2 ^ 32)))), none]) dJ13_bitCount_95d88_54 (Nat.le_of_ble_eq_true rfl) rfl ?_
  refine rg_lload_n F (pc := 55) dJ13_bitCount_95d88_55 rfl ?_
  refine rg_l2i F (pc := 56) (v := nI (z3 + (z3 / 2 ^ 32))) dJ13_bitCount_95d88_56 (lN_i _) ?_
  refine rg_bipush F (pc := 57) (v := nI 127) dJ13_bitCount_95d88_57 (by decide) ?_
  refine rg_iand F (pc := 59) (v := nI (pop 18 n)) dJ13_bitCount_95d88_59 ((nx_and _ _).trans (by rw [hr3])) ?_
  exact rg_iret F (pc := 60) hr (by decide) (by decide) dJ13_bitCount_95d88_60 ⟨rfl, rfl⟩
end
section
/-! the poem, and what the document says of it, in natural numbers -/
abbrev Poem : Type := (Nat → Nat → Nat) × (Nat → Nat → Nat) × (Nat → Nat → Nat)
def zS (P : Poem) (w : Nat) : Nat := P.1 0 w
def zT (P : Poem) (w : Nat) : Nat := P.1 1 w
def zV (P : Poem) (w : Nat) : Nat := P.1 2 w
def zE (P : Poem) (w : Nat) : Nat := P.1 3 w
def zO (P : Poem) (w : Nat) : Nat := P.1 4 w
def zM (P : Poem) (i : Nat) : Nat := P.2.1 0 i
def zF (P : Poem) (i : Nat) : Nat := P.2.1 1 i
def zK (P : Poem) (i : Nat) : Nat := P.2.1 2 i
def zC (P : Poem) (i : Nat) : Nat := P.2.1 3 i
def zR (P : Poem) (i j : Nat) : Nat := P.2.2 i j
def zWok (P : Poem) (nW : Nat) : Prop := nW ≤ 30 ∧ ∀ w, w < nW → 1 ≤ zS P w ∧ zS P w ≤ 4 ∧ zT P w < 2 ^ zS P w ∧ zV P w < 10 ∧ zE P w < 10 ∧ zO P w < 2
def zLok (P : Poem) (nW i : Nat) : Prop := zM P i < 4 ∧ 1 ≤ zF P i ∧ zF P i ≤ 6 ∧ zK P i < 6 ∧ zC P i ≤ 8 ∧ ∀ j, j < zC P i → zR P i j < nW
def zOk (P : Poem) (nW nL : Nat) : Prop := zWok P nW ∧ nL ≤ 10 ∧ ∀ i, i < nL → zLok P nW i
def zMelt (P : Poem) (i j : Nat) : Nat := if 0 < j ∧ zE P (zR P i (j - 1)) = 0 ∧ zO P (zR P i j) = 1 then 1 else 0
/-- the own syllables of a line's first words: how many, their bits, how many melted -/
def zOL (P : Poem) (i : Nat) : Nat → Nat
  | 0 => 0
  | j + 1 => zOL P i j - zMelt P i j + zS P (zR P i j)
def zOB (P : Poem) (i : Nat) : Nat → Nat
  | 0 => 0
  | j + 1 => zOB P i j ||| zT P (zR P i j) * 2 ^ (zOL P i j - zMelt P i j)
def zOM (P : Poem) (i : Nat) : Nat → Nat
  | 0 => 0
  | j + 1 => zOM P i j + zMelt P i j
def zo (P : Poem) (i : Nat) : Nat := zOL P i (zC P i)
def zb (P : Poem) (i : Nat) : Nat := zOB P i (zC P i)
def zRm (P : Poem) (i : Nat) : Nat := rFoot (zM P i) * zF P i
/-- where a line's own syllables begin among all, the syllables of the lines ahead, where a line begins -/
def zBg (P : Poem) : Nat → Nat
  | 0 => 0
  | i + 1 => zBg P i + zo P i
def zFl (P : Poem) : Nat → Nat
  | 0 => 0
  | i + 1 => zFl P i ||| zb P i * 2 ^ zBg P i
def zSt (P : Poem) : Nat → Nat
  | 0 => 0
  | i + 1 => zSt P i + min (zBg P i - zSt P i + zo P i) (zRm P i)
def zCa (P : Poem) (i : Nat) : Nat := zBg P i - zSt P i
def zStay (P : Poem) (i : Nat) : Nat := min (zCa P i + zo P i) (zRm P i)
def zOv (P : Poem) (i : Nat) : Nat := zCa P i + zo P i - zStay P i
def zBits (P : Poem) (i : Nat) : Nat := zFl P (i + 1) / 2 ^ zSt P i % 2 ^ zStay P i
def zAsk (m : Nat) : Nat := if m = 0 then 2730 else if m = 1 then 1365 else if m = 2 then 149796 else 37449
def zOffM (m x cnt : Nat) : Nat := pop 18 ((x ^^^ zAsk m) % 2 ^ cnt)
def zOff (P : Poem) (i : Nat) : Nat := zOffM (zM P i) (zBits P i) (zStay P i)
def zLack (P : Poem) (i : Nat) : Nat := zRm P i - zStay P i
def zRhW (P : Poem) (a b : Nat) : Nat := rRhy a (zV P a) (zE P a) (rLst (zS P a) (zT P a)) b (zV P b) (zE P b) (rLst (zS P b) (zT P b))
def zRh (P : Poem) (i k : Nat) : Nat := if zC P i = 0 ∨ zC P k = 0 then 0 else zRhW P (zR P i (zC P i - 1)) (zR P k (zC P k - 1))
def zNear (P : Poem) (mk : Nat) : Nat → Option Nat
  | 0 => none
  | k + 1 => if zK P k = mk then some k else zNear P mk k
def zPaid (P : Poem) (i : Nat) : Nat := match zNear P (zK P i) i with
  | none => 0
  | some k => zRh P i k
def zTax (P : Poem) (i : Nat) : Nat := if zC P i = 0 then zF P i else 2 * pop 18 (zBits P i) + 3 * zOff P i + 5 * zLack P i - 4 * zPaid P i
def zAll (P : Poem) : Nat → Nat
  | 0 => 0
  | i + 1 => zAll P i + zTax P i
/-! bounds -/
theorem zMelt_le (P : Poem) (i j : Nat) : zMelt P i j ≤ 1 := by unfold zMelt; split <;> omega
theorem zMelt_0 (P : Poem) (i : Nat) : zMelt P i 0 = 0 := by unfold zMelt; rw [if_neg (by omega)]
theorem zOL_b {P : Poem} {nW i : Nat} (hW : zWok P nW) (hR : ∀ j, j < zC P i → zR P i j < nW) : ∀ j, j ≤ zC P i → zOL P i j ≤ 4 * j ∧ (0 < j → 1 ≤ zOL P i j) ∧ zOB P i j < 2 ^ zOL P i j ∧ zMelt P i j ≤ zOL P i j
  | 0, _ => ⟨Nat.le_refl _, fun h => absurd h (Nat.lt_irrefl _), (by decide : 0 < 1), by rw [zMelt_0]; exact Nat.le_refl _⟩
  | j + 1, hj => by
    obtain ⟨h1, h2, h3, h4⟩ := zOL_b hW hR j (by omega)
    obtain ⟨w1, w2, w3, -⟩ := hW.2 _ (hR j (by omega))
    have hm := zMelt_le P i (j + 1)
    have e : zOL P i (j + 1) = zOL P i j - zMelt P i j + zS P (zR P i j) := rfl
    have e2 : zOB P i (j + 1) = (zOB P i j ||| zT P (zR P i j) * 2 ^ (zOL P i j - zMelt P i j)) := rfl
    have hm2 := zMelt_le P i j
    refine ⟨by omega, fun _ => by omega, ?_, by omega⟩
    rw [e, e2]
    refine Nat.or_lt_two_pow (Nat.lt_of_lt_of_le h3 (Nat.pow_le_pow_right (by decide) (by omega))) ?_
    rw [Nat.add_comm, Nat.pow_add]
    exact Nat.mul_lt_mul_of_pos_right w3 (Nat.two_pow_pos _)
theorem zOL_mono {P : Poem} {nW i : Nat} (hW : zWok P nW) (hR : ∀ j, j < zC P i → zR P i j < nW) (j : Nat) (hj : j < zC P i) : zOL P i j ≤ zOL P i (j + 1) := by
  obtain ⟨w1, -⟩ := hW.2 _ (hR j hj)
  have hm2 := zMelt_le P i j
  show zOL P i j ≤ zOL P i j - zMelt P i j + zS P (zR P i j)
  omega
theorem zo_le {P : Poem} {nW i : Nat} (hW : zWok P nW) (hi : zLok P nW i) : zo P i ≤ 32 := by
  have := (zOL_b hW hi.2.2.2.2.2 (zC P i) (Nat.le_refl _)).1
  have := hi.2.2.2.2.1
  unfold zo
  omega
theorem zb_lt {P : Poem} {nW i : Nat} (hW : zWok P nW) (hi : zLok P nW i) : zb P i < 2 ^ zo P i := (zOL_b hW hi.2.2.2.2.2 (zC P i) (Nat.le_refl _)).2.2.1
theorem zRm_le {P : Poem} {nW i : Nat} (hi : zLok P nW i) : zRm P i ≤ 18 ∧ 2 ≤ zRm P i := by
  have h1 := hi.2.1
  have h2 := hi.2.2.1
  unfold zRm rFoot
  split <;> omega
theorem zSt_le (P : Poem) : ∀ i, zSt P i ≤ zBg P i
  | 0 => Nat.le_refl _
  | i + 1 => by
    have := zSt_le P i
    show zSt P i + min (zBg P i - zSt P i + zo P i) (zRm P i) ≤ zBg P i + zo P i
    omega
theorem zSt_succ (P : Poem) (i : Nat) : zSt P (i + 1) = zSt P i + zStay P i := rfl
theorem zBg_eq (P : Poem) (i : Nat) : zBg P i = zSt P i + zCa P i := by
  have := zSt_le P i
  unfold zCa
  omega
theorem zCa_succ (P : Poem) (i : Nat) : zCa P (i + 1) = zOv P i := by
  have h1 := zBg_eq P i
  have h2 : zBg P (i + 1) = zBg P i + zo P i := rfl
  have h3 := zSt_succ P i
  unfold zOv
  unfold zCa at *
  omega
theorem zBg_le {P : Poem} {nW nL : Nat} (hP : zOk P nW nL) : ∀ i, i ≤ nL → zBg P i ≤ 32 * i
  | 0, _ => Nat.le_refl _
  | i + 1, h => by
    have h1 := zBg_le hP i (by omega)
    have h2 := zo_le hP.1 (hP.2.2 i (by omega))
    show zBg P i + zo P i ≤ 32 * (i + 1)
    omega
theorem zFl_lt {P : Poem} {nW nL : Nat} (hP : zOk P nW nL) : ∀ i, i ≤ nL → zFl P i < 2 ^ zBg P i
  | 0, _ => (by decide : 0 < 1)
  | i + 1, h => by
    have h1 := zFl_lt hP i (by omega)
    have h2 := zb_lt hP.1 (hP.2.2 i (by omega))
    show (zFl P i ||| zb P i * 2 ^ zBg P i) < 2 ^ (zBg P i + zo P i)
    refine Nat.or_lt_two_pow (Nat.lt_of_lt_of_le h1 (Nat.pow_le_pow_right (by decide) (by omega))) ?_
    rw [Nat.add_comm, Nat.pow_add]
    exact Nat.mul_lt_mul_of_pos_right h2 (Nat.two_pow_pos _)
theorem zStay_le {P : Poem} {nW i : Nat} (hi : zLok P nW i) : zStay P i ≤ 18 := Nat.le_trans (Nat.min_le_right _ _) (zRm_le hi).1
theorem zBits_lt {P : Poem} {nW i : Nat} (hi : zLok P nW i) : zBits P i < 262144 :=
  Nat.lt_of_lt_of_le (Nat.mod_lt _ (Nat.two_pow_pos _)) (show 2 ^ zStay P i ≤ 2 ^ 18 from Nat.pow_le_pow_right (by decide) (zStay_le hi))
theorem zRhW_le (P : Poem) (a b : Nat) : zRhW P a b ≤ 3 := by
  unfold zRhW rRhy
  split <;> (try split) <;> (try split) <;> omega
theorem zRh_le (P : Poem) (a b : Nat) : zRh P a b ≤ 3 := by
  unfold zRh
  split
  · omega
  · exact zRhW_le P _ _
theorem zPaid_le (P : Poem) (i : Nat) : zPaid P i ≤ 3 := by
  unfold zPaid
  split
  · omega
  · exact zRh_le P _ _
theorem zTax_le {P : Poem} {nW i : Nat} (hi : zLok P nW i) : zTax P i ≤ 200 := by
  have h1 := pop_le 18 (zBits P i)
  have h2 : zOff P i ≤ 18 := pop_le 18 _
  have h3 := (zRm_le hi).1
  have h4 := hi.2.2.1
  unfold zTax zLack
  split <;> omega
theorem zAll_le {P : Poem} {nW nL : Nat} (hP : zOk P nW nL) : ∀ i, i ≤ nL → zAll P i ≤ 200 * i
  | 0, _ => Nat.le_refl _
  | i + 1, h => by
    have h1 := zAll_le hP i (by omega)
    have h2 := zTax_le (hP.2.2 i (by omega))
    show zAll P i + zTax P i ≤ 200 * (i + 1)
    omega
end
section
theorem tb_mod (x j i : Nat) : (x % 2 ^ j).testBit i = (decide (i < j) && x.testBit i) := by rw [Nat.testBit_mod_two_pow]
theorem tb_div (x j i : Nat) : (x / 2 ^ j).testBit i = x.testBit (i + j) := by rw [Nat.testBit_div_two_pow]
theorem tb_mul (x j i : Nat) : (x * 2 ^ j).testBit i = (decide (j ≤ i) && x.testBit (i - j)) := by rw [← Nat.shiftLeft_eq, Nat.testBit_shiftLeft]
/-- the flow's cell q -/
def fc (F q : Nat) : Nat := F / 2 ^ (64 * q) % 2 ^ 64
theorem fc_lt (F q : Nat) : fc F q < 2 ^ 64 := Nat.mod_lt _ (Nat.two_pow_pos _)
theorem fc_tb (F q i : Nat) : (fc F q).testBit i = (decide (i < 64) && F.testBit (i + 64 * q)) := by rw [fc, tb_mod, tb_div]
theorem fc_cut (F q cnt : Nat) : fc (F % 2 ^ cnt) q = (fc F q &&& (2 ^ min (cnt - 64 * q) 64 - 1)) := by
  rw [Nat.and_two_pow_sub_one_eq_mod]
  apply Nat.eq_of_testBit_eq
  intro i
  rw [fc_tb, tb_mod, tb_mod, fc_tb]
  by_cases h1 : i < 64
  · by_cases h2 : i + 64 * q < cnt
    · simp [h1, h2, show i < min (cnt - 64 * q) 64 by omega]
    · simp [h1, h2, show ¬ i < min (cnt - 64 * q) 64 by omega]
  · simp [h1]
theorem fc_or (F G q : Nat) : fc (F ||| G) q = (fc F q ||| fc G q) := by
  apply Nat.eq_of_testBit_eq
  intro i
  rw [fc_tb, Nat.testBit_or, Nat.testBit_or, fc_tb, fc_tb, Bool.and_or_distrib_left]
theorem tb_ge {x n i : Nat} (h : x < 2 ^ n) (hi : n ≤ i) : x.testBit i = false := Nat.testBit_lt_two_pow (Nat.lt_of_lt_of_le h (Nat.pow_le_pow_right (by decide) hi))
theorem fc_add {b en c s cnt q : Nat} (he : en = 64 * c + s) (hs : s < 64) (hb : b < 2 ^ cnt) (hc : cnt ≤ 64) : fc (b * 2 ^ en) q = if q = c then b * 2 ^ s % 2 ^ 64 else if q = c + 1 ∧ 64 < s + cnt then b / 2 ^ (64 - s) else 0 := by
  apply Nat.eq_of_testBit_eq
  intro i
  rw [fc_tb, tb_mul]
  by_cases h1 : q = c
  · subst h1
    rw [if_pos rfl, tb_mod, tb_mul]
    by_cases h2 : s ≤ i
    · simp [h2, show en ≤ i + 64 * q by omega, show i + 64 * q - en = i - s by omega]
    · simp [h2, show ¬ en ≤ i + 64 * q by omega]
  · rw [if_neg h1]
    by_cases h3 : q = c + 1 ∧ 64 < s + cnt
    · rw [if_pos h3, tb_div]
      obtain ⟨rfl, h4⟩ := h3
      by_cases h5 : i < 64
      · simp [h5, show en ≤ i + 64 * (c + 1) by omega, show i + 64 * (c + 1) - en = i + (64 - s) by omega]
      · rw [tb_ge hb (show cnt ≤ i + (64 - s) by omega)]
        simp [h5]
    · rw [if_neg h3, Nat.zero_testBit]
      by_cases h5 : i < 64
      · by_cases h6 : q < c
        · simp [show ¬ en ≤ i + 64 * q by omega]
        · rw [tb_ge hb (show cnt ≤ i + 64 * q - en by omega)]
          simp
      · simp [h5]
theorem fc_read {F start c s cnt : Nat} (he : start = 64 * c + s) (hs : s < 64) (hc : cnt ≤ 64) : F / 2 ^ start % 2 ^ cnt = ((if 64 < s + cnt then fc F c / 2 ^ s ||| (fc F (c + 1) * 2 ^ (64 - s)) % 2 ^ 64 else fc F c / 2 ^ s) &&& (2 ^ cnt - 1)) := by
  rw [Nat.and_two_pow_sub_one_eq_mod]
  apply Nat.eq_of_testBit_eq
  intro i
  rw [tb_mod, tb_mod, tb_div]
  by_cases h1 : i < cnt
  · by_cases h2 : 64 < s + cnt
    · rw [if_pos h2, Nat.testBit_or, tb_div, fc_tb, tb_mod, tb_mul, fc_tb]
      by_cases h3 : i + s < 64
      · simp [h1, h3, show ¬ (64 - s ≤ i) by omega, show i + start = i + s + 64 * c by omega]
      · simp [h1, h3, show (64 - s ≤ i) by omega, show i < 64 by omega, show i - (64 - s) < 64 by omega, show i + start = i - (64 - s) + 64 * (c + 1) by omega]
    · rw [if_neg h2, tb_div, fc_tb]
      simp [h1, show i + s < 64 by omega, show i + start = i + s + 64 * c by omega]
  · simp [h1]
theorem fc_big {F q : Nat} (hF : F < 2 ^ 320) (hq : 5 ≤ q) : fc F q = 0 := by
  unfold fc
  rw [Nat.div_eq_of_lt (Nat.lt_of_lt_of_le hF (Nat.pow_le_pow_right (by decide) (by omega)))]
end
section
set_option maxHeartbeats 4000000 in
set_option maxRecDepth 100000 in
theorem c_lowBits_n (l : Launch) (D : va_G) (M : rMem) (k : Nat) (hk : k < 2 ^ 31) : CMl l D yX3_lowBits cX3_lowBits 1 ((some .long)) 1 0 0 M [.int (nI k)] (fun r M' => r = lN (2 ^ min k 64 - 1) ∧ M' = M) := by
  refine rM (lv0 := [some (.int (nI k))]) (by decide) rfl rfl (Nat.le_of_ble_eq_true rfl) (fun P0 E0 S0 m0 as0 bl0 mt0 c0 A F hr hnm => ?_)
  refine rg_iload_n F (pc := 0) dX3_lowBits_0 rfl ?_
  refine rg_nif_gt F (pc := 1) (tgt := 6) dX3_lowBits_1 (by decide) (by omega) (fun c1 => ?_) (fun c1 => ?_)
  · refine rg_iload_n F (pc := 6) dX3_lowBits_6 rfl ?_
    refine rg_bipush F (pc := 7) (v := nI 64) dX3_lowBits_7 (by decide) ?_
    refine rg_ncmp_lt F (pc := 9) (tgt := 18) dX3_lowBits_9 (by decide) (by omega) (by omega) (fun c9 => ?_) (fun c9 => ?_)
    · refine rg_lconst F (pc := 18) (v := lN 1) dX3_lowBits_18 (by decide) ?_
      refine rg_iload_n F (pc := 19) dX3_lowBits_19 rfl ?_
      refine rg_lshl F (pc := 20) (v := lN (1 * 2 ^ k)) dX3_lowBits_20 (wb_shl _ (by omega)) ?_
      refine rg_lconst F (pc := 21) (v := lN 1) dX3_lowBits_21 (by decide) ?_
      refine rg_lsub F (pc := 22) (v := lN ((1 * 2 ^ k) - 1)) dX3_lowBits_22 (lN_sub (by rw [Nat.one_mul]; exact Nat.two_pow_pos _)) ?_
      exact rg_lret F (pc := 23) hr (by decide) (by decide) dX3_lowBits_23 ⟨by rw [Nat.min_eq_left (by omega), Nat.one_mul], rfl⟩
    · refine rg_ldc2 F (pc := 12) (v := (-1)) q175 dX3_lowBits_12 ?_
      refine rg_goto F (pc := 15) (tgt := 23) dX3_lowBits_15 (by decide) ?_
      exact rg_lret F (pc := 23) hr (by decide) (by decide) dX3_lowBits_23 ⟨by rw [Nat.min_eq_right c9]; decide, rfl⟩
  · refine rg_lconst F (pc := 4) (v := lN 0) dX3_lowBits_4 (by decide) ?_
    exact rg_lret F (pc := 5) hr (by decide) (by decide) dX3_lowBits_5 ⟨by rw [c1]; rfl, rfl⟩
set_option maxHeartbeats 4000000 in
set_option maxRecDepth 100000 in
theorem c_lowBits_m (l : Launch) (D : va_G) (M : rMem) (x : Int32) (hx : ¬ 0 < x) : CMl l D yX3_lowBits cX3_lowBits 1 ((some .long)) 1 0 0 M [.int (x)] (fun r M' => r = lN 0 ∧ M' = M) := by
  refine rM (lv0 := [some (.int (x))]) (by decide) rfl rfl (Nat.le_of_ble_eq_true rfl) (fun P0 E0 S0 m0 as0 bl0 mt0 c0 A F hr hnm => ?_)
  refine rg_iload_n F (pc := 0) dX3_lowBits_0 rfl ?_
  refine rg_if_gt F (pc := 1) (tgt := 6) dX3_lowBits_1 (by decide) (fun c1 => absurd c1 hx) (fun c1 => ?_)
  refine rg_lconst F (pc := 4) (v := lN 0) dX3_lowBits_4 (by decide) ?_
  exact rg_lret F (pc := 5) hr (by decide) (by decide) dX3_lowBits_5 ⟨rfl, rfl⟩
theorem c_lowBits (l : Launch) (D : va_G) (M : rMem) (c d : Nat) (hc : c < 2 ^ 30) (hd : d < 2 ^ 30) : CMl l D yX3_lowBits cX3_lowBits 1 (some .long) 1 0 0 M [.int (nI c - nI d)] (fun r M' => r = lN (2 ^ min (c - d) 64 - 1) ∧ M' = M) := by
  by_cases h : d ≤ c
  · rw [pk_sub h]
    exact c_lowBits_n l D M (c - d) (by omega)
  · have h1 : ¬ 0 < nI c - nI d := fun z => by
      have h2 := Int32.lt_iff_toInt_lt.mp z
      rw [pk_sub_toInt hc hd] at h2
      have e : (0 : Int32).toInt = 0 := by decide
      omega
    rw [show c - d = 0 by omega]
    exact c_lowBits_m l D M _ h1
set_option maxHeartbeats 4000000 in
set_option maxRecDepth 100000 in
theorem c_foot (l : Launch) (D : va_G) (M : rMem) (k : Nat) (hk : k < 2 ^ 31) : CMi l D yX3_footSize cX3_footSize 1 ((some .int)) 1 0 0 M [.int (nI k)] (fun r M' => r = nI (rFoot k) ∧ M' = M) := by
  refine rM (lv0 := [some (.int (nI k))]) (by decide) rfl rfl (Nat.le_of_ble_eq_true rfl) (fun P0 E0 S0 m0 as0 bl0 mt0 c0 A F hr hnm => ?_)
  refine rg_iload_n F (pc := 0) dX3_footSize_0 rfl ?_
  refine rg_iconst F (pc := 1) (v := nI 2) dX3_footSize_1 (by decide) ?_
  refine rg_ncmp_ge F (pc := 2) (tgt := 9) dX3_footSize_2 (by decide) (by omega) (by omega) (fun c2 => ?_) (fun c2 => ?_)
  · refine rg_iconst F (pc := 9) (v := nI 3) dX3_footSize_9 (by decide) ?_
    exact rg_iret F (pc := 10) hr (by decide) (by decide) dX3_footSize_10 ⟨by unfold rFoot; rw [if_neg (by omega)], rfl⟩
  · refine rg_iconst F (pc := 5) (v := nI 2) dX3_footSize_5 (by decide) ?_
    refine rg_goto F (pc := 6) (tgt := 10) dX3_footSize_6 (by decide) ?_
    exact rg_iret F (pc := 10) hr (by decide) (by decide) dX3_footSize_10 ⟨by unfold rFoot; rw [if_pos (by omega)], rfl⟩
set_option maxHeartbeats 4000000 in
set_option maxRecDepth 100000 in
theorem c_asked (l : Launch) (D : va_G) (M : rMem) (k : Nat) (hk : k < 4) : CMl l D yX3_askedBy cX3_askedBy 1 ((some .long)) 1 0 0 M [.int (nI k)] (fun r M' => r = lN (zAsk k) ∧ M' = M) := by
  refine rM (lv0 := [some (.int (nI k))]) (by decide) rfl rfl (Nat.le_of_ble_eq_true rfl) (fun P0 E0 S0 m0 as0 bl0 mt0 c0 A F hr hnm => ?_)
  refine rg_iload_n F (pc := 0) dX3_askedBy_0 rfl ?_
  rcases (show k = 0 ∨ k = 1 ∨ k = 2 ∨ k = 3 by omega) with rfl | rfl | rfl | rfl
  · refine rg_tab F (pc := 1) (off := 27) (tgt := 28) dX3_askedBy_1 (by decide) (by decide) (by decide) (by decide) ?_
    refine rg_ldc2 F (pc := 28) (v := 2730) q179 dX3_askedBy_28 ?_
    refine rg_top (v2 := .long (lN 2730)) rfl ?_
    exact rg_lret F (pc := 31) hr (by decide) (by decide) dX3_askedBy_31 ⟨rfl, rfl⟩
  · refine rg_tab F (pc := 1) (off := 31) (tgt := 32) dX3_askedBy_1 (by decide) (by decide) (by decide) (by decide) ?_
    refine rg_ldc2 F (pc := 32) (v := 1365) q180 dX3_askedBy_32 ?_
    refine rg_top (v2 := .long (lN 1365)) rfl ?_
    exact rg_lret F (pc := 35) hr (by decide) (by decide) dX3_askedBy_35 ⟨rfl, rfl⟩
  · refine rg_tab F (pc := 1) (off := 35) (tgt := 36) dX3_askedBy_1 (by decide) (by decide) (by decide) (by decide) ?_
    refine rg_ldc2 F (pc := 36) (v := 149796) q181 dX3_askedBy_36 ?_
    refine rg_top (v2 := .long (lN 149796)) rfl ?_
    exact rg_lret F (pc := 39) hr (by decide) (by decide) dX3_askedBy_39 ⟨rfl, rfl⟩
  · refine rg_tabO F (pc := 1) (tgt := 40) dX3_askedBy_1 (by decide) (by decide) ?_
    refine rg_ldc2 F (pc := 40) (v := 37449) q182 dX3_askedBy_40 ?_
    refine rg_top (v2 := .long (lN 37449)) rfl ?_
    exact rg_lret F (pc := 43) hr (by decide) (by decide) dX3_askedBy_43 ⟨rfl, rfl⟩
theorem zAsk_lt (k : Nat) : zAsk k < 2 ^ 18 := by unfold zAsk; split <;> (try split) <;> (try split) <;> decide
theorem zOff_lt (x k cnt : Nat) (hx : x < 2 ^ 18) : (x ^^^ zAsk k) % 2 ^ cnt < 262144 := Nat.lt_of_le_of_lt (Nat.mod_le _ _) (Nat.xor_lt_two_pow hx (zAsk_lt k))
theorem p64 (k : Nat) (h : k ≤ 64) : 2 ^ k - 1 < 2 ^ 64 := Nat.lt_of_lt_of_le (Nat.sub_lt (Nat.two_pow_pos _) (by decide)) (Nat.pow_le_pow_right (by decide) h)
theorem x64 (x k : Nat) (hx : x < 2 ^ 18) : (x ^^^ zAsk k) < 2 ^ 64 := Nat.lt_of_lt_of_le (Nat.xor_lt_two_pow hx (zAsk_lt k)) (by decide)
set_option maxHeartbeats 4000000 in
set_option maxRecDepth 100000 in
theorem c_offBy (l : Launch) (D : va_G) (M : rMem) (k x cnt : Nat) (hk : k < 4) (hx : x < 2 ^ 18) (hc : cnt ≤ 18) : CMi l D yX1_offBy cX1_offBy 4 ((some .int)) 2 0 0 M [.int (nI k), .long (lN x), .int (nI cnt)] (fun r M' => r = nI (zOffM k x cnt) ∧ M' = M) := by
  refine rM (lv0 := [some (.int (nI k)), some (.long (lN x)), none, some (.int (nI cnt))]) (by decide) rfl rfl (Nat.le_of_ble_eq_true rfl) (fun P0 E0 S0 m0 as0 bl0 mt0 c0 A F hr hnm => ?_)
  refine rg_lload_n F (pc := 0) dX1_offBy_0 rfl ?_
  refine rg_iload_n F (pc := 1) dX1_offBy_1 rfl ?_
  refine rg_callNl F (pc := 2) (As := [.int (nI k)]) (rest := [.long (lN x)]) (c_asked l D _ k (by omega)) qn5 sq_X3_askedBy rfl rfl (Nat.le_of_ble_eq_true rfl) (Nat.le_of_ble_eq_true rfl) (Nat.le_of_ble_eq_true rfl) ⟨(Nat.le_of_ble_eq_true rfl), (Nat.le_of_ble_eq_true rfl)⟩ dX1_offBy_2 (fun r1 M1 hp => ?_)
  refine rg_top (v2 := .long (lN (zAsk k))) (by rw [hp.1]) ?_
  refine rg_mem (M2 := M) hp.2 ?_
  refine rg_lxor F (pc := 5) (v := lN (x ^^^ (zAsk k))) dX1_offBy_5 (rn_lxor (by omega) (Nat.lt_of_lt_of_le (zAsk_lt k) (by decide))) ?_
  refine rg_iload_n F (pc := 6) dX1_offBy_6 rfl ?_
  refine rg_callNl F (pc := 7) (As := [.int (nI cnt)]) (rest := [.long (lN (x ^^^ (zAsk k)))]) (c_lowBits_n l D _ cnt (by omega)) qn6 sq_X3_lowBits rfl rfl (Nat.le_of_ble_eq_true rfl) (Nat.le_of_ble_eq_true rfl) (Nat.le_of_ble_eq_true rfl) ⟨(Nat.le_of_ble_eq_true rfl), (Nat.le_of_ble_eq_true rfl)⟩ dX1_offBy_7 (fun r1 M1 hp => ?_)
  refine rg_top (v2 := .long (lN (2 ^ min cnt 64 - 1))) (by rw [hp.1]) ?_
  refine rg_mem (M2 := M) hp.2 ?_
  refine rg_land F (pc := 10) (v := lN ((x ^^^ zAsk k) % 2 ^ cnt)) dX1_offBy_10 ((wb_and (x64 x k hx) (p64 _ (Nat.min_le_right _ _))).trans (by rw [Nat.min_eq_left (by omega), Nat.and_two_pow_sub_one_eq_mod])) ?_
  refine rg_callSi F (pc := 11) (As := [.long (lN ((x ^^^ zAsk k) % 2 ^ cnt))]) (rest := []) (c_bitsL l D _ ((x ^^^ zAsk k) % 2 ^ cnt) (zOff_lt x k cnt hx)) q183 sq_J13_bitCount_95d88 rfl rfl (Nat.le_of_ble_eq_true rfl) (Nat.le_of_ble_eq_true rfl) (Nat.le_of_ble_eq_true rfl) ⟨(Nat.le_of_ble_eq_true rfl), (Nat.le_of_ble_eq_true rfl)⟩ dX1_offBy_11 (fun r1 M1 hp => ?_)
  refine rg_top (v2 := .int (nI (pop 18 ((x ^^^ zAsk k) % 2 ^ cnt)))) (by rw [hp.1]) ?_
  refine rg_mem (M2 := M) hp.2 ?_
  exact rg_iret F (pc := 14) hr (by decide) (by decide) dX1_offBy_14 ⟨rfl, rfl⟩
set_option maxHeartbeats 4000000 in
set_option maxRecDepth 100000 in
theorem c_cellAt (l : Launch) (D : va_G) (M : rMem) (fl fa en : Nat) (f : Nat → Int64) (G j : Nat) (hf : M fl = some (.inr (1, [.ref fa, .int (nI en)]))) (ha : M fa = some (.inl (D.1 7, (5, .inr (.inl f))))) (hq : ∀ q, q < 5 → f q = lN (fc G q)) (hF : G < 2 ^ 320) (hj : j < 2 ^ 20) : CMl l D yX0_cellAt cX0_cellAt 2 ((some .long)) 1 0 0 M [.ref (fl), .int (nI j)] (fun r M' => r = lN (fc G j) ∧ M' = M) := by
  refine rM (lv0 := [some (.ref (fl)), some (.int (nI j))]) (by decide) rfl rfl (Nat.le_of_ble_eq_true rfl) (fun P0 E0 S0 m0 as0 bl0 mt0 c0 A F hr hnm => ?_)
  refine rg_iload_n F (pc := 0) dX0_cellAt_0 rfl ?_
  refine rg_if_lt F (pc := 1) (tgt := 22) dX0_cellAt_1 (by decide) (fun c9 => absurd c9 (nI_pos (by omega))) (fun _ => ?_)
  refine rg_iload_n F (pc := 4) dX0_cellAt_4 rfl ?_
  refine rg_aload_n F (pc := 5) dX0_cellAt_5 rfl ?_
  refine rg_get F (pc := 6) (ci := 1) rfl inX0 hf 0 (by decide) q166 (fun _ h9 => h9) rfl dX0_cellAt_6 ?_
  refine rg_alen F (pc := 9) (t := 1) ha rfl dX0_cellAt_9 ?_
  refine rg_ncmp_ge F (pc := 10) (tgt := 22) dX0_cellAt_10 (by decide) (by omega) (by omega) (fun c10 => ?_) (fun c10 => ?_)
  · refine rg_lconst F (pc := 22) (v := lN 0) dX0_cellAt_22 (by decide) ?_
    exact rg_lret F (pc := 23) hr (by decide) (by decide) dX0_cellAt_23 ⟨by rw [fc_big hF (by omega)], rfl⟩
  · refine rg_aload_n F (pc := 13) dX0_cellAt_13 rfl ?_
    refine rg_get F (pc := 14) (ci := 1) rfl inX0 hf 0 (by decide) q166 (fun _ h9 => h9) rfl dX0_cellAt_14 ?_
    refine rg_iload_n F (pc := 17) dX0_cellAt_17 rfl ?_
    refine rg_lald F (pc := 18) (x := lN (fc G j)) ha (by omega) (by omega) (hq j (by omega)) dX0_cellAt_18 ?_
    refine rg_goto F (pc := 19) (tgt := 23) dX0_cellAt_19 (by decide) ?_
    exact rg_lret F (pc := 23) hr (by decide) (by decide) dX0_cellAt_23 ⟨rfl, rfl⟩
set_option maxHeartbeats 4000000 in
set_option maxRecDepth 100000 in
theorem c_addTo (l : Launch) (D : va_G) (M : rMem) (fl fa en : Nat) (f : Nat → Int64) (v : Nat → Nat) (j b : Nat) (hf : M fl = some (.inr (1, [.ref fa, .int (nI en)]))) (ha : M fa = some (.inl (D.1 7, (5, .inr (.inl f))))) (hq : ∀ q, q < 5 → f q = lN (v q)) (hv : ∀ q, v q < 2 ^ 64) (hj : j < 2 ^ 20) : CMv l D yX0_addTo cX0_addTo 4 1 0 0 M [.ref (fl), .int (nI j), .long (lN b)] (fun M' => ∃ f2, M' = mset M fa (.inl (D.1 7, (5, .inr (.inl f2)))) ∧ ∀ q, q < 5 → f2 q = lN (if q = j then v q ||| b % 2 ^ 64 else v q)) := by
  refine rM (lv0 := [some (.ref (fl)), some (.int (nI j)), some (.long (lN b)), none]) (by decide) rfl rfl (Nat.le_of_ble_eq_true rfl) (fun P0 E0 S0 m0 as0 bl0 mt0 c0 A F hr hnm => ?_)
  refine rg_iload_n F (pc := 0) dX0_addTo_0 rfl ?_
  refine rg_if_lt F (pc := 1) (tgt := 23) dX0_addTo_1 (by decide) (fun c9 => absurd c9 (nI_pos (by omega))) (fun _ => ?_)
  refine rg_iload_n F (pc := 4) dX0_addTo_4 rfl ?_
  refine rg_aload_n F (pc := 5) dX0_addTo_5 rfl ?_
  refine rg_get F (pc := 6) (ci := 1) rfl inX0 hf 0 (by decide) q166 (fun _ h9 => h9) rfl dX0_addTo_6 ?_
  refine rg_alen F (pc := 9) (t := 1) ha rfl dX0_addTo_9 ?_
  refine rg_ncmp_ge F (pc := 10) (tgt := 23) dX0_addTo_10 (by decide) (by omega) (by omega) (fun c10 => ?_) (fun c10 => ?_)
  · exact rg_vret F (pc := 23) hr (by decide) (by decide) dX0_addTo_23 ⟨f, (mset_self ha).symm, fun q hq9 => by rw [if_neg (by omega)]; exact hq q hq9⟩
  · refine rg_aload_n F (pc := 13) dX0_addTo_13 rfl ?_
    refine rg_get F (pc := 14) (ci := 1) rfl inX0 hf 0 (by decide) q166 (fun _ h9 => h9) rfl dX0_addTo_14 ?_
    refine rg_iload_n F (pc := 17) dX0_addTo_17 rfl ?_
    refine rg_dup2 F (pc := 18) dX0_addTo_18 rfl rfl ?_
    refine rg_lald F (pc := 19) (x := lN (v j)) ha (by omega) (by omega) (hq j (by omega)) dX0_addTo_19 ?_
    refine rg_lload_n F (pc := 20) dX0_addTo_20 rfl ?_
    refine rg_lor F (pc := 21) (v := lN (v j ||| b % 2 ^ 64)) dX0_addTo_21 (by rw [wb_mod b]; exact wb_or (hv _) (Nat.mod_lt _ (by decide))) ?_
    refine rg_last F (pc := 22) ha (by omega) (by omega) dX0_addTo_22 ?_
    exact rg_vret F (pc := 23) hr (by decide) (by decide) dX0_addTo_23 ⟨_, rfl, fun q hq9 => by unfold vp_updL; by_cases h : q = j <;> simp [h]; exact hq q hq9⟩
set_option maxHeartbeats 4000000 in
set_option maxRecDepth 100000 in
theorem c_read (l : Launch) (D : va_G) (M : rMem) (fl fa en : Nat) (f : Nat → Int64) (G st cnt : Nat) (hf : M fl = some (.inr (1, [.ref fa, .int (nI en)]))) (ha : M fa = some (.inl (D.1 7, (5, .inr (.inl f))))) (hq : ∀ q, q < 5 → f q = lN (fc G q)) (hF : G < 2 ^ 320) (hs : st ≤ 320) (hc : cnt ≤ 18) : CMl l D yX0_read cX0_read 7 ((some .long)) 2 0 0 M [.ref (fl), .int (nI st), .int (nI cnt)] (fun r M' => r = lN (G / 2 ^ st % 2 ^ cnt) ∧ M' = M) := by
  have hr9 := fc_read (F := G) (start := st) (c := st / 64) (s := st % 64) (cnt := cnt) (by omega) (by omega) (by omega)
  refine rM (lv0 := [some (.ref (fl)), some (.int (nI st)), some (.int (nI cnt)), none, none, none, none]) (by decide) rfl rfl (Nat.le_of_ble_eq_true rfl) (fun P0 E0 S0 m0 as0 bl0 mt0 c0 A F hr hnm => ?_)
  refine rg_iload_n F (pc := 0) dX0_read_0 rfl ?_
  refine rg_bipush F (pc := 1) (v := nI 64) dX0_read_1 (by decide) ?_
  refine rg_idiv F (pc := 3) (v := nI (st / 64)) dX0_read_3 (by decide) (pk_div (by omega) (by omega) (by omega)) ?_
  refine rg_istore_n F (pc := 4) (lv' := [some (.ref (fl)), some (.int (nI st)), some (.int (nI cnt)), some (.int (nI (st / 64))), none, none, none]) dX0_read_4 (Nat.le_of_ble_eq_true rfl) rfl ?_
  refine rg_iload_n F (pc := 5) dX0_read_5 rfl ?_
  refine rg_bipush F (pc := 6) (v := nI 64) dX0_read_6 (by decide) ?_
  refine rg_irem F (pc := 8) (v := nI (st % 64)) dX0_read_8 (by decide) (pk_rem (by omega) (by omega) (by omega)) ?_
  refine rg_istore F (pc := 9) (lv' := [some (.ref (fl)), some (.int (nI st)), some (.int (nI cnt)), some (.int (nI (st / 64))), some (.int (nI (st % 64))), none, none]) dX0_read_9 (Nat.le_of_ble_eq_true rfl) rfl ?_
  refine rg_aload_n F (pc := 11) dX0_read_11 rfl ?_
  refine rg_iload_n F (pc := 12) dX0_read_12 rfl ?_
  refine rg_callVl F (pc := 13) (As := [.int (nI (st / 64))]) (rest := []) (ci := 1) (c_cellAt l D _ fl fa en f G (st / 64) hf ha hq hF (by omega)) q171 vq_X0_cellAt rfl hf rfl rfl (Nat.le_of_ble_eq_true rfl) (Nat.le_of_ble_eq_true rfl) (Nat.le_of_ble_eq_true rfl) ⟨(Nat.le_of_ble_eq_true rfl), (Nat.le_of_ble_eq_true rfl)⟩ dX0_read_13 (fun r1 M1 hp => ?_)
  refine rg_top (v2 := .long (lN (fc G (st / 64)))) (by rw [hp.1]) ?_
  refine rg_mem (M2 := M) hp.2 ?_
  refine rg_iload F (pc := 16) dX0_read_16 rfl ?_
  refine rg_lushr F (pc := 18) (v := lN ((fc G (st / 64)) / 2 ^ (st % 64))) dX0_read_18 (wb_shr (fc_lt _ _) (by omega)) ?_
  refine rg_lstore F (pc := 19) (lv' := [some (.ref (fl)), some (.int (nI st)), some (.int (nI cnt)), some (.int (nI (st / 64))), some (.int (nI (st % 64))), some (.long (lN ((fc G (st / 64)) / 2 ^ (st % 64)))), none]) dX0_read_19 (Nat.le_of_ble_eq_true rfl) rfl ?_
  refine rg_iload F (pc := 21) dX0_read_21 rfl ?_
  refine rg_iload_n F (pc := 23) dX0_read_23 rfl ?_
  refine rg_iadd F (pc := 24) (v := nI ((st % 64) + cnt)) dX0_read_24 (nI_add _ _) ?_
  refine rg_bipush F (pc := 25) (v := nI 64) dX0_read_25 (by decide) ?_
  refine rg_ncmp_le F (pc := 27) (tgt := 48) dX0_read_27 (by decide) (by omega) (by omega) (fun c27 => ?_) (fun c27 => ?_)
  · refine rg_lload F (pc := 48) dX0_read_48 rfl ?_
    refine rg_iload_n F (pc := 50) dX0_read_50 rfl ?_
    refine rg_callNl F (pc := 51) (As := [.int (nI cnt)]) (rest := [.long (lN ((fc G (st / 64)) / 2 ^ (st % 64)))]) (c_lowBits_n l D _ cnt (by omega)) qn3 sq_X3_lowBits rfl rfl (Nat.le_of_ble_eq_true rfl) (Nat.le_of_ble_eq_true rfl) (Nat.le_of_ble_eq_true rfl) ⟨(Nat.le_of_ble_eq_true rfl), (Nat.le_of_ble_eq_true rfl)⟩ dX0_read_51 (fun r1 M1 hp => ?_)
    refine rg_top (v2 := .long (lN (2 ^ min cnt 64 - 1))) (by rw [hp.1]) ?_
    refine rg_mem (M2 := M) hp.2 ?_
    refine rg_land F (pc := 54) (v := lN (((fc G (st / 64)) / 2 ^ (st % 64)) &&& (2 ^ cnt - 1))) dX0_read_54 ((wb_and (Nat.lt_of_le_of_lt (Nat.div_le_self _ _) (fc_lt _ _)) (p64 _ (Nat.min_le_right _ _))).trans (by rw [(Nat.min_eq_left (show cnt ≤ 64 by omega))])) ?_
    exact rg_lret F (pc := 55) hr (by decide) (by decide) dX0_read_55 ⟨by rw [hr9, if_neg (by omega)], rfl⟩
  · refine rg_lload F (pc := 30) dX0_read_30 rfl ?_
    refine rg_aload_n F (pc := 32) dX0_read_32 rfl ?_
    refine rg_iload_n F (pc := 33) dX0_read_33 rfl ?_
    refine rg_iconst F (pc := 34) (v := nI 1) dX0_read_34 (by decide) ?_
    refine rg_iadd F (pc := 35) (v := nI ((st / 64) + 1)) dX0_read_35 (nI_add _ _) ?_
    refine rg_callVl F (pc := 36) (As := [.int (nI ((st / 64) + 1))]) (rest := [.long (lN ((fc G (st / 64)) / 2 ^ (st % 64)))]) (ci := 1) (c_cellAt l D _ fl fa en f G ((st / 64) + 1) hf ha hq hF (by omega)) q171 vq_X0_cellAt rfl hf rfl rfl (Nat.le_of_ble_eq_true rfl) (Nat.le_of_ble_eq_true rfl) (Nat.le_of_ble_eq_true rfl) ⟨(Nat.le_of_ble_eq_true rfl), (Nat.le_of_ble_eq_true rfl)⟩ dX0_read_36 (fun r1 M1 hp => ?_)
    refine rg_top (v2 := .long (lN (fc G ((st / 64) + 1)))) (by rw [hp.1]) ?_
    refine rg_mem (M2 := M) hp.2 ?_
    refine rg_bipush F (pc := 39) (v := nI 64) dX0_read_39 (by decide) ?_
    refine rg_iload F (pc := 41) dX0_read_41 rfl ?_
    refine rg_isub F (pc := 43) (v := nI (64 - (st % 64))) dX0_read_43 (pk_sub (by omega)) ?_
    refine rg_lshl F (pc := 44) (v := lN (fc G (st / 64 + 1) * 2 ^ (64 - st % 64) % 2 ^ 64)) dX0_read_44 ((wb_shl _ (by omega)).trans (wb_mod _)) ?_
    refine rg_lor F (pc := 45) (v := lN (((fc G (st / 64)) / 2 ^ (st % 64)) ||| (fc G (st / 64 + 1) * 2 ^ (64 - st % 64) % 2 ^ 64))) dX0_read_45 (wb_or (Nat.lt_of_le_of_lt (Nat.div_le_self _ _) (fc_lt _ _)) (Nat.mod_lt _ (by decide))) ?_
    refine rg_lstore F (pc := 46) (lv' := [some (.ref (fl)), some (.int (nI st)), some (.int (nI cnt)), some (.int (nI (st / 64))), some (.int (nI (st % 64))), some (.long (lN (((fc G (st / 64)) / 2 ^ (st % 64)) ||| (fc G (st / 64 + 1) * 2 ^ (64 - st % 64) % 2 ^ 64)))), none]) dX0_read_46 (Nat.le_of_ble_eq_true rfl) rfl ?_
    refine rg_lload F (pc := 48) dX0_read_48 rfl ?_
    refine rg_iload_n F (pc := 50) dX0_read_50 rfl ?_
    refine rg_callNl F (pc := 51) (As := [.int (nI cnt)]) (rest := [.long (lN (((fc G (st / 64)) / 2 ^ (st % 64)) ||| (fc G (st / 64 + 1) * 2 ^ (64 - st % 64) % 2 ^ 64)))]) (c_lowBits_n l D _ cnt (by omega)) qn3 sq_X3_lowBits rfl rfl (Nat.le_of_ble_eq_true rfl) (Nat.le_of_ble_eq_true rfl) (Nat.le_of_ble_eq_true rfl) ⟨(Nat.le_of_ble_eq_true rfl), (Nat.le_of_ble_eq_true rfl)⟩ dX0_read_51 (fun r1 M1 hp => ?_)
    refine rg_top (v2 := .long (lN (2 ^ min cnt 64 - 1))) (by rw [hp.1]) ?_
    refine rg_mem (M2 := M) hp.2 ?_
    refine rg_land F (pc := 54) (v := lN ((((fc G (st / 64)) / 2 ^ (st % 64)) ||| (fc G (st / 64 + 1) * 2 ^ (64 - st % 64) % 2 ^ 64)) &&& (2 ^ cnt - 1))) dX0_read_54 ((wb_and (Nat.or_lt_two_pow (Nat.lt_of_le_of_lt (Nat.div_le_self _ _) (fc_lt _ _)) (Nat.mod_lt _ (by decide))) (p64 _ (Nat.min_le_right _ _))).trans (by rw [(Nat.min_eq_left (show cnt ≤ 64 by omega))])) ?_
    exact rg_lret F (pc := 55) hr (by decide) (by decide) dX0_read_55 ⟨by rw [hr9, if_pos (by omega)], rfl⟩
theorem fl_lt {G c y : Nat} (q : Nat) : (if q = c then fc G q ||| y % 2 ^ 64 else fc G q) < 2 ^ 64 := by
  split
  · exact Nat.or_lt_two_pow (fc_lt _ _) (Nat.mod_lt _ (by decide))
  · exact fc_lt _ _
theorem fl_step {fi : Nat → Int64} {v w : Nat → Nat} {i : Nat} (h : ∀ q, q < 5 → fi q = lN (if q < i then w q else v q)) : ∀ q, q < 5 → vp_updL fi i (lN (w i)) q = lN (if q < i + 1 then w q else v q) := by
  intro q hq
  unfold vp_updL
  by_cases h1 : q = i
  · subst h1
    rw [if_pos rfl, if_pos (Nat.lt_succ_self _)]
  · rw [if_neg h1, h q hq]
    by_cases h3 : q < i
    · rw [if_pos h3, if_pos (by omega)]
    · rw [if_neg h3, if_neg (by omega)]
theorem fl_two {q c s cnt x y z : Nat} (h : 64 < s + cnt) (hz : z < 2 ^ 64) : (if q = c + 1 then (if q = c then x ||| y else x) ||| z % 2 ^ 64 else if q = c then x ||| y else x) = (x ||| if q = c then y else if q = c + 1 ∧ 64 < s + cnt then z else 0) := by
  by_cases h1 : q = c + 1
  · have h2 : ¬ q = c := by omega
    rw [if_pos h1, if_neg h2, if_neg h2, if_pos ⟨h1, h⟩, Nat.mod_eq_of_lt hz]
  · rw [if_neg h1]
    by_cases h2 : q = c
    · rw [if_pos h2, if_pos h2]
    · rw [if_neg h2, if_neg h2, if_neg (fun z => h1 z.1), Nat.or_zero]
set_option maxHeartbeats 4000000 in
set_option maxRecDepth 100000 in
theorem c_fadd (l : Launch) (D : va_G) (M : rMem) (fl fa en : Nat) (f : Nat → Int64) (G b cnt : Nat) (hf : M fl = some (.inr (1, [.ref fa, .int (nI en)]))) (ha : M fa = some (.inl (D.1 7, (5, .inr (.inl f))))) (hq : ∀ q, q < 5 → f q = lN (fc G q)) (he : en + cnt ≤ 320) (hc : cnt ≤ 32) (hb : b < 2 ^ cnt) : CMv l D yX0_add cX0_add 6 2 0 0 M [.ref (fl), .long (lN b), .int (nI cnt)] (fun M' => ∃ f2, M' = mset (mset M fa (.inl (D.1 7, (5, .inr (.inl f2))))) fl (.inr (1, [.ref fa, .int (nI (en + cnt))])) ∧ ∀ q, q < 5 → f2 q = lN (fc (G ||| b * 2 ^ en) q)) := by
  have h32 : b < 2 ^ 64 := Nat.lt_of_lt_of_le hb (Nat.pow_le_pow_right (by decide) (by omega))
  have hfa9 := fun q => fc_add (b := b) (en := en) (c := en / 64) (s := en % 64) (cnt := cnt) (q := q) (by omega) (by omega) hb (by omega)
  refine rM (lv0 := [some (.ref (fl)), some (.long (lN b)), none, some (.int (nI cnt)), none, none]) (by decide) rfl rfl (Nat.le_of_ble_eq_true rfl) (fun P0 E0 S0 m0 as0 bl0 mt0 c0 A F hr hnm => ?_)
  refine rg_aload_n F (pc := 0) dX0_add_0 rfl ?_
  refine rg_get F (pc := 1) (ci := 1) rfl inX0 hf 1 (by decide) q162 (fun _ h9 => h9) rfl dX0_add_1 ?_
  refine rg_bipush F (pc := 4) (v := nI 64) dX0_add_4 (by decide) ?_
  refine rg_idiv F (pc := 6) (v := nI (en / 64)) dX0_add_6 (by decide) (pk_div (by omega) (by omega) (by omega)) ?_
  refine rg_istore F (pc := 7) (lv' := [some (.ref (fl)), some (.long (lN b)), none, some (.int (nI cnt)), some (.int (nI (en / 64))), none]) dX0_add_7 (Nat.le_of_ble_eq_true rfl) rfl ?_
  refine rg_aload_n F (pc := 9) dX0_add_9 rfl ?_
  refine rg_get F (pc := 10) (ci := 1) rfl inX0 hf 1 (by decide) q162 (fun _ h9 => h9) rfl dX0_add_10 ?_
  refine rg_bipush F (pc := 13) (v := nI 64) dX0_add_13 (by decide) ?_
  refine rg_irem F (pc := 15) (v := nI (en % 64)) dX0_add_15 (by decide) (pk_rem (by omega) (by omega) (by omega)) ?_
  refine rg_istore F (pc := 16) (lv' := [some (.ref (fl)), some (.long (lN b)), none, some (.int (nI cnt)), some (.int (nI (en / 64))), some (.int (nI (en % 64)))]) dX0_add_16 (Nat.le_of_ble_eq_true rfl) rfl ?_
  refine rg_aload_n F (pc := 18) dX0_add_18 rfl ?_
  refine rg_iload F (pc := 19) dX0_add_19 rfl ?_
  refine rg_lload_n F (pc := 21) dX0_add_21 rfl ?_
  refine rg_iload F (pc := 22) dX0_add_22 rfl ?_
  refine rg_lshl F (pc := 24) (v := lN (b * 2 ^ (en % 64))) dX0_add_24 (wb_shl _ (by omega)) ?_
  refine rg_callVv F (pc := 25) (As := [.int (nI (en / 64)), .long (lN (b * 2 ^ (en % 64)))]) (rest := []) (ci := 1) (c_addTo l D _ fl fa en f (fc G) (en / 64) (b * 2 ^ (en % 64)) hf ha hq (fc_lt G) (by omega)) q163 vq_X0_addTo rfl hf rfl rfl (Nat.le_of_ble_eq_true rfl) (Nat.le_of_ble_eq_true rfl) (Nat.le_of_ble_eq_true rfl) ⟨(Nat.le_of_ble_eq_true rfl), (Nat.le_of_ble_eq_true rfl)⟩ dX0_add_25 (fun M1 hp => ?_)
  obtain ⟨f2, hM9, hf2⟩ := hp
  refine rg_mem (M2 := (mset M fa (.inl (D.1 7, (5, .inr (.inl f2)))))) hM9 ?_
  refine rg_iload F (pc := 28) dX0_add_28 rfl ?_
  refine rg_iload_n F (pc := 30) dX0_add_30 rfl ?_
  refine rg_iadd F (pc := 31) (v := nI ((en % 64) + cnt)) dX0_add_31 (nI_add _ _) ?_
  refine rg_bipush F (pc := 32) (v := nI 64) dX0_add_32 (by decide) ?_
  refine rg_ncmp_le F (pc := 34) (tgt := 52) dX0_add_34 (by decide) (by omega) (by omega) (fun c34 => ?_) (fun c34 => ?_)
  · refine rg_aload_n F (pc := 52) dX0_add_52 rfl ?_
    refine rg_dup F (pc := 53) dX0_add_53 rfl ?_
    refine rg_get F (pc := 54) (ci := 1) rfl inX0 (mset_keep hf (mne_oa hf ha)) 1 (by decide) q162 (fun _ h9 => h9) rfl dX0_add_54 ?_
    refine rg_iload_n F (pc := 57) dX0_add_57 rfl ?_
    refine rg_iadd F (pc := 58) (v := nI (en + cnt)) dX0_add_58 (nI_add _ _) ?_
    refine rg_put F (pc := 59) (ci := 1) (ty := tyX0 1) rfl inX0 tyX0 tyX0_ok nmX0 (mset_keep hf (mne_oa hf ha)) 1 (by decide) q162 (fun _ h9 => h9) rfl (tyX0_ok 1 (by decide)) rfl rfl (Nat.le_of_ble_eq_true rfl) dX0_add_59 ?_
    refine rg_mem (M2 := (mset (mset M fa (.inl (D.1 7, (5, .inr (.inl f2))))) fl (.inr (1, [.ref (fa), .int (nI (en + cnt))])))) rfl ?_
    exact rg_vret F (pc := 62) hr (by decide) (by decide) dX0_add_62 ⟨f2, rfl, fun q hq9 => by rw [hf2 q hq9, fc_or, hfa9]; by_cases h1 : q = en / 64 <;> simp [h1, show ¬ 64 < en % 64 + cnt by omega]⟩
  · refine rg_aload_n F (pc := 37) dX0_add_37 rfl ?_
    refine rg_iload F (pc := 38) dX0_add_38 rfl ?_
    refine rg_iconst F (pc := 40) (v := nI 1) dX0_add_40 (by decide) ?_
    refine rg_iadd F (pc := 41) (v := nI ((en / 64) + 1)) dX0_add_41 (nI_add _ _) ?_
    refine rg_lload_n F (pc := 42) dX0_add_42 rfl ?_
    refine rg_bipush F (pc := 43) (v := nI 64) dX0_add_43 (by decide) ?_
    refine rg_iload F (pc := 45) dX0_add_45 rfl ?_
    refine rg_isub F (pc := 47) (v := nI (64 - (en % 64))) dX0_add_47 (pk_sub (by omega)) ?_
    refine rg_lushr F (pc := 48) (v := lN (b / 2 ^ (64 - (en % 64)))) dX0_add_48 (wb_shr h32 (by omega)) ?_
    refine rg_callVv F (pc := 49) (As := [.int (nI ((en / 64) + 1)), .long (lN (b / 2 ^ (64 - (en % 64))))]) (rest := []) (ci := 1) (c_addTo l D _ fl fa en f2 (fun q => if q = en / 64 then fc G q ||| b * 2 ^ (en % 64) % 2 ^ 64 else fc G q) ((en / 64) + 1) (b / 2 ^ (64 - (en % 64))) (mset_keep hf (mne_oa hf ha)) mset_eq hf2 (fun q => fl_lt q) (by omega)) q163 vq_X0_addTo rfl (mset_keep hf (mne_oa hf ha)) rfl rfl (Nat.le_of_ble_eq_true rfl) (Nat.le_of_ble_eq_true rfl) (Nat.le_of_ble_eq_true rfl) ⟨(Nat.le_of_ble_eq_true rfl), (Nat.le_of_ble_eq_true rfl)⟩ dX0_add_49 (fun M1 hp => ?_)
    obtain ⟨f3, hM9, hf3⟩ := hp
    refine rg_mem (M2 := (mset M fa (.inl (D.1 7, (5, .inr (.inl f3)))))) (hM9.trans mset_mset) ?_
    refine rg_aload_n F (pc := 52) dX0_add_52 rfl ?_
    refine rg_dup F (pc := 53) dX0_add_53 rfl ?_
    refine rg_get F (pc := 54) (ci := 1) rfl inX0 (mset_keep hf (mne_oa hf ha)) 1 (by decide) q162 (fun _ h9 => h9) rfl dX0_add_54 ?_
    refine rg_iload_n F (pc := 57) dX0_add_57 rfl ?_
    refine rg_iadd F (pc := 58) (v := nI (en + cnt)) dX0_add_58 (nI_add _ _) ?_
    refine rg_put F (pc := 59) (ci := 1) (ty := tyX0 1) rfl inX0 tyX0 tyX0_ok nmX0 (mset_keep hf (mne_oa hf ha)) 1 (by decide) q162 (fun _ h9 => h9) rfl (tyX0_ok 1 (by decide)) rfl rfl (Nat.le_of_ble_eq_true rfl) dX0_add_59 ?_
    refine rg_mem (M2 := (mset (mset M fa (.inl (D.1 7, (5, .inr (.inl f3))))) fl (.inr (1, [.ref (fa), .int (nI (en + cnt))])))) rfl ?_
    exact rg_vret F (pc := 62) hr (by decide) (by decide) dX0_add_62 ⟨f3, rfl, fun q hq9 => by rw [hf3 q hq9, fc_or, hfa9]; exact congrArg lN (fl_two (by omega) (Nat.lt_of_le_of_lt (Nat.div_le_self _ _) h32))⟩
set_option maxHeartbeats 4000000 in
set_option maxRecDepth 100000 in
theorem c_cut (l : Launch) (D : va_G) (M : rMem) (fl fa en : Nat) (f : Nat → Int64) (G cnt : Nat) (hf : M fl = some (.inr (1, [.ref fa, .int (nI en)]))) (ha : M fa = some (.inl (D.1 7, (5, .inr (.inl f))))) (hq : ∀ q, q < 5 → f q = lN (fc G q)) (hc : cnt ≤ 320) : CMv l D yX0_cutBehind cX0_cutBehind 3 2 0 0 M [.ref (fl), .int (nI cnt)] (fun M' => ∃ f2, M' = mset (mset M fa (.inl (D.1 7, (5, .inr (.inl f2))))) fl (.inr (1, [.ref fa, .int (nI cnt)])) ∧ ∀ q, q < 5 → f2 q = lN (fc (G % 2 ^ cnt) q)) := by
  refine rM (lv0 := [some (.ref (fl)), some (.int (nI cnt)), none]) (by decide) rfl rfl (Nat.le_of_ble_eq_true rfl) (fun P0 E0 S0 m0 as0 bl0 mt0 c0 A F hr hnm => ?_)
  refine rg_iconst F (pc := 0) (v := nI 0) dX0_cutBehind_0 (by decide) ?_
  refine rg_istore_n F (pc := 1) (lv' := [some (.ref (fl)), some (.int (nI cnt)), some (.int (nI 0))]) dX0_cutBehind_1 (Nat.le_of_ble_eq_true rfl) rfl ?_
  refine rg_mem (M2 := (mset M fa (.inl (D.1 7, (5, .inr (.inl f)))))) (mset_self ha).symm ?_
  suffices L0 : ∀ (d9 : Nat) (i : Nat) (fi : Nat → Int64), 5 - i < d9 → (i ≤ 5) → (∀ q, q < 5 → fi q = lN (if q < i then fc (G % 2 ^ cnt) q else fc G q)) → rG P0 l E0 (rR 2 0 0) S0 m0 as0 bl0 mt0 c0 D A 3 (MQ bl0 (va_Qv (fun M' => ∃ f2, M' = mset (mset M fa (.inl (D.1 7, (5, .inr (.inl f2))))) fl (.inr (1, [.ref fa, .int (nI cnt)])) ∧ ∀ q, q < 5 → f2 q = lN (fc (G % 2 ^ cnt) q)) (cB D A) A) as0 S0 0 0 A) (mset M fa (.inl (D.1 7, (5, .inr (.inl fi))))) 0 0 [some (.ref (fl)), some (.int (nI cnt)), some (.int (nI i))] 2 [] from L0 _ 0 f (Nat.lt_succ_self _) (by omega) (fun q hq9 => by rw [if_neg (Nat.not_lt_zero _)]; exact hq q hq9)
  intro d9
  induction d9 with
  | zero => intro i fi hd9; exact absurd hd9 (Nat.not_lt_zero _)
  | succ d9 ih =>
    intro i fi hd9 hi hfi
    refine rg_iload_n F (pc := 2) dX0_cutBehind_2 rfl ?_
    refine rg_aload_n F (pc := 3) dX0_cutBehind_3 rfl ?_
    refine rg_get F (pc := 4) (ci := 1) rfl inX0 (mset_keep hf (mne_oa hf ha)) 0 (by decide) q166 (fun _ h9 => h9) rfl dX0_cutBehind_4 ?_
    refine rg_alen F (pc := 7) (t := 1) mset_eq rfl dX0_cutBehind_7 ?_
    refine rg_ncmp_ge F (pc := 8) (tgt := 35) dX0_cutBehind_8 (by decide) (by omega) (by omega) (fun c8 => ?_) (fun c8 => ?_)
    · refine rg_aload_n F (pc := 35) dX0_cutBehind_35 rfl ?_
      refine rg_iload_n F (pc := 36) dX0_cutBehind_36 rfl ?_
      refine rg_put F (pc := 37) (ci := 1) (ty := tyX0 1) rfl inX0 tyX0 tyX0_ok nmX0 (mset_keep hf (mne_oa hf ha)) 1 (by decide) q162 (fun _ h9 => h9) rfl (tyX0_ok 1 (by decide)) rfl rfl (Nat.le_of_ble_eq_true rfl) dX0_cutBehind_37 ?_
      refine rg_mem (M2 := (mset (mset M fa (.inl (D.1 7, (5, .inr (.inl fi))))) fl (.inr (1, [.ref (fa), .int (nI cnt)])))) rfl ?_
      exact rg_vret F (pc := 40) hr (by decide) (by decide) dX0_cutBehind_40 ⟨fi, rfl, fun q hq9 => by rw [hfi q hq9, if_pos (by omega)]⟩
    · refine rg_aload_n F (pc := 11) dX0_cutBehind_11 rfl ?_
      refine rg_get F (pc := 12) (ci := 1) rfl inX0 (mset_keep hf (mne_oa hf ha)) 0 (by decide) q166 (fun _ h9 => h9) rfl dX0_cutBehind_12 ?_
      refine rg_iload_n F (pc := 15) dX0_cutBehind_15 rfl ?_
      refine rg_dup2 F (pc := 16) dX0_cutBehind_16 rfl rfl ?_
      refine rg_lald F (pc := 17) (x := lN (fc G i)) mset_eq (by omega) (by omega) ((hfi i (by omega)).trans (by rw [if_neg (Nat.lt_irrefl _)])) dX0_cutBehind_17 ?_
      refine rg_iload_n F (pc := 18) dX0_cutBehind_18 rfl ?_
      refine rg_iload_n F (pc := 19) dX0_cutBehind_19 rfl ?_
      refine rg_bipush F (pc := 20) (v := nI 64) dX0_cutBehind_20 (by decide) ?_
      refine rg_imul F (pc := 22) (v := nI (i * 64)) dX0_cutBehind_22 (pk_mul _ _) ?_
      refine rg_isub F (pc := 23) (v := (nI cnt) - (nI (i * 64))) dX0_cutBehind_23 rfl ?_
      refine rg_callNl F (pc := 24) (As := [.int ((nI cnt) - (nI (i * 64)))]) (rest := [.long (lN (fc G i)), .int (nI i), .ref (fa)]) (c_lowBits l D _ cnt (i * 64) (by omega) (by omega)) qn3 sq_X3_lowBits rfl rfl (Nat.le_of_ble_eq_true rfl) (Nat.le_of_ble_eq_true rfl) (Nat.le_of_ble_eq_true rfl) ⟨(Nat.le_of_ble_eq_true rfl), (Nat.le_of_ble_eq_true rfl)⟩ dX0_cutBehind_24 (fun r1 M1 hp => ?_)
      refine rg_top (v2 := .long (lN (2 ^ min (cnt - (i * 64)) 64 - 1))) (by rw [hp.1]) ?_
      refine rg_mem (M2 := (mset M fa (.inl (D.1 7, (5, .inr (.inl fi)))))) hp.2 ?_
      refine rg_land F (pc := 27) (v := lN (fc (G % 2 ^ cnt) i)) dX0_cutBehind_27 ((wb_and (fc_lt _ _) (p64 _ (Nat.min_le_right _ _))).trans (by rw [fc_cut, Nat.mul_comm i 64])) ?_
      refine rg_last F (pc := 28) mset_eq (by omega) (by omega) dX0_cutBehind_28 ?_
      refine rg_mem (M2 := (mset M fa (.inl (D.1 7, (5, .inr (.inl (vp_updL fi i (lN (fc (G % 2 ^ cnt) i))))))))) mset_mset ?_
      refine rg_iinc F (pc := 29) (v := nI (i + 1)) (lv' := [some (.ref (fl)), some (.int (nI cnt)), some (.int (nI (i + 1)))]) dX0_cutBehind_29 rfl (nI_add _ 1) (Nat.le_of_ble_eq_true rfl) rfl ?_
      refine rg_goto F (pc := 32) (tgt := 2) dX0_cutBehind_32 (by decide) ?_
      exact ih (i + 1) _ (by omega) (by omega) (fl_step hfi)
end
section
theorem CM_imp {l : Launch} {D : va_G} {y : MethodName} {cc : ByteArray} {maxL : Nat} {ret : Option FieldType} {lev mc ms : Nat} {M : rMem} {av : List Value} {Qc Qc2 : (Nat → Prop) → Array Value → State → Outcome → State → Prop} (h : CM l D y cc maxL ret lev mc ms M av Qc) (hq : ∀ A a s o t, Qc A a s o t → Qc2 A a s o t) : CM l D y cc maxL ret lev mc ms M av Qc2 := fun sz =>
  MetFree.mono (h sz) (fun _ _ h => h) (fun _ _ _ _ _ h => h) (fun _ _ o t _ h => ⟨hq _ _ _ _ _ h.1, h.2⟩)
theorem CMq_imp {l : Launch} {D : va_G} {y : MethodName} {cc : ByteArray} {maxL : Nat} {ret : Option FieldType} {lev mc ms : Nat} {M : rMem} {av : List Value} {post post2 : Option Nat → rMem → Prop} (h : CMq l D y cc maxL ret lev mc ms M av post) (hp : ∀ r M', post r M' → post2 r M') : CMq l D y cc maxL ret lev mc ms M av post2 :=
  CM_imp h (fun A a s o t h => by obtain ⟨⟨r, u, h1, h2, h3⟩, h4⟩ := h; exact ⟨⟨r, u, h1, hp r u h2, h3⟩, h4⟩)
theorem CMi_imp {l : Launch} {D : va_G} {y : MethodName} {cc : ByteArray} {maxL : Nat} {ret : Option FieldType} {lev mc ms : Nat} {M : rMem} {av : List Value} {post post2 : Int32 → rMem → Prop} (h : CMi l D y cc maxL ret lev mc ms M av post) (hp : ∀ r M', post r M' → post2 r M') : CMi l D y cc maxL ret lev mc ms M av post2 :=
  CM_imp h (fun A a s o t h => by obtain ⟨⟨r, u, h1, h2, h3⟩, h4⟩ := h; exact ⟨⟨r, u, h1, hp r u h2, h3⟩, h4⟩)
theorem CMv_imp {l : Launch} {D : va_G} {y : MethodName} {cc : ByteArray} {maxL : Nat} {lev mc ms : Nat} {M : rMem} {av : List Value} {post post2 : rMem → Prop} (h : CMv l D y cc maxL lev mc ms M av post) (hp : ∀ M', post M' → post2 M') : CMv l D y cc maxL lev mc ms M av post2 :=
  CM_imp h (fun A a s o t h => by obtain ⟨⟨u, h1, h2, h3⟩, h4⟩ := h; exact ⟨⟨u, h1, hp u h2, h3⟩, h4⟩)
theorem isL_obj {D : va_G} {M : rMem} {a : Nat} {md : Int32} {bk n : Nat} {g : Nat → Nat} {b ci : Nat} {x : List Value} {e : va_E} (h : isL D M a md bk n g) (hb : M b = some (.inr (ci, x))) (hci : ci ≠ 0) : isL D (mset M b e) a md bk n g := by
  refine ⟨mset_keep h.1 (mne_ci h.1 hb (Ne.symm hci)), ?_⟩
  rcases h.2 with h2 | ⟨cap, f, h2, h3⟩
  · exact Or.inl h2
  · exact Or.inr ⟨cap, f, mset_keep h2 (mne_ao h2 hb), h3⟩
/-- a cell that is neither the list nor its row changes -/
theorem isL_keep {D : va_G} {M : rMem} {a : Nat} {md : Int32} {bk n : Nat} {g : Nat → Nat} {b : Nat} {e : va_E} (h : isL D M a md bk n g) (h1 : b ≠ a) (h2 : b ≠ bk ∨ n = 0 ∧ bk = rT0 D) : isL D (mset M b e) a md bk n g := by
  refine ⟨mset_keep h.1 (Ne.symm h1), ?_⟩
  rcases h.2 with h3 | ⟨cap, f, h3, h4⟩
  · exact Or.inl h3
  · rcases h2 with h2 | h2
    · exact Or.inr ⟨cap, f, mset_keep h3 (Ne.symm h2), h4⟩
    · exact Or.inl h2
theorem isL_new {D : va_G} {M : rMem} {a : Nat} {md : Int32} {bk n : Nat} {g : Nat → Nat} {b : Nat} {e : va_E} (h : isL D M a md bk n g) (hb : M b = none) : isL D (mset M b e) a md bk n g := by
  refine ⟨mset_keep h.1 (mne_none h.1 hb), ?_⟩
  rcases h.2 with h3 | ⟨cap, f, h3, h4⟩
  · exact Or.inl h3
  · exact Or.inr ⟨cap, f, mset_keep h3 (mne_none h3 hb), h4⟩
theorem c_lget (l : Launch) (D : va_G) (M : rMem) (a : Nat) (md : Int32) (bk n : Nat) (g : Nat → Nat) (j : Nat) (hL : isL D M a md bk n g) (hj : j < n) : CMq l D yJx4a65c_get_915e3 cJx4a65c_get_915e3 2 (some (.object "java/lang/Object")) 3 0 0 M [.ref (a), .int (nI j)] (fun r M' => r = some (g j) ∧ M' = M) := by
  rcases hL with ⟨hm, (⟨h, -⟩ | ⟨cap, f, hb, h1, h2, h3, hf⟩)⟩
  · omega
  · have h := c_get l D M a md bk n cap j f hm hb hj h1 (by omega)
    rw [hf j hj] at h
    exact h
def setP (D : va_G) (M : rMem) (bk n : Nat) (g : Nat → Nat) (j v : Nat) (M' : rMem) : Prop := ∃ (cap : Nat) (f2 : Nat → Option Nat) (x : ClassId × vp_A), M bk = some (.inl x) ∧ M' = mset M bk (.inl (D.1 8, (cap, .inr (.inr (.inr (.inr f2)))))) ∧ n ≤ cap ∧ 1 ≤ cap ∧ cap ≤ 60 ∧ ∀ i, i < n → f2 i = some (va_up g j v i)
theorem c_lset (l : Launch) (D : va_G) (M : rMem) (a : Nat) (md : Int32) (bk n : Nat) (g : Nat → Nat) (j v : Nat) (hL : isL D M a md bk n g) (hj : j < n) (hv : isE M v) : CMq l D yJx4a65c_set_bcc79 cJx4a65c_set_bcc79 4 (some (.object "java/lang/Object")) 3 0 0 M [.ref (a), .int (nI j), .ref (v)] (fun r M' => r = some (g j) ∧ setP D M bk n g j v M') := by
  obtain ⟨ci, C, T, N, vs, hv, hci, hcl, hca⟩ := hv
  rcases hL with ⟨hm, (⟨h, -⟩ | ⟨cap, f, hb, h1, h2, h3, hf⟩)⟩
  · omega
  · have h := c_set l D M a md bk n cap j f (g j) v ci vs C T N hm hb hj h1 (by omega) (hf j hj) hv hcl hca
    exact CMq_imp h (fun r M' hp => ⟨hp.1, cap, va_up f j (some v), _, hb, hp.2, h1, h2, h3, fun i hi => by unfold va_up; by_cases e : i = j <;> simp [e]; exact hf i hi⟩)
def remP (D : va_G) (M : rMem) (a : Nat) (bk k : Nat) (g : Nat → Nat) (M' : rMem) : Prop := ∃ (md2 : Int32) (cap : Nat) (f2 : Nat → Option Nat) (x : ClassId × vp_A), M bk = some (.inl x) ∧ M' = mset (mset M a (.inr (0, [.int md2, .ref bk, .int (nI k)]))) bk (.inl (D.1 8, (cap, .inr (.inr (.inr (.inr f2)))))) ∧ k ≤ cap ∧ 1 ≤ cap ∧ cap ≤ 60 ∧ ∀ i, i < k → f2 i = some (g i)
theorem c_lrem (l : Launch) (D : va_G) (M : rMem) (a : Nat) (md : Int32) (bk k : Nat) (g : Nat → Nat) (hL : isL D M a md bk (k + 1) g) : CMq l D yJx4a65c_remove_915e3 cJx4a65c_remove_915e3 4 (some (.object "java/lang/Object")) 3 0 0 M [.ref (a), .int (nI k)] (fun r M' => r = some (g k) ∧ remP D M a bk k g M') := by
  rcases hL with ⟨hm, (⟨h, -⟩ | ⟨cap, f, hb, h1, h2, h3, hf⟩)⟩
  · omega
  · exact CMq_imp (c_remove l D M a md bk k cap f (g k) hm hb (by omega) (by omega) (hf k (by omega))) (fun r M' hp => ⟨hp.1, _, cap, va_up f k none, _, hb, hp.2, by omega, h2, h3, fun i hi => by unfold va_up; rw [if_neg (by omega)]; exact hf i (by omega)⟩)
end
section
abbrev wo (P : Poem) (w : Nat) : List Value := [.int (nI w), .int (nI (zS P w)), .int (nI (zT P w)), .int (nI (zV P w)), .int (nI (zE P w)), .int (nI (zO P w))]
def pv (g : Nat → Nat) : Nat → Option Nat
  | 0 => none
  | j + 1 => some (g j)
theorem zOLs (P : Poem) (i j : Nat) : zOL P i (j + 1) = zOL P i j - zMelt P i j + zS P (zR P i j) := rfl
theorem zOBs (P : Poem) (i j : Nat) : zOB P i (j + 1) = (zOB P i j ||| zT P (zR P i j) * 2 ^ (zOL P i j - zMelt P i j)) := rfl
theorem zOMs (P : Poem) (i j : Nat) : zOM P i (j + 1) = zOM P i j + zMelt P i j := rfl
theorem zMelt_t {P : Poem} {i j : Nat} (h : decide (zE P (zR P i j) = 0 ∧ zO P (zR P i (j + 1)) = 1) = true) : zMelt P i (j + 1) = 1 := if_pos ⟨Nat.succ_pos _, of_decide_eq_true h⟩
theorem zMelt_f {P : Poem} {i j : Nat} (h : decide (zE P (zR P i j) = 0 ∧ zO P (zR P i (j + 1)) = 1) = false) : zMelt P i (j + 1) = 0 := if_neg (fun z => of_decide_eq_false h z.2)
theorem zT_lt {P : Poem} {nW w : Nat} (hW : zWok P nW) (hw : w < nW) : zT P w < 16 := by
  obtain ⟨h1, h2, h3, -⟩ := hW.2 w hw
  exact Nat.lt_of_lt_of_le h3 (show 2 ^ zS P w ≤ 2 ^ 4 from Nat.pow_le_pow_right (by decide) h2)
theorem zOB_64 {b n : Nat} (h : b < 2 ^ n) (hn : n ≤ 64) : b < 2 ^ 64 := Nat.lt_of_lt_of_le h (Nat.pow_le_pow_right (by decide) hn)
theorem zTs_64 {t n : Nat} (h : t < 16) (hn : n ≤ 60) : t * 2 ^ n < 2 ^ 64 := by
  have h1 : 2 ^ n ≤ 2 ^ 60 := Nat.pow_le_pow_right (by decide) hn
  calc t * 2 ^ n ≤ 15 * 2 ^ 60 := Nat.mul_le_mul (by omega) h1
    _ < 2 ^ 64 := by decide
set_option maxHeartbeats 4000000 in
set_option maxRecDepth 100000 in
theorem c_join (l : Launch) (D : va_G) (M : rMem) (la : Nat) (x0 x1 x2 : Int32) (pt : Option Nat) (ro : Nat) (x5 : Int64) (x6 x7 x8 x9 x10 x11 : Int32) (x12 : Int64) (x13 x14 x15 x16 : Int32) (md : Int32) (bk : Nat) (g : Nat → Nat) (P : Poem) (nW i : Nat) (hm : M la = some (.inr (2, [.int (x0), .int (x1), .int (x2), va_rf (pt), .ref (ro), .long (x5), .int (x6), .int (x7), .int (x8), .int (x9), .int (x10), .int (x11), .long (x12), .int (x13), .int (x14), .int (x15), .int (x16)]))) (hL : isL D M ro md bk (zC P i) g) (hw : ∀ j, j < zC P i → M (g j) = some (.inr (3, wo P (zR P i j)))) (hW : zWok P nW) (hi : zLok P nW i) : CMv l D yX1_joinWords cX1_joinWords 4 4 0 0 M [.ref (la)] (fun M' => M' = mset M la (.inr (2, [.int (x0), .int (x1), .int (x2), va_rf (pt), .ref (ro), .long (lN (zb P i)), .int (nI (zo P i)), .int (nI (zOM P i (zC P i))), .int (x8), .int (x9), .int (x10), .int (x11), .long (x12), .int (x13), .int (x14), .int (x15), .int (x16)]))) := by
  refine rM (lv0 := [some (.ref (la)), none, none, none]) (by decide) rfl rfl (Nat.le_of_ble_eq_true rfl) (fun P0 E0 S0 m0 as0 bl0 mt0 c0 A F hr hnm => ?_)
  refine rg_aload_n F (pc := 0) dX1_joinWords_0 rfl ?_
  refine rg_lconst F (pc := 1) (v := lN 0) dX1_joinWords_1 (by decide) ?_
  refine rg_put F (pc := 2) (ci := 2) (ty := tyX1 5) rfl inX1 tyX1 tyX1_ok nmX1 hm 5 (by decide) q111 (fun _ h9 => h9) rfl (tyX1_ok 5 (by decide)) rfl rfl (Nat.le_of_ble_eq_true rfl) dX1_joinWords_2 ?_
  refine rg_mem (M2 := (mset M la (.inr (2, [.int (x0), .int (x1), .int (x2), va_rf (pt), .ref (ro), .long (lN 0), .int (x6), .int (x7), .int (x8), .int (x9), .int (x10), .int (x11), .long (x12), .int (x13), .int (x14), .int (x15), .int (x16)])))) rfl ?_
  refine rg_aload_n F (pc := 5) dX1_joinWords_5 rfl ?_
  refine rg_iconst F (pc := 6) (v := nI 0) dX1_joinWords_6 (by decide) ?_
  refine rg_put F (pc := 7) (ci := 2) (ty := tyX1 6) rfl inX1 tyX1 tyX1_ok nmX1 mset_eq 6 (by decide) q112 (fun _ h9 => h9) rfl (tyX1_ok 6 (by decide)) rfl rfl (Nat.le_of_ble_eq_true rfl) dX1_joinWords_7 ?_
  refine rg_mem (M2 := (mset (mset M la (.inr (2, [.int (x0), .int (x1), .int (x2), va_rf (pt), .ref (ro), .long (lN 0), .int (x6), .int (x7), .int (x8), .int (x9), .int (x10), .int (x11), .long (x12), .int (x13), .int (x14), .int (x15), .int (x16)]))) la (.inr (2, [.int (x0), .int (x1), .int (x2), va_rf (pt), .ref (ro), .long (lN 0), .int (nI 0), .int (x7), .int (x8), .int (x9), .int (x10), .int (x11), .long (x12), .int (x13), .int (x14), .int (x15), .int (x16)])))) rfl ?_
  refine rg_mem (M2 := (mset M la (.inr (2, [.int (x0), .int (x1), .int (x2), va_rf (pt), .ref (ro), .long (lN 0), .int (nI 0), .int (x7), .int (x8), .int (x9), .int (x10), .int (x11), .long (x12), .int (x13), .int (x14), .int (x15), .int (x16)])))) mset_mset ?_
  refine rg_aload_n F (pc := 10) dX1_joinWords_10 rfl ?_
  refine rg_iconst F (pc := 11) (v := nI 0) dX1_joinWords_11 (by decide) ?_
  refine rg_put F (pc := 12) (ci := 2) (ty := tyX1 7) rfl inX1 tyX1 tyX1_ok nmX1 mset_eq 7 (by decide) q113 (fun _ h9 => h9) rfl (tyX1_ok 7 (by decide)) rfl rfl (Nat.le_of_ble_eq_true rfl) dX1_joinWords_12 ?_
  refine rg_mem (M2 := (mset (mset M la (.inr (2, [.int (x0), .int (x1), .int (x2), va_rf (pt), .ref (ro), .long (lN 0), .int (nI 0), .int (x7), .int (x8), .int (x9), .int (x10), .int (x11), .long (x12), .int (x13), .int (x14), .int (x15), .int (x16)]))) la (.inr (2, [.int (x0), .int (x1), .int (x2), va_rf (pt), .ref (ro), .long (lN 0), .int (nI 0), .int (nI 0), .int (x8), .int (x9), .int (x10), .int (x11), .long (x12), .int (x13), .int (x14), .int (x15), .int (x16)])))) rfl ?_
  refine rg_mem (M2 := (mset M la (.inr (2, [.int (x0), .int (x1), .int (x2), va_rf (pt), .ref (ro), .long (lN 0), .int (nI 0), .int (nI 0), .int (x8), .int (x9), .int (x10), .int (x11), .long (x12), .int (x13), .int (x14), .int (x15), .int (x16)])))) mset_mset ?_
  refine rg_null F (pc := 15) dX1_joinWords_15 ?_
  refine rg_astore_nN F (pc := 16) (lv' := [some (.ref (la)), some (.null), none, none]) dX1_joinWords_16 (Nat.le_of_ble_eq_true rfl) rfl ?_
  refine rg_iconst F (pc := 17) (v := nI 0) dX1_joinWords_17 (by decide) ?_
  refine rg_istore_n F (pc := 18) (lv' := [some (.ref (la)), some (.null), some (.int (nI 0)), none]) dX1_joinWords_18 (Nat.le_of_ble_eq_true rfl) rfl ?_
  refine rg_sub (lv' := [some (.ref (la)), some (va_rf (pv g 0)), some (.int (nI 0)), none]) ⟨rfl, rfl, rfl, trivial⟩ ?_
  suffices L0 : ∀ (d9 : Nat) (j : Nat), zC P i - j < d9 → j ≤ zC P i → rG P0 l E0 (rR 4 0 0) S0 m0 as0 bl0 mt0 c0 D A 4 (MQ bl0 (va_Qv (fun M' => M' = mset M la (.inr (2, [.int (x0), .int (x1), .int (x2), va_rf (pt), .ref (ro), .long (lN (zb P i)), .int (nI (zo P i)), .int (nI (zOM P i (zC P i))), .int (x8), .int (x9), .int (x10), .int (x11), .long (x12), .int (x13), .int (x14), .int (x15), .int (x16)]))) (cB D A) A) as0 S0 0 0 A) (mset M la (.inr (2, [.int (x0), .int (x1), .int (x2), va_rf (pt), .ref (ro), .long (lN (zOB P i j)), .int (nI (zOL P i j)), .int (nI (zOM P i j)), .int (x8), .int (x9), .int (x10), .int (x11), .long (x12), .int (x13), .int (x14), .int (x15), .int (x16)]))) 0 0 [some (.ref (la)), some (va_rf (pv g j)), some (.int (nI j)), none] 19 [] from L0 _ 0 (Nat.lt_succ_self _) (Nat.zero_le _)
  intro d9
  induction d9 with
  | zero => intro j hd9; exact absurd hd9 (Nat.not_lt_zero _)
  | succ d9 ih =>
    intro j hd9 hj
    have hc8 := hi.2.2.2.2.1
    obtain ⟨b1, b2, b3, b4⟩ := zOL_b hW hi.2.2.2.2.2 j hj
    have b5 := zOB_64 b3 (by omega)
    have b8 := zMelt_le P i j
    cases j with
    | zero =>
      refine rg_eq (lv2 := [some (.ref (la)), some (.null), some (.int (nI 0)), none]) (st2 := []) (pc2 := 19) rfl rfl rfl ?_
      refine rg_iload_n F (pc := 19) dX1_joinWords_19 rfl ?_
      refine rg_aload_n F (pc := 20) dX1_joinWords_20 rfl ?_
      refine rg_get F (pc := 21) (ci := 2) rfl inX1 mset_eq 4 (by decide) q20 (fun _ h9 => h9) rfl dX1_joinWords_21 ?_
      refine rg_callVi F (pc := 24) (As := []) (rest := [.int (nI 0)]) (ci := 0) (c_size l D _ ro md bk (zC P i) (mset_keep hL.1 (mne_ci hL.1 hm (by decide)))) q40 vq_Jx4a65c_size_8abf5 rfl (mset_keep hL.1 (mne_ci hL.1 hm (by decide))) rfl rfl (Nat.le_of_ble_eq_true rfl) (Nat.le_of_ble_eq_true rfl) (Nat.le_of_ble_eq_true rfl) ⟨(Nat.le_of_ble_eq_true rfl), (Nat.le_of_ble_eq_true rfl)⟩ dX1_joinWords_24 (fun r1 M1 hp => ?_)
      refine rg_top (v2 := .int (nI (zC P i))) (by rw [hp.1]) ?_
      refine rg_mem (M2 := (mset M la (.inr (2, [.int (x0), .int (x1), .int (x2), va_rf (pt), .ref (ro), .long (lN (zOB P i 0)), .int (nI (zOL P i 0)), .int (nI (zOM P i 0)), .int (x8), .int (x9), .int (x10), .int (x11), .long (x12), .int (x13), .int (x14), .int (x15), .int (x16)])))) hp.2 ?_
      refine rg_ncmp_ge F (pc := 27) (tgt := 114) dX1_joinWords_27 (by decide) (by omega) (by omega) (fun c27 => ?_) (fun c27 => ?_)
      · have e9 : 0 = zC P i := by omega
        exact rg_vret F (pc := 114) hr (by decide) (by decide) dX1_joinWords_114 (by unfold zb zo; rw [← e9])
      · refine rg_aload_n F (pc := 30) dX1_joinWords_30 rfl ?_
        refine rg_get F (pc := 31) (ci := 2) rfl inX1 mset_eq 4 (by decide) q20 (fun _ h9 => h9) rfl dX1_joinWords_31 ?_
        refine rg_iload_n F (pc := 34) dX1_joinWords_34 rfl ?_
        refine rg_callVq F (pc := 35) (As := [.int (nI 0)]) (rest := []) (ci := 0) (c_lget l D _ ro md bk (zC P i) g 0 (isL_obj hL hm (by decide)) (by omega)) q44 vq_Jx4a65c_get_915e3 rfl (mset_keep hL.1 (mne_ci hL.1 hm (by decide))) rfl rfl (Nat.le_of_ble_eq_true rfl) (Nat.le_of_ble_eq_true rfl) (Nat.le_of_ble_eq_true rfl) ⟨(Nat.le_of_ble_eq_true rfl), (Nat.le_of_ble_eq_true rfl)⟩ dX1_joinWords_35 (fun r1 M1 hp => ?_)
        refine rg_top (v2 := .ref (g 0)) (by rw [hp.1]; rfl) ?_
        refine rg_mem (M2 := (mset M la (.inr (2, [.int (x0), .int (x1), .int (x2), va_rf (pt), .ref (ro), .long (lN (zOB P i 0)), .int (nI (zOL P i 0)), .int (nI (zOM P i 0)), .int (x8), .int (x9), .int (x10), .int (x11), .long (x12), .int (x13), .int (x14), .int (x15), .int (x16)])))) hp.2 ?_
        refine rg_cast F (pc := 38) (ci := 3) rfl (mset_keep (hw 0 (by omega)) (mne_ci (hw 0 (by omega)) hm (by decide))) q39 dX1_joinWords_38 ?_
        refine rg_astore_n F (pc := 41) (lv' := [some (.ref (la)), some (.null), some (.int (nI 0)), some (.ref (g 0))]) dX1_joinWords_41 (Nat.le_of_ble_eq_true rfl) rfl ?_
        refine rg_aload_nN F (pc := 42) dX1_joinWords_42 rfl ?_
        refine rg_ifnullN F (pc := 43) (tgt := 74) dX1_joinWords_43 (by decide) ?_
        have hz : zMelt P i 0 = 0 := zMelt_0 P i
        have b6 := zT_lt hW (hi.2.2.2.2.2 (0) (by omega))
        have b7 := hW.2 _ (hi.2.2.2.2.2 (0) (by omega))
        refine rg_mem (M2 := (mset M la (.inr (2, [.int (x0), .int (x1), .int (x2), va_rf (pt), .ref (ro), .long (lN (zOB P i 0)), .int (nI (zOL P i 0)), .int (nI (zOM P i (0 + 1))), .int (x8), .int (x9), .int (x10), .int (x11), .long (x12), .int (x13), .int (x14), .int (x15), .int (x16)])))) (by rw [zOMs P i 0, hz]; rfl) ?_
        refine rg_aload_n F (pc := 74) dX1_joinWords_74 rfl ?_
        refine rg_dup F (pc := 75) dX1_joinWords_75 rfl ?_
        refine rg_get F (pc := 76) (ci := 2) rfl inX1 mset_eq 5 (by decide) q111 (fun _ h9 => h9) rfl dX1_joinWords_76 ?_
        refine rg_aload_n F (pc := 79) dX1_joinWords_79 rfl ?_
        refine rg_get F (pc := 80) (ci := 3) rfl inX2 (mset_keep (hw 0 (by omega)) (mne_ci (hw 0 (by omega)) hm (by decide))) 2 (by decide) q114 (fun _ h9 => h9) rfl dX1_joinWords_80 ?_
        refine rg_i2l F (pc := 83) (v := lN (zT P (zR P i 0))) dX1_joinWords_83 (nI_l (by omega)) ?_
        refine rg_aload_n F (pc := 84) dX1_joinWords_84 rfl ?_
        refine rg_get F (pc := 85) (ci := 2) rfl inX1 mset_eq 6 (by decide) q112 (fun _ h9 => h9) rfl dX1_joinWords_85 ?_
        refine rg_lshl F (pc := 88) (v := lN ((zT P (zR P i 0)) * 2 ^ (zOL P i 0))) dX1_joinWords_88 (wb_shl _ (by omega)) ?_
        refine rg_lor F (pc := 89) (v := lN (zOB P i (0 + 1))) dX1_joinWords_89 ((wb_or b5 (zTs_64 b6 (by omega))).trans (by rw [zOBs P i 0, hz]; rfl)) ?_
        refine rg_put F (pc := 90) (ci := 2) (ty := tyX1 5) rfl inX1 tyX1 tyX1_ok nmX1 mset_eq 5 (by decide) q111 (fun _ h9 => h9) rfl (tyX1_ok 5 (by decide)) rfl rfl (Nat.le_of_ble_eq_true rfl) dX1_joinWords_90 ?_
        refine rg_mem (M2 := (mset (mset M la (.inr (2, [.int (x0), .int (x1), .int (x2), va_rf (pt), .ref (ro), .long (lN (zOB P i 0)), .int (nI (zOL P i 0)), .int (nI (zOM P i (0 + 1))), .int (x8), .int (x9), .int (x10), .int (x11), .long (x12), .int (x13), .int (x14), .int (x15), .int (x16)]))) la (.inr (2, [.int (x0), .int (x1), .int (x2), va_rf (pt), .ref (ro), .long (lN (zOB P i (0 + 1))), .int (nI (zOL P i 0)), .int (nI (zOM P i (0 + 1))), .int (x8), .int (x9), .int (x10), .int (x11), .long (x12), .int (x13), .int (x14), .int (x15), .int (x16)])))) rfl ?_
        refine rg_mem (M2 := (mset M la (.inr (2, [.int (x0), .int (x1), .int (x2), va_rf (pt), .ref (ro), .long (lN (zOB P i (0 + 1))), .int (nI (zOL P i 0)), .int (nI (zOM P i (0 + 1))), .int (x8), .int (x9), .int (x10), .int (x11), .long (x12), .int (x13), .int (x14), .int (x15), .int (x16)])))) mset_mset ?_
        refine rg_aload_n F (pc := 93) dX1_joinWords_93 rfl ?_
        refine rg_dup F (pc := 94) dX1_joinWords_94 rfl ?_
        refine rg_get F (pc := 95) (ci := 2) rfl inX1 mset_eq 6 (by decide) q112 (fun _ h9 => h9) rfl dX1_joinWords_95 ?_
        refine rg_aload_n F (pc := 98) dX1_joinWords_98 rfl ?_
        refine rg_get F (pc := 99) (ci := 3) rfl inX2 (mset_keep (hw 0 (by omega)) (mne_ci (hw 0 (by omega)) hm (by decide))) 1 (by decide) q115 (fun _ h9 => h9) rfl dX1_joinWords_99 ?_
        refine rg_iadd F (pc := 102) (v := nI (zOL P i (0 + 1))) dX1_joinWords_102 ((nI_add _ _).trans (by rw [zOLs P i 0, hz]; rfl)) ?_
        refine rg_put F (pc := 103) (ci := 2) (ty := tyX1 6) rfl inX1 tyX1 tyX1_ok nmX1 mset_eq 6 (by decide) q112 (fun _ h9 => h9) rfl (tyX1_ok 6 (by decide)) rfl rfl (Nat.le_of_ble_eq_true rfl) dX1_joinWords_103 ?_
        refine rg_mem (M2 := (mset (mset M la (.inr (2, [.int (x0), .int (x1), .int (x2), va_rf (pt), .ref (ro), .long (lN (zOB P i (0 + 1))), .int (nI (zOL P i 0)), .int (nI (zOM P i (0 + 1))), .int (x8), .int (x9), .int (x10), .int (x11), .long (x12), .int (x13), .int (x14), .int (x15), .int (x16)]))) la (.inr (2, [.int (x0), .int (x1), .int (x2), va_rf (pt), .ref (ro), .long (lN (zOB P i (0 + 1))), .int (nI (zOL P i (0 + 1))), .int (nI (zOM P i (0 + 1))), .int (x8), .int (x9), .int (x10), .int (x11), .long (x12), .int (x13), .int (x14), .int (x15), .int (x16)])))) rfl ?_
        refine rg_mem (M2 := (mset M la (.inr (2, [.int (x0), .int (x1), .int (x2), va_rf (pt), .ref (ro), .long (lN (zOB P i (0 + 1))), .int (nI (zOL P i (0 + 1))), .int (nI (zOM P i (0 + 1))), .int (x8), .int (x9), .int (x10), .int (x11), .long (x12), .int (x13), .int (x14), .int (x15), .int (x16)])))) mset_mset ?_
        refine rg_aload_n F (pc := 106) dX1_joinWords_106 rfl ?_
        refine rg_astore_n F (pc := 107) (lv' := [some (.ref (la)), some (.ref (g 0)), some (.int (nI 0)), some (.ref (g 0))]) dX1_joinWords_107 (Nat.le_of_ble_eq_true rfl) rfl ?_
        refine rg_iinc F (pc := 108) (v := nI (0 + 1)) (lv' := [some (.ref (la)), some (.ref (g 0)), some (.int (nI (0 + 1))), some (.ref (g 0))]) dX1_joinWords_108 rfl (nI_add _ 1) (Nat.le_of_ble_eq_true rfl) rfl ?_
        refine rg_goto F (pc := 111) (tgt := 19) dX1_joinWords_111 (by decide) ?_
        refine rg_sub (lv' := [some (.ref (la)), some (va_rf (pv g (0 + 1))), some (.int (nI (0 + 1))), none]) ⟨rfl, rfl, rfl, trivial⟩ ?_
        exact ih (0 + 1) (by omega) (by omega)
    | succ j =>
      refine rg_eq (lv2 := [some (.ref (la)), some (.ref (g j)), some (.int (nI (j + 1))), none]) (st2 := []) (pc2 := 19) rfl rfl rfl ?_
      refine rg_iload_n F (pc := 19) dX1_joinWords_19 rfl ?_
      refine rg_aload_n F (pc := 20) dX1_joinWords_20 rfl ?_
      refine rg_get F (pc := 21) (ci := 2) rfl inX1 mset_eq 4 (by decide) q20 (fun _ h9 => h9) rfl dX1_joinWords_21 ?_
      refine rg_callVi F (pc := 24) (As := []) (rest := [.int (nI (j + 1))]) (ci := 0) (c_size l D _ ro md bk (zC P i) (mset_keep hL.1 (mne_ci hL.1 hm (by decide)))) q40 vq_Jx4a65c_size_8abf5 rfl (mset_keep hL.1 (mne_ci hL.1 hm (by decide))) rfl rfl (Nat.le_of_ble_eq_true rfl) (Nat.le_of_ble_eq_true rfl) (Nat.le_of_ble_eq_true rfl) ⟨(Nat.le_of_ble_eq_true rfl), (Nat.le_of_ble_eq_true rfl)⟩ dX1_joinWords_24 (fun r1 M1 hp => ?_)
      refine rg_top (v2 := .int (nI (zC P i))) (by rw [hp.1]) ?_
      refine rg_mem (M2 := (mset M la (.inr (2, [.int (x0), .int (x1), .int (x2), va_rf (pt), .ref (ro), .long (lN (zOB P i (j + 1))), .int (nI (zOL P i (j + 1))), .int (nI (zOM P i (j + 1))), .int (x8), .int (x9), .int (x10), .int (x11), .long (x12), .int (x13), .int (x14), .int (x15), .int (x16)])))) hp.2 ?_
      refine rg_ncmp_ge F (pc := 27) (tgt := 114) dX1_joinWords_27 (by decide) (by omega) (by omega) (fun c27 => ?_) (fun c27 => ?_)
      · have e9 : j + 1 = zC P i := by omega
        exact rg_vret F (pc := 114) hr (by decide) (by decide) dX1_joinWords_114 (by unfold zb zo; rw [← e9])
      · refine rg_aload_n F (pc := 30) dX1_joinWords_30 rfl ?_
        refine rg_get F (pc := 31) (ci := 2) rfl inX1 mset_eq 4 (by decide) q20 (fun _ h9 => h9) rfl dX1_joinWords_31 ?_
        refine rg_iload_n F (pc := 34) dX1_joinWords_34 rfl ?_
        refine rg_callVq F (pc := 35) (As := [.int (nI (j + 1))]) (rest := []) (ci := 0) (c_lget l D _ ro md bk (zC P i) g ((j + 1)) (isL_obj hL hm (by decide)) (by omega)) q44 vq_Jx4a65c_get_915e3 rfl (mset_keep hL.1 (mne_ci hL.1 hm (by decide))) rfl rfl (Nat.le_of_ble_eq_true rfl) (Nat.le_of_ble_eq_true rfl) (Nat.le_of_ble_eq_true rfl) ⟨(Nat.le_of_ble_eq_true rfl), (Nat.le_of_ble_eq_true rfl)⟩ dX1_joinWords_35 (fun r1 M1 hp => ?_)
        refine rg_top (v2 := .ref (g ((j + 1)))) (by rw [hp.1]; rfl) ?_
        refine rg_mem (M2 := (mset M la (.inr (2, [.int (x0), .int (x1), .int (x2), va_rf (pt), .ref (ro), .long (lN (zOB P i (j + 1))), .int (nI (zOL P i (j + 1))), .int (nI (zOM P i (j + 1))), .int (x8), .int (x9), .int (x10), .int (x11), .long (x12), .int (x13), .int (x14), .int (x15), .int (x16)])))) hp.2 ?_
        refine rg_cast F (pc := 38) (ci := 3) rfl (mset_keep (hw ((j + 1)) (by omega)) (mne_ci (hw ((j + 1)) (by omega)) hm (by decide))) q39 dX1_joinWords_38 ?_
        refine rg_astore_n F (pc := 41) (lv' := [some (.ref (la)), some (.ref (g j)), some (.int (nI (j + 1))), some (.ref (g ((j + 1))))]) dX1_joinWords_41 (Nat.le_of_ble_eq_true rfl) rfl ?_
        refine rg_aload_n F (pc := 42) dX1_joinWords_42 rfl ?_
        refine rg_ifnull F (pc := 43) dX1_joinWords_43 ?_
        refine rg_aload_n F (pc := 46) dX1_joinWords_46 rfl ?_
        refine rg_aload_n F (pc := 47) dX1_joinWords_47 rfl ?_
        refine rg_callVi F (pc := 48) (As := [.ref (g ((j + 1)))]) (rest := []) (ci := 3) (c_meltsInto l D _ (g j) (zR P i j) (zS P (zR P i j)) (zT P (zR P i j)) (zV P (zR P i j)) (zE P (zR P i j)) (zO P (zR P i j)) (g ((j + 1))) (zR P i ((j + 1))) (zS P (zR P i ((j + 1)))) (zT P (zR P i ((j + 1)))) (zV P (zR P i ((j + 1)))) (zE P (zR P i ((j + 1)))) (zO P (zR P i ((j + 1)))) (mset_keep (hw j (by omega)) (mne_ci (hw j (by omega)) hm (by decide))) (mset_keep (hw ((j + 1)) (by omega)) (mne_ci (hw ((j + 1)) (by omega)) hm (by decide))) (by have := hW.2 _ (hi.2.2.2.2.2 j (by omega)); omega) (by have := hW.2 _ (hi.2.2.2.2.2 (j + 1) (by omega)); omega)) q116 vq_X2_meltsInto rfl (mset_keep (hw j (by omega)) (mne_ci (hw j (by omega)) hm (by decide))) rfl rfl (Nat.le_of_ble_eq_true rfl) (Nat.le_of_ble_eq_true rfl) (Nat.le_of_ble_eq_true rfl) ⟨(Nat.le_of_ble_eq_true rfl), (Nat.le_of_ble_eq_true rfl)⟩ dX1_joinWords_48 (fun r1 M1 hp => ?_)
        refine rg_top (v2 := .int (nI ((decide (zE P (zR P i j) = 0 ∧ zO P (zR P i ((j + 1))) = 1)).toNat))) (by rw [hp.1]) ?_
        refine rg_mem (M2 := (mset M la (.inr (2, [.int (x0), .int (x1), .int (x2), va_rf (pt), .ref (ro), .long (lN (zOB P i (j + 1))), .int (nI (zOL P i (j + 1))), .int (nI (zOM P i (j + 1))), .int (x8), .int (x9), .int (x10), .int (x11), .long (x12), .int (x13), .int (x14), .int (x15), .int (x16)])))) hp.2 ?_
        refine rg_bif_eq F (pc := 51) (tgt := 74) dX1_joinWords_51 (by decide) (fun c51 => ?_) (fun c51 => ?_)
        · have hz : zMelt P i (j + 1) = 0 := zMelt_f c51
          have b6 := zT_lt hW (hi.2.2.2.2.2 (j + 1) (by omega))
          have b7 := hW.2 _ (hi.2.2.2.2.2 (j + 1) (by omega))
          refine rg_mem (M2 := (mset M la (.inr (2, [.int (x0), .int (x1), .int (x2), va_rf (pt), .ref (ro), .long (lN (zOB P i (j + 1))), .int (nI (zOL P i (j + 1))), .int (nI (zOM P i (j + 1 + 1))), .int (x8), .int (x9), .int (x10), .int (x11), .long (x12), .int (x13), .int (x14), .int (x15), .int (x16)])))) (by rw [zOMs P i (j + 1), hz]; rfl) ?_
          refine rg_aload_n F (pc := 74) dX1_joinWords_74 rfl ?_
          refine rg_dup F (pc := 75) dX1_joinWords_75 rfl ?_
          refine rg_get F (pc := 76) (ci := 2) rfl inX1 mset_eq 5 (by decide) q111 (fun _ h9 => h9) rfl dX1_joinWords_76 ?_
          refine rg_aload_n F (pc := 79) dX1_joinWords_79 rfl ?_
          refine rg_get F (pc := 80) (ci := 3) rfl inX2 (mset_keep (hw ((j + 1)) (by omega)) (mne_ci (hw ((j + 1)) (by omega)) hm (by decide))) 2 (by decide) q114 (fun _ h9 => h9) rfl dX1_joinWords_80 ?_
          refine rg_i2l F (pc := 83) (v := lN (zT P (zR P i (j + 1)))) dX1_joinWords_83 (nI_l (by omega)) ?_
          refine rg_aload_n F (pc := 84) dX1_joinWords_84 rfl ?_
          refine rg_get F (pc := 85) (ci := 2) rfl inX1 mset_eq 6 (by decide) q112 (fun _ h9 => h9) rfl dX1_joinWords_85 ?_
          refine rg_lshl F (pc := 88) (v := lN ((zT P (zR P i (j + 1))) * 2 ^ (zOL P i (j + 1)))) dX1_joinWords_88 (wb_shl _ (by omega)) ?_
          refine rg_lor F (pc := 89) (v := lN (zOB P i (j + 1 + 1))) dX1_joinWords_89 ((wb_or b5 (zTs_64 b6 (by omega))).trans (by rw [zOBs P i (j + 1), hz]; rfl)) ?_
          refine rg_put F (pc := 90) (ci := 2) (ty := tyX1 5) rfl inX1 tyX1 tyX1_ok nmX1 mset_eq 5 (by decide) q111 (fun _ h9 => h9) rfl (tyX1_ok 5 (by decide)) rfl rfl (Nat.le_of_ble_eq_true rfl) dX1_joinWords_90 ?_
          refine rg_mem (M2 := (mset (mset M la (.inr (2, [.int (x0), .int (x1), .int (x2), va_rf (pt), .ref (ro), .long (lN (zOB P i (j + 1))), .int (nI (zOL P i (j + 1))), .int (nI (zOM P i (j + 1 + 1))), .int (x8), .int (x9), .int (x10), .int (x11), .long (x12), .int (x13), .int (x14), .int (x15), .int (x16)]))) la (.inr (2, [.int (x0), .int (x1), .int (x2), va_rf (pt), .ref (ro), .long (lN (zOB P i (j + 1 + 1))), .int (nI (zOL P i (j + 1))), .int (nI (zOM P i (j + 1 + 1))), .int (x8), .int (x9), .int (x10), .int (x11), .long (x12), .int (x13), .int (x14), .int (x15), .int (x16)])))) rfl ?_
          refine rg_mem (M2 := (mset M la (.inr (2, [.int (x0), .int (x1), .int (x2), va_rf (pt), .ref (ro), .long (lN (zOB P i (j + 1 + 1))), .int (nI (zOL P i (j + 1))), .int (nI (zOM P i (j + 1 + 1))), .int (x8), .int (x9), .int (x10), .int (x11), .long (x12), .int (x13), .int (x14), .int (x15), .int (x16)])))) mset_mset ?_
          refine rg_aload_n F (pc := 93) dX1_joinWords_93 rfl ?_
          refine rg_dup F (pc := 94) dX1_joinWords_94 rfl ?_
          refine rg_get F (pc := 95) (ci := 2) rfl inX1 mset_eq 6 (by decide) q112 (fun _ h9 => h9) rfl dX1_joinWords_95 ?_
          refine rg_aload_n F (pc := 98) dX1_joinWords_98 rfl ?_
          refine rg_get F (pc := 99) (ci := 3) rfl inX2 (mset_keep (hw ((j + 1)) (by omega)) (mne_ci (hw ((j + 1)) (by omega)) hm (by decide))) 1 (by decide) q115 (fun _ h9 => h9) rfl dX1_joinWords_99 ?_
          refine rg_iadd F (pc := 102) (v := nI (zOL P i (j + 1 + 1))) dX1_joinWords_102 ((nI_add _ _).trans (by rw [zOLs P i (j + 1), hz]; rfl)) ?_
          refine rg_put F (pc := 103) (ci := 2) (ty := tyX1 6) rfl inX1 tyX1 tyX1_ok nmX1 mset_eq 6 (by decide) q112 (fun _ h9 => h9) rfl (tyX1_ok 6 (by decide)) rfl rfl (Nat.le_of_ble_eq_true rfl) dX1_joinWords_103 ?_
          refine rg_mem (M2 := (mset (mset M la (.inr (2, [.int (x0), .int (x1), .int (x2), va_rf (pt), .ref (ro), .long (lN (zOB P i (j + 1 + 1))), .int (nI (zOL P i (j + 1))), .int (nI (zOM P i (j + 1 + 1))), .int (x8), .int (x9), .int (x10), .int (x11), .long (x12), .int (x13), .int (x14), .int (x15), .int (x16)]))) la (.inr (2, [.int (x0), .int (x1), .int (x2), va_rf (pt), .ref (ro), .long (lN (zOB P i (j + 1 + 1))), .int (nI (zOL P i (j + 1 + 1))), .int (nI (zOM P i (j + 1 + 1))), .int (x8), .int (x9), .int (x10), .int (x11), .long (x12), .int (x13), .int (x14), .int (x15), .int (x16)])))) rfl ?_
          refine rg_mem (M2 := (mset M la (.inr (2, [.int (x0), .int (x1), .int (x2), va_rf (pt), .ref (ro), .long (lN (zOB P i (j + 1 + 1))), .int (nI (zOL P i (j + 1 + 1))), .int (nI (zOM P i (j + 1 + 1))), .int (x8), .int (x9), .int (x10), .int (x11), .long (x12), .int (x13), .int (x14), .int (x15), .int (x16)])))) mset_mset ?_
          refine rg_aload_n F (pc := 106) dX1_joinWords_106 rfl ?_
          refine rg_astore_n F (pc := 107) (lv' := [some (.ref (la)), some (.ref (g ((j + 1)))), some (.int (nI (j + 1))), some (.ref (g ((j + 1))))]) dX1_joinWords_107 (Nat.le_of_ble_eq_true rfl) rfl ?_
          refine rg_iinc F (pc := 108) (v := nI ((j + 1) + 1)) (lv' := [some (.ref (la)), some (.ref (g ((j + 1)))), some (.int (nI ((j + 1) + 1))), some (.ref (g ((j + 1))))]) dX1_joinWords_108 rfl (nI_add _ 1) (Nat.le_of_ble_eq_true rfl) rfl ?_
          refine rg_goto F (pc := 111) (tgt := 19) dX1_joinWords_111 (by decide) ?_
          refine rg_sub (lv' := [some (.ref (la)), some (va_rf (pv g (j + 1 + 1))), some (.int (nI (j + 1 + 1))), none]) ⟨rfl, rfl, rfl, trivial⟩ ?_
          exact ih (j + 1 + 1) (by omega) (by omega)
        · refine rg_aload_n F (pc := 54) dX1_joinWords_54 rfl ?_
          refine rg_dup F (pc := 55) dX1_joinWords_55 rfl ?_
          refine rg_get F (pc := 56) (ci := 2) rfl inX1 mset_eq 7 (by decide) q113 (fun _ h9 => h9) rfl dX1_joinWords_56 ?_
          refine rg_iconst F (pc := 59) (v := nI 1) dX1_joinWords_59 (by decide) ?_
          refine rg_iadd F (pc := 60) (v := nI (zOM P i (j + 1 + 1))) dX1_joinWords_60 ((nI_add _ _).trans (by rw [zOMs P i (j + 1), zMelt_t c51])) ?_
          refine rg_put F (pc := 61) (ci := 2) (ty := tyX1 7) rfl inX1 tyX1 tyX1_ok nmX1 mset_eq 7 (by decide) q113 (fun _ h9 => h9) rfl (tyX1_ok 7 (by decide)) rfl rfl (Nat.le_of_ble_eq_true rfl) dX1_joinWords_61 ?_
          refine rg_mem (M2 := (mset (mset M la (.inr (2, [.int (x0), .int (x1), .int (x2), va_rf (pt), .ref (ro), .long (lN (zOB P i (j + 1))), .int (nI (zOL P i (j + 1))), .int (nI (zOM P i (j + 1))), .int (x8), .int (x9), .int (x10), .int (x11), .long (x12), .int (x13), .int (x14), .int (x15), .int (x16)]))) la (.inr (2, [.int (x0), .int (x1), .int (x2), va_rf (pt), .ref (ro), .long (lN (zOB P i (j + 1))), .int (nI (zOL P i (j + 1))), .int (nI (zOM P i (j + 1 + 1))), .int (x8), .int (x9), .int (x10), .int (x11), .long (x12), .int (x13), .int (x14), .int (x15), .int (x16)])))) rfl ?_
          refine rg_mem (M2 := (mset M la (.inr (2, [.int (x0), .int (x1), .int (x2), va_rf (pt), .ref (ro), .long (lN (zOB P i (j + 1))), .int (nI (zOL P i (j + 1))), .int (nI (zOM P i (j + 1 + 1))), .int (x8), .int (x9), .int (x10), .int (x11), .long (x12), .int (x13), .int (x14), .int (x15), .int (x16)])))) mset_mset ?_
          refine rg_aload_n F (pc := 64) dX1_joinWords_64 rfl ?_
          refine rg_dup F (pc := 65) dX1_joinWords_65 rfl ?_
          refine rg_get F (pc := 66) (ci := 2) rfl inX1 mset_eq 6 (by decide) q112 (fun _ h9 => h9) rfl dX1_joinWords_66 ?_
          refine rg_iconst F (pc := 69) (v := nI 1) dX1_joinWords_69 (by decide) ?_
          refine rg_isub F (pc := 70) (v := nI ((zOL P i (j + 1)) - 1)) dX1_joinWords_70 (pk_sub (by omega)) ?_
          refine rg_put F (pc := 71) (ci := 2) (ty := tyX1 6) rfl inX1 tyX1 tyX1_ok nmX1 mset_eq 6 (by decide) q112 (fun _ h9 => h9) rfl (tyX1_ok 6 (by decide)) rfl rfl (Nat.le_of_ble_eq_true rfl) dX1_joinWords_71 ?_
          refine rg_mem (M2 := (mset (mset M la (.inr (2, [.int (x0), .int (x1), .int (x2), va_rf (pt), .ref (ro), .long (lN (zOB P i (j + 1))), .int (nI (zOL P i (j + 1))), .int (nI (zOM P i (j + 1 + 1))), .int (x8), .int (x9), .int (x10), .int (x11), .long (x12), .int (x13), .int (x14), .int (x15), .int (x16)]))) la (.inr (2, [.int (x0), .int (x1), .int (x2), va_rf (pt), .ref (ro), .long (lN (zOB P i (j + 1))), .int (nI ((zOL P i (j + 1)) - 1)), .int (nI (zOM P i (j + 1 + 1))), .int (x8), .int (x9), .int (x10), .int (x11), .long (x12), .int (x13), .int (x14), .int (x15), .int (x16)])))) rfl ?_
          refine rg_mem (M2 := (mset M la (.inr (2, [.int (x0), .int (x1), .int (x2), va_rf (pt), .ref (ro), .long (lN (zOB P i (j + 1))), .int (nI ((zOL P i (j + 1)) - 1)), .int (nI (zOM P i (j + 1 + 1))), .int (x8), .int (x9), .int (x10), .int (x11), .long (x12), .int (x13), .int (x14), .int (x15), .int (x16)])))) mset_mset ?_
          have hz : zMelt P i (j + 1) = 1 := zMelt_t c51
          have b6 := zT_lt hW (hi.2.2.2.2.2 (j + 1) (by omega))
          have b7 := hW.2 _ (hi.2.2.2.2.2 (j + 1) (by omega))
          refine rg_aload_n F (pc := 74) dX1_joinWords_74 rfl ?_
          refine rg_dup F (pc := 75) dX1_joinWords_75 rfl ?_
          refine rg_get F (pc := 76) (ci := 2) rfl inX1 mset_eq 5 (by decide) q111 (fun _ h9 => h9) rfl dX1_joinWords_76 ?_
          refine rg_aload_n F (pc := 79) dX1_joinWords_79 rfl ?_
          refine rg_get F (pc := 80) (ci := 3) rfl inX2 (mset_keep (hw ((j + 1)) (by omega)) (mne_ci (hw ((j + 1)) (by omega)) hm (by decide))) 2 (by decide) q114 (fun _ h9 => h9) rfl dX1_joinWords_80 ?_
          refine rg_i2l F (pc := 83) (v := lN (zT P (zR P i (j + 1)))) dX1_joinWords_83 (nI_l (by omega)) ?_
          refine rg_aload_n F (pc := 84) dX1_joinWords_84 rfl ?_
          refine rg_get F (pc := 85) (ci := 2) rfl inX1 mset_eq 6 (by decide) q112 (fun _ h9 => h9) rfl dX1_joinWords_85 ?_
          refine rg_lshl F (pc := 88) (v := lN ((zT P (zR P i (j + 1))) * 2 ^ ((zOL P i (j + 1)) - 1))) dX1_joinWords_88 (wb_shl _ (by omega)) ?_
          refine rg_lor F (pc := 89) (v := lN (zOB P i (j + 1 + 1))) dX1_joinWords_89 ((wb_or b5 (zTs_64 b6 (by omega))).trans (by rw [zOBs P i (j + 1), hz])) ?_
          refine rg_put F (pc := 90) (ci := 2) (ty := tyX1 5) rfl inX1 tyX1 tyX1_ok nmX1 mset_eq 5 (by decide) q111 (fun _ h9 => h9) rfl (tyX1_ok 5 (by decide)) rfl rfl (Nat.le_of_ble_eq_true rfl) dX1_joinWords_90 ?_
          refine rg_mem (M2 := (mset (mset M la (.inr (2, [.int (x0), .int (x1), .int (x2), va_rf (pt), .ref (ro), .long (lN (zOB P i (j + 1))), .int (nI ((zOL P i (j + 1)) - 1)), .int (nI (zOM P i (j + 1 + 1))), .int (x8), .int (x9), .int (x10), .int (x11), .long (x12), .int (x13), .int (x14), .int (x15), .int (x16)]))) la (.inr (2, [.int (x0), .int (x1), .int (x2), va_rf (pt), .ref (ro), .long (lN (zOB P i (j + 1 + 1))), .int (nI ((zOL P i (j + 1)) - 1)), .int (nI (zOM P i (j + 1 + 1))), .int (x8), .int (x9), .int (x10), .int (x11), .long (x12), .int (x13), .int (x14), .int (x15), .int (x16)])))) rfl ?_
          refine rg_mem (M2 := (mset M la (.inr (2, [.int (x0), .int (x1), .int (x2), va_rf (pt), .ref (ro), .long (lN (zOB P i (j + 1 + 1))), .int (nI ((zOL P i (j + 1)) - 1)), .int (nI (zOM P i (j + 1 + 1))), .int (x8), .int (x9), .int (x10), .int (x11), .long (x12), .int (x13), .int (x14), .int (x15), .int (x16)])))) mset_mset ?_
          refine rg_aload_n F (pc := 93) dX1_joinWords_93 rfl ?_
          refine rg_dup F (pc := 94) dX1_joinWords_94 rfl ?_
          refine rg_get F (pc := 95) (ci := 2) rfl inX1 mset_eq 6 (by decide) q112 (fun _ h9 => h9) rfl dX1_joinWords_95 ?_
          refine rg_aload_n F (pc := 98) dX1_joinWords_98 rfl ?_
          refine rg_get F (pc := 99) (ci := 3) rfl inX2 (mset_keep (hw ((j + 1)) (by omega)) (mne_ci (hw ((j + 1)) (by omega)) hm (by decide))) 1 (by decide) q115 (fun _ h9 => h9) rfl dX1_joinWords_99 ?_
          refine rg_iadd F (pc := 102) (v := nI (zOL P i (j + 1 + 1))) dX1_joinWords_102 ((nI_add _ _).trans (by rw [zOLs P i (j + 1), hz])) ?_
          refine rg_put F (pc := 103) (ci := 2) (ty := tyX1 6) rfl inX1 tyX1 tyX1_ok nmX1 mset_eq 6 (by decide) q112 (fun _ h9 => h9) rfl (tyX1_ok 6 (by decide)) rfl rfl (Nat.le_of_ble_eq_true rfl) dX1_joinWords_103 ?_
          refine rg_mem (M2 := (mset (mset M la (.inr (2, [.int (x0), .int (x1), .int (x2), va_rf (pt), .ref (ro), .long (lN (zOB P i (j + 1 + 1))), .int (nI ((zOL P i (j + 1)) - 1)), .int (nI (zOM P i (j + 1 + 1))), .int (x8), .int (x9), .int (x10), .int (x11), .long (x12), .int (x13), .int (x14), .int (x15), .int (x16)]))) la (.inr (2, [.int (x0), .int (x1), .int (x2), va_rf (pt), .ref (ro), .long (lN (zOB P i (j + 1 + 1))), .int (nI (zOL P i (j + 1 + 1))), .int (nI (zOM P i (j + 1 + 1))), .int (x8), .int (x9), .int (x10), .int (x11), .long (x12), .int (x13), .int (x14), .int (x15), .int (x16)])))) rfl ?_
          refine rg_mem (M2 := (mset M la (.inr (2, [.int (x0), .int (x1), .int (x2), va_rf (pt), .ref (ro), .long (lN (zOB P i (j + 1 + 1))), .int (nI (zOL P i (j + 1 + 1))), .int (nI (zOM P i (j + 1 + 1))), .int (x8), .int (x9), .int (x10), .int (x11), .long (x12), .int (x13), .int (x14), .int (x15), .int (x16)])))) mset_mset ?_
          refine rg_aload_n F (pc := 106) dX1_joinWords_106 rfl ?_
          refine rg_astore_n F (pc := 107) (lv' := [some (.ref (la)), some (.ref (g ((j + 1)))), some (.int (nI (j + 1))), some (.ref (g ((j + 1))))]) dX1_joinWords_107 (Nat.le_of_ble_eq_true rfl) rfl ?_
          refine rg_iinc F (pc := 108) (v := nI ((j + 1) + 1)) (lv' := [some (.ref (la)), some (.ref (g ((j + 1)))), some (.int (nI ((j + 1) + 1))), some (.ref (g ((j + 1))))]) dX1_joinWords_108 rfl (nI_add _ 1) (Nat.le_of_ble_eq_true rfl) rfl ?_
          refine rg_goto F (pc := 111) (tgt := 19) dX1_joinWords_111 (by decide) ?_
          refine rg_sub (lv' := [some (.ref (la)), some (va_rf (pv g (j + 1 + 1))), some (.int (nI (j + 1 + 1))), none]) ⟨rfl, rfl, rfl, trivial⟩ ?_
          exact ih (j + 1 + 1) (by omega) (by omega)
end
