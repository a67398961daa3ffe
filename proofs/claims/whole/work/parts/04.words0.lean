set_option maxRecDepth 100000 in
def wsL_law : List Cond := k2_sels lw_privs ++ tables_1.filter goodWord
theorem wsL_of {w : Cond} (h : w ∈ lw_tbl) (hg : goodWord w = true) : w ∈ wsL_law := (List.mem_append.mp h).elim (fun h => List.mem_append_left _ h) (fun h => List.mem_append_right _ (List.mem_filter.mpr ⟨h, hg⟩))
theorem wsL_ot {w : Cond} (h : w ∈ tables_1) (hg : goodWord w = true) : w ∈ wsL_law := List.mem_append_right _ (List.mem_filter.mpr ⟨h, hg⟩)
theorem wsL_law_in : ∀ w ∈ wsL_law, w ∈ lw_tbl := fun w h => (List.mem_append.mp h).elim (fun h => List.mem_append_left _ h) (fun h => List.mem_append_right _ (List.mem_filter.mp h).1)
theorem wsL_gi : GoodIn wsL_law wsL_law := fun w h => ⟨h, (List.mem_append.mp h).elim (fun h => by obtain ⟨q, -, rfl⟩ := List.mem_map.mp h; exact Or.inl rfl) (fun h => good_of_word (List.mem_filter.mp h).2)⟩
theorem q0 : Cond.code yX0_init cX0_init 1 none ∈ wsL_law := wsL_ot (List.mem_of_getElem? (i := 61) (by decide +kernel)) rfl
theorem q1 : Cond.code yX3_lowBits cX3_lowBits 1 (some .long) ∈ wsL_law := wsL_ot (List.mem_of_getElem? (i := 152) (by decide +kernel)) rfl
theorem q2 : Cond.code yX0_cutBehind cX0_cutBehind 3 none ∈ wsL_law := wsL_ot (List.mem_of_getElem? (i := 149) (by decide +kernel)) rfl
theorem q3 : Cond.code yX0_addTo cX0_addTo 4 none ∈ wsL_law := wsL_ot (List.mem_of_getElem? (i := 168) (by decide +kernel)) rfl
theorem q4 : Cond.code yX0_add cX0_add 6 none ∈ wsL_law := wsL_ot (List.mem_of_getElem? (i := 164) (by decide +kernel)) rfl
theorem q5 : Cond.code yX0_cellAt cX0_cellAt 2 (some .long) ∈ wsL_law := wsL_ot (List.mem_of_getElem? (i := 182) (by decide +kernel)) rfl
theorem q6 : Cond.code yX0_read cX0_read 7 (some .long) ∈ wsL_law := wsL_ot (List.mem_of_getElem? (i := 178) (by decide +kernel)) rfl
theorem q7 : Cond.code yJxa1e45_init_da8c8 cJxa1e45_init_da8c8 1 none ∈ wsL_law := wsL_ot (List.mem_of_getElem? (i := 41) (by decide +kernel)) rfl
theorem q8 : Cond.code yJxc12de_init_da8c8 cJxc12de_init_da8c8 1 none ∈ wsL_law := wsL_ot (List.mem_of_getElem? (i := 38) (by decide +kernel)) rfl
theorem q9 : Cond.code yJx4a65c_init_da8c8 cJx4a65c_init_da8c8 1 none ∈ wsL_law := wsL_ot (List.mem_of_getElem? (i := 35) (by decide +kernel)) rfl
theorem q10 : Cond.methodLink RX1 1 objectInit ∈ wsL_law := wsL_ot (List.mem_of_getElem? (i := 506) (by decide +kernel)) rfl
theorem q11 : Cond.instanceMethod objectInit ∈ wsL_law := wsL_ot (List.mem_of_getElem? (i := 29) (by decide +kernel)) rfl
theorem q12 : Cond.code objectInit ⟨#[0xb1]⟩ 1 none ∈ wsL_law := wsL_ot (List.mem_of_getElem? (i := 30) (by decide +kernel)) rfl
theorem q13 : Cond.fieldLink RX1 7 "RhymeTax$Line" "metre" "I" ∈ wsL_law := wsL_ot (List.mem_of_getElem? (i := 509) (by decide +kernel)) rfl
theorem q14 : Cond.fieldLink RX1 13 "RhymeTax$Line" "feet" "I" ∈ wsL_law := wsL_ot (List.mem_of_getElem? (i := 510) (by decide +kernel)) rfl
theorem q15 : Cond.fieldLink RX1 16 "RhymeTax$Line" "mark" "I" ∈ wsL_law := wsL_ot (List.mem_of_getElem? (i := 511) (by decide +kernel)) rfl
theorem q16 : Cond.fieldLink RX1 19 "RhymeTax$Line" "partner" "LRhymeTax$Line;" ∈ wsL_law := wsL_ot (List.mem_of_getElem? (i := 513) (by decide +kernel)) rfl
theorem q17 : Cond.classLink RX1 23 RJx4a65c ∈ wsL_law := wsL_ot (List.mem_of_getElem? (i := 507) (by decide +kernel)) rfl
theorem q18 : Cond.instantiable RJx4a65c 3 ∈ wsL_law := wsL_ot (List.mem_of_getElem? (i := 32) (by decide +kernel)) rfl
theorem q19 : Cond.initialized RJx4a65c ∈ wsL_law := wsL_ot (List.mem_of_getElem? (i := 4) (by decide +kernel)) rfl
theorem q20 : Cond.fieldLink RX1 26 "RhymeTax$Line" "row" "Ljava/util/ArrayList;" ∈ wsL_law := wsL_ot (List.mem_of_getElem? (i := 515) (by decide +kernel)) rfl
theorem q21 : Cond.methodLink RX1 25 yJx4a65c_init_da8c8 ∈ wsL_law := wsL_ot (List.mem_of_getElem? (i := 508) (by decide +kernel)) rfl
theorem q22 : Cond.instanceMethod yJx4a65c_init_da8c8 ∈ wsL_law := wsL_ot (List.mem_of_getElem? (i := 34) (by decide +kernel)) rfl
theorem q23 : Cond.fieldLink RJx4a65c 39 "java/util/ArrayList" "DEFAULTCAPACITY_EMPTY_ELEMENTDATA" "[Ljava/lang/Object;" ∈ wsL_law := wsL_ot (List.mem_of_getElem? (i := 43) (by decide +kernel)) rfl
theorem q24 : Cond.fieldLink RJx4a65c 9 "java/util/ArrayList" "elementData" "[Ljava/lang/Object;" ∈ wsL_law := wsL_ot (List.mem_of_getElem? (i := 45) (by decide +kernel)) rfl
theorem q25 : Cond.methodLink RJx4a65c 1 yJxc12de_init_da8c8 ∈ wsL_law := wsL_ot (List.mem_of_getElem? (i := 36) (by decide +kernel)) rfl
theorem q26 : Cond.instanceMethod yJxc12de_init_da8c8 ∈ wsL_law := wsL_ot (List.mem_of_getElem? (i := 37) (by decide +kernel)) rfl
theorem q27 : Cond.initialized RJxc12de ∈ wsL_law := wsL_ot (List.mem_of_getElem? (i := 3) (by decide +kernel)) rfl
theorem q28 : Cond.fieldLink RJxc12de 7 "java/util/AbstractList" "modCount" "I" ∈ wsL_law := wsL_ot (List.mem_of_getElem? (i := 47) (by decide +kernel)) rfl
theorem q29 : Cond.methodLink RJxc12de 1 yJxa1e45_init_da8c8 ∈ wsL_law := wsL_ot (List.mem_of_getElem? (i := 39) (by decide +kernel)) rfl
theorem q30 : Cond.instanceMethod yJxa1e45_init_da8c8 ∈ wsL_law := wsL_ot (List.mem_of_getElem? (i := 40) (by decide +kernel)) rfl
theorem q31 : Cond.initialized RJxa1e45 ∈ wsL_law := wsL_ot (List.mem_of_getElem? (i := 2) (by decide +kernel)) rfl
theorem q32 : Cond.methodLink RJxa1e45 1 objectInit ∈ wsL_law := wsL_ot (List.mem_of_getElem? (i := 42) (by decide +kernel)) rfl
theorem q33 : Cond.code yX1_init cX1_init 5 none ∈ wsL_law := wsL_ot (List.mem_of_getElem? (i := 505) (by decide +kernel)) rfl
theorem q34 : Cond.code yJx4a65c_size_8abf5 cJx4a65c_size_8abf5 1 (some .int) ∈ wsL_law := wsL_ot (List.mem_of_getElem? (i := 93) (by decide +kernel)) rfl
theorem q35 : Cond.code yJ3_checkIndex_8e157 cJ3_checkIndex_8e157 3 (some .int) ∈ wsL_law := wsL_ot (List.mem_of_getElem? (i := 103) (by decide +kernel)) rfl
theorem q36 : Cond.code yJ15_checkIndex_7cf53 cJ15_checkIndex_7cf53 2 (some .int) ∈ wsL_law := wsL_ot (List.mem_of_getElem? (i := 100) (by decide +kernel)) rfl
theorem q37 : Cond.code yJx4a65c_elementData_915e3 cJx4a65c_elementData_915e3 2 (some (.object "java/lang/Object")) ∈ wsL_law := wsL_ot (List.mem_of_getElem? (i := 107) (by decide +kernel)) rfl
theorem q38 : Cond.code yJx4a65c_get_915e3 cJx4a65c_get_915e3 2 (some (.object "java/lang/Object")) ∈ wsL_law := wsL_ot (List.mem_of_getElem? (i := 97) (by decide +kernel)) rfl
theorem q39 : Cond.classLink RX1 38 "RhymeTax$Word" ∈ wsL_law := wsL_ot (List.mem_of_getElem? (i := 137) (by decide +kernel)) rfl
theorem q40 : Cond.methodLink RX1 30 yJx4a65c_size_8abf5 ∈ wsL_law := wsL_ot (List.mem_of_getElem? (i := 125) (by decide +kernel)) rfl
theorem q41 : Cond.instanceMethod yJx4a65c_size_8abf5 ∈ wsL_law := wsL_ot (List.mem_of_getElem? (i := 91) (by decide +kernel)) rfl
theorem q42 : Cond.selects RJx4a65c yJx4a65c_size_8abf5 yJx4a65c_size_8abf5 ∈ wsL_law := wsL_ot (List.mem_of_getElem? (i := 92) (by decide +kernel)) rfl
theorem q43 : Cond.fieldLink RJx4a65c 48 "java/util/ArrayList" "size" "I" ∈ wsL_law := wsL_ot (List.mem_of_getElem? (i := 46) (by decide +kernel)) rfl
theorem q44 : Cond.methodLink RX1 34 yJx4a65c_get_915e3 ∈ wsL_law := wsL_ot (List.mem_of_getElem? (i := 136) (by decide +kernel)) rfl
theorem q45 : Cond.instanceMethod yJx4a65c_get_915e3 ∈ wsL_law := wsL_ot (List.mem_of_getElem? (i := 95) (by decide +kernel)) rfl
theorem q46 : Cond.selects RJx4a65c yJx4a65c_get_915e3 yJx4a65c_get_915e3 ∈ wsL_law := wsL_ot (List.mem_of_getElem? (i := 96) (by decide +kernel)) rfl
theorem q47 : Cond.methodLink RJx4a65c 118 yJ15_checkIndex_7cf53 ∈ wsL_law := wsL_ot (List.mem_of_getElem? (i := 98) (by decide +kernel)) rfl
theorem q48 : Cond.static yJ15_checkIndex_7cf53 ∈ wsL_law := wsL_ot (List.mem_of_getElem? (i := 99) (by decide +kernel)) rfl
theorem q49 : Cond.initialized RJ15 ∈ wsL_law := wsL_ot (List.mem_of_getElem? (i := 18) (by decide +kernel)) rfl
theorem q50 : Cond.methodLink RJ15 105 yJ3_checkIndex_8e157 ∈ wsL_law := wsL_ot (List.mem_of_getElem? (i := 101) (by decide +kernel)) rfl
theorem q51 : Cond.static yJ3_checkIndex_8e157 ∈ wsL_law := wsL_ot (List.mem_of_getElem? (i := 102) (by decide +kernel)) rfl
theorem q52 : Cond.initialized RJ3 ∈ wsL_law := wsL_ot (List.mem_of_getElem? (i := 19) (by decide +kernel)) rfl
theorem q53 : Cond.methodLink RJx4a65c 123 yJx4a65c_elementData_915e3 ∈ wsL_law := wsL_ot (List.mem_of_getElem? (i := 104) (by decide +kernel)) rfl
theorem q54 : Cond.instanceMethod yJx4a65c_elementData_915e3 ∈ wsL_law := wsL_ot (List.mem_of_getElem? (i := 105) (by decide +kernel)) rfl
theorem q55 : Cond.selects RJx4a65c yJx4a65c_elementData_915e3 yJx4a65c_elementData_915e3 ∈ wsL_law := wsL_ot (List.mem_of_getElem? (i := 106) (by decide +kernel)) rfl
theorem q56 : Cond.code yX1_lastWord cX1_lastWord 2 (some (.object "RhymeTax$Word")) ∈ wsL_law := wsL_ot (List.mem_of_getElem? (i := 206) (by decide +kernel)) rfl
theorem q57 : Cond.fieldLink RX1 40 "RhymeTax$Word" "number" "I" ∈ wsL_law := wsL_ot (List.mem_of_getElem? (i := 381) (by decide +kernel)) rfl
theorem q58 : Cond.code yX1_usesOf cX1_usesOf 4 (some .int) ∈ wsL_law := wsL_ot (List.mem_of_getElem? (i := 268) (by decide +kernel)) rfl
theorem q59 : Cond.code yJ8_hugeLength_7cf53 cJ8_hugeLength_7cf53 3 (some .int) ∈ wsL_law := wsL_ot (List.mem_of_getElem? (i := 430) (by decide +kernel)) rfl
theorem q60 : Cond.code yJ8_newLength_cabcc cJ8_newLength_cabcc 4 (some .int) ∈ wsL_law := wsL_ot (List.mem_of_getElem? (i := 425) (by decide +kernel)) rfl
theorem q61 : Cond.code yJ7_copyOf_6403c cJ7_copyOf_6403c 4 (some (.array (.object "java/lang/Object"))) ∈ wsL_law := wsL_ot (List.mem_of_getElem? (i := 449) (by decide +kernel)) rfl
theorem q62 : Cond.code yJ7_copyOf_1904c cJ7_copyOf_1904c 2 (some (.array (.object "java/lang/Object"))) ∈ wsL_law := wsL_ot (List.mem_of_getElem? (i := 433) (by decide +kernel)) rfl
theorem q63 : Cond.methodLink RJx4a65c 79 Lib.Math.max.name ∈ wsL_law := wsL_ot (List.mem_of_getElem? (i := 457) (by decide +kernel)) rfl
theorem q64 : Cond.static Lib.Math.max.name ∈ wsL_law := wsL_ot (List.mem_of_getElem? (i := 155) (by decide +kernel)) rfl
theorem q65 : Cond.initialized "java/lang/Math" ∈ wsL_law := wsL_ot (List.mem_of_getElem? (i := 14) (by decide +kernel)) rfl
theorem q66 : Cond.code Lib.Math.max.name Lib.Math.max.code 2 (some .int) ∈ wsL_law := wsL_ot (List.mem_of_getElem? (i := 156) (by decide +kernel)) rfl
theorem q67 : Cond.classLink RJx4a65c 7 "java/lang/Object" ∈ wsL_law := wsL_ot (List.mem_of_getElem? (i := 458) (by decide +kernel)) rfl
theorem q68 : Cond.methodLink RJx4a65c 73 yJ8_newLength_cabcc ∈ wsL_law := wsL_ot (List.mem_of_getElem? (i := 423) (by decide +kernel)) rfl
theorem q69 : Cond.static yJ8_newLength_cabcc ∈ wsL_law := wsL_ot (List.mem_of_getElem? (i := 424) (by decide +kernel)) rfl
theorem q70 : Cond.initialized RJ8 ∈ wsL_law := wsL_ot (List.mem_of_getElem? (i := 13) (by decide +kernel)) rfl
theorem q71 : Cond.methodLink RJ8 194 Lib.Math.max.name ∈ wsL_law := wsL_ot (List.mem_of_getElem? (i := 426) (by decide +kernel)) rfl
theorem q72 : Cond.constant RJ8 200 (2147483639) ∈ wsL_law := wsL_ot (List.mem_of_getElem? (i := 427) (by decide +kernel)) rfl
theorem q73 : Cond.methodLink RJ8 201 yJ8_hugeLength_7cf53 ∈ wsL_law := wsL_ot (List.mem_of_getElem? (i := 428) (by decide +kernel)) rfl
theorem q74 : Cond.static yJ8_hugeLength_7cf53 ∈ wsL_law := wsL_ot (List.mem_of_getElem? (i := 429) (by decide +kernel)) rfl
theorem q75 : Cond.methodLink RJx4a65c 66 yJ7_copyOf_1904c ∈ wsL_law := wsL_ot (List.mem_of_getElem? (i := 431) (by decide +kernel)) rfl
theorem q76 : Cond.static yJ7_copyOf_1904c ∈ wsL_law := wsL_ot (List.mem_of_getElem? (i := 432) (by decide +kernel)) rfl
theorem q77 : Cond.initialized RJ7 ∈ wsL_law := wsL_ot (List.mem_of_getElem? (i := 15) (by decide +kernel)) rfl
theorem q78 : Cond.methodLink RJ7 86 ⟨"java/lang/Object", "getClass", "()Ljava/lang/Class;"⟩ ∈ wsL_law := wsL_ot (List.mem_of_getElem? (i := 434) (by decide +kernel)) rfl
theorem q79 : Cond.selects "[Ljava/lang/Object;" ⟨"java/lang/Object", "getClass", "()Ljava/lang/Class;"⟩ ⟨"java/lang/Object", "getClass", "()Ljava/lang/Class;"⟩ ∈ wsL_law := wsL_ot (List.mem_of_getElem? (i := 918) (by decide +kernel)) rfl
theorem q80 : Cond.instanceMethod ⟨"java/lang/Object", "getClass", "()Ljava/lang/Class;"⟩ ∈ wsL_law := wsL_ot (List.mem_of_getElem? (i := 435) (by decide +kernel)) rfl
theorem q81 : Cond.native ⟨"java/lang/Object", "getClass", "()Ljava/lang/Class;"⟩ ∈ wsL_law := wsL_ot (List.mem_of_getElem? (i := 446) (by decide +kernel)) rfl
theorem q82 : Cond.methodLink RJ7 300 yJ7_copyOf_6403c ∈ wsL_law := wsL_ot (List.mem_of_getElem? (i := 447) (by decide +kernel)) rfl
theorem q83 : Cond.static yJ7_copyOf_6403c ∈ wsL_law := wsL_ot (List.mem_of_getElem? (i := 448) (by decide +kernel)) rfl
theorem q84 : Cond.classLink RJ7 110 "[Ljava/lang/Object;" ∈ wsL_law := wsL_ot (List.mem_of_getElem? (i := 450) (by decide +kernel)) rfl
theorem q85 : Cond.classLink RJ7 2 "java/lang/Object" ∈ wsL_law := wsL_ot (List.mem_of_getElem? (i := 452) (by decide +kernel)) rfl
theorem q86 : Cond.methodLink RJ7 304 Lib.Math.min.name ∈ wsL_law := wsL_ot (List.mem_of_getElem? (i := 453) (by decide +kernel)) rfl
theorem q87 : Cond.static Lib.Math.min.name ∈ wsL_law := wsL_ot (List.mem_of_getElem? (i := 173) (by decide +kernel)) rfl
theorem q88 : Cond.code Lib.Math.min.name Lib.Math.min.code 2 (some .int) ∈ wsL_law := wsL_ot (List.mem_of_getElem? (i := 174) (by decide +kernel)) rfl
theorem q89 : Cond.methodLink RJ7 150 arraycopyName ∈ wsL_law := wsL_ot (List.mem_of_getElem? (i := 454) (by decide +kernel)) rfl
theorem q90 : Cond.native arraycopyName ∈ wsL_law := wsL_ot (List.mem_of_getElem? (i := 456) (by decide +kernel)) rfl
theorem q91 : Cond.static arraycopyName ∈ wsL_law := wsL_ot (List.mem_of_getElem? (i := 455) (by decide +kernel)) rfl
theorem q92 : Cond.initialized "java/lang/System" ∈ wsL_law := wsL_ot (List.mem_of_getElem? (i := 16) (by decide +kernel)) rfl
theorem q93 : Cond.code yJx4a65c_grow_92f84 cJx4a65c_grow_92f84 4 (some (.array (.object "java/lang/Object"))) ∈ wsL_law := wsL_ot (List.mem_of_getElem? (i := 422) (by decide +kernel)) rfl
theorem q94 : Cond.methodLink RJx4a65c 69 yJx4a65c_grow_92f84 ∈ wsL_law := wsL_ot (List.mem_of_getElem? (i := 419) (by decide +kernel)) rfl
theorem q95 : Cond.instanceMethod yJx4a65c_grow_92f84 ∈ wsL_law := wsL_ot (List.mem_of_getElem? (i := 421) (by decide +kernel)) rfl
theorem q96 : Cond.selects RJx4a65c yJx4a65c_grow_92f84 yJx4a65c_grow_92f84 ∈ wsL_law := List.mem_append_left _ (List.mem_of_getElem? (i := 16) rfl)
theorem q97 : Cond.code yJx4a65c_grow_d5877 cJx4a65c_grow_d5877 1 (some (.array (.object "java/lang/Object"))) ∈ wsL_law := wsL_ot (List.mem_of_getElem? (i := 418) (by decide +kernel)) rfl
theorem q98 : Cond.methodLink RJx4a65c 129 yJx4a65c_grow_d5877 ∈ wsL_law := wsL_ot (List.mem_of_getElem? (i := 415) (by decide +kernel)) rfl
theorem q99 : Cond.instanceMethod yJx4a65c_grow_d5877 ∈ wsL_law := wsL_ot (List.mem_of_getElem? (i := 417) (by decide +kernel)) rfl
theorem q100 : Cond.selects RJx4a65c yJx4a65c_grow_d5877 yJx4a65c_grow_d5877 ∈ wsL_law := List.mem_append_left _ (List.mem_of_getElem? (i := 15) rfl)
theorem q101 : Cond.code yJx4a65c_add_72be8 cJx4a65c_add_72be8 4 none ∈ wsL_law := wsL_ot (List.mem_of_getElem? (i := 414) (by decide +kernel)) rfl
theorem q102 : Cond.fieldLink RJx4a65c 63 "java/util/ArrayList" "modCount" "I" ∈ wsL_law := wsL_ot (List.mem_of_getElem? (i := 48) (by decide +kernel)) rfl
theorem q103 : Cond.sameField "java/util/ArrayList" "java/util/AbstractList" "modCount" "I" ∈ wsL_law := wsL_ot (List.mem_of_getElem? (i := 49) (by decide +kernel)) rfl
theorem q104 : Cond.methodLink RJx4a65c 131 yJx4a65c_add_72be8 ∈ wsL_law := wsL_ot (List.mem_of_getElem? (i := 411) (by decide +kernel)) rfl
theorem q105 : Cond.instanceMethod yJx4a65c_add_72be8 ∈ wsL_law := wsL_ot (List.mem_of_getElem? (i := 413) (by decide +kernel)) rfl
theorem q106 : Cond.selects RJx4a65c yJx4a65c_add_72be8 yJx4a65c_add_72be8 ∈ wsL_law := List.mem_append_left _ (List.mem_of_getElem? (i := 14) rfl)
theorem q107 : Cond.code yJx4a65c_add_9ea2d cJx4a65c_add_9ea2d 2 (some .boolean) ∈ wsL_law := wsL_ot (List.mem_of_getElem? (i := 410) (by decide +kernel)) rfl
theorem q108 : Cond.code yX2_meltsInto cX2_meltsInto 2 (some .boolean) ∈ wsL_law := wsL_ot (List.mem_of_getElem? (i := 141) (by decide +kernel)) rfl
theorem q109 : Cond.fieldLink RX1 63 "RhymeTax$Line" "ownStress" "J" ∈ wsL_law := wsL_ot (List.mem_of_getElem? (i := 517) (by decide +kernel)) rfl
theorem q110 : Cond.fieldLink RX1 67 "RhymeTax$Line" "own" "I" ∈ wsL_law := wsL_ot (List.mem_of_getElem? (i := 518) (by decide +kernel)) rfl
theorem q111 : Cond.fieldLink RX1 70 "RhymeTax$Line" "melted" "I" ∈ wsL_law := wsL_ot (List.mem_of_getElem? (i := 519) (by decide +kernel)) rfl
theorem q112 : Cond.fieldLink RX1 77 "RhymeTax$Word" "stress" "I" ∈ wsL_law := wsL_ot (List.mem_of_getElem? (i := 386) (by decide +kernel)) rfl
theorem q113 : Cond.fieldLink RX1 80 "RhymeTax$Word" "syllables" "I" ∈ wsL_law := wsL_ot (List.mem_of_getElem? (i := 383) (by decide +kernel)) rfl
theorem q114 : Cond.methodLink RX1 73 yX2_meltsInto ∈ wsL_law := wsL_ot (List.mem_of_getElem? (i := 138) (by decide +kernel)) rfl
theorem q115 : Cond.instanceMethod yX2_meltsInto ∈ wsL_law := wsL_ot (List.mem_of_getElem? (i := 139) (by decide +kernel)) rfl
theorem q116 : Cond.selects RX2 yX2_meltsInto yX2_meltsInto ∈ wsL_law := wsL_ot (List.mem_of_getElem? (i := 140) (by decide +kernel)) rfl
theorem q117 : Cond.initialized RX2 ∈ wsL_law := wsL_ot (List.mem_of_getElem? (i := 12) (by decide +kernel)) rfl
theorem q118 : Cond.fieldLink RX2 22 "RhymeTax$Word" "end" "I" ∈ wsL_law := wsL_ot (List.mem_of_getElem? (i := 390) (by decide +kernel)) rfl
theorem q119 : Cond.fieldLink RX2 25 "RhymeTax$Word" "open" "Z" ∈ wsL_law := wsL_ot (List.mem_of_getElem? (i := 392) (by decide +kernel)) rfl
theorem q120 : Cond.code yX1_joinWords cX1_joinWords 4 none ∈ wsL_law := wsL_ot (List.mem_of_getElem? (i := 135) (by decide +kernel)) rfl
theorem q121 : Cond.methodLink RX1 43 yJx4a65c_add_9ea2d ∈ wsL_law := wsL_ot (List.mem_of_getElem? (i := 585) (by decide +kernel)) rfl
theorem q122 : Cond.instanceMethod yJx4a65c_add_9ea2d ∈ wsL_law := wsL_ot (List.mem_of_getElem? (i := 408) (by decide +kernel)) rfl
theorem q123 : Cond.selects RJx4a65c yJx4a65c_add_9ea2d yJx4a65c_add_9ea2d ∈ wsL_law := wsL_ot (List.mem_of_getElem? (i := 409) (by decide +kernel)) rfl
theorem q124 : Cond.methodLink RX1 47 yX1_joinWords ∈ wsL_law := wsL_ot (List.mem_of_getElem? (i := 131) (by decide +kernel)) rfl
theorem q125 : Cond.instanceMethod yX1_joinWords ∈ wsL_law := wsL_ot (List.mem_of_getElem? (i := 133) (by decide +kernel)) rfl
theorem q126 : Cond.selects RX1 yX1_joinWords yX1_joinWords ∈ wsL_law := List.mem_append_left _ (List.mem_of_getElem? (i := 3) rfl)
theorem q127 : Cond.initialized RX1 ∈ wsL_law := wsL_ot (List.mem_of_getElem? (i := 20) (by decide +kernel)) rfl
theorem q128 : Cond.code yX1_addWord cX1_addWord 2 none ∈ wsL_law := wsL_ot (List.mem_of_getElem? (i := 584) (by decide +kernel)) rfl
theorem q129 : Cond.code yX3_isBelow cX3_isBelow 2 (some .boolean) ∈ wsL_law := wsL_ot (List.mem_of_getElem? (i := 120) (by decide +kernel)) rfl
theorem q130 : Cond.code yJx4a65c_set_bcc79 cJx4a65c_set_bcc79 4 (some (.object "java/lang/Object")) ∈ wsL_law := wsL_ot (List.mem_of_getElem? (i := 130) (by decide +kernel)) rfl
theorem q131 : Cond.static yX3_isBelow ∈ wsL_law := wsL_ot (List.mem_of_getElem? (i := 119) (by decide +kernel)) rfl
theorem q132 : Cond.initialized RX3 ∈ wsL_law := wsL_ot (List.mem_of_getElem? (i := 1) (by decide +kernel)) rfl
theorem q133 : Cond.methodLink RX1 56 yJx4a65c_set_bcc79 ∈ wsL_law := wsL_ot (List.mem_of_getElem? (i := 127) (by decide +kernel)) rfl
theorem q134 : Cond.instanceMethod yJx4a65c_set_bcc79 ∈ wsL_law := wsL_ot (List.mem_of_getElem? (i := 128) (by decide +kernel)) rfl
theorem q135 : Cond.selects RJx4a65c yJx4a65c_set_bcc79 yJx4a65c_set_bcc79 ∈ wsL_law := wsL_ot (List.mem_of_getElem? (i := 129) (by decide +kernel)) rfl
theorem q136 : Cond.code yX1_replaceWord cX1_replaceWord 3 none ∈ wsL_law := wsL_ot (List.mem_of_getElem? (i := 124) (by decide +kernel)) rfl
theorem q137 : Cond.code yJx4a65c_fastRemove_b59b0 cJx4a65c_fastRemove_b59b0 4 none ∈ wsL_law := wsL_ot (List.mem_of_getElem? (i := 605) (by decide +kernel)) rfl
theorem q138 : Cond.code yJx4a65c_remove_915e3 cJx4a65c_remove_915e3 4 (some (.object "java/lang/Object")) ∈ wsL_law := wsL_ot (List.mem_of_getElem? (i := 601) (by decide +kernel)) rfl
theorem q139 : Cond.methodLink RX1 60 yJx4a65c_remove_915e3 ∈ wsL_law := wsL_ot (List.mem_of_getElem? (i := 598) (by decide +kernel)) rfl
theorem q140 : Cond.instanceMethod yJx4a65c_remove_915e3 ∈ wsL_law := wsL_ot (List.mem_of_getElem? (i := 599) (by decide +kernel)) rfl
theorem q141 : Cond.selects RJx4a65c yJx4a65c_remove_915e3 yJx4a65c_remove_915e3 ∈ wsL_law := wsL_ot (List.mem_of_getElem? (i := 600) (by decide +kernel)) rfl
theorem q142 : Cond.methodLink RJx4a65c 144 yJx4a65c_fastRemove_b59b0 ∈ wsL_law := wsL_ot (List.mem_of_getElem? (i := 602) (by decide +kernel)) rfl
theorem q143 : Cond.instanceMethod yJx4a65c_fastRemove_b59b0 ∈ wsL_law := wsL_ot (List.mem_of_getElem? (i := 604) (by decide +kernel)) rfl
theorem q144 : Cond.selects RJx4a65c yJx4a65c_fastRemove_b59b0 yJx4a65c_fastRemove_b59b0 ∈ wsL_law := List.mem_append_left _ (List.mem_of_getElem? (i := 20) rfl)
theorem q145 : Cond.methodLink RJx4a65c 112 arraycopyName ∈ wsL_law := wsL_ot (List.mem_of_getElem? (i := 606) (by decide +kernel)) rfl
theorem q146 : Cond.code yX1_dropLast cX1_dropLast 2 none ∈ wsL_law := wsL_ot (List.mem_of_getElem? (i := 597) (by decide +kernel)) rfl
theorem q147 : Cond.code yX3_footSize cX3_footSize 1 (some .int) ∈ wsL_law := wsL_ot (List.mem_of_getElem? (i := 171) (by decide +kernel)) rfl
theorem q148 : Cond.code yX3_askedBy cX3_askedBy 1 (some .long) ∈ wsL_law := wsL_ot (List.mem_of_getElem? (i := 188) (by decide +kernel)) rfl
theorem q149 : Cond.code yJ13_bitCount_95d88 cJ13_bitCount_95d88 2 (some .int) ∈ wsL_law := wsL_ot (List.mem_of_getElem? (i := 196) (by decide +kernel)) rfl
theorem q150 : Cond.code yX1_offBy cX1_offBy 4 (some .int) ∈ wsL_law := wsL_ot (List.mem_of_getElem? (i := 185) (by decide +kernel)) rfl
theorem q151 : Cond.fieldLink RX1 83 "RhymeTax$Line" "start" "I" ∈ wsL_law := wsL_ot (List.mem_of_getElem? (i := 521) (by decide +kernel)) rfl
theorem q152 : Cond.fieldLink RX1 91 "RhymeTax$Line" "carried" "I" ∈ wsL_law := wsL_ot (List.mem_of_getElem? (i := 523) (by decide +kernel)) rfl
theorem q153 : Cond.methodLink RX1 101 Lib.Math.min.name ∈ wsL_law := wsL_ot (List.mem_of_getElem? (i := 172) (by decide +kernel)) rfl
theorem q154 : Cond.fieldLink RX1 107 "RhymeTax$Line" "stays" "I" ∈ wsL_law := wsL_ot (List.mem_of_getElem? (i := 524) (by decide +kernel)) rfl
theorem q155 : Cond.fieldLink RX1 110 "RhymeTax$Line" "over" "I" ∈ wsL_law := wsL_ot (List.mem_of_getElem? (i := 526) (by decide +kernel)) rfl
theorem q156 : Cond.fieldLink RX1 117 "RhymeTax$Line" "staying" "J" ∈ wsL_law := wsL_ot (List.mem_of_getElem? (i := 528) (by decide +kernel)) rfl
theorem q157 : Cond.fieldLink RX1 124 "RhymeTax$Line" "off" "I" ∈ wsL_law := wsL_ot (List.mem_of_getElem? (i := 529) (by decide +kernel)) rfl
theorem q158 : Cond.fieldLink RX1 127 "RhymeTax$Line" "lacks" "I" ∈ wsL_law := wsL_ot (List.mem_of_getElem? (i := 530) (by decide +kernel)) rfl
theorem q159 : Cond.methodLink RX1 94 yX0_add ∈ wsL_law := wsL_ot (List.mem_of_getElem? (i := 161) (by decide +kernel)) rfl
theorem q160 : Cond.instanceMethod yX0_add ∈ wsL_law := wsL_ot (List.mem_of_getElem? (i := 162) (by decide +kernel)) rfl
theorem q161 : Cond.selects RX0 yX0_add yX0_add ∈ wsL_law := wsL_ot (List.mem_of_getElem? (i := 163) (by decide +kernel)) rfl
theorem q162 : Cond.initialized RX0 ∈ wsL_law := wsL_ot (List.mem_of_getElem? (i := 5) (by decide +kernel)) rfl
theorem q163 : Cond.fieldLink RX0 19 "RhymeTax$Flow" "end" "I" ∈ wsL_law := wsL_ot (List.mem_of_getElem? (i := 64) (by decide +kernel)) rfl
theorem q164 : Cond.methodLink RX0 23 yX0_addTo ∈ wsL_law := wsL_ot (List.mem_of_getElem? (i := 165) (by decide +kernel)) rfl
theorem q165 : Cond.instanceMethod yX0_addTo ∈ wsL_law := wsL_ot (List.mem_of_getElem? (i := 167) (by decide +kernel)) rfl
theorem q166 : Cond.selects RX0 yX0_addTo yX0_addTo ∈ wsL_law := List.mem_append_left _ (List.mem_of_getElem? (i := 5) rfl)
theorem q167 : Cond.fieldLink RX0 9 "RhymeTax$Flow" "cells" "[J" ∈ wsL_law := wsL_ot (List.mem_of_getElem? (i := 63) (by decide +kernel)) rfl
theorem q168 : Cond.static yX3_footSize ∈ wsL_law := wsL_ot (List.mem_of_getElem? (i := 170) (by decide +kernel)) rfl
theorem q169 : Cond.methodLink RX1 113 yX0_read ∈ wsL_law := wsL_ot (List.mem_of_getElem? (i := 175) (by decide +kernel)) rfl
theorem q170 : Cond.instanceMethod yX0_read ∈ wsL_law := wsL_ot (List.mem_of_getElem? (i := 176) (by decide +kernel)) rfl
theorem q171 : Cond.selects RX0 yX0_read yX0_read ∈ wsL_law := wsL_ot (List.mem_of_getElem? (i := 177) (by decide +kernel)) rfl
theorem q172 : Cond.methodLink RX0 27 yX0_cellAt ∈ wsL_law := wsL_ot (List.mem_of_getElem? (i := 179) (by decide +kernel)) rfl
theorem q173 : Cond.instanceMethod yX0_cellAt ∈ wsL_law := wsL_ot (List.mem_of_getElem? (i := 181) (by decide +kernel)) rfl
theorem q174 : Cond.selects RX0 yX0_cellAt yX0_cellAt ∈ wsL_law := List.mem_append_left _ (List.mem_of_getElem? (i := 6) rfl)
theorem q175 : Cond.static yX3_lowBits ∈ wsL_law := wsL_ot (List.mem_of_getElem? (i := 151) (by decide +kernel)) rfl
theorem q176 : Cond.constantLong RX3 244 (-1) ∈ wsL_law := wsL_ot (List.mem_of_getElem? (i := 153) (by decide +kernel)) rfl
theorem q177 : Cond.methodLink RX1 120 yX1_offBy ∈ wsL_law := wsL_ot (List.mem_of_getElem? (i := 183) (by decide +kernel)) rfl
theorem q178 : Cond.static yX1_offBy ∈ wsL_law := wsL_ot (List.mem_of_getElem? (i := 184) (by decide +kernel)) rfl
theorem q179 : Cond.static yX3_askedBy ∈ wsL_law := wsL_ot (List.mem_of_getElem? (i := 187) (by decide +kernel)) rfl
theorem q180 : Cond.constantLong RX3 246 (2730) ∈ wsL_law := wsL_ot (List.mem_of_getElem? (i := 189) (by decide +kernel)) rfl
theorem q181 : Cond.constantLong RX3 248 (1365) ∈ wsL_law := wsL_ot (List.mem_of_getElem? (i := 190) (by decide +kernel)) rfl
theorem q182 : Cond.constantLong RX3 250 (149796) ∈ wsL_law := wsL_ot (List.mem_of_getElem? (i := 191) (by decide +kernel)) rfl
theorem q183 : Cond.constantLong RX3 252 (37449) ∈ wsL_law := wsL_ot (List.mem_of_getElem? (i := 192) (by decide +kernel)) rfl
theorem q184 : Cond.methodLink RX1 137 yJ13_bitCount_95d88 ∈ wsL_law := wsL_ot (List.mem_of_getElem? (i := 194) (by decide +kernel)) rfl
theorem q185 : Cond.static yJ13_bitCount_95d88 ∈ wsL_law := wsL_ot (List.mem_of_getElem? (i := 195) (by decide +kernel)) rfl
theorem q186 : Cond.initialized RJ13 ∈ wsL_law := wsL_ot (List.mem_of_getElem? (i := 21) (by decide +kernel)) rfl
theorem q187 : Cond.constantLong RJ13 314 (6148914691236517205) ∈ wsL_law := wsL_ot (List.mem_of_getElem? (i := 197) (by decide +kernel)) rfl
theorem q188 : Cond.constantLong RJ13 316 (3689348814741910323) ∈ wsL_law := wsL_ot (List.mem_of_getElem? (i := 198) (by decide +kernel)) rfl
theorem q189 : Cond.constantLong RJ13 318 (1085102592571150095) ∈ wsL_law := wsL_ot (List.mem_of_getElem? (i := 199) (by decide +kernel)) rfl
theorem q190 : Cond.code yX1_scanIn cX1_scanIn 4 none ∈ wsL_law := wsL_ot (List.mem_of_getElem? (i := 160) (by decide +kernel)) rfl
theorem q191 : Cond.code yJx4a65c_isEmpty_aae02 cJx4a65c_isEmpty_aae02 1 (some .boolean) ∈ wsL_law := wsL_ot (List.mem_of_getElem? (i := 222) (by decide +kernel)) rfl
theorem q192 : Cond.code yX1_payRhyme cX1_payRhyme 2 none ∈ wsL_law := wsL_ot (List.mem_of_getElem? (i := 218) (by decide +kernel)) rfl
theorem q193 : Cond.code yX1_faultsBy cX1_faultsBy 5 (some .int) ∈ wsL_law := wsL_ot (List.mem_of_getElem? (i := 655) (by decide +kernel)) rfl
theorem q194 : Cond.code yX1_isFaultless cX1_isFaultless 1 (some .boolean) ∈ wsL_law := wsL_ot (List.mem_of_getElem? (i := 252) (by decide +kernel)) rfl
theorem q195 : Cond.code yX1_stressAt cX1_stressAt 2 (some .int) ∈ wsL_law := wsL_ot (List.mem_of_getElem? (i := 279) (by decide +kernel)) rfl
theorem q196 : Cond.code yX1_tells cX1_tells 2 (some .int) ∈ wsL_law := wsL_ot (List.mem_of_getElem? (i := 275) (by decide +kernel)) rfl
theorem q197 : Cond.code yX2_init cX2_init 7 none ∈ wsL_law := wsL_ot (List.mem_of_getElem? (i := 377) (by decide +kernel)) rfl
theorem q198 : Cond.code yX2_lastStress cX2_lastStress 1 (some .int) ∈ wsL_law := wsL_ot (List.mem_of_getElem? (i := 214) (by decide +kernel)) rfl
theorem q199 : Cond.code yX2_rhymeWith cX2_rhymeWith 4 (some .int) ∈ wsL_law := wsL_ot (List.mem_of_getElem? (i := 210) (by decide +kernel)) rfl
theorem q200 : Cond.methodLink RX3 3 objectInit ∈ wsL_law := wsL_ot (List.mem_of_getElem? (i := 28) (by decide +kernel)) rfl
theorem q201 : Cond.classLink RX3 9 RJx4a65c ∈ wsL_law := wsL_ot (List.mem_of_getElem? (i := 31) (by decide +kernel)) rfl
theorem q202 : Cond.fieldLink RX3 12 "RhymeTax" "words" "Ljava/util/ArrayList;" ∈ wsL_law := wsL_ot (List.mem_of_getElem? (i := 72) (by decide +kernel)) rfl
theorem q203 : Cond.fieldLink RX3 16 "RhymeTax" "lines" "Ljava/util/ArrayList;" ∈ wsL_law := wsL_ot (List.mem_of_getElem? (i := 73) (by decide +kernel)) rfl
theorem q204 : Cond.classLink RX3 19 RX0 ∈ wsL_law := wsL_ot (List.mem_of_getElem? (i := 57) (by decide +kernel)) rfl
theorem q205 : Cond.instantiable RX0 2 ∈ wsL_law := wsL_ot (List.mem_of_getElem? (i := 58) (by decide +kernel)) rfl
theorem q206 : Cond.fieldLink RX3 22 "RhymeTax" "flow" "LRhymeTax$Flow;" ∈ wsL_law := wsL_ot (List.mem_of_getElem? (i := 74) (by decide +kernel)) rfl
theorem q207 : Cond.methodLink RX3 11 yJx4a65c_init_da8c8 ∈ wsL_law := wsL_ot (List.mem_of_getElem? (i := 33) (by decide +kernel)) rfl
theorem q208 : Cond.methodLink RX3 21 yX0_init ∈ wsL_law := wsL_ot (List.mem_of_getElem? (i := 59) (by decide +kernel)) rfl
theorem q209 : Cond.instanceMethod yX0_init ∈ wsL_law := wsL_ot (List.mem_of_getElem? (i := 60) (by decide +kernel)) rfl
theorem q210 : Cond.methodLink RX0 3 objectInit ∈ wsL_law := wsL_ot (List.mem_of_getElem? (i := 62) (by decide +kernel)) rfl
theorem q211 : Cond.arrayClass .long ∈ wsL_law := wsL_ot (List.mem_of_getElem? (i := 71) (by decide +kernel)) rfl
theorem q212 : Cond.code yX3_init cX3_init 1 none ∈ wsL_law := wsL_ot (List.mem_of_getElem? (i := 27) (by decide +kernel)) rfl
theorem q213 : Cond.classLink RX3 26 "java/lang/IllegalArgumentException" ∈ wsL_law := wsL_ot (List.mem_of_getElem? (i := 289) (by decide +kernel)) rfl
theorem q214 : Cond.initialized "java/lang/IllegalArgumentException" ∈ wsL_law := wsL_ot (List.mem_of_getElem? (i := 10) (by decide +kernel)) rfl
theorem q215 : Cond.classLink RX3 43 "java/lang/IllegalStateException" ∈ wsL_law := wsL_ot (List.mem_of_getElem? (i := 358) (by decide +kernel)) rfl
theorem q216 : Cond.initialized "java/lang/IllegalStateException" ∈ wsL_law := wsL_ot (List.mem_of_getElem? (i := 11) (by decide +kernel)) rfl
theorem q217 : Cond.classLink RX3 48 RX2 ∈ wsL_law := wsL_ot (List.mem_of_getElem? (i := 109) (by decide +kernel)) rfl
theorem q218 : Cond.instantiable RX2 6 ∈ wsL_law := wsL_ot (List.mem_of_getElem? (i := 374) (by decide +kernel)) rfl
theorem q219 : Cond.fieldLink RX3 57 "RhymeTax$Word" "number" "I" ∈ wsL_law := wsL_ot (List.mem_of_getElem? (i := 380) (by decide +kernel)) rfl
theorem q220 : Cond.methodLink RX3 33 yX3_isBelow ∈ wsL_law := wsL_ot (List.mem_of_getElem? (i := 118) (by decide +kernel)) rfl
theorem q221 : Cond.methodLink RX3 39 yJx4a65c_size_8abf5 ∈ wsL_law := wsL_ot (List.mem_of_getElem? (i := 90) (by decide +kernel)) rfl
theorem q222 : Cond.methodLink RX3 50 yX2_init ∈ wsL_law := wsL_ot (List.mem_of_getElem? (i := 375) (by decide +kernel)) rfl
theorem q223 : Cond.instanceMethod yX2_init ∈ wsL_law := wsL_ot (List.mem_of_getElem? (i := 376) (by decide +kernel)) rfl
theorem q224 : Cond.methodLink RX2 1 objectInit ∈ wsL_law := wsL_ot (List.mem_of_getElem? (i := 378) (by decide +kernel)) rfl
theorem q225 : Cond.fieldLink RX2 7 "RhymeTax$Word" "number" "I" ∈ wsL_law := wsL_ot (List.mem_of_getElem? (i := 379) (by decide +kernel)) rfl
theorem q226 : Cond.fieldLink RX2 13 "RhymeTax$Word" "syllables" "I" ∈ wsL_law := wsL_ot (List.mem_of_getElem? (i := 382) (by decide +kernel)) rfl
theorem q227 : Cond.fieldLink RX2 16 "RhymeTax$Word" "stress" "I" ∈ wsL_law := wsL_ot (List.mem_of_getElem? (i := 385) (by decide +kernel)) rfl
theorem q228 : Cond.fieldLink RX2 19 "RhymeTax$Word" "vowel" "I" ∈ wsL_law := wsL_ot (List.mem_of_getElem? (i := 388) (by decide +kernel)) rfl
theorem q229 : Cond.methodLink RX3 53 yJx4a65c_add_9ea2d ∈ wsL_law := wsL_ot (List.mem_of_getElem? (i := 407) (by decide +kernel)) rfl
theorem q230 : Cond.code yX3_word cX3_word 7 (some .int) ∈ wsL_law := wsL_ot (List.mem_of_getElem? (i := 288) (by decide +kernel)) rfl
theorem q231 : Cond.code yX3_refuseOutside cX3_refuseOutside 2 none ∈ wsL_law := wsL_ot (List.mem_of_getElem? (i := 473) (by decide +kernel)) rfl
theorem q232 : Cond.classLink RX3 48 "RhymeTax$Word" ∈ wsL_law := wsL_ot (List.mem_of_getElem? (i := 109) (by decide +kernel)) rfl
theorem q233 : Cond.methodLink RX3 65 yX3_refuseOutside ∈ wsL_law := wsL_ot (List.mem_of_getElem? (i := 471) (by decide +kernel)) rfl
theorem q234 : Cond.static yX3_refuseOutside ∈ wsL_law := wsL_ot (List.mem_of_getElem? (i := 472) (by decide +kernel)) rfl
theorem q235 : Cond.classLink RX3 170 "java/lang/IndexOutOfBoundsException" ∈ wsL_law := wsL_ot (List.mem_of_getElem? (i := 474) (by decide +kernel)) rfl
theorem q236 : Cond.initialized "java/lang/IndexOutOfBoundsException" ∈ wsL_law := wsL_ot (List.mem_of_getElem? (i := 17) (by decide +kernel)) rfl
theorem q237 : Cond.methodLink RX3 154 yJx4a65c_get_915e3 ∈ wsL_law := wsL_ot (List.mem_of_getElem? (i := 94) (by decide +kernel)) rfl
theorem q238 : Cond.code yX3_neededWord cX3_neededWord 2 (some (.object "RhymeTax$Word")) ∈ wsL_law := wsL_ot (List.mem_of_getElem? (i := 470) (by decide +kernel)) rfl
theorem q239 : Cond.classLink RX3 77 "RhymeTax$Line" ∈ wsL_law := wsL_ot (List.mem_of_getElem? (i := 108) (by decide +kernel)) rfl
theorem q240 : Cond.methodLink RX3 198 yX1_usesOf ∈ wsL_law := wsL_ot (List.mem_of_getElem? (i := 265) (by decide +kernel)) rfl
theorem q241 : Cond.instanceMethod yX1_usesOf ∈ wsL_law := wsL_ot (List.mem_of_getElem? (i := 266) (by decide +kernel)) rfl
theorem q242 : Cond.selects RX1 yX1_usesOf yX1_usesOf ∈ wsL_law := wsL_ot (List.mem_of_getElem? (i := 267) (by decide +kernel)) rfl
theorem q243 : Cond.code yX3_usesOf cX3_usesOf 4 (some .int) ∈ wsL_law := wsL_ot (List.mem_of_getElem? (i := 264) (by decide +kernel)) rfl
theorem q244 : Cond.fieldLink RX3 178 "RhymeTax$Word" "syllables" "I" ∈ wsL_law := wsL_ot (List.mem_of_getElem? (i := 384) (by decide +kernel)) rfl
