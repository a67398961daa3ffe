set_option maxRecDepth 100000 in
def wsL_law : List Cond := k2_sels lw_privs ++ tables_1.filter goodWord
theorem wsL_of {w : Cond} (h : w ∈ lw_tbl) (hg : goodWord w = true) : w ∈ wsL_law := (List.mem_append.mp h).elim (fun h => List.mem_append_left _ h) (fun h => List.mem_append_right _ (List.mem_filter.mpr ⟨h, hg⟩))
theorem wsL_ot {w : Cond} (h : w ∈ tables_1) (hg : goodWord w = true) : w ∈ wsL_law := List.mem_append_right _ (List.mem_filter.mpr ⟨h, hg⟩)
theorem wsL_law_in : ∀ w ∈ wsL_law, w ∈ lw_tbl := fun w h => (List.mem_append.mp h).elim (fun h => List.mem_append_left _ h) (fun h => List.mem_append_right _ (List.mem_filter.mp h).1)
theorem wsL_gi : GoodIn wsL_law wsL_law := fun w h => ⟨h, (List.mem_append.mp h).elim (fun h => by obtain ⟨q, -, rfl⟩ := List.mem_map.mp h; exact Or.inl rfl) (fun h => good_of_word (List.mem_filter.mp h).2)⟩
theorem q0 : Cond.code yX0_init cX0_init 1 none ∈ wsL_law := wsL_ot (List.mem_of_getElem? (i := 610) (by decide +kernel)) rfl
theorem q1 : Cond.code yX3_lowBits cX3_lowBits 1 (some .long) ∈ wsL_law := wsL_ot (List.mem_of_getElem? (i := 376) (by decide +kernel)) rfl
theorem q2 : Cond.code yX0_cutBehind cX0_cutBehind 3 none ∈ wsL_law := wsL_ot (List.mem_of_getElem? (i := 373) (by decide +kernel)) rfl
theorem q3 : Cond.code yX0_addTo cX0_addTo 4 none ∈ wsL_law := wsL_ot (List.mem_of_getElem? (i := 391) (by decide +kernel)) rfl
theorem q4 : Cond.code yX0_add cX0_add 6 none ∈ wsL_law := wsL_ot (List.mem_of_getElem? (i := 386) (by decide +kernel)) rfl
theorem q5 : Cond.code yX0_cellAt cX0_cellAt 2 (some .long) ∈ wsL_law := wsL_ot (List.mem_of_getElem? (i := 403) (by decide +kernel)) rfl
theorem q6 : Cond.code yX0_read cX0_read 7 (some .long) ∈ wsL_law := wsL_ot (List.mem_of_getElem? (i := 399) (by decide +kernel)) rfl
theorem q7 : Cond.code yJxa1e45_init_da8c8 cJxa1e45_init_da8c8 1 none ∈ wsL_law := wsL_ot (List.mem_of_getElem? (i := 293) (by decide +kernel)) rfl
theorem q8 : Cond.code yJxc12de_init_da8c8 cJxc12de_init_da8c8 1 none ∈ wsL_law := wsL_ot (List.mem_of_getElem? (i := 290) (by decide +kernel)) rfl
theorem q9 : Cond.code yJx4a65c_init_da8c8 cJx4a65c_init_da8c8 1 none ∈ wsL_law := wsL_ot (List.mem_of_getElem? (i := 287) (by decide +kernel)) rfl
theorem q10 : Cond.methodLink RX1 1 objectInit ∈ wsL_law := wsL_ot (List.mem_of_getElem? (i := 283) (by decide +kernel)) rfl
theorem q11 : Cond.instanceMethod objectInit ∈ wsL_law := wsL_ot (List.mem_of_getElem? (i := 51) (by decide +kernel)) rfl
theorem q12 : Cond.code objectInit ⟨#[0xb1]⟩ 1 none ∈ wsL_law := wsL_ot (List.mem_of_getElem? (i := 52) (by decide +kernel)) rfl
theorem q13 : Cond.fieldLink RX1 7 "RhymeTax$Line" "metre" "I" ∈ wsL_law := wsL_ot (List.mem_of_getElem? (i := 307) (by decide +kernel)) rfl
theorem q14 : Cond.fieldLink RX1 13 "RhymeTax$Line" "feet" "I" ∈ wsL_law := wsL_ot (List.mem_of_getElem? (i := 308) (by decide +kernel)) rfl
theorem q15 : Cond.fieldLink RX1 16 "RhymeTax$Line" "mark" "I" ∈ wsL_law := wsL_ot (List.mem_of_getElem? (i := 309) (by decide +kernel)) rfl
theorem q16 : Cond.fieldLink RX1 19 "RhymeTax$Line" "partner" "LRhymeTax$Line;" ∈ wsL_law := wsL_ot (List.mem_of_getElem? (i := 311) (by decide +kernel)) rfl
theorem q17 : Cond.classLink RX1 23 RJx4a65c ∈ wsL_law := wsL_ot (List.mem_of_getElem? (i := 284) (by decide +kernel)) rfl
theorem q18 : Cond.instantiable RJx4a65c 3 ∈ wsL_law := wsL_ot (List.mem_of_getElem? (i := 160) (by decide +kernel)) rfl
theorem q19 : Cond.initialized RJx4a65c ∈ wsL_law := wsL_ot (List.mem_of_getElem? (i := 4) (by decide +kernel)) rfl
theorem q20 : Cond.fieldLink RX1 26 "RhymeTax$Line" "row" "Ljava/util/ArrayList;" ∈ wsL_law := wsL_ot (List.mem_of_getElem? (i := 313) (by decide +kernel)) rfl
theorem q21 : Cond.methodLink RX1 25 yJx4a65c_init_da8c8 ∈ wsL_law := wsL_ot (List.mem_of_getElem? (i := 285) (by decide +kernel)) rfl
theorem q22 : Cond.instanceMethod yJx4a65c_init_da8c8 ∈ wsL_law := wsL_ot (List.mem_of_getElem? (i := 286) (by decide +kernel)) rfl
theorem q23 : Cond.fieldLink RJx4a65c 39 "java/util/ArrayList" "DEFAULTCAPACITY_EMPTY_ELEMENTDATA" "[Ljava/lang/Object;" ∈ wsL_law := wsL_ot (List.mem_of_getElem? (i := 170) (by decide +kernel)) rfl
theorem q24 : Cond.fieldLink RJx4a65c 9 "java/util/ArrayList" "elementData" "[Ljava/lang/Object;" ∈ wsL_law := wsL_ot (List.mem_of_getElem? (i := 295) (by decide +kernel)) rfl
theorem q25 : Cond.methodLink RJx4a65c 1 yJxc12de_init_da8c8 ∈ wsL_law := wsL_ot (List.mem_of_getElem? (i := 288) (by decide +kernel)) rfl
theorem q26 : Cond.instanceMethod yJxc12de_init_da8c8 ∈ wsL_law := wsL_ot (List.mem_of_getElem? (i := 289) (by decide +kernel)) rfl
theorem q27 : Cond.initialized RJxc12de ∈ wsL_law := wsL_ot (List.mem_of_getElem? (i := 3) (by decide +kernel)) rfl
theorem q28 : Cond.fieldLink RJxc12de 7 "java/util/AbstractList" "modCount" "I" ∈ wsL_law := wsL_ot (List.mem_of_getElem? (i := 297) (by decide +kernel)) rfl
theorem q29 : Cond.methodLink RJxc12de 1 yJxa1e45_init_da8c8 ∈ wsL_law := wsL_ot (List.mem_of_getElem? (i := 291) (by decide +kernel)) rfl
theorem q30 : Cond.instanceMethod yJxa1e45_init_da8c8 ∈ wsL_law := wsL_ot (List.mem_of_getElem? (i := 292) (by decide +kernel)) rfl
theorem q31 : Cond.initialized RJxa1e45 ∈ wsL_law := wsL_ot (List.mem_of_getElem? (i := 2) (by decide +kernel)) rfl
theorem q32 : Cond.methodLink RJxa1e45 1 objectInit ∈ wsL_law := wsL_ot (List.mem_of_getElem? (i := 294) (by decide +kernel)) rfl
theorem q33 : Cond.code yX1_init cX1_init 5 none ∈ wsL_law := wsL_ot (List.mem_of_getElem? (i := 282) (by decide +kernel)) rfl
theorem q34 : Cond.code yJx4a65c_size_8abf5 cJx4a65c_size_8abf5 1 (some .int) ∈ wsL_law := wsL_ot (List.mem_of_getElem? (i := 102) (by decide +kernel)) rfl
theorem q35 : Cond.code yJ3_checkIndex_8e157 cJ3_checkIndex_8e157 3 (some .int) ∈ wsL_law := wsL_ot (List.mem_of_getElem? (i := 248) (by decide +kernel)) rfl
theorem q36 : Cond.code yJ15_checkIndex_7cf53 cJ15_checkIndex_7cf53 2 (some .int) ∈ wsL_law := wsL_ot (List.mem_of_getElem? (i := 245) (by decide +kernel)) rfl
theorem q37 : Cond.code yJx4a65c_elementData_915e3 cJx4a65c_elementData_915e3 2 (some (.object "java/lang/Object")) ∈ wsL_law := wsL_ot (List.mem_of_getElem? (i := 252) (by decide +kernel)) rfl
theorem q38 : Cond.code yJx4a65c_get_915e3 cJx4a65c_get_915e3 2 (some (.object "java/lang/Object")) ∈ wsL_law := wsL_ot (List.mem_of_getElem? (i := 242) (by decide +kernel)) rfl
theorem q39 : Cond.classLink RX1 38 "RhymeTax$Word" ∈ wsL_law := wsL_ot (List.mem_of_getElem? (i := 268) (by decide +kernel)) rfl
theorem q40 : Cond.methodLink RX1 30 yJx4a65c_size_8abf5 ∈ wsL_law := wsL_ot (List.mem_of_getElem? (i := 266) (by decide +kernel)) rfl
theorem q41 : Cond.instanceMethod yJx4a65c_size_8abf5 ∈ wsL_law := wsL_ot (List.mem_of_getElem? (i := 100) (by decide +kernel)) rfl
theorem q42 : Cond.selects RJx4a65c yJx4a65c_size_8abf5 yJx4a65c_size_8abf5 ∈ wsL_law := wsL_ot (List.mem_of_getElem? (i := 101) (by decide +kernel)) rfl
theorem q43 : Cond.fieldLink RJx4a65c 48 "java/util/ArrayList" "size" "I" ∈ wsL_law := wsL_ot (List.mem_of_getElem? (i := 296) (by decide +kernel)) rfl
theorem q44 : Cond.methodLink RX1 34 yJx4a65c_get_915e3 ∈ wsL_law := wsL_ot (List.mem_of_getElem? (i := 267) (by decide +kernel)) rfl
theorem q45 : Cond.instanceMethod yJx4a65c_get_915e3 ∈ wsL_law := wsL_ot (List.mem_of_getElem? (i := 240) (by decide +kernel)) rfl
theorem q46 : Cond.selects RJx4a65c yJx4a65c_get_915e3 yJx4a65c_get_915e3 ∈ wsL_law := wsL_ot (List.mem_of_getElem? (i := 241) (by decide +kernel)) rfl
theorem q47 : Cond.methodLink RJx4a65c 118 yJ15_checkIndex_7cf53 ∈ wsL_law := wsL_ot (List.mem_of_getElem? (i := 243) (by decide +kernel)) rfl
theorem q48 : Cond.static yJ15_checkIndex_7cf53 ∈ wsL_law := wsL_ot (List.mem_of_getElem? (i := 244) (by decide +kernel)) rfl
theorem q49 : Cond.initialized RJ15 ∈ wsL_law := wsL_ot (List.mem_of_getElem? (i := 17) (by decide +kernel)) rfl
theorem q50 : Cond.methodLink RJ15 105 yJ3_checkIndex_8e157 ∈ wsL_law := wsL_ot (List.mem_of_getElem? (i := 246) (by decide +kernel)) rfl
theorem q51 : Cond.static yJ3_checkIndex_8e157 ∈ wsL_law := wsL_ot (List.mem_of_getElem? (i := 247) (by decide +kernel)) rfl
theorem q52 : Cond.initialized RJ3 ∈ wsL_law := wsL_ot (List.mem_of_getElem? (i := 18) (by decide +kernel)) rfl
theorem q53 : Cond.methodLink RJx4a65c 123 yJx4a65c_elementData_915e3 ∈ wsL_law := wsL_ot (List.mem_of_getElem? (i := 249) (by decide +kernel)) rfl
theorem q54 : Cond.instanceMethod yJx4a65c_elementData_915e3 ∈ wsL_law := wsL_ot (List.mem_of_getElem? (i := 250) (by decide +kernel)) rfl
theorem q55 : Cond.selects RJx4a65c yJx4a65c_elementData_915e3 yJx4a65c_elementData_915e3 ∈ wsL_law := wsL_ot (List.mem_of_getElem? (i := 251) (by decide +kernel)) rfl
theorem q56 : Cond.code yX1_lastWord cX1_lastWord 2 (some (.object "RhymeTax$Word")) ∈ wsL_law := wsL_ot (List.mem_of_getElem? (i := 427) (by decide +kernel)) rfl
theorem q57 : Cond.fieldLink RX1 40 "RhymeTax$Word" "number" "I" ∈ wsL_law := wsL_ot (List.mem_of_getElem? (i := 127) (by decide +kernel)) rfl
theorem q58 : Cond.code yX1_usesOf cX1_usesOf 4 (some .int) ∈ wsL_law := wsL_ot (List.mem_of_getElem? (i := 265) (by decide +kernel)) rfl
theorem q59 : Cond.code yJ8_hugeLength_7cf53 cJ8_hugeLength_7cf53 3 (some .int) ∈ wsL_law := wsL_ot (List.mem_of_getElem? (i := 181) (by decide +kernel)) rfl
theorem q60 : Cond.code yJ8_newLength_cabcc cJ8_newLength_cabcc 4 (some .int) ∈ wsL_law := wsL_ot (List.mem_of_getElem? (i := 174) (by decide +kernel)) rfl
theorem q61 : Cond.code yJ7_copyOf_6403c cJ7_copyOf_6403c 4 (some (.array (.object "java/lang/Object"))) ∈ wsL_law := wsL_ot (List.mem_of_getElem? (i := 199) (by decide +kernel)) rfl
theorem q62 : Cond.code yJ7_copyOf_1904c cJ7_copyOf_1904c 2 (some (.array (.object "java/lang/Object"))) ∈ wsL_law := wsL_ot (List.mem_of_getElem? (i := 184) (by decide +kernel)) rfl
theorem q63 : Cond.methodLink RJx4a65c 79 Lib.Math.max.name ∈ wsL_law := wsL_ot (List.mem_of_getElem? (i := 209) (by decide +kernel)) rfl
theorem q64 : Cond.static Lib.Math.max.name ∈ wsL_law := wsL_ot (List.mem_of_getElem? (i := 176) (by decide +kernel)) rfl
theorem q65 : Cond.initialized "java/lang/Math" ∈ wsL_law := wsL_ot (List.mem_of_getElem? (i := 13) (by decide +kernel)) rfl
theorem q66 : Cond.code Lib.Math.max.name Lib.Math.max.code 2 (some .int) ∈ wsL_law := wsL_ot (List.mem_of_getElem? (i := 177) (by decide +kernel)) rfl
theorem q67 : Cond.classLink RJx4a65c 7 "java/lang/Object" ∈ wsL_law := wsL_ot (List.mem_of_getElem? (i := 210) (by decide +kernel)) rfl
theorem q68 : Cond.methodLink RJx4a65c 73 yJ8_newLength_cabcc ∈ wsL_law := wsL_ot (List.mem_of_getElem? (i := 172) (by decide +kernel)) rfl
theorem q69 : Cond.static yJ8_newLength_cabcc ∈ wsL_law := wsL_ot (List.mem_of_getElem? (i := 173) (by decide +kernel)) rfl
theorem q70 : Cond.initialized RJ8 ∈ wsL_law := wsL_ot (List.mem_of_getElem? (i := 12) (by decide +kernel)) rfl
theorem q71 : Cond.methodLink RJ8 194 Lib.Math.max.name ∈ wsL_law := wsL_ot (List.mem_of_getElem? (i := 175) (by decide +kernel)) rfl
theorem q72 : Cond.constant RJ8 200 (2147483639) ∈ wsL_law := wsL_ot (List.mem_of_getElem? (i := 178) (by decide +kernel)) rfl
theorem q73 : Cond.methodLink RJ8 201 yJ8_hugeLength_7cf53 ∈ wsL_law := wsL_ot (List.mem_of_getElem? (i := 179) (by decide +kernel)) rfl
theorem q74 : Cond.static yJ8_hugeLength_7cf53 ∈ wsL_law := wsL_ot (List.mem_of_getElem? (i := 180) (by decide +kernel)) rfl
theorem q75 : Cond.methodLink RJx4a65c 66 yJ7_copyOf_1904c ∈ wsL_law := wsL_ot (List.mem_of_getElem? (i := 182) (by decide +kernel)) rfl
theorem q76 : Cond.static yJ7_copyOf_1904c ∈ wsL_law := wsL_ot (List.mem_of_getElem? (i := 183) (by decide +kernel)) rfl
theorem q77 : Cond.initialized RJ7 ∈ wsL_law := wsL_ot (List.mem_of_getElem? (i := 14) (by decide +kernel)) rfl
theorem q78 : Cond.methodLink RJ7 86 ⟨"java/lang/Object", "getClass", "()Ljava/lang/Class;"⟩ ∈ wsL_law := wsL_ot (List.mem_of_getElem? (i := 185) (by decide +kernel)) rfl
theorem q79 : Cond.selects "[Ljava/lang/Object;" ⟨"java/lang/Object", "getClass", "()Ljava/lang/Class;"⟩ ⟨"java/lang/Object", "getClass", "()Ljava/lang/Class;"⟩ ∈ wsL_law := wsL_ot (List.mem_of_getElem? (i := 648) (by decide +kernel)) rfl
theorem q80 : Cond.instanceMethod ⟨"java/lang/Object", "getClass", "()Ljava/lang/Class;"⟩ ∈ wsL_law := wsL_ot (List.mem_of_getElem? (i := 186) (by decide +kernel)) rfl
theorem q81 : Cond.native ⟨"java/lang/Object", "getClass", "()Ljava/lang/Class;"⟩ ∈ wsL_law := wsL_ot (List.mem_of_getElem? (i := 196) (by decide +kernel)) rfl
theorem q82 : Cond.methodLink RJ7 300 yJ7_copyOf_6403c ∈ wsL_law := wsL_ot (List.mem_of_getElem? (i := 197) (by decide +kernel)) rfl
theorem q83 : Cond.static yJ7_copyOf_6403c ∈ wsL_law := wsL_ot (List.mem_of_getElem? (i := 198) (by decide +kernel)) rfl
theorem q84 : Cond.classLink RJ7 110 "[Ljava/lang/Object;" ∈ wsL_law := wsL_ot (List.mem_of_getElem? (i := 200) (by decide +kernel)) rfl
theorem q85 : Cond.classLink RJ7 2 "java/lang/Object" ∈ wsL_law := wsL_ot (List.mem_of_getElem? (i := 202) (by decide +kernel)) rfl
theorem q86 : Cond.methodLink RJ7 304 Lib.Math.min.name ∈ wsL_law := wsL_ot (List.mem_of_getElem? (i := 203) (by decide +kernel)) rfl
theorem q87 : Cond.static Lib.Math.min.name ∈ wsL_law := wsL_ot (List.mem_of_getElem? (i := 204) (by decide +kernel)) rfl
theorem q88 : Cond.code Lib.Math.min.name Lib.Math.min.code 2 (some .int) ∈ wsL_law := wsL_ot (List.mem_of_getElem? (i := 205) (by decide +kernel)) rfl
theorem q89 : Cond.methodLink RJ7 150 arraycopyName ∈ wsL_law := wsL_ot (List.mem_of_getElem? (i := 206) (by decide +kernel)) rfl
theorem q90 : Cond.native arraycopyName ∈ wsL_law := wsL_ot (List.mem_of_getElem? (i := 208) (by decide +kernel)) rfl
theorem q91 : Cond.static arraycopyName ∈ wsL_law := wsL_ot (List.mem_of_getElem? (i := 207) (by decide +kernel)) rfl
theorem q92 : Cond.initialized "java/lang/System" ∈ wsL_law := wsL_ot (List.mem_of_getElem? (i := 15) (by decide +kernel)) rfl
theorem q93 : Cond.code yJx4a65c_grow_92f84 cJx4a65c_grow_92f84 4 (some (.array (.object "java/lang/Object"))) ∈ wsL_law := wsL_ot (List.mem_of_getElem? (i := 169) (by decide +kernel)) rfl
theorem q94 : Cond.methodLink RJx4a65c 69 yJx4a65c_grow_92f84 ∈ wsL_law := wsL_ot (List.mem_of_getElem? (i := 166) (by decide +kernel)) rfl
theorem q95 : Cond.instanceMethod yJx4a65c_grow_92f84 ∈ wsL_law := wsL_ot (List.mem_of_getElem? (i := 168) (by decide +kernel)) rfl
theorem q96 : Cond.selects RJx4a65c yJx4a65c_grow_92f84 yJx4a65c_grow_92f84 ∈ wsL_law := List.mem_append_left _ (List.mem_of_getElem? (i := 3) rfl)
theorem q97 : Cond.code yJx4a65c_grow_d5877 cJx4a65c_grow_d5877 1 (some (.array (.object "java/lang/Object"))) ∈ wsL_law := wsL_ot (List.mem_of_getElem? (i := 165) (by decide +kernel)) rfl
theorem q98 : Cond.methodLink RJx4a65c 129 yJx4a65c_grow_d5877 ∈ wsL_law := wsL_ot (List.mem_of_getElem? (i := 162) (by decide +kernel)) rfl
theorem q99 : Cond.instanceMethod yJx4a65c_grow_d5877 ∈ wsL_law := wsL_ot (List.mem_of_getElem? (i := 164) (by decide +kernel)) rfl
theorem q100 : Cond.selects RJx4a65c yJx4a65c_grow_d5877 yJx4a65c_grow_d5877 ∈ wsL_law := List.mem_append_left _ (List.mem_of_getElem? (i := 2) rfl)
theorem q101 : Cond.code yJx4a65c_add_72be8 cJx4a65c_add_72be8 4 none ∈ wsL_law := wsL_ot (List.mem_of_getElem? (i := 161) (by decide +kernel)) rfl
theorem q102 : Cond.fieldLink RJx4a65c 63 "java/util/ArrayList" "modCount" "I" ∈ wsL_law := wsL_ot (List.mem_of_getElem? (i := 298) (by decide +kernel)) rfl
theorem q103 : Cond.sameField "java/util/ArrayList" "java/util/AbstractList" "modCount" "I" ∈ wsL_law := wsL_ot (List.mem_of_getElem? (i := 299) (by decide +kernel)) rfl
theorem q104 : Cond.methodLink RJx4a65c 131 yJx4a65c_add_72be8 ∈ wsL_law := wsL_ot (List.mem_of_getElem? (i := 157) (by decide +kernel)) rfl
theorem q105 : Cond.instanceMethod yJx4a65c_add_72be8 ∈ wsL_law := wsL_ot (List.mem_of_getElem? (i := 159) (by decide +kernel)) rfl
theorem q106 : Cond.selects RJx4a65c yJx4a65c_add_72be8 yJx4a65c_add_72be8 ∈ wsL_law := List.mem_append_left _ (List.mem_of_getElem? (i := 1) rfl)
theorem q107 : Cond.code yJx4a65c_add_9ea2d cJx4a65c_add_9ea2d 2 (some .boolean) ∈ wsL_law := wsL_ot (List.mem_of_getElem? (i := 156) (by decide +kernel)) rfl
theorem q108 : Cond.code yX2_meltsInto cX2_meltsInto 2 (some .boolean) ∈ wsL_law := wsL_ot (List.mem_of_getElem? (i := 473) (by decide +kernel)) rfl
theorem q109 : Cond.fieldLink RX1 63 "RhymeTax$Line" "ownStress" "J" ∈ wsL_law := wsL_ot (List.mem_of_getElem? (i := 315) (by decide +kernel)) rfl
theorem q110 : Cond.fieldLink RX1 67 "RhymeTax$Line" "own" "I" ∈ wsL_law := wsL_ot (List.mem_of_getElem? (i := 316) (by decide +kernel)) rfl
theorem q111 : Cond.fieldLink RX1 70 "RhymeTax$Line" "melted" "I" ∈ wsL_law := wsL_ot (List.mem_of_getElem? (i := 317) (by decide +kernel)) rfl
theorem q112 : Cond.fieldLink RX1 77 "RhymeTax$Word" "stress" "I" ∈ wsL_law := wsL_ot (List.mem_of_getElem? (i := 132) (by decide +kernel)) rfl
theorem q113 : Cond.fieldLink RX1 80 "RhymeTax$Word" "syllables" "I" ∈ wsL_law := wsL_ot (List.mem_of_getElem? (i := 129) (by decide +kernel)) rfl
theorem q114 : Cond.methodLink RX1 73 yX2_meltsInto ∈ wsL_law := wsL_ot (List.mem_of_getElem? (i := 470) (by decide +kernel)) rfl
theorem q115 : Cond.instanceMethod yX2_meltsInto ∈ wsL_law := wsL_ot (List.mem_of_getElem? (i := 471) (by decide +kernel)) rfl
theorem q116 : Cond.selects RX2 yX2_meltsInto yX2_meltsInto ∈ wsL_law := wsL_ot (List.mem_of_getElem? (i := 472) (by decide +kernel)) rfl
theorem q117 : Cond.initialized RX2 ∈ wsL_law := wsL_ot (List.mem_of_getElem? (i := 11) (by decide +kernel)) rfl
theorem q118 : Cond.fieldLink RX2 22 "RhymeTax$Word" "end" "I" ∈ wsL_law := wsL_ot (List.mem_of_getElem? (i := 136) (by decide +kernel)) rfl
theorem q119 : Cond.fieldLink RX2 25 "RhymeTax$Word" "open" "Z" ∈ wsL_law := wsL_ot (List.mem_of_getElem? (i := 138) (by decide +kernel)) rfl
theorem q120 : Cond.code yX1_joinWords cX1_joinWords 4 none ∈ wsL_law := wsL_ot (List.mem_of_getElem? (i := 469) (by decide +kernel)) rfl
theorem q121 : Cond.methodLink RX1 43 yJx4a65c_add_9ea2d ∈ wsL_law := wsL_ot (List.mem_of_getElem? (i := 479) (by decide +kernel)) rfl
theorem q122 : Cond.instanceMethod yJx4a65c_add_9ea2d ∈ wsL_law := wsL_ot (List.mem_of_getElem? (i := 154) (by decide +kernel)) rfl
theorem q123 : Cond.selects RJx4a65c yJx4a65c_add_9ea2d yJx4a65c_add_9ea2d ∈ wsL_law := wsL_ot (List.mem_of_getElem? (i := 155) (by decide +kernel)) rfl
theorem q124 : Cond.methodLink RX1 47 yX1_joinWords ∈ wsL_law := wsL_ot (List.mem_of_getElem? (i := 466) (by decide +kernel)) rfl
theorem q125 : Cond.instanceMethod yX1_joinWords ∈ wsL_law := wsL_ot (List.mem_of_getElem? (i := 468) (by decide +kernel)) rfl
theorem q126 : Cond.selects RX1 yX1_joinWords yX1_joinWords ∈ wsL_law := List.mem_append_left _ (List.mem_of_getElem? (i := 13) rfl)
theorem q127 : Cond.initialized RX1 ∈ wsL_law := wsL_ot (List.mem_of_getElem? (i := 16) (by decide +kernel)) rfl
theorem q128 : Cond.code yX1_addWord cX1_addWord 2 none ∈ wsL_law := wsL_ot (List.mem_of_getElem? (i := 478) (by decide +kernel)) rfl
theorem q129 : Cond.code yX3_isBelow cX3_isBelow 2 (some .boolean) ∈ wsL_law := wsL_ot (List.mem_of_getElem? (i := 97) (by decide +kernel)) rfl
theorem q130 : Cond.code yJx4a65c_set_bcc79 cJx4a65c_set_bcc79 4 (some (.object "java/lang/Object")) ∈ wsL_law := wsL_ot (List.mem_of_getElem? (i := 465) (by decide +kernel)) rfl
theorem q131 : Cond.static yX3_isBelow ∈ wsL_law := wsL_ot (List.mem_of_getElem? (i := 96) (by decide +kernel)) rfl
theorem q132 : Cond.initialized RX3 ∈ wsL_law := wsL_ot (List.mem_of_getElem? (i := 1) (by decide +kernel)) rfl
theorem q133 : Cond.methodLink RX1 56 yJx4a65c_set_bcc79 ∈ wsL_law := wsL_ot (List.mem_of_getElem? (i := 462) (by decide +kernel)) rfl
theorem q134 : Cond.instanceMethod yJx4a65c_set_bcc79 ∈ wsL_law := wsL_ot (List.mem_of_getElem? (i := 463) (by decide +kernel)) rfl
theorem q135 : Cond.selects RJx4a65c yJx4a65c_set_bcc79 yJx4a65c_set_bcc79 ∈ wsL_law := wsL_ot (List.mem_of_getElem? (i := 464) (by decide +kernel)) rfl
theorem q136 : Cond.code yX1_replaceWord cX1_replaceWord 3 none ∈ wsL_law := wsL_ot (List.mem_of_getElem? (i := 460) (by decide +kernel)) rfl
theorem q137 : Cond.code yJx4a65c_fastRemove_b59b0 cJx4a65c_fastRemove_b59b0 4 none ∈ wsL_law := wsL_ot (List.mem_of_getElem? (i := 496) (by decide +kernel)) rfl
theorem q138 : Cond.code yJx4a65c_remove_915e3 cJx4a65c_remove_915e3 4 (some (.object "java/lang/Object")) ∈ wsL_law := wsL_ot (List.mem_of_getElem? (i := 492) (by decide +kernel)) rfl
theorem q139 : Cond.methodLink RX1 60 yJx4a65c_remove_915e3 ∈ wsL_law := wsL_ot (List.mem_of_getElem? (i := 489) (by decide +kernel)) rfl
theorem q140 : Cond.instanceMethod yJx4a65c_remove_915e3 ∈ wsL_law := wsL_ot (List.mem_of_getElem? (i := 490) (by decide +kernel)) rfl
theorem q141 : Cond.selects RJx4a65c yJx4a65c_remove_915e3 yJx4a65c_remove_915e3 ∈ wsL_law := wsL_ot (List.mem_of_getElem? (i := 491) (by decide +kernel)) rfl
theorem q142 : Cond.methodLink RJx4a65c 144 yJx4a65c_fastRemove_b59b0 ∈ wsL_law := wsL_ot (List.mem_of_getElem? (i := 493) (by decide +kernel)) rfl
theorem q143 : Cond.instanceMethod yJx4a65c_fastRemove_b59b0 ∈ wsL_law := wsL_ot (List.mem_of_getElem? (i := 495) (by decide +kernel)) rfl
theorem q144 : Cond.selects RJx4a65c yJx4a65c_fastRemove_b59b0 yJx4a65c_fastRemove_b59b0 ∈ wsL_law := List.mem_append_left _ (List.mem_of_getElem? (i := 14) rfl)
theorem q145 : Cond.methodLink RJx4a65c 112 arraycopyName ∈ wsL_law := wsL_ot (List.mem_of_getElem? (i := 497) (by decide +kernel)) rfl
theorem q146 : Cond.code yX1_dropLast cX1_dropLast 2 none ∈ wsL_law := wsL_ot (List.mem_of_getElem? (i := 488) (by decide +kernel)) rfl
theorem q147 : Cond.code yX3_footSize cX3_footSize 1 (some .int) ∈ wsL_law := wsL_ot (List.mem_of_getElem? (i := 394) (by decide +kernel)) rfl
theorem q148 : Cond.code yX3_askedBy cX3_askedBy 1 (some .long) ∈ wsL_law := wsL_ot (List.mem_of_getElem? (i := 409) (by decide +kernel)) rfl
theorem q149 : Cond.code yJ13_bitCount_95d88 cJ13_bitCount_95d88 2 (some .int) ∈ wsL_law := wsL_ot (List.mem_of_getElem? (i := 417) (by decide +kernel)) rfl
theorem q150 : Cond.code yX1_offBy cX1_offBy 4 (some .int) ∈ wsL_law := wsL_ot (List.mem_of_getElem? (i := 406) (by decide +kernel)) rfl
theorem q151 : Cond.fieldLink RX1 83 "RhymeTax$Line" "start" "I" ∈ wsL_law := wsL_ot (List.mem_of_getElem? (i := 318) (by decide +kernel)) rfl
theorem q152 : Cond.fieldLink RX1 91 "RhymeTax$Line" "carried" "I" ∈ wsL_law := wsL_ot (List.mem_of_getElem? (i := 320) (by decide +kernel)) rfl
theorem q153 : Cond.methodLink RX1 101 Lib.Math.min.name ∈ wsL_law := wsL_ot (List.mem_of_getElem? (i := 395) (by decide +kernel)) rfl
theorem q154 : Cond.fieldLink RX1 107 "RhymeTax$Line" "stays" "I" ∈ wsL_law := wsL_ot (List.mem_of_getElem? (i := 321) (by decide +kernel)) rfl
theorem q155 : Cond.fieldLink RX1 110 "RhymeTax$Line" "over" "I" ∈ wsL_law := wsL_ot (List.mem_of_getElem? (i := 323) (by decide +kernel)) rfl
theorem q156 : Cond.fieldLink RX1 117 "RhymeTax$Line" "staying" "J" ∈ wsL_law := wsL_ot (List.mem_of_getElem? (i := 325) (by decide +kernel)) rfl
theorem q157 : Cond.fieldLink RX1 124 "RhymeTax$Line" "off" "I" ∈ wsL_law := wsL_ot (List.mem_of_getElem? (i := 326) (by decide +kernel)) rfl
theorem q158 : Cond.fieldLink RX1 127 "RhymeTax$Line" "lacks" "I" ∈ wsL_law := wsL_ot (List.mem_of_getElem? (i := 327) (by decide +kernel)) rfl
theorem q159 : Cond.methodLink RX1 94 yX0_add ∈ wsL_law := wsL_ot (List.mem_of_getElem? (i := 383) (by decide +kernel)) rfl
theorem q160 : Cond.instanceMethod yX0_add ∈ wsL_law := wsL_ot (List.mem_of_getElem? (i := 384) (by decide +kernel)) rfl
theorem q161 : Cond.selects RX0 yX0_add yX0_add ∈ wsL_law := wsL_ot (List.mem_of_getElem? (i := 385) (by decide +kernel)) rfl
theorem q162 : Cond.initialized RX0 ∈ wsL_law := wsL_ot (List.mem_of_getElem? (i := 5) (by decide +kernel)) rfl
