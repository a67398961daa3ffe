theorem q163 : Cond.fieldLink RX0 19 "RhymeTax$Flow" "end" "I" ∈ wsL_law := wsL_ot (List.mem_of_getElem? (i := 613) (by decide +kernel)) rfl
theorem q164 : Cond.methodLink RX0 23 yX0_addTo ∈ wsL_law := wsL_ot (List.mem_of_getElem? (i := 387) (by decide +kernel)) rfl
theorem q165 : Cond.instanceMethod yX0_addTo ∈ wsL_law := wsL_ot (List.mem_of_getElem? (i := 389) (by decide +kernel)) rfl
theorem q166 : Cond.selects RX0 yX0_addTo yX0_addTo ∈ wsL_law := List.mem_append_left _ (List.mem_of_getElem? (i := 9) rfl)
theorem q167 : Cond.fieldLink RX0 9 "RhymeTax$Flow" "cells" "[J" ∈ wsL_law := wsL_ot (List.mem_of_getElem? (i := 612) (by decide +kernel)) rfl
theorem q168 : Cond.static yX3_footSize ∈ wsL_law := wsL_ot (List.mem_of_getElem? (i := 393) (by decide +kernel)) rfl
theorem q169 : Cond.methodLink RX1 113 yX0_read ∈ wsL_law := wsL_ot (List.mem_of_getElem? (i := 396) (by decide +kernel)) rfl
theorem q170 : Cond.instanceMethod yX0_read ∈ wsL_law := wsL_ot (List.mem_of_getElem? (i := 397) (by decide +kernel)) rfl
theorem q171 : Cond.selects RX0 yX0_read yX0_read ∈ wsL_law := wsL_ot (List.mem_of_getElem? (i := 398) (by decide +kernel)) rfl
theorem q172 : Cond.methodLink RX0 27 yX0_cellAt ∈ wsL_law := wsL_ot (List.mem_of_getElem? (i := 400) (by decide +kernel)) rfl
theorem q173 : Cond.instanceMethod yX0_cellAt ∈ wsL_law := wsL_ot (List.mem_of_getElem? (i := 402) (by decide +kernel)) rfl
theorem q174 : Cond.selects RX0 yX0_cellAt yX0_cellAt ∈ wsL_law := List.mem_append_left _ (List.mem_of_getElem? (i := 10) rfl)
theorem q175 : Cond.static yX3_lowBits ∈ wsL_law := wsL_ot (List.mem_of_getElem? (i := 375) (by decide +kernel)) rfl
theorem q176 : Cond.constantLong RX3 244 (-1) ∈ wsL_law := wsL_ot (List.mem_of_getElem? (i := 377) (by decide +kernel)) rfl
theorem q177 : Cond.methodLink RX1 120 yX1_offBy ∈ wsL_law := wsL_ot (List.mem_of_getElem? (i := 404) (by decide +kernel)) rfl
theorem q178 : Cond.static yX1_offBy ∈ wsL_law := wsL_ot (List.mem_of_getElem? (i := 405) (by decide +kernel)) rfl
theorem q179 : Cond.static yX3_askedBy ∈ wsL_law := wsL_ot (List.mem_of_getElem? (i := 408) (by decide +kernel)) rfl
theorem q180 : Cond.constantLong RX3 246 (2730) ∈ wsL_law := wsL_ot (List.mem_of_getElem? (i := 410) (by decide +kernel)) rfl
theorem q181 : Cond.constantLong RX3 248 (1365) ∈ wsL_law := wsL_ot (List.mem_of_getElem? (i := 411) (by decide +kernel)) rfl
theorem q182 : Cond.constantLong RX3 250 (149796) ∈ wsL_law := wsL_ot (List.mem_of_getElem? (i := 412) (by decide +kernel)) rfl
theorem q183 : Cond.constantLong RX3 252 (37449) ∈ wsL_law := wsL_ot (List.mem_of_getElem? (i := 413) (by decide +kernel)) rfl
theorem q184 : Cond.methodLink RX1 137 yJ13_bitCount_95d88 ∈ wsL_law := wsL_ot (List.mem_of_getElem? (i := 415) (by decide +kernel)) rfl
theorem q185 : Cond.static yJ13_bitCount_95d88 ∈ wsL_law := wsL_ot (List.mem_of_getElem? (i := 416) (by decide +kernel)) rfl
theorem q186 : Cond.initialized RJ13 ∈ wsL_law := wsL_ot (List.mem_of_getElem? (i := 19) (by decide +kernel)) rfl
theorem q187 : Cond.constantLong RJ13 314 (6148914691236517205) ∈ wsL_law := wsL_ot (List.mem_of_getElem? (i := 418) (by decide +kernel)) rfl
theorem q188 : Cond.constantLong RJ13 316 (3689348814741910323) ∈ wsL_law := wsL_ot (List.mem_of_getElem? (i := 419) (by decide +kernel)) rfl
theorem q189 : Cond.constantLong RJ13 318 (1085102592571150095) ∈ wsL_law := wsL_ot (List.mem_of_getElem? (i := 420) (by decide +kernel)) rfl
theorem q190 : Cond.code yX1_scanIn cX1_scanIn 4 none ∈ wsL_law := wsL_ot (List.mem_of_getElem? (i := 382) (by decide +kernel)) rfl
theorem q191 : Cond.code yJx4a65c_isEmpty_aae02 cJx4a65c_isEmpty_aae02 1 (some .boolean) ∈ wsL_law := wsL_ot (List.mem_of_getElem? (i := 443) (by decide +kernel)) rfl
theorem q192 : Cond.code yX1_payRhyme cX1_payRhyme 2 none ∈ wsL_law := wsL_ot (List.mem_of_getElem? (i := 439) (by decide +kernel)) rfl
theorem q193 : Cond.code yX1_faultsBy cX1_faultsBy 5 (some .int) ∈ wsL_law := wsL_ot (List.mem_of_getElem? (i := 528) (by decide +kernel)) rfl
theorem q194 : Cond.code yX1_isFaultless cX1_isFaultless 1 (some .boolean) ∈ wsL_law := wsL_ot (List.mem_of_getElem? (i := 552) (by decide +kernel)) rfl
theorem q195 : Cond.code yX1_stressAt cX1_stressAt 2 (some .int) ∈ wsL_law := wsL_ot (List.mem_of_getElem? (i := 520) (by decide +kernel)) rfl
theorem q196 : Cond.code yX1_tells cX1_tells 2 (some .int) ∈ wsL_law := wsL_ot (List.mem_of_getElem? (i := 512) (by decide +kernel)) rfl
theorem q197 : Cond.code yX2_init cX2_init 7 none ∈ wsL_law := wsL_ot (List.mem_of_getElem? (i := 123) (by decide +kernel)) rfl
theorem q198 : Cond.code yX2_lastStress cX2_lastStress 1 (some .int) ∈ wsL_law := wsL_ot (List.mem_of_getElem? (i := 435) (by decide +kernel)) rfl
theorem q199 : Cond.code yX2_rhymeWith cX2_rhymeWith 4 (some .int) ∈ wsL_law := wsL_ot (List.mem_of_getElem? (i := 431) (by decide +kernel)) rfl
theorem q200 : Cond.methodLink RX3 3 objectInit ∈ wsL_law := wsL_ot (List.mem_of_getElem? (i := 604) (by decide +kernel)) rfl
theorem q201 : Cond.classLink RX3 9 RJx4a65c ∈ wsL_law := wsL_ot (List.mem_of_getElem? (i := 605) (by decide +kernel)) rfl
theorem q202 : Cond.fieldLink RX3 12 "RhymeTax" "words" "Ljava/util/ArrayList;" ∈ wsL_law := wsL_ot (List.mem_of_getElem? (i := 621) (by decide +kernel)) rfl
theorem q203 : Cond.fieldLink RX3 16 "RhymeTax" "lines" "Ljava/util/ArrayList;" ∈ wsL_law := wsL_ot (List.mem_of_getElem? (i := 622) (by decide +kernel)) rfl
theorem q204 : Cond.classLink RX3 19 RX0 ∈ wsL_law := wsL_ot (List.mem_of_getElem? (i := 607) (by decide +kernel)) rfl
theorem q205 : Cond.instantiable RX0 2 ∈ wsL_law := wsL_ot (List.mem_of_getElem? (i := 390) (by decide +kernel)) rfl
theorem q206 : Cond.fieldLink RX3 22 "RhymeTax" "flow" "LRhymeTax$Flow;" ∈ wsL_law := wsL_ot (List.mem_of_getElem? (i := 623) (by decide +kernel)) rfl
theorem q207 : Cond.methodLink RX3 11 yJx4a65c_init_da8c8 ∈ wsL_law := wsL_ot (List.mem_of_getElem? (i := 606) (by decide +kernel)) rfl
theorem q208 : Cond.methodLink RX3 21 yX0_init ∈ wsL_law := wsL_ot (List.mem_of_getElem? (i := 608) (by decide +kernel)) rfl
theorem q209 : Cond.instanceMethod yX0_init ∈ wsL_law := wsL_ot (List.mem_of_getElem? (i := 609) (by decide +kernel)) rfl
theorem q210 : Cond.methodLink RX0 3 objectInit ∈ wsL_law := wsL_ot (List.mem_of_getElem? (i := 611) (by decide +kernel)) rfl
theorem q211 : Cond.arrayClass .long ∈ wsL_law := wsL_ot (List.mem_of_getElem? (i := 620) (by decide +kernel)) rfl
theorem q212 : Cond.code yX3_init cX3_init 1 none ∈ wsL_law := wsL_ot (List.mem_of_getElem? (i := 603) (by decide +kernel)) rfl
theorem q213 : Cond.classLink RX3 26 "java/lang/IllegalArgumentException" ∈ wsL_law := wsL_ot (List.mem_of_getElem? (i := 25) (by decide +kernel)) rfl
theorem q214 : Cond.initialized "java/lang/IllegalArgumentException" ∈ wsL_law := wsL_ot (List.mem_of_getElem? (i := 9) (by decide +kernel)) rfl
theorem q215 : Cond.classLink RX3 43 "java/lang/IllegalStateException" ∈ wsL_law := wsL_ot (List.mem_of_getElem? (i := 103) (by decide +kernel)) rfl
theorem q216 : Cond.initialized "java/lang/IllegalStateException" ∈ wsL_law := wsL_ot (List.mem_of_getElem? (i := 10) (by decide +kernel)) rfl
theorem q217 : Cond.classLink RX3 48 RX2 ∈ wsL_law := wsL_ot (List.mem_of_getElem? (i := 119) (by decide +kernel)) rfl
theorem q218 : Cond.instantiable RX2 6 ∈ wsL_law := wsL_ot (List.mem_of_getElem? (i := 120) (by decide +kernel)) rfl
theorem q219 : Cond.fieldLink RX3 57 "RhymeTax$Word" "number" "I" ∈ wsL_law := wsL_ot (List.mem_of_getElem? (i := 126) (by decide +kernel)) rfl
theorem q220 : Cond.methodLink RX3 33 yX3_isBelow ∈ wsL_law := wsL_ot (List.mem_of_getElem? (i := 95) (by decide +kernel)) rfl
theorem q221 : Cond.methodLink RX3 39 yJx4a65c_size_8abf5 ∈ wsL_law := wsL_ot (List.mem_of_getElem? (i := 99) (by decide +kernel)) rfl
theorem q222 : Cond.methodLink RX3 50 yX2_init ∈ wsL_law := wsL_ot (List.mem_of_getElem? (i := 121) (by decide +kernel)) rfl
theorem q223 : Cond.instanceMethod yX2_init ∈ wsL_law := wsL_ot (List.mem_of_getElem? (i := 122) (by decide +kernel)) rfl
theorem q224 : Cond.methodLink RX2 1 objectInit ∈ wsL_law := wsL_ot (List.mem_of_getElem? (i := 124) (by decide +kernel)) rfl
theorem q225 : Cond.fieldLink RX2 7 "RhymeTax$Word" "number" "I" ∈ wsL_law := wsL_ot (List.mem_of_getElem? (i := 125) (by decide +kernel)) rfl
theorem q226 : Cond.fieldLink RX2 13 "RhymeTax$Word" "syllables" "I" ∈ wsL_law := wsL_ot (List.mem_of_getElem? (i := 128) (by decide +kernel)) rfl
theorem q227 : Cond.fieldLink RX2 16 "RhymeTax$Word" "stress" "I" ∈ wsL_law := wsL_ot (List.mem_of_getElem? (i := 131) (by decide +kernel)) rfl
theorem q228 : Cond.fieldLink RX2 19 "RhymeTax$Word" "vowel" "I" ∈ wsL_law := wsL_ot (List.mem_of_getElem? (i := 134) (by decide +kernel)) rfl
theorem q229 : Cond.methodLink RX3 53 yJx4a65c_add_9ea2d ∈ wsL_law := wsL_ot (List.mem_of_getElem? (i := 153) (by decide +kernel)) rfl
theorem q230 : Cond.code yX3_word cX3_word 7 (some .int) ∈ wsL_law := wsL_ot (List.mem_of_getElem? (i := 24) (by decide +kernel)) rfl
theorem q231 : Cond.code yX3_refuseOutside cX3_refuseOutside 2 none ∈ wsL_law := wsL_ot (List.mem_of_getElem? (i := 222) (by decide +kernel)) rfl
theorem q232 : Cond.classLink RX3 48 "RhymeTax$Word" ∈ wsL_law := wsL_ot (List.mem_of_getElem? (i := 119) (by decide +kernel)) rfl
theorem q233 : Cond.methodLink RX3 65 yX3_refuseOutside ∈ wsL_law := wsL_ot (List.mem_of_getElem? (i := 220) (by decide +kernel)) rfl
theorem q234 : Cond.static yX3_refuseOutside ∈ wsL_law := wsL_ot (List.mem_of_getElem? (i := 221) (by decide +kernel)) rfl
theorem q235 : Cond.classLink RX3 170 "java/lang/IndexOutOfBoundsException" ∈ wsL_law := wsL_ot (List.mem_of_getElem? (i := 223) (by decide +kernel)) rfl
theorem q236 : Cond.initialized "java/lang/IndexOutOfBoundsException" ∈ wsL_law := wsL_ot (List.mem_of_getElem? (i := 20) (by decide +kernel)) rfl
theorem q237 : Cond.methodLink RX3 154 yJx4a65c_get_915e3 ∈ wsL_law := wsL_ot (List.mem_of_getElem? (i := 239) (by decide +kernel)) rfl
theorem q238 : Cond.code yX3_neededWord cX3_neededWord 2 (some (.object "RhymeTax$Word")) ∈ wsL_law := wsL_ot (List.mem_of_getElem? (i := 219) (by decide +kernel)) rfl
theorem q239 : Cond.classLink RX3 77 "RhymeTax$Line" ∈ wsL_law := wsL_ot (List.mem_of_getElem? (i := 261) (by decide +kernel)) rfl
theorem q240 : Cond.methodLink RX3 198 yX1_usesOf ∈ wsL_law := wsL_ot (List.mem_of_getElem? (i := 262) (by decide +kernel)) rfl
theorem q241 : Cond.instanceMethod yX1_usesOf ∈ wsL_law := wsL_ot (List.mem_of_getElem? (i := 263) (by decide +kernel)) rfl
theorem q242 : Cond.selects RX1 yX1_usesOf yX1_usesOf ∈ wsL_law := wsL_ot (List.mem_of_getElem? (i := 264) (by decide +kernel)) rfl
theorem q243 : Cond.code yX3_usesOf cX3_usesOf 4 (some .int) ∈ wsL_law := wsL_ot (List.mem_of_getElem? (i := 260) (by decide +kernel)) rfl
theorem q244 : Cond.fieldLink RX3 178 "RhymeTax$Word" "syllables" "I" ∈ wsL_law := wsL_ot (List.mem_of_getElem? (i := 130) (by decide +kernel)) rfl
theorem q245 : Cond.fieldLink RX3 181 "RhymeTax$Word" "stress" "I" ∈ wsL_law := wsL_ot (List.mem_of_getElem? (i := 133) (by decide +kernel)) rfl
theorem q246 : Cond.fieldLink RX3 184 "RhymeTax$Word" "vowel" "I" ∈ wsL_law := wsL_ot (List.mem_of_getElem? (i := 135) (by decide +kernel)) rfl
theorem q247 : Cond.fieldLink RX3 187 "RhymeTax$Word" "end" "I" ∈ wsL_law := wsL_ot (List.mem_of_getElem? (i := 137) (by decide +kernel)) rfl
theorem q248 : Cond.fieldLink RX3 190 "RhymeTax$Word" "open" "Z" ∈ wsL_law := wsL_ot (List.mem_of_getElem? (i := 139) (by decide +kernel)) rfl
theorem q249 : Cond.methodLink RX3 194 yX3_usesOf ∈ wsL_law := wsL_ot (List.mem_of_getElem? (i := 257) (by decide +kernel)) rfl
theorem q250 : Cond.instanceMethod yX3_usesOf ∈ wsL_law := wsL_ot (List.mem_of_getElem? (i := 259) (by decide +kernel)) rfl
theorem q251 : Cond.selects RX3 yX3_usesOf yX3_usesOf ∈ wsL_law := List.mem_append_left _ (List.mem_of_getElem? (i := 6) rfl)
theorem q252 : Cond.code yX3_aboutWord cX3_aboutWord 3 (some .int) ∈ wsL_law := wsL_ot (List.mem_of_getElem? (i := 256) (by decide +kernel)) rfl
theorem q253 : Cond.methodLink RX3 61 yX3_neededWord ∈ wsL_law := wsL_ot (List.mem_of_getElem? (i := 215) (by decide +kernel)) rfl
theorem q254 : Cond.instanceMethod yX3_neededWord ∈ wsL_law := wsL_ot (List.mem_of_getElem? (i := 217) (by decide +kernel)) rfl
theorem q255 : Cond.selects RX3 yX3_neededWord yX3_neededWord ∈ wsL_law := List.mem_append_left _ (List.mem_of_getElem? (i := 4) rfl)
theorem q256 : Cond.methodLink RX3 69 yX3_aboutWord ∈ wsL_law := wsL_ot (List.mem_of_getElem? (i := 253) (by decide +kernel)) rfl
theorem q257 : Cond.instanceMethod yX3_aboutWord ∈ wsL_law := wsL_ot (List.mem_of_getElem? (i := 255) (by decide +kernel)) rfl
theorem q258 : Cond.selects RX3 yX3_aboutWord yX3_aboutWord ∈ wsL_law := List.mem_append_left _ (List.mem_of_getElem? (i := 5) rfl)
theorem q259 : Cond.code yX3_about cX3_about 4 (some .int) ∈ wsL_law := wsL_ot (List.mem_of_getElem? (i := 214) (by decide +kernel)) rfl
theorem q260 : Cond.fieldLink RX3 175 "RhymeTax$Line" "mark" "I" ∈ wsL_law := wsL_ot (List.mem_of_getElem? (i := 310) (by decide +kernel)) rfl
theorem q261 : Cond.code yX3_lastWithMark cX3_lastWithMark 4 (some (.object "RhymeTax$Line")) ∈ wsL_law := wsL_ot (List.mem_of_getElem? (i := 279) (by decide +kernel)) rfl
theorem q262 : Cond.methodLink RX3 106 yX1_lastWord ∈ wsL_law := wsL_ot (List.mem_of_getElem? (i := 424) (by decide +kernel)) rfl
theorem q263 : Cond.instanceMethod yX1_lastWord ∈ wsL_law := wsL_ot (List.mem_of_getElem? (i := 425) (by decide +kernel)) rfl
theorem q264 : Cond.selects RX1 yX1_lastWord yX1_lastWord ∈ wsL_law := wsL_ot (List.mem_of_getElem? (i := 426) (by decide +kernel)) rfl
theorem q265 : Cond.methodLink RX3 215 yX2_rhymeWith ∈ wsL_law := wsL_ot (List.mem_of_getElem? (i := 428) (by decide +kernel)) rfl
theorem q266 : Cond.instanceMethod yX2_rhymeWith ∈ wsL_law := wsL_ot (List.mem_of_getElem? (i := 429) (by decide +kernel)) rfl
theorem q267 : Cond.selects RX2 yX2_rhymeWith yX2_rhymeWith ∈ wsL_law := wsL_ot (List.mem_of_getElem? (i := 430) (by decide +kernel)) rfl
theorem q268 : Cond.methodLink RX2 29 yX2_lastStress ∈ wsL_law := wsL_ot (List.mem_of_getElem? (i := 432) (by decide +kernel)) rfl
theorem q269 : Cond.instanceMethod yX2_lastStress ∈ wsL_law := wsL_ot (List.mem_of_getElem? (i := 433) (by decide +kernel)) rfl
theorem q270 : Cond.selects RX2 yX2_lastStress yX2_lastStress ∈ wsL_law := wsL_ot (List.mem_of_getElem? (i := 434) (by decide +kernel)) rfl
theorem q271 : Cond.code yX3_rhymeBetween cX3_rhymeBetween 4 (some .int) ∈ wsL_law := wsL_ot (List.mem_of_getElem? (i := 423) (by decide +kernel)) rfl
theorem q272 : Cond.fieldLink RX3 221 "RhymeTax$Line" "start" "I" ∈ wsL_law := wsL_ot (List.mem_of_getElem? (i := 319) (by decide +kernel)) rfl
theorem q273 : Cond.fieldLink RX3 123 "RhymeTax$Line" "stays" "I" ∈ wsL_law := wsL_ot (List.mem_of_getElem? (i := 322) (by decide +kernel)) rfl
theorem q274 : Cond.fieldLink RX3 209 "RhymeTax$Line" "over" "I" ∈ wsL_law := wsL_ot (List.mem_of_getElem? (i := 324) (by decide +kernel)) rfl
theorem q275 : Cond.methodLink RX3 227 Lib.Math.max.name ∈ wsL_law := wsL_ot (List.mem_of_getElem? (i := 378) (by decide +kernel)) rfl
theorem q276 : Cond.fieldLink RX3 237 "RhymeTax$Line" "partner" "LRhymeTax$Line;" ∈ wsL_law := wsL_ot (List.mem_of_getElem? (i := 312) (by decide +kernel)) rfl
theorem q277 : Cond.methodLink RX3 224 yX0_cutBehind ∈ wsL_law := wsL_ot (List.mem_of_getElem? (i := 370) (by decide +kernel)) rfl
theorem q278 : Cond.instanceMethod yX0_cutBehind ∈ wsL_law := wsL_ot (List.mem_of_getElem? (i := 371) (by decide +kernel)) rfl
theorem q279 : Cond.selects RX0 yX0_cutBehind yX0_cutBehind ∈ wsL_law := wsL_ot (List.mem_of_getElem? (i := 372) (by decide +kernel)) rfl
theorem q280 : Cond.methodLink RX3 233 yX1_scanIn ∈ wsL_law := wsL_ot (List.mem_of_getElem? (i := 379) (by decide +kernel)) rfl
theorem q281 : Cond.instanceMethod yX1_scanIn ∈ wsL_law := wsL_ot (List.mem_of_getElem? (i := 380) (by decide +kernel)) rfl
theorem q282 : Cond.selects RX1 yX1_scanIn yX1_scanIn ∈ wsL_law := wsL_ot (List.mem_of_getElem? (i := 381) (by decide +kernel)) rfl
theorem q283 : Cond.methodLink RX3 132 yX3_rhymeBetween ∈ wsL_law := wsL_ot (List.mem_of_getElem? (i := 421) (by decide +kernel)) rfl
theorem q284 : Cond.static yX3_rhymeBetween ∈ wsL_law := wsL_ot (List.mem_of_getElem? (i := 422) (by decide +kernel)) rfl
theorem q285 : Cond.methodLink RX3 241 yX1_payRhyme ∈ wsL_law := wsL_ot (List.mem_of_getElem? (i := 436) (by decide +kernel)) rfl
theorem q286 : Cond.instanceMethod yX1_payRhyme ∈ wsL_law := wsL_ot (List.mem_of_getElem? (i := 437) (by decide +kernel)) rfl
theorem q287 : Cond.selects RX1 yX1_payRhyme yX1_payRhyme ∈ wsL_law := wsL_ot (List.mem_of_getElem? (i := 438) (by decide +kernel)) rfl
theorem q288 : Cond.fieldLink RX1 130 "RhymeTax$Line" "paid" "I" ∈ wsL_law := wsL_ot (List.mem_of_getElem? (i := 328) (by decide +kernel)) rfl
theorem q289 : Cond.methodLink RX1 143 Lib.Math.max.name ∈ wsL_law := wsL_ot (List.mem_of_getElem? (i := 444) (by decide +kernel)) rfl
theorem q290 : Cond.fieldLink RX1 146 "RhymeTax$Line" "tax" "I" ∈ wsL_law := wsL_ot (List.mem_of_getElem? (i := 329) (by decide +kernel)) rfl
theorem q291 : Cond.methodLink RX1 133 yJx4a65c_isEmpty_aae02 ∈ wsL_law := wsL_ot (List.mem_of_getElem? (i := 440) (by decide +kernel)) rfl
theorem q292 : Cond.instanceMethod yJx4a65c_isEmpty_aae02 ∈ wsL_law := wsL_ot (List.mem_of_getElem? (i := 441) (by decide +kernel)) rfl
theorem q293 : Cond.selects RJx4a65c yJx4a65c_isEmpty_aae02 yJx4a65c_isEmpty_aae02 ∈ wsL_law := wsL_ot (List.mem_of_getElem? (i := 442) (by decide +kernel)) rfl
theorem q294 : Cond.code yX3_scanFrom cX3_scanFrom 6 none ∈ wsL_law := wsL_ot (List.mem_of_getElem? (i := 369) (by decide +kernel)) rfl
theorem q295 : Cond.classLink RX3 77 RX1 ∈ wsL_law := wsL_ot (List.mem_of_getElem? (i := 261) (by decide +kernel)) rfl
theorem q296 : Cond.instantiable RX1 17 ∈ wsL_law := wsL_ot (List.mem_of_getElem? (i := 275) (by decide +kernel)) rfl
theorem q297 : Cond.methodLink RX3 79 yX3_lastWithMark ∈ wsL_law := wsL_ot (List.mem_of_getElem? (i := 276) (by decide +kernel)) rfl
theorem q298 : Cond.instanceMethod yX3_lastWithMark ∈ wsL_law := wsL_ot (List.mem_of_getElem? (i := 278) (by decide +kernel)) rfl
theorem q299 : Cond.selects RX3 yX3_lastWithMark yX3_lastWithMark ∈ wsL_law := List.mem_append_left _ (List.mem_of_getElem? (i := 7) rfl)
theorem q300 : Cond.methodLink RX3 83 yX1_init ∈ wsL_law := wsL_ot (List.mem_of_getElem? (i := 280) (by decide +kernel)) rfl
theorem q301 : Cond.instanceMethod yX1_init ∈ wsL_law := wsL_ot (List.mem_of_getElem? (i := 281) (by decide +kernel)) rfl
theorem q302 : Cond.methodLink RX3 86 yX3_scanFrom ∈ wsL_law := wsL_ot (List.mem_of_getElem? (i := 366) (by decide +kernel)) rfl
theorem q303 : Cond.instanceMethod yX3_scanFrom ∈ wsL_law := wsL_ot (List.mem_of_getElem? (i := 368) (by decide +kernel)) rfl
theorem q304 : Cond.selects RX3 yX3_scanFrom yX3_scanFrom ∈ wsL_law := List.mem_append_left _ (List.mem_of_getElem? (i := 8) rfl)
theorem q305 : Cond.code yX3_line cX3_line 5 (some .int) ∈ wsL_law := wsL_ot (List.mem_of_getElem? (i := 272) (by decide +kernel)) rfl
theorem q306 : Cond.code yX3_neededLine cX3_neededLine 2 (some (.object "RhymeTax$Line")) ∈ wsL_law := wsL_ot (List.mem_of_getElem? (i := 452) (by decide +kernel)) rfl
theorem q307 : Cond.methodLink RX3 218 yX1_replaceWord ∈ wsL_law := wsL_ot (List.mem_of_getElem? (i := 457) (by decide +kernel)) rfl
theorem q308 : Cond.instanceMethod yX1_replaceWord ∈ wsL_law := wsL_ot (List.mem_of_getElem? (i := 458) (by decide +kernel)) rfl
theorem q309 : Cond.selects RX1 yX1_replaceWord yX1_replaceWord ∈ wsL_law := wsL_ot (List.mem_of_getElem? (i := 459) (by decide +kernel)) rfl
theorem q310 : Cond.code yX3_replaceWord cX3_replaceWord 4 none ∈ wsL_law := wsL_ot (List.mem_of_getElem? (i := 456) (by decide +kernel)) rfl
theorem q311 : Cond.fieldLink RX3 93 "RhymeTax$Line" "row" "Ljava/util/ArrayList;" ∈ wsL_law := wsL_ot (List.mem_of_getElem? (i := 314) (by decide +kernel)) rfl
theorem q312 : Cond.methodLink RX3 90 yX3_neededLine ∈ wsL_law := wsL_ot (List.mem_of_getElem? (i := 449) (by decide +kernel)) rfl
theorem q313 : Cond.instanceMethod yX3_neededLine ∈ wsL_law := wsL_ot (List.mem_of_getElem? (i := 451) (by decide +kernel)) rfl
theorem q314 : Cond.selects RX3 yX3_neededLine yX3_neededLine ∈ wsL_law := List.mem_append_left _ (List.mem_of_getElem? (i := 11) rfl)
theorem q315 : Cond.methodLink RX3 96 yX3_replaceWord ∈ wsL_law := wsL_ot (List.mem_of_getElem? (i := 453) (by decide +kernel)) rfl
theorem q316 : Cond.instanceMethod yX3_replaceWord ∈ wsL_law := wsL_ot (List.mem_of_getElem? (i := 455) (by decide +kernel)) rfl
theorem q317 : Cond.selects RX3 yX3_replaceWord yX3_replaceWord ∈ wsL_law := List.mem_append_left _ (List.mem_of_getElem? (i := 12) rfl)
theorem q318 : Cond.methodLink RX3 102 yX1_addWord ∈ wsL_law := wsL_ot (List.mem_of_getElem? (i := 475) (by decide +kernel)) rfl
theorem q319 : Cond.instanceMethod yX1_addWord ∈ wsL_law := wsL_ot (List.mem_of_getElem? (i := 476) (by decide +kernel)) rfl
theorem q320 : Cond.selects RX1 yX1_addWord yX1_addWord ∈ wsL_law := wsL_ot (List.mem_of_getElem? (i := 477) (by decide +kernel)) rfl
theorem q321 : Cond.code yX3_write cX3_write 7 (some .int) ∈ wsL_law := wsL_ot (List.mem_of_getElem? (i := 448) (by decide +kernel)) rfl
theorem q322 : Cond.methodLink RX3 112 yX1_dropLast ∈ wsL_law := wsL_ot (List.mem_of_getElem? (i := 485) (by decide +kernel)) rfl
theorem q323 : Cond.instanceMethod yX1_dropLast ∈ wsL_law := wsL_ot (List.mem_of_getElem? (i := 486) (by decide +kernel)) rfl
theorem q324 : Cond.selects RX1 yX1_dropLast yX1_dropLast ∈ wsL_law := wsL_ot (List.mem_of_getElem? (i := 487) (by decide +kernel)) rfl
theorem q325 : Cond.code yX3_strike cX3_strike 4 (some .int) ∈ wsL_law := wsL_ot (List.mem_of_getElem? (i := 483) (by decide +kernel)) rfl
